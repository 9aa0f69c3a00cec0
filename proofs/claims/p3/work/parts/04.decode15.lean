theorem dX10_advance_133 : decode cX10_advance 133 = .ok (.invokestatic 101, 3) := by decide +kernel
theorem dX10_advance_136 : decode cX10_advance 136 = .ok (.ifCond .eq 79, 3) := by decide +kernel
theorem dX10_advance_139 : decode cX10_advance 139 = .ok (.aload_n 0, 1) := by decide +kernel
theorem dX10_advance_140 : decode cX10_advance 140 = .ok (.iconst 0, 1) := by decide +kernel
theorem dX10_advance_141 : decode cX10_advance 141 = .ok (.putfield 136, 3) := by decide +kernel
theorem dX10_advance_144 : decode cX10_advance 144 = .ok (.aload_n 0, 1) := by decide +kernel
theorem dX10_advance_145 : decode cX10_advance 145 = .ok (.aload_n 0, 1) := by decide +kernel
theorem dX10_advance_146 : decode cX10_advance 146 = .ok (.getfield 115, 3) := by decide +kernel
theorem dX10_advance_149 : decode cX10_advance 149 = .ok (.invokevirtual 118, 3) := by decide +kernel
theorem dX10_advance_152 : decode cX10_advance 152 = .ok (.i2l, 1) := by decide +kernel
theorem dX10_advance_153 : decode cX10_advance 153 = .ok (.ldc2_w 132, 3) := by decide +kernel
theorem dX10_advance_156 : decode cX10_advance 156 = .ok (.ldc2_w 134, 3) := by decide +kernel
theorem dX10_advance_159 : decode cX10_advance 159 = .ok (.invokestatic 101, 3) := by decide +kernel
theorem dX10_advance_162 : decode cX10_advance 162 = .ok (.ifCond .eq 45, 3) := by decide +kernel
theorem dX10_advance_165 : decode cX10_advance 165 = .ok (.aload_n 0, 1) := by decide +kernel
theorem dX10_advance_166 : decode cX10_advance 166 = .ok (.sipush 9999, 3) := by decide +kernel
theorem dX10_advance_169 : decode cX10_advance 169 = .ok (.bipush 10, 2) := by decide +kernel
theorem dX10_advance_171 : decode cX10_advance 171 = .ok (.aload_n 0, 1) := by decide +kernel
theorem dX10_advance_172 : decode cX10_advance 172 = .ok (.getfield 136, 3) := by decide +kernel
theorem dX10_advance_175 : decode cX10_advance 175 = .ok (.imul, 1) := by decide +kernel
theorem dX10_advance_176 : decode cX10_advance 176 = .ok (.aload_n 0, 1) := by decide +kernel
theorem dX10_advance_177 : decode cX10_advance 177 = .ok (.aload_n 0, 1) := by decide +kernel
theorem dX10_advance_178 : decode cX10_advance 178 = .ok (.getfield 115, 3) := by decide +kernel
theorem dX10_advance_181 : decode cX10_advance 181 = .ok (.invokevirtual 118, 3) := by decide +kernel
theorem dX10_advance_184 : decode cX10_advance 184 = .ok (.iadd, 1) := by decide +kernel
theorem dX10_advance_185 : decode cX10_advance 185 = .ok (.bipush 48, 2) := by decide +kernel
theorem dX10_advance_187 : decode cX10_advance 187 = .ok (.isub, 1) := by decide +kernel
theorem dX10_advance_188 : decode cX10_advance 188 = .ok (.invokestatic 139, 3) := by decide +kernel
theorem dX10_advance_191 : decode cX10_advance 191 = .ok (.putfield 136, 3) := by decide +kernel
theorem dX10_advance_194 : decode cX10_advance 194 = .ok (.aload_n 0, 1) := by decide +kernel
theorem dX10_advance_195 : decode cX10_advance 195 = .ok (.dup, 1) := by decide +kernel
theorem dX10_advance_196 : decode cX10_advance 196 = .ok (.getfield 115, 3) := by decide +kernel
theorem dX10_advance_199 : decode cX10_advance 199 = .ok (.iconst 1, 1) := by decide +kernel
theorem dX10_advance_200 : decode cX10_advance 200 = .ok (.iadd, 1) := by decide +kernel
theorem dX10_advance_201 : decode cX10_advance 201 = .ok (.putfield 115, 3) := by decide +kernel
theorem dX10_advance_204 : decode cX10_advance 204 = .ok (.goto (-60), 3) := by decide +kernel
theorem dX10_advance_207 : decode cX10_advance 207 = .ok (.aload_n 0, 1) := by decide +kernel
theorem dX10_advance_208 : decode cX10_advance 208 = .ok (.iconst 2, 1) := by decide +kernel
theorem dX10_advance_209 : decode cX10_advance 209 = .ok (.putfield 125, 3) := by decide +kernel
theorem dX10_advance_212 : decode cX10_advance 212 = .ok (.goto 28, 3) := by decide +kernel
theorem dX10_advance_215 : decode cX10_advance 215 = .ok (.aload_n 0, 1) := by decide +kernel
theorem dX10_advance_216 : decode cX10_advance 216 = .ok (.iload_n 1, 1) := by decide +kernel
theorem dX10_advance_217 : decode cX10_advance 217 = .ok (.bipush 59, 2) := by decide +kernel
theorem dX10_advance_219 : decode cX10_advance 219 = .ok (.if_icmp .ne 7, 3) := by decide +kernel
theorem dX10_advance_222 : decode cX10_advance 222 = .ok (.iconst 3, 1) := by decide +kernel
theorem dX10_advance_223 : decode cX10_advance 223 = .ok (.goto 4, 3) := by decide +kernel
theorem dX10_advance_226 : decode cX10_advance 226 = .ok (.iconst 4, 1) := by decide +kernel
theorem dX10_advance_227 : decode cX10_advance 227 = .ok (.putfield 125, 3) := by decide +kernel
theorem dX10_advance_230 : decode cX10_advance 230 = .ok (.aload_n 0, 1) := by decide +kernel
theorem dX10_advance_231 : decode cX10_advance 231 = .ok (.dup, 1) := by decide +kernel
theorem dX10_advance_232 : decode cX10_advance 232 = .ok (.getfield 115, 3) := by decide +kernel
theorem dX10_advance_235 : decode cX10_advance 235 = .ok (.iconst 1, 1) := by decide +kernel
theorem dX10_advance_236 : decode cX10_advance 236 = .ok (.iadd, 1) := by decide +kernel
theorem dX10_advance_237 : decode cX10_advance 237 = .ok (.putfield 115, 3) := by decide +kernel
theorem dX10_advance_240 : decode cX10_advance 240 = .ok (.return_, 1) := by decide +kernel
theorem dX10_good_0 : decode cX10_good 0 = .ok (.aload_n 0, 1) := by decide +kernel
theorem dX10_good_1 : decode cX10_good 1 = .ok (.getfield 145, 3) := by decide +kernel
theorem dX10_good_4 : decode cX10_good 4 = .ok (.ifCond .ne 7, 3) := by decide +kernel
theorem dX10_good_7 : decode cX10_good 7 = .ok (.iconst 1, 1) := by decide +kernel
theorem dX10_good_8 : decode cX10_good 8 = .ok (.goto 4, 3) := by decide +kernel
theorem dX10_good_11 : decode cX10_good 11 = .ok (.iconst 0, 1) := by decide +kernel
theorem dX10_good_12 : decode cX10_good 12 = .ok (.ireturn, 1) := by decide +kernel
theorem dX10_errs_0 : decode cX10_errs 0 = .ok (.aload_n 0, 1) := by decide +kernel
theorem dX10_errs_1 : decode cX10_errs 1 = .ok (.invokevirtual 148, 3) := by decide +kernel
theorem dX10_errs_4 : decode cX10_errs 4 = .ok (.ifCond .ne 4, 3) := by decide +kernel
theorem dX10_errs_7 : decode cX10_errs 7 = .ok (.return_, 1) := by decide +kernel
theorem dX10_errs_8 : decode cX10_errs 8 = .ok (.aload_n 0, 1) := by decide +kernel
theorem dX10_errs_9 : decode cX10_errs 9 = .ok (.iload_n 1, 1) := by decide +kernel
theorem dX10_errs_10 : decode cX10_errs 10 = .ok (.putfield 145, 3) := by decide +kernel
theorem dX10_errs_13 : decode cX10_errs 13 = .ok (.aload_n 0, 1) := by decide +kernel
theorem dX10_errs_14 : decode cX10_errs 14 = .ok (.aload_n 0, 1) := by decide +kernel
theorem dX10_errs_15 : decode cX10_errs 15 = .ok (.getfield 122, 3) := by decide +kernel
theorem dX10_errs_18 : decode cX10_errs 18 = .ok (.putfield 31, 3) := by decide +kernel
theorem dX10_errs_21 : decode cX10_errs 21 = .ok (.return_, 1) := by decide +kernel
theorem dX10_is_0 : decode cX10_is 0 = .ok (.aload_n 0, 1) := by decide +kernel
theorem dX10_is_1 : decode cX10_is 1 = .ok (.invokevirtual 148, 3) := by decide +kernel
theorem dX10_is_4 : decode cX10_is 4 = .ok (.ifCond .eq 31, 3) := by decide +kernel
theorem dX10_is_7 : decode cX10_is 7 = .ok (.aload_n 0, 1) := by decide +kernel
theorem dX10_is_8 : decode cX10_is 8 = .ok (.getfield 125, 3) := by decide +kernel
theorem dX10_is_11 : decode cX10_is 11 = .ok (.iconst 1, 1) := by decide +kernel
theorem dX10_is_12 : decode cX10_is 12 = .ok (.if_icmp .ne 23, 3) := by decide +kernel
theorem dX10_is_15 : decode cX10_is 15 = .ok (.aload_n 0, 1) := by decide +kernel
theorem dX10_is_16 : decode cX10_is 16 = .ok (.getfield 115, 3) := by decide +kernel
theorem dX10_is_19 : decode cX10_is 19 = .ok (.aload_n 0, 1) := by decide +kernel
theorem dX10_is_20 : decode cX10_is 20 = .ok (.getfield 122, 3) := by decide +kernel
theorem dX10_is_23 : decode cX10_is 23 = .ok (.isub, 1) := by decide +kernel
theorem dX10_is_24 : decode cX10_is 24 = .ok (.aload_n 1, 1) := by decide +kernel
theorem dX10_is_25 : decode cX10_is 25 = .ok (.invokevirtual 152, 3) := by decide +kernel
theorem dX10_is_28 : decode cX10_is 28 = .ok (.if_icmp .ne 7, 3) := by decide +kernel
theorem dX10_is_31 : decode cX10_is 31 = .ok (.iconst 1, 1) := by decide +kernel
theorem dX10_is_32 : decode cX10_is 32 = .ok (.goto 4, 3) := by decide +kernel
theorem dX10_is_35 : decode cX10_is 35 = .ok (.iconst 0, 1) := by decide +kernel
theorem dX10_is_36 : decode cX10_is 36 = .ok (.istore_n 2, 1) := by decide +kernel
theorem dX10_is_37 : decode cX10_is 37 = .ok (.iconst 0, 1) := by decide +kernel
theorem dX10_is_38 : decode cX10_is 38 = .ok (.istore_n 3, 1) := by decide +kernel
theorem dX10_is_39 : decode cX10_is 39 = .ok (.iload_n 3, 1) := by decide +kernel
theorem dX10_is_40 : decode cX10_is 40 = .ok (.aload_n 1, 1) := by decide +kernel
theorem dX10_is_41 : decode cX10_is 41 = .ok (.invokevirtual 152, 3) := by decide +kernel
theorem dX10_is_44 : decode cX10_is 44 = .ok (.if_icmp .ge 38, 3) := by decide +kernel
theorem dX10_is_47 : decode cX10_is 47 = .ok (.iload_n 2, 1) := by decide +kernel
theorem dX10_is_48 : decode cX10_is 48 = .ok (.ifCond .eq 34, 3) := by decide +kernel
theorem dX10_is_51 : decode cX10_is 51 = .ok (.aload_n 0, 1) := by decide +kernel
theorem dX10_is_52 : decode cX10_is 52 = .ok (.getfield 24, 3) := by decide +kernel
theorem dX10_is_55 : decode cX10_is 55 = .ok (.aload_n 0, 1) := by decide +kernel
theorem dX10_is_56 : decode cX10_is 56 = .ok (.getfield 122, 3) := by decide +kernel
theorem dX10_is_59 : decode cX10_is 59 = .ok (.iload_n 3, 1) := by decide +kernel
theorem dX10_is_60 : decode cX10_is 60 = .ok (.iadd, 1) := by decide +kernel
theorem dX10_is_61 : decode cX10_is 61 = .ok (.baload, 1) := by decide +kernel
theorem dX10_is_62 : decode cX10_is 62 = .ok (.aload_n 1, 1) := by decide +kernel
theorem dX10_is_63 : decode cX10_is 63 = .ok (.iload_n 3, 1) := by decide +kernel
theorem dX10_is_64 : decode cX10_is 64 = .ok (.invokevirtual 158, 3) := by decide +kernel
theorem dX10_is_67 : decode cX10_is 67 = .ok (.if_icmp .ne 7, 3) := by decide +kernel
theorem dX10_is_70 : decode cX10_is 70 = .ok (.iconst 1, 1) := by decide +kernel
theorem dX10_is_71 : decode cX10_is 71 = .ok (.goto 4, 3) := by decide +kernel
theorem dX10_is_74 : decode cX10_is 74 = .ok (.iconst 0, 1) := by decide +kernel
theorem dX10_is_75 : decode cX10_is 75 = .ok (.istore_n 2, 1) := by decide +kernel
theorem dX10_is_76 : decode cX10_is 76 = .ok (.iinc 3 1, 3) := by decide +kernel
theorem dX10_is_79 : decode cX10_is 79 = .ok (.goto (-40), 3) := by decide +kernel
theorem dX10_is_82 : decode cX10_is 82 = .ok (.iload_n 2, 1) := by decide +kernel
theorem dX10_is_83 : decode cX10_is 83 = .ok (.ireturn, 1) := by decide +kernel
theorem dX10_takes_0 : decode cX10_takes 0 = .ok (.aload_n 0, 1) := by decide +kernel
theorem dX10_takes_1 : decode cX10_takes 1 = .ok (.aload_n 1, 1) := by decide +kernel
theorem dX10_takes_2 : decode cX10_takes 2 = .ok (.invokevirtual 162, 3) := by decide +kernel
theorem dX10_takes_5 : decode cX10_takes 5 = .ok (.istore_n 2, 1) := by decide +kernel
theorem dX10_takes_6 : decode cX10_takes 6 = .ok (.iload_n 2, 1) := by decide +kernel
theorem dX10_takes_7 : decode cX10_takes 7 = .ok (.ifCond .eq 7, 3) := by decide +kernel
theorem dX10_takes_10 : decode cX10_takes 10 = .ok (.aload_n 0, 1) := by decide +kernel
theorem dX10_takes_11 : decode cX10_takes 11 = .ok (.invokevirtual 166, 3) := by decide +kernel
theorem dX10_takes_14 : decode cX10_takes 14 = .ok (.iload_n 2, 1) := by decide +kernel
theorem dX10_takes_15 : decode cX10_takes 15 = .ok (.ireturn, 1) := by decide +kernel
theorem dX10_needs_0 : decode cX10_needs 0 = .ok (.aload_n 0, 1) := by decide +kernel
theorem dX10_needs_1 : decode cX10_needs 1 = .ok (.aload_n 1, 1) := by decide +kernel
theorem dX10_needs_2 : decode cX10_needs 2 = .ok (.invokevirtual 169, 3) := by decide +kernel
theorem dX10_needs_5 : decode cX10_needs 5 = .ok (.ifCond .ne 8, 3) := by decide +kernel
theorem dX10_needs_8 : decode cX10_needs 8 = .ok (.aload_n 0, 1) := by decide +kernel
theorem dX10_needs_9 : decode cX10_needs 9 = .ok (.iconst 1, 1) := by decide +kernel
theorem dX10_needs_10 : decode cX10_needs 10 = .ok (.invokevirtual 172, 3) := by decide +kernel
theorem dX10_needs_13 : decode cX10_needs 13 = .ok (.return_, 1) := by decide +kernel
theorem dX10_number_0 : decode cX10_number 0 = .ok (.aload_n 0, 1) := by decide +kernel
theorem dX10_number_1 : decode cX10_number 1 = .ok (.invokevirtual 148, 3) := by decide +kernel
theorem dX10_number_4 : decode cX10_number 4 = .ok (.ifCond .eq 16, 3) := by decide +kernel
theorem dX10_number_7 : decode cX10_number 7 = .ok (.aload_n 0, 1) := by decide +kernel
theorem dX10_number_8 : decode cX10_number 8 = .ok (.getfield 125, 3) := by decide +kernel
theorem dX10_number_11 : decode cX10_number 11 = .ok (.iconst 2, 1) := by decide +kernel
theorem dX10_number_12 : decode cX10_number 12 = .ok (.if_icmp .eq 8, 3) := by decide +kernel
theorem dX10_number_15 : decode cX10_number 15 = .ok (.aload_n 0, 1) := by decide +kernel
theorem dX10_number_16 : decode cX10_number 16 = .ok (.iconst 1, 1) := by decide +kernel
theorem dX10_number_17 : decode cX10_number 17 = .ok (.invokevirtual 172, 3) := by decide +kernel
theorem dX10_number_20 : decode cX10_number 20 = .ok (.aload_n 0, 1) := by decide +kernel
theorem dX10_number_21 : decode cX10_number 21 = .ok (.invokevirtual 148, 3) := by decide +kernel
theorem dX10_number_24 : decode cX10_number 24 = .ok (.ifCond .eq 23, 3) := by decide +kernel
theorem dX10_number_27 : decode cX10_number 27 = .ok (.aload_n 0, 1) := by decide +kernel
theorem dX10_number_28 : decode cX10_number 28 = .ok (.getfield 136, 3) := by decide +kernel
theorem dX10_number_31 : decode cX10_number 31 = .ok (.i2l, 1) := by decide +kernel
theorem dX10_number_32 : decode cX10_number 32 = .ok (.iload_n 1, 1) := by decide +kernel
theorem dX10_number_33 : decode cX10_number 33 = .ok (.i2l, 1) := by decide +kernel
theorem dX10_number_34 : decode cX10_number 34 = .ok (.iload_n 2, 1) := by decide +kernel
theorem dX10_number_35 : decode cX10_number 35 = .ok (.i2l, 1) := by decide +kernel
theorem dX10_number_36 : decode cX10_number 36 = .ok (.invokestatic 101, 3) := by decide +kernel
theorem dX10_number_39 : decode cX10_number 39 = .ok (.ifCond .ne 8, 3) := by decide +kernel
theorem dX10_number_42 : decode cX10_number 42 = .ok (.aload_n 0, 1) := by decide +kernel
theorem dX10_number_43 : decode cX10_number 43 = .ok (.iconst 2, 1) := by decide +kernel
theorem dX10_number_44 : decode cX10_number 44 = .ok (.invokevirtual 172, 3) := by decide +kernel
theorem dX10_number_47 : decode cX10_number 47 = .ok (.aload_n 0, 1) := by decide +kernel
theorem dX10_number_48 : decode cX10_number 48 = .ok (.invokevirtual 148, 3) := by decide +kernel
theorem dX10_number_51 : decode cX10_number 51 = .ok (.ifCond .ne 5, 3) := by decide +kernel
theorem dX10_number_54 : decode cX10_number 54 = .ok (.iconst 0, 1) := by decide +kernel
theorem dX10_number_55 : decode cX10_number 55 = .ok (.ireturn, 1) := by decide +kernel
theorem dX10_number_56 : decode cX10_number 56 = .ok (.aload_n 0, 1) := by decide +kernel
theorem dX10_number_57 : decode cX10_number 57 = .ok (.getfield 136, 3) := by decide +kernel
theorem dX10_number_60 : decode cX10_number 60 = .ok (.istore_n 3, 1) := by decide +kernel
theorem dX10_number_61 : decode cX10_number 61 = .ok (.aload_n 0, 1) := by decide +kernel
theorem dX10_number_62 : decode cX10_number 62 = .ok (.invokevirtual 166, 3) := by decide +kernel
theorem dX10_number_65 : decode cX10_number 65 = .ok (.iload_n 3, 1) := by decide +kernel
theorem dX10_number_66 : decode cX10_number 66 = .ok (.ireturn, 1) := by decide +kernel
theorem dX10_told_0 : decode cX10_told 0 = .ok (.aload_n 0, 1) := by decide +kernel
theorem dX10_told_1 : decode cX10_told 1 = .ok (.aload_n 1, 1) := by decide +kernel
theorem dX10_told_2 : decode cX10_told 2 = .ok (.invokevirtual 176, 3) := by decide +kernel
theorem dX10_told_5 : decode cX10_told 5 = .ok (.aload_n 0, 1) := by decide +kernel
theorem dX10_told_6 : decode cX10_told 6 = .ok (.iload_n 2, 1) := by decide +kernel
theorem dX10_told_7 : decode cX10_told 7 = .ok (.iload_n 3, 1) := by decide +kernel
theorem dX10_told_8 : decode cX10_told 8 = .ok (.invokevirtual 180, 3) := by decide +kernel
theorem dX10_told_11 : decode cX10_told 11 = .ok (.ireturn, 1) := by decide +kernel
theorem dX10_fault_0 : decode cX10_fault 0 = .ok (.iload_n 1, 1) := by decide +kernel
theorem dX10_fault_1 : decode cX10_fault 1 = .ok (.ifCond .ne 10, 3) := by decide +kernel
theorem dX10_fault_4 : decode cX10_fault 4 = .ok (.aload_n 0, 1) := by decide +kernel
theorem dX10_fault_5 : decode cX10_fault 5 = .ok (.getfield 145, 3) := by decide +kernel
theorem dX10_fault_8 : decode cX10_fault 8 = .ok (.goto 16, 3) := by decide +kernel
theorem dX10_fault_11 : decode cX10_fault 11 = .ok (.iload_n 1, 1) := by decide +kernel
theorem dX10_fault_12 : decode cX10_fault 12 = .ok (.iconst 1, 1) := by decide +kernel
theorem dX10_fault_13 : decode cX10_fault 13 = .ok (.if_icmp .ne 10, 3) := by decide +kernel
theorem dX10_fault_16 : decode cX10_fault 16 = .ok (.aload_n 0, 1) := by decide +kernel
theorem dX10_fault_17 : decode cX10_fault 17 = .ok (.getfield 31, 3) := by decide +kernel
theorem dX10_fault_20 : decode cX10_fault 20 = .ok (.goto 4, 3) := by decide +kernel
theorem dX10_fault_23 : decode cX10_fault 23 = .ok (.iconst (-1), 1) := by decide +kernel
theorem dX10_fault_24 : decode cX10_fault 24 = .ok (.ireturn, 1) := by decide +kernel
theorem dX10_dayHere_0 : decode cX10_dayHere 0 = .ok (.aload_n 0, 1) := by decide +kernel
theorem dX10_dayHere_1 : decode cX10_dayHere 1 = .ok (.ldc 183, 2) := by decide +kernel
theorem dX10_dayHere_3 : decode cX10_dayHere 3 = .ok (.invokevirtual 162, 3) := by decide +kernel
theorem dX10_dayHere_6 : decode cX10_dayHere 6 = .ok (.ifCond .eq 7, 3) := by decide +kernel
theorem dX10_dayHere_9 : decode cX10_dayHere 9 = .ok (.iconst 0, 1) := by decide +kernel
theorem dX10_dayHere_10 : decode cX10_dayHere 10 = .ok (.goto 83, 3) := by decide +kernel
theorem dX10_dayHere_13 : decode cX10_dayHere 13 = .ok (.aload_n 0, 1) := by decide +kernel
theorem dX10_dayHere_14 : decode cX10_dayHere 14 = .ok (.ldc 185, 2) := by decide +kernel
theorem dX10_dayHere_16 : decode cX10_dayHere 16 = .ok (.invokevirtual 162, 3) := by decide +kernel
theorem dX10_dayHere_19 : decode cX10_dayHere 19 = .ok (.ifCond .eq 7, 3) := by decide +kernel
theorem dX10_dayHere_22 : decode cX10_dayHere 22 = .ok (.iconst 1, 1) := by decide +kernel
theorem dX10_dayHere_23 : decode cX10_dayHere 23 = .ok (.goto 70, 3) := by decide +kernel
theorem dX10_dayHere_26 : decode cX10_dayHere 26 = .ok (.aload_n 0, 1) := by decide +kernel
theorem dX10_dayHere_27 : decode cX10_dayHere 27 = .ok (.ldc 187, 2) := by decide +kernel
theorem dX10_dayHere_29 : decode cX10_dayHere 29 = .ok (.invokevirtual 162, 3) := by decide +kernel
theorem dX10_dayHere_32 : decode cX10_dayHere 32 = .ok (.ifCond .eq 7, 3) := by decide +kernel
theorem dX10_dayHere_35 : decode cX10_dayHere 35 = .ok (.iconst 2, 1) := by decide +kernel
theorem dX10_dayHere_36 : decode cX10_dayHere 36 = .ok (.goto 57, 3) := by decide +kernel
theorem dX10_dayHere_39 : decode cX10_dayHere 39 = .ok (.aload_n 0, 1) := by decide +kernel
theorem dX10_dayHere_40 : decode cX10_dayHere 40 = .ok (.ldc 189, 2) := by decide +kernel
theorem dX10_dayHere_42 : decode cX10_dayHere 42 = .ok (.invokevirtual 162, 3) := by decide +kernel
theorem dX10_dayHere_45 : decode cX10_dayHere 45 = .ok (.ifCond .eq 7, 3) := by decide +kernel
theorem dX10_dayHere_48 : decode cX10_dayHere 48 = .ok (.iconst 3, 1) := by decide +kernel
theorem dX10_dayHere_49 : decode cX10_dayHere 49 = .ok (.goto 44, 3) := by decide +kernel
theorem dX10_dayHere_52 : decode cX10_dayHere 52 = .ok (.aload_n 0, 1) := by decide +kernel
theorem dX10_dayHere_53 : decode cX10_dayHere 53 = .ok (.ldc 191, 2) := by decide +kernel
theorem dX10_dayHere_55 : decode cX10_dayHere 55 = .ok (.invokevirtual 162, 3) := by decide +kernel
theorem dX10_dayHere_58 : decode cX10_dayHere 58 = .ok (.ifCond .eq 7, 3) := by decide +kernel
theorem dX10_dayHere_61 : decode cX10_dayHere 61 = .ok (.iconst 4, 1) := by decide +kernel
theorem dX10_dayHere_62 : decode cX10_dayHere 62 = .ok (.goto 31, 3) := by decide +kernel
theorem dX10_dayHere_65 : decode cX10_dayHere 65 = .ok (.aload_n 0, 1) := by decide +kernel
theorem dX10_dayHere_66 : decode cX10_dayHere 66 = .ok (.ldc 193, 2) := by decide +kernel
theorem dX10_dayHere_68 : decode cX10_dayHere 68 = .ok (.invokevirtual 162, 3) := by decide +kernel
theorem dX10_dayHere_71 : decode cX10_dayHere 71 = .ok (.ifCond .eq 7, 3) := by decide +kernel
theorem dX10_dayHere_74 : decode cX10_dayHere 74 = .ok (.iconst 5, 1) := by decide +kernel
theorem dX10_dayHere_75 : decode cX10_dayHere 75 = .ok (.goto 18, 3) := by decide +kernel
theorem dX10_dayHere_78 : decode cX10_dayHere 78 = .ok (.aload_n 0, 1) := by decide +kernel
theorem dX10_dayHere_79 : decode cX10_dayHere 79 = .ok (.ldc 195, 2) := by decide +kernel
theorem dX10_dayHere_81 : decode cX10_dayHere 81 = .ok (.invokevirtual 162, 3) := by decide +kernel
theorem dX10_dayHere_84 : decode cX10_dayHere 84 = .ok (.ifCond .eq 8, 3) := by decide +kernel
theorem dX10_dayHere_87 : decode cX10_dayHere 87 = .ok (.bipush 6, 2) := by decide +kernel
theorem dX10_dayHere_89 : decode cX10_dayHere 89 = .ok (.goto 4, 3) := by decide +kernel
theorem dX10_dayHere_92 : decode cX10_dayHere 92 = .ok (.iconst (-1), 1) := by decide +kernel
theorem dX10_dayHere_93 : decode cX10_dayHere 93 = .ok (.ireturn, 1) := by decide +kernel
theorem dX10_payingHere_0 : decode cX10_payingHere 0 = .ok (.aload_n 0, 1) := by decide +kernel
theorem dX10_payingHere_1 : decode cX10_payingHere 1 = .ok (.ldc 197, 2) := by decide +kernel
theorem dX10_payingHere_3 : decode cX10_payingHere 3 = .ok (.invokevirtual 162, 3) := by decide +kernel
theorem dX10_payingHere_6 : decode cX10_payingHere 6 = .ok (.ifCond .eq 7, 3) := by decide +kernel
theorem dX10_payingHere_9 : decode cX10_payingHere 9 = .ok (.iconst 0, 1) := by decide +kernel
theorem dX10_payingHere_10 : decode cX10_payingHere 10 = .ok (.goto 43, 3) := by decide +kernel
theorem dX10_payingHere_13 : decode cX10_payingHere 13 = .ok (.aload_n 0, 1) := by decide +kernel
theorem dX10_payingHere_14 : decode cX10_payingHere 14 = .ok (.ldc 199, 2) := by decide +kernel
theorem dX10_payingHere_16 : decode cX10_payingHere 16 = .ok (.invokevirtual 162, 3) := by decide +kernel
theorem dX10_payingHere_19 : decode cX10_payingHere 19 = .ok (.ifCond .eq 7, 3) := by decide +kernel
theorem dX10_payingHere_22 : decode cX10_payingHere 22 = .ok (.iconst 1, 1) := by decide +kernel
theorem dX10_payingHere_23 : decode cX10_payingHere 23 = .ok (.goto 30, 3) := by decide +kernel
theorem dX10_payingHere_26 : decode cX10_payingHere 26 = .ok (.aload_n 0, 1) := by decide +kernel
theorem dX10_payingHere_27 : decode cX10_payingHere 27 = .ok (.ldc 201, 2) := by decide +kernel
theorem dX10_payingHere_29 : decode cX10_payingHere 29 = .ok (.invokevirtual 162, 3) := by decide +kernel
theorem dX10_payingHere_32 : decode cX10_payingHere 32 = .ok (.ifCond .eq 7, 3) := by decide +kernel
theorem dX10_payingHere_35 : decode cX10_payingHere 35 = .ok (.iconst 2, 1) := by decide +kernel
theorem dX10_payingHere_36 : decode cX10_payingHere 36 = .ok (.goto 17, 3) := by decide +kernel
theorem dX10_payingHere_39 : decode cX10_payingHere 39 = .ok (.aload_n 0, 1) := by decide +kernel
theorem dX10_payingHere_40 : decode cX10_payingHere 40 = .ok (.ldc 203, 2) := by decide +kernel
theorem dX10_payingHere_42 : decode cX10_payingHere 42 = .ok (.invokevirtual 162, 3) := by decide +kernel
theorem dX10_payingHere_45 : decode cX10_payingHere 45 = .ok (.ifCond .eq 7, 3) := by decide +kernel
theorem dX10_payingHere_48 : decode cX10_payingHere 48 = .ok (.iconst 3, 1) := by decide +kernel
theorem dX10_payingHere_49 : decode cX10_payingHere 49 = .ok (.goto 4, 3) := by decide +kernel
theorem dX10_payingHere_52 : decode cX10_payingHere 52 = .ok (.iconst (-1), 1) := by decide +kernel
theorem dX10_payingHere_53 : decode cX10_payingHere 53 = .ok (.ireturn, 1) := by decide +kernel
theorem dX10_taken_0 : decode cX10_taken 0 = .ok (.iload_n 1, 1) := by decide +kernel
theorem dX10_taken_1 : decode cX10_taken 1 = .ok (.iconst (-1), 1) := by decide +kernel
theorem dX10_taken_2 : decode cX10_taken 2 = .ok (.if_icmp .ne 8, 3) := by decide +kernel
theorem dX10_taken_5 : decode cX10_taken 5 = .ok (.aload_n 0, 1) := by decide +kernel
theorem dX10_taken_6 : decode cX10_taken 6 = .ok (.iconst 1, 1) := by decide +kernel
theorem dX10_taken_7 : decode cX10_taken 7 = .ok (.invokevirtual 172, 3) := by decide +kernel
theorem dX10_taken_10 : decode cX10_taken 10 = .ok (.aload_n 0, 1) := by decide +kernel
theorem dX10_taken_11 : decode cX10_taken 11 = .ok (.invokevirtual 148, 3) := by decide +kernel
theorem dX10_taken_14 : decode cX10_taken 14 = .ok (.ifCond .eq 7, 3) := by decide +kernel
theorem dX10_taken_17 : decode cX10_taken 17 = .ok (.aload_n 0, 1) := by decide +kernel
theorem dX10_taken_18 : decode cX10_taken 18 = .ok (.invokevirtual 166, 3) := by decide +kernel
theorem dX10_taken_21 : decode cX10_taken 21 = .ok (.iload_n 1, 1) := by decide +kernel
theorem dX10_taken_22 : decode cX10_taken 22 = .ok (.ireturn, 1) := by decide +kernel
theorem dX10_readHouse_0 : decode cX10_readHouse 0 = .ok (.bipush 10, 2) := by decide +kernel
theorem dX10_readHouse_2 : decode cX10_readHouse 2 = .ok (.bipush 9, 2) := by decide +kernel
theorem dX10_readHouse_4 : decode cX10_readHouse 4 = .ok (.aload_n 0, 1) := by decide +kernel
theorem dX10_readHouse_5 : decode cX10_readHouse 5 = .ok (.getfield 34, 3) := by decide +kernel
theorem dX10_readHouse_8 : decode cX10_readHouse 8 = .ok (.iconst 0, 1) := by decide +kernel
theorem dX10_readHouse_9 : decode cX10_readHouse 9 = .ok (.iaload, 1) := by decide +kernel
theorem dX10_readHouse_10 : decode cX10_readHouse 10 = .ok (.imul, 1) := by decide +kernel
theorem dX10_readHouse_11 : decode cX10_readHouse 11 = .ok (.iadd, 1) := by decide +kernel
theorem dX10_readHouse_12 : decode cX10_readHouse 12 = .ok (.istore_n 1, 1) := by decide +kernel
theorem dX10_readHouse_13 : decode cX10_readHouse 13 = .ok (.aload_n 0, 1) := by decide +kernel
theorem dX10_readHouse_14 : decode cX10_readHouse 14 = .ok (.getfield 34, 3) := by decide +kernel
theorem dX10_readHouse_17 : decode cX10_readHouse 17 = .ok (.iload_n 1, 1) := by decide +kernel
theorem dX10_readHouse_18 : decode cX10_readHouse 18 = .ok (.iconst 0, 1) := by decide +kernel
theorem dX10_readHouse_19 : decode cX10_readHouse 19 = .ok (.iadd, 1) := by decide +kernel
theorem dX10_readHouse_20 : decode cX10_readHouse 20 = .ok (.aload_n 0, 1) := by decide +kernel
theorem dX10_readHouse_21 : decode cX10_readHouse 21 = .ok (.ldc 205, 2) := by decide +kernel
theorem dX10_readHouse_23 : decode cX10_readHouse 23 = .ok (.iconst 0, 1) := by decide +kernel
theorem dX10_readHouse_24 : decode cX10_readHouse 24 = .ok (.bipush 99, 2) := by decide +kernel
theorem dX10_readHouse_26 : decode cX10_readHouse 26 = .ok (.invokevirtual 206, 3) := by decide +kernel
theorem dX10_readHouse_29 : decode cX10_readHouse 29 = .ok (.iastore, 1) := by decide +kernel
theorem dX10_readHouse_30 : decode cX10_readHouse 30 = .ok (.aload_n 0, 1) := by decide +kernel
theorem dX10_readHouse_31 : decode cX10_readHouse 31 = .ok (.getfield 34, 3) := by decide +kernel
theorem dX10_readHouse_34 : decode cX10_readHouse 34 = .ok (.iload_n 1, 1) := by decide +kernel
theorem dX10_readHouse_35 : decode cX10_readHouse 35 = .ok (.iconst 1, 1) := by decide +kernel
theorem dX10_readHouse_36 : decode cX10_readHouse 36 = .ok (.iadd, 1) := by decide +kernel
theorem dX10_readHouse_37 : decode cX10_readHouse 37 = .ok (.aload_n 0, 1) := by decide +kernel
theorem dX10_readHouse_38 : decode cX10_readHouse 38 = .ok (.iconst 0, 1) := by decide +kernel
theorem dX10_readHouse_39 : decode cX10_readHouse 39 = .ok (.bipush 99, 2) := by decide +kernel
theorem dX10_readHouse_41 : decode cX10_readHouse 41 = .ok (.invokevirtual 180, 3) := by decide +kernel
theorem dX10_readHouse_44 : decode cX10_readHouse 44 = .ok (.iastore, 1) := by decide +kernel
theorem dX10_readHouse_45 : decode cX10_readHouse 45 = .ok (.aload_n 0, 1) := by decide +kernel
theorem dX10_readHouse_46 : decode cX10_readHouse 46 = .ok (.getfield 34, 3) := by decide +kernel
theorem dX10_readHouse_49 : decode cX10_readHouse 49 = .ok (.iload_n 1, 1) := by decide +kernel
theorem dX10_readHouse_50 : decode cX10_readHouse 50 = .ok (.iconst 2, 1) := by decide +kernel
theorem dX10_readHouse_51 : decode cX10_readHouse 51 = .ok (.iadd, 1) := by decide +kernel
theorem dX10_readHouse_52 : decode cX10_readHouse 52 = .ok (.aload_n 0, 1) := by decide +kernel
theorem dX10_readHouse_53 : decode cX10_readHouse 53 = .ok (.ldc 210, 2) := by decide +kernel
theorem dX10_readHouse_55 : decode cX10_readHouse 55 = .ok (.iconst 0, 1) := by decide +kernel
theorem dX10_readHouse_56 : decode cX10_readHouse 56 = .ok (.bipush 9, 2) := by decide +kernel
theorem dX10_readHouse_58 : decode cX10_readHouse 58 = .ok (.invokevirtual 206, 3) := by decide +kernel
theorem dX10_readHouse_61 : decode cX10_readHouse 61 = .ok (.iastore, 1) := by decide +kernel
theorem dX10_readHouse_62 : decode cX10_readHouse 62 = .ok (.aload_n 0, 1) := by decide +kernel
theorem dX10_readHouse_63 : decode cX10_readHouse 63 = .ok (.ldc 212, 2) := by decide +kernel
theorem dX10_readHouse_65 : decode cX10_readHouse 65 = .ok (.invokevirtual 176, 3) := by decide +kernel
theorem dX10_readHouse_68 : decode cX10_readHouse 68 = .ok (.aload_n 0, 1) := by decide +kernel
theorem dX10_readHouse_69 : decode cX10_readHouse 69 = .ok (.getfield 34, 3) := by decide +kernel
theorem dX10_readHouse_72 : decode cX10_readHouse 72 = .ok (.iload_n 1, 1) := by decide +kernel
theorem dX10_readHouse_73 : decode cX10_readHouse 73 = .ok (.iconst 3, 1) := by decide +kernel
theorem dX10_readHouse_74 : decode cX10_readHouse 74 = .ok (.iadd, 1) := by decide +kernel
theorem dX10_readHouse_75 : decode cX10_readHouse 75 = .ok (.aload_n 0, 1) := by decide +kernel
theorem dX10_readHouse_76 : decode cX10_readHouse 76 = .ok (.aload_n 0, 1) := by decide +kernel
theorem dX10_readHouse_77 : decode cX10_readHouse 77 = .ok (.invokevirtual 214, 3) := by decide +kernel
theorem dX10_readHouse_80 : decode cX10_readHouse 80 = .ok (.invokevirtual 217, 3) := by decide +kernel
theorem dX10_readHouse_83 : decode cX10_readHouse 83 = .ok (.iastore, 1) := by decide +kernel
theorem dX10_readHouse_84 : decode cX10_readHouse 84 = .ok (.aload_n 0, 1) := by decide +kernel
theorem dX10_readHouse_85 : decode cX10_readHouse 85 = .ok (.getfield 34, 3) := by decide +kernel
theorem dX10_readHouse_88 : decode cX10_readHouse 88 = .ok (.iload_n 1, 1) := by decide +kernel
theorem dX10_readHouse_89 : decode cX10_readHouse 89 = .ok (.iconst 4, 1) := by decide +kernel
theorem dX10_readHouse_90 : decode cX10_readHouse 90 = .ok (.iadd, 1) := by decide +kernel
theorem dX10_readHouse_91 : decode cX10_readHouse 91 = .ok (.aload_n 0, 1) := by decide +kernel
theorem dX10_readHouse_92 : decode cX10_readHouse 92 = .ok (.iconst 0, 1) := by decide +kernel
theorem dX10_readHouse_93 : decode cX10_readHouse 93 = .ok (.sipush 180, 3) := by decide +kernel
theorem dX10_readHouse_96 : decode cX10_readHouse 96 = .ok (.invokevirtual 180, 3) := by decide +kernel
theorem dX10_readHouse_99 : decode cX10_readHouse 99 = .ok (.iastore, 1) := by decide +kernel
theorem dX10_readHouse_100 : decode cX10_readHouse 100 = .ok (.aload_n 0, 1) := by decide +kernel
theorem dX10_readHouse_101 : decode cX10_readHouse 101 = .ok (.getfield 34, 3) := by decide +kernel
theorem dX10_readHouse_104 : decode cX10_readHouse 104 = .ok (.iload_n 1, 1) := by decide +kernel
theorem dX10_readHouse_105 : decode cX10_readHouse 105 = .ok (.iconst 5, 1) := by decide +kernel
theorem dX10_readHouse_106 : decode cX10_readHouse 106 = .ok (.iadd, 1) := by decide +kernel
theorem dX10_readHouse_107 : decode cX10_readHouse 107 = .ok (.aload_n 0, 1) := by decide +kernel
theorem dX10_readHouse_108 : decode cX10_readHouse 108 = .ok (.aload_n 0, 1) := by decide +kernel
theorem dX10_readHouse_109 : decode cX10_readHouse 109 = .ok (.getfield 34, 3) := by decide +kernel
theorem dX10_readHouse_112 : decode cX10_readHouse 112 = .ok (.iload_n 1, 1) := by decide +kernel
theorem dX10_readHouse_113 : decode cX10_readHouse 113 = .ok (.iconst 4, 1) := by decide +kernel
theorem dX10_readHouse_114 : decode cX10_readHouse 114 = .ok (.iadd, 1) := by decide +kernel
theorem dX10_readHouse_115 : decode cX10_readHouse 115 = .ok (.iaload, 1) := by decide +kernel
theorem dX10_readHouse_116 : decode cX10_readHouse 116 = .ok (.sipush 180, 3) := by decide +kernel
theorem dX10_readHouse_119 : decode cX10_readHouse 119 = .ok (.invokevirtual 180, 3) := by decide +kernel
theorem dX10_readHouse_122 : decode cX10_readHouse 122 = .ok (.iastore, 1) := by decide +kernel
theorem dX10_readHouse_123 : decode cX10_readHouse 123 = .ok (.aload_n 0, 1) := by decide +kernel
theorem dX10_readHouse_124 : decode cX10_readHouse 124 = .ok (.getfield 34, 3) := by decide +kernel
theorem dX10_readHouse_127 : decode cX10_readHouse 127 = .ok (.iload_n 1, 1) := by decide +kernel
theorem dX10_readHouse_128 : decode cX10_readHouse 128 = .ok (.bipush 6, 2) := by decide +kernel
theorem dX10_readHouse_130 : decode cX10_readHouse 130 = .ok (.iadd, 1) := by decide +kernel
theorem dX10_readHouse_131 : decode cX10_readHouse 131 = .ok (.aload_n 0, 1) := by decide +kernel
theorem dX10_readHouse_132 : decode cX10_readHouse 132 = .ok (.ldc 220, 2) := by decide +kernel
theorem dX10_readHouse_134 : decode cX10_readHouse 134 = .ok (.invokevirtual 169, 3) := by decide +kernel
theorem dX10_readHouse_137 : decode cX10_readHouse 137 = .ok (.ifCond .eq 14, 3) := by decide +kernel
theorem dX10_readHouse_140 : decode cX10_readHouse 140 = .ok (.aload_n 0, 1) := by decide +kernel
theorem dX10_readHouse_141 : decode cX10_readHouse 141 = .ok (.iconst 0, 1) := by decide +kernel
theorem dX10_readHouse_142 : decode cX10_readHouse 142 = .ok (.sipush 399, 3) := by decide +kernel
theorem dX10_readHouse_145 : decode cX10_readHouse 145 = .ok (.invokevirtual 180, 3) := by decide +kernel
theorem dX10_readHouse_148 : decode cX10_readHouse 148 = .ok (.goto 4, 3) := by decide +kernel
theorem dX10_readHouse_151 : decode cX10_readHouse 151 = .ok (.iconst 0, 1) := by decide +kernel
theorem dX10_readHouse_152 : decode cX10_readHouse 152 = .ok (.iastore, 1) := by decide +kernel
theorem dX10_readHouse_153 : decode cX10_readHouse 153 = .ok (.aload_n 0, 1) := by decide +kernel
theorem dX10_readHouse_154 : decode cX10_readHouse 154 = .ok (.getfield 34, 3) := by decide +kernel
theorem dX10_readHouse_157 : decode cX10_readHouse 157 = .ok (.iload_n 1, 1) := by decide +kernel
theorem dX10_readHouse_158 : decode cX10_readHouse 158 = .ok (.bipush 7, 2) := by decide +kernel
theorem dX10_readHouse_160 : decode cX10_readHouse 160 = .ok (.iadd, 1) := by decide +kernel
theorem dX10_readHouse_161 : decode cX10_readHouse 161 = .ok (.aload_n 0, 1) := by decide +kernel
theorem dX10_readHouse_162 : decode cX10_readHouse 162 = .ok (.ldc 222, 2) := by decide +kernel
theorem dX10_readHouse_164 : decode cX10_readHouse 164 = .ok (.invokevirtual 169, 3) := by decide +kernel
theorem dX10_readHouse_167 : decode cX10_readHouse 167 = .ok (.ifCond .eq 13, 3) := by decide +kernel
theorem dX10_readHouse_170 : decode cX10_readHouse 170 = .ok (.aload_n 0, 1) := by decide +kernel
theorem dX10_readHouse_171 : decode cX10_readHouse 171 = .ok (.iconst 0, 1) := by decide +kernel
theorem dX10_readHouse_172 : decode cX10_readHouse 172 = .ok (.bipush 99, 2) := by decide +kernel
theorem dX10_readHouse_174 : decode cX10_readHouse 174 = .ok (.invokevirtual 180, 3) := by decide +kernel
theorem dX10_readHouse_177 : decode cX10_readHouse 177 = .ok (.goto 4, 3) := by decide +kernel
theorem dX10_readHouse_180 : decode cX10_readHouse 180 = .ok (.iconst 0, 1) := by decide +kernel
theorem dX10_readHouse_181 : decode cX10_readHouse 181 = .ok (.iastore, 1) := by decide +kernel
theorem dX10_readHouse_182 : decode cX10_readHouse 182 = .ok (.aload_n 0, 1) := by decide +kernel
theorem dX10_readHouse_183 : decode cX10_readHouse 183 = .ok (.getfield 34, 3) := by decide +kernel
theorem dX10_readHouse_186 : decode cX10_readHouse 186 = .ok (.iload_n 1, 1) := by decide +kernel
theorem dX10_readHouse_187 : decode cX10_readHouse 187 = .ok (.bipush 8, 2) := by decide +kernel
theorem dX10_readHouse_189 : decode cX10_readHouse 189 = .ok (.iadd, 1) := by decide +kernel
theorem dX10_readHouse_190 : decode cX10_readHouse 190 = .ok (.iconst 0, 1) := by decide +kernel
theorem dX10_readHouse_191 : decode cX10_readHouse 191 = .ok (.iastore, 1) := by decide +kernel
theorem dX10_readHouse_192 : decode cX10_readHouse 192 = .ok (.aload_n 0, 1) := by decide +kernel
theorem dX10_readHouse_193 : decode cX10_readHouse 193 = .ok (.invokevirtual 148, 3) := by decide +kernel
theorem dX10_readHouse_196 : decode cX10_readHouse 196 = .ok (.ifCond .eq 13, 3) := by decide +kernel
