theorem dX0_init_0 : decode cX0_init 0 = .ok (.aload_n 0, 1) := dk_42 (by decide +kernel)
theorem dX0_init_1 : decode cX0_init 1 = .ok (.invokespecial 3, 3) := dk_183 (a := 0) (b := 3) (by decide +kernel) rfl
theorem dX0_init_4 : decode cX0_init 4 = .ok (.aload_n 0, 1) := dk_42 (by decide +kernel)
theorem dX0_init_5 : decode cX0_init 5 = .ok (.bipush 24, 2) := dk_16 (a := 24) (by decide +kernel) (by decide +kernel)
theorem dX0_init_7 : decode cX0_init 7 = .ok (.newarray .int, 2) := dk_188_10 (by decide +kernel)
theorem dX0_init_9 : decode cX0_init 9 = .ok (.putfield 9, 3) := dk_181 (a := 0) (b := 9) (by decide +kernel) rfl
theorem dX0_init_12 : decode cX0_init 12 = .ok (.aload_n 0, 1) := dk_42 (by decide +kernel)
theorem dX0_init_13 : decode cX0_init 13 = .ok (.bipush 24, 2) := dk_16 (a := 24) (by decide +kernel) (by decide +kernel)
theorem dX0_init_15 : decode cX0_init 15 = .ok (.newarray .int, 2) := dk_188_10 (by decide +kernel)
theorem dX0_init_17 : decode cX0_init 17 = .ok (.putfield 15, 3) := dk_181 (a := 0) (b := 15) (by decide +kernel) rfl
theorem dX0_init_20 : decode cX0_init 20 = .ok (.aload_n 0, 1) := dk_42 (by decide +kernel)
theorem dX0_init_21 : decode cX0_init 21 = .ok (.bipush 24, 2) := dk_16 (a := 24) (by decide +kernel) (by decide +kernel)
theorem dX0_init_23 : decode cX0_init 23 = .ok (.newarray .int, 2) := dk_188_10 (by decide +kernel)
theorem dX0_init_25 : decode cX0_init 25 = .ok (.putfield 18, 3) := dk_181 (a := 0) (b := 18) (by decide +kernel) rfl
theorem dX0_init_28 : decode cX0_init 28 = .ok (.aload_n 0, 1) := dk_42 (by decide +kernel)
theorem dX0_init_29 : decode cX0_init 29 = .ok (.bipush 24, 2) := dk_16 (a := 24) (by decide +kernel) (by decide +kernel)
theorem dX0_init_31 : decode cX0_init 31 = .ok (.newarray .int, 2) := dk_188_10 (by decide +kernel)
theorem dX0_init_33 : decode cX0_init 33 = .ok (.putfield 21, 3) := dk_181 (a := 0) (b := 21) (by decide +kernel) rfl
theorem dX0_init_36 : decode cX0_init 36 = .ok (.aload_n 0, 1) := dk_42 (by decide +kernel)
theorem dX0_init_37 : decode cX0_init 37 = .ok (.bipush 24, 2) := dk_16 (a := 24) (by decide +kernel) (by decide +kernel)
theorem dX0_init_39 : decode cX0_init 39 = .ok (.newarray .int, 2) := dk_188_10 (by decide +kernel)
theorem dX0_init_41 : decode cX0_init 41 = .ok (.putfield 24, 3) := dk_181 (a := 0) (b := 24) (by decide +kernel) rfl
theorem dX0_init_44 : decode cX0_init 44 = .ok (.aload_n 0, 1) := dk_42 (by decide +kernel)
theorem dX0_init_45 : decode cX0_init 45 = .ok (.sipush 700, 3) := dk_17 (a := 2) (b := 188) (by decide +kernel) (by decide +kernel)
theorem dX0_init_48 : decode cX0_init 48 = .ok (.newarray .int, 2) := dk_188_10 (by decide +kernel)
theorem dX0_init_50 : decode cX0_init 50 = .ok (.putfield 27, 3) := dk_181 (a := 0) (b := 27) (by decide +kernel) rfl
theorem dX0_init_53 : decode cX0_init 53 = .ok (.aload_n 0, 1) := dk_42 (by decide +kernel)
theorem dX0_init_54 : decode cX0_init 54 = .ok (.iconst 5, 1) := dk_8 (by decide +kernel)
theorem dX0_init_55 : decode cX0_init 55 = .ok (.newarray .int, 2) := dk_188_10 (by decide +kernel)
theorem dX0_init_57 : decode cX0_init 57 = .ok (.putfield 30, 3) := dk_181 (a := 0) (b := 30) (by decide +kernel) rfl
theorem dX0_init_60 : decode cX0_init 60 = .ok (.return_, 1) := dk_177 (by decide +kernel)
theorem dX0_clear_0 : decode cX0_clear 0 = .ok (.aload_n 0, 1) := dk_42 (by decide +kernel)
theorem dX0_clear_1 : decode cX0_clear 1 = .ok (.iconst 0, 1) := dk_3 (by decide +kernel)
theorem dX0_clear_2 : decode cX0_clear 2 = .ok (.putfield 33, 3) := dk_181 (a := 0) (b := 33) (by decide +kernel) rfl
theorem dX0_clear_5 : decode cX0_clear 5 = .ok (.aload_n 0, 1) := dk_42 (by decide +kernel)
theorem dX0_clear_6 : decode cX0_clear 6 = .ok (.iconst 0, 1) := dk_3 (by decide +kernel)
theorem dX0_clear_7 : decode cX0_clear 7 = .ok (.putfield 37, 3) := dk_181 (a := 0) (b := 37) (by decide +kernel) rfl
theorem dX0_clear_10 : decode cX0_clear 10 = .ok (.return_, 1) := dk_177 (by decide +kernel)
theorem dX0_copy_0 : decode cX0_copy 0 = .ok (.aload_n 0, 1) := dk_42 (by decide +kernel)
theorem dX0_copy_1 : decode cX0_copy 1 = .ok (.aload_n 1, 1) := dk_43 (by decide +kernel)
theorem dX0_copy_2 : decode cX0_copy 2 = .ok (.getfield 33, 3) := dk_180 (a := 0) (b := 33) (by decide +kernel) rfl
theorem dX0_copy_5 : decode cX0_copy 5 = .ok (.putfield 33, 3) := dk_181 (a := 0) (b := 33) (by decide +kernel) rfl
theorem dX0_copy_8 : decode cX0_copy 8 = .ok (.aload_n 0, 1) := dk_42 (by decide +kernel)
theorem dX0_copy_9 : decode cX0_copy 9 = .ok (.aload_n 1, 1) := dk_43 (by decide +kernel)
theorem dX0_copy_10 : decode cX0_copy 10 = .ok (.getfield 37, 3) := dk_180 (a := 0) (b := 37) (by decide +kernel) rfl
theorem dX0_copy_13 : decode cX0_copy 13 = .ok (.putfield 37, 3) := dk_181 (a := 0) (b := 37) (by decide +kernel) rfl
theorem dX0_copy_16 : decode cX0_copy 16 = .ok (.aload_n 1, 1) := dk_43 (by decide +kernel)
theorem dX0_copy_17 : decode cX0_copy 17 = .ok (.getfield 9, 3) := dk_180 (a := 0) (b := 9) (by decide +kernel) rfl
theorem dX0_copy_20 : decode cX0_copy 20 = .ok (.iconst 0, 1) := dk_3 (by decide +kernel)
theorem dX0_copy_21 : decode cX0_copy 21 = .ok (.aload_n 0, 1) := dk_42 (by decide +kernel)
theorem dX0_copy_22 : decode cX0_copy 22 = .ok (.getfield 9, 3) := dk_180 (a := 0) (b := 9) (by decide +kernel) rfl
theorem dX0_copy_25 : decode cX0_copy 25 = .ok (.iconst 0, 1) := dk_3 (by decide +kernel)
theorem dX0_copy_26 : decode cX0_copy 26 = .ok (.aload_n 0, 1) := dk_42 (by decide +kernel)
theorem dX0_copy_27 : decode cX0_copy 27 = .ok (.getfield 33, 3) := dk_180 (a := 0) (b := 33) (by decide +kernel) rfl
theorem dX0_copy_30 : decode cX0_copy 30 = .ok (.invokestatic 40, 3) := dk_184 (a := 0) (b := 40) (by decide +kernel) rfl
theorem dX0_copy_33 : decode cX0_copy 33 = .ok (.aload_n 1, 1) := dk_43 (by decide +kernel)
theorem dX0_copy_34 : decode cX0_copy 34 = .ok (.getfield 15, 3) := dk_180 (a := 0) (b := 15) (by decide +kernel) rfl
theorem dX0_copy_37 : decode cX0_copy 37 = .ok (.iconst 0, 1) := dk_3 (by decide +kernel)
theorem dX0_copy_38 : decode cX0_copy 38 = .ok (.aload_n 0, 1) := dk_42 (by decide +kernel)
theorem dX0_copy_39 : decode cX0_copy 39 = .ok (.getfield 15, 3) := dk_180 (a := 0) (b := 15) (by decide +kernel) rfl
theorem dX0_copy_42 : decode cX0_copy 42 = .ok (.iconst 0, 1) := dk_3 (by decide +kernel)
theorem dX0_copy_43 : decode cX0_copy 43 = .ok (.aload_n 0, 1) := dk_42 (by decide +kernel)
theorem dX0_copy_44 : decode cX0_copy 44 = .ok (.getfield 33, 3) := dk_180 (a := 0) (b := 33) (by decide +kernel) rfl
theorem dX0_copy_47 : decode cX0_copy 47 = .ok (.invokestatic 40, 3) := dk_184 (a := 0) (b := 40) (by decide +kernel) rfl
theorem dX0_copy_50 : decode cX0_copy 50 = .ok (.aload_n 1, 1) := dk_43 (by decide +kernel)
theorem dX0_copy_51 : decode cX0_copy 51 = .ok (.getfield 18, 3) := dk_180 (a := 0) (b := 18) (by decide +kernel) rfl
theorem dX0_copy_54 : decode cX0_copy 54 = .ok (.iconst 0, 1) := dk_3 (by decide +kernel)
theorem dX0_copy_55 : decode cX0_copy 55 = .ok (.aload_n 0, 1) := dk_42 (by decide +kernel)
theorem dX0_copy_56 : decode cX0_copy 56 = .ok (.getfield 18, 3) := dk_180 (a := 0) (b := 18) (by decide +kernel) rfl
theorem dX0_copy_59 : decode cX0_copy 59 = .ok (.iconst 0, 1) := dk_3 (by decide +kernel)
theorem dX0_copy_60 : decode cX0_copy 60 = .ok (.aload_n 0, 1) := dk_42 (by decide +kernel)
theorem dX0_copy_61 : decode cX0_copy 61 = .ok (.getfield 33, 3) := dk_180 (a := 0) (b := 33) (by decide +kernel) rfl
theorem dX0_copy_64 : decode cX0_copy 64 = .ok (.invokestatic 40, 3) := dk_184 (a := 0) (b := 40) (by decide +kernel) rfl
theorem dX0_copy_67 : decode cX0_copy 67 = .ok (.aload_n 1, 1) := dk_43 (by decide +kernel)
theorem dX0_copy_68 : decode cX0_copy 68 = .ok (.getfield 21, 3) := dk_180 (a := 0) (b := 21) (by decide +kernel) rfl
theorem dX0_copy_71 : decode cX0_copy 71 = .ok (.iconst 0, 1) := dk_3 (by decide +kernel)
theorem dX0_copy_72 : decode cX0_copy 72 = .ok (.aload_n 0, 1) := dk_42 (by decide +kernel)
theorem dX0_copy_73 : decode cX0_copy 73 = .ok (.getfield 21, 3) := dk_180 (a := 0) (b := 21) (by decide +kernel) rfl
theorem dX0_copy_76 : decode cX0_copy 76 = .ok (.iconst 0, 1) := dk_3 (by decide +kernel)
theorem dX0_copy_77 : decode cX0_copy 77 = .ok (.aload_n 0, 1) := dk_42 (by decide +kernel)
theorem dX0_copy_78 : decode cX0_copy 78 = .ok (.getfield 33, 3) := dk_180 (a := 0) (b := 33) (by decide +kernel) rfl
theorem dX0_copy_81 : decode cX0_copy 81 = .ok (.invokestatic 40, 3) := dk_184 (a := 0) (b := 40) (by decide +kernel) rfl
theorem dX0_copy_84 : decode cX0_copy 84 = .ok (.aload_n 1, 1) := dk_43 (by decide +kernel)
theorem dX0_copy_85 : decode cX0_copy 85 = .ok (.getfield 24, 3) := dk_180 (a := 0) (b := 24) (by decide +kernel) rfl
theorem dX0_copy_88 : decode cX0_copy 88 = .ok (.iconst 0, 1) := dk_3 (by decide +kernel)
theorem dX0_copy_89 : decode cX0_copy 89 = .ok (.aload_n 0, 1) := dk_42 (by decide +kernel)
theorem dX0_copy_90 : decode cX0_copy 90 = .ok (.getfield 24, 3) := dk_180 (a := 0) (b := 24) (by decide +kernel) rfl
theorem dX0_copy_93 : decode cX0_copy 93 = .ok (.iconst 0, 1) := dk_3 (by decide +kernel)
theorem dX0_copy_94 : decode cX0_copy 94 = .ok (.aload_n 0, 1) := dk_42 (by decide +kernel)
theorem dX0_copy_95 : decode cX0_copy 95 = .ok (.getfield 33, 3) := dk_180 (a := 0) (b := 33) (by decide +kernel) rfl
theorem dX0_copy_98 : decode cX0_copy 98 = .ok (.invokestatic 40, 3) := dk_184 (a := 0) (b := 40) (by decide +kernel) rfl
theorem dX0_copy_101 : decode cX0_copy 101 = .ok (.aload_n 1, 1) := dk_43 (by decide +kernel)
theorem dX0_copy_102 : decode cX0_copy 102 = .ok (.getfield 27, 3) := dk_180 (a := 0) (b := 27) (by decide +kernel) rfl
theorem dX0_copy_105 : decode cX0_copy 105 = .ok (.iconst 0, 1) := dk_3 (by decide +kernel)
theorem dX0_copy_106 : decode cX0_copy 106 = .ok (.aload_n 0, 1) := dk_42 (by decide +kernel)
theorem dX0_copy_107 : decode cX0_copy 107 = .ok (.getfield 27, 3) := dk_180 (a := 0) (b := 27) (by decide +kernel) rfl
theorem dX0_copy_110 : decode cX0_copy 110 = .ok (.iconst 0, 1) := dk_3 (by decide +kernel)
theorem dX0_copy_111 : decode cX0_copy 111 = .ok (.aload_n 0, 1) := dk_42 (by decide +kernel)
theorem dX0_copy_112 : decode cX0_copy 112 = .ok (.getfield 37, 3) := dk_180 (a := 0) (b := 37) (by decide +kernel) rfl
theorem dX0_copy_115 : decode cX0_copy 115 = .ok (.invokestatic 40, 3) := dk_184 (a := 0) (b := 40) (by decide +kernel) rfl
theorem dX0_copy_118 : decode cX0_copy 118 = .ok (.return_, 1) := dk_177 (by decide +kernel)
theorem dX0_put_0 : decode cX0_put 0 = .ok (.aload_n 0, 1) := dk_42 (by decide +kernel)
theorem dX0_put_1 : decode cX0_put 1 = .ok (.getfield 37, 3) := dk_180 (a := 0) (b := 37) (by decide +kernel) rfl
theorem dX0_put_4 : decode cX0_put 4 = .ok (.sipush 700, 3) := dk_17 (a := 2) (b := 188) (by decide +kernel) (by decide +kernel)
theorem dX0_put_7 : decode cX0_put 7 = .ok (.if_icmp .ge 23, 3) := dk_162 (a := 0) (b := 23) (by decide +kernel) (by decide +kernel)
theorem dX0_put_10 : decode cX0_put 10 = .ok (.aload_n 0, 1) := dk_42 (by decide +kernel)
theorem dX0_put_11 : decode cX0_put 11 = .ok (.getfield 27, 3) := dk_180 (a := 0) (b := 27) (by decide +kernel) rfl
theorem dX0_put_14 : decode cX0_put 14 = .ok (.aload_n 0, 1) := dk_42 (by decide +kernel)
theorem dX0_put_15 : decode cX0_put 15 = .ok (.getfield 37, 3) := dk_180 (a := 0) (b := 37) (by decide +kernel) rfl
theorem dX0_put_18 : decode cX0_put 18 = .ok (.iload_n 1, 1) := dk_27 (by decide +kernel)
theorem dX0_put_19 : decode cX0_put 19 = .ok (.iastore, 1) := dk_79 (by decide +kernel)
theorem dX0_put_20 : decode cX0_put 20 = .ok (.aload_n 0, 1) := dk_42 (by decide +kernel)
theorem dX0_put_21 : decode cX0_put 21 = .ok (.dup, 1) := dk_89 (by decide +kernel)
theorem dX0_put_22 : decode cX0_put 22 = .ok (.getfield 37, 3) := dk_180 (a := 0) (b := 37) (by decide +kernel) rfl
theorem dX0_put_25 : decode cX0_put 25 = .ok (.iconst 1, 1) := dk_4 (by decide +kernel)
theorem dX0_put_26 : decode cX0_put 26 = .ok (.iadd, 1) := dk_96 (by decide +kernel)
theorem dX0_put_27 : decode cX0_put 27 = .ok (.putfield 37, 3) := dk_181 (a := 0) (b := 37) (by decide +kernel) rfl
theorem dX0_put_30 : decode cX0_put 30 = .ok (.return_, 1) := dk_177 (by decide +kernel)
theorem dX0_lineFor_0 : decode cX0_lineFor 0 = .ok (.aload_n 0, 1) := dk_42 (by decide +kernel)
theorem dX0_lineFor_1 : decode cX0_lineFor 1 = .ok (.getfield 30, 3) := dk_180 (a := 0) (b := 30) (by decide +kernel) rfl
theorem dX0_lineFor_4 : decode cX0_lineFor 4 = .ok (.iconst 0, 1) := dk_3 (by decide +kernel)
theorem dX0_lineFor_5 : decode cX0_lineFor 5 = .ok (.iload_n 2, 1) := dk_28 (by decide +kernel)
theorem dX0_lineFor_6 : decode cX0_lineFor 6 = .ok (.iastore, 1) := dk_79 (by decide +kernel)
theorem dX0_lineFor_7 : decode cX0_lineFor 7 = .ok (.aload_n 0, 1) := dk_42 (by decide +kernel)
theorem dX0_lineFor_8 : decode cX0_lineFor 8 = .ok (.getfield 30, 3) := dk_180 (a := 0) (b := 30) (by decide +kernel) rfl
theorem dX0_lineFor_11 : decode cX0_lineFor 11 = .ok (.iconst 1, 1) := dk_4 (by decide +kernel)
theorem dX0_lineFor_12 : decode cX0_lineFor 12 = .ok (.iload_n 3, 1) := dk_29 (by decide +kernel)
theorem dX0_lineFor_13 : decode cX0_lineFor 13 = .ok (.iastore, 1) := dk_79 (by decide +kernel)
theorem dX0_lineFor_14 : decode cX0_lineFor 14 = .ok (.aload_n 0, 1) := dk_42 (by decide +kernel)
theorem dX0_lineFor_15 : decode cX0_lineFor 15 = .ok (.getfield 30, 3) := dk_180 (a := 0) (b := 30) (by decide +kernel) rfl
theorem dX0_lineFor_18 : decode cX0_lineFor 18 = .ok (.iconst 2, 1) := dk_5 (by decide +kernel)
theorem dX0_lineFor_19 : decode cX0_lineFor 19 = .ok (.iload 4, 2) := dk_21 (a := 4) (by decide +kernel)
theorem dX0_lineFor_21 : decode cX0_lineFor 21 = .ok (.iastore, 1) := dk_79 (by decide +kernel)
theorem dX0_lineFor_22 : decode cX0_lineFor 22 = .ok (.aload_n 0, 1) := dk_42 (by decide +kernel)
theorem dX0_lineFor_23 : decode cX0_lineFor 23 = .ok (.getfield 30, 3) := dk_180 (a := 0) (b := 30) (by decide +kernel) rfl
theorem dX0_lineFor_26 : decode cX0_lineFor 26 = .ok (.iconst 3, 1) := dk_6 (by decide +kernel)
theorem dX0_lineFor_27 : decode cX0_lineFor 27 = .ok (.iload 5, 2) := dk_21 (a := 5) (by decide +kernel)
theorem dX0_lineFor_29 : decode cX0_lineFor 29 = .ok (.iastore, 1) := dk_79 (by decide +kernel)
theorem dX0_lineFor_30 : decode cX0_lineFor 30 = .ok (.aload_n 0, 1) := dk_42 (by decide +kernel)
theorem dX0_lineFor_31 : decode cX0_lineFor 31 = .ok (.getfield 30, 3) := dk_180 (a := 0) (b := 30) (by decide +kernel) rfl
theorem dX0_lineFor_34 : decode cX0_lineFor 34 = .ok (.iconst 4, 1) := dk_7 (by decide +kernel)
theorem dX0_lineFor_35 : decode cX0_lineFor 35 = .ok (.iload 6, 2) := dk_21 (a := 6) (by decide +kernel)
theorem dX0_lineFor_37 : decode cX0_lineFor 37 = .ok (.iastore, 1) := dk_79 (by decide +kernel)
theorem dX0_lineFor_38 : decode cX0_lineFor 38 = .ok (.iconst 0, 1) := dk_3 (by decide +kernel)
theorem dX0_lineFor_39 : decode cX0_lineFor 39 = .ok (.istore 7, 2) := dk_54 (a := 7) (by decide +kernel)
theorem dX0_lineFor_41 : decode cX0_lineFor 41 = .ok (.iload 7, 2) := dk_21 (a := 7) (by decide +kernel)
theorem dX0_lineFor_43 : decode cX0_lineFor 43 = .ok (.aload_n 0, 1) := dk_42 (by decide +kernel)
theorem dX0_lineFor_44 : decode cX0_lineFor 44 = .ok (.getfield 33, 3) := dk_180 (a := 0) (b := 33) (by decide +kernel) rfl
theorem dX0_lineFor_47 : decode cX0_lineFor 47 = .ok (.if_icmp .ge 32, 3) := dk_162 (a := 0) (b := 32) (by decide +kernel) (by decide +kernel)
theorem dX0_lineFor_50 : decode cX0_lineFor 50 = .ok (.aload_n 0, 1) := dk_42 (by decide +kernel)
theorem dX0_lineFor_51 : decode cX0_lineFor 51 = .ok (.getfield 9, 3) := dk_180 (a := 0) (b := 9) (by decide +kernel) rfl
theorem dX0_lineFor_54 : decode cX0_lineFor 54 = .ok (.iload 7, 2) := dk_21 (a := 7) (by decide +kernel)
theorem dX0_lineFor_56 : decode cX0_lineFor 56 = .ok (.iaload, 1) := dk_46 (by decide +kernel)
theorem dX0_lineFor_57 : decode cX0_lineFor 57 = .ok (.iload_n 1, 1) := dk_27 (by decide +kernel)
theorem dX0_lineFor_58 : decode cX0_lineFor 58 = .ok (.if_icmp .ne 15, 3) := dk_160 (a := 0) (b := 15) (by decide +kernel) (by decide +kernel)
theorem dX0_lineFor_61 : decode cX0_lineFor 61 = .ok (.aload_n 0, 1) := dk_42 (by decide +kernel)
theorem dX0_lineFor_62 : decode cX0_lineFor 62 = .ok (.iload 7, 2) := dk_21 (a := 7) (by decide +kernel)
theorem dX0_lineFor_64 : decode cX0_lineFor 64 = .ok (.invokevirtual 46, 3) := dk_182 (a := 0) (b := 46) (by decide +kernel) rfl
theorem dX0_lineFor_67 : decode cX0_lineFor 67 = .ok (.ifCond .eq 6, 3) := dk_153 (a := 0) (b := 6) (by decide +kernel) (by decide +kernel)
theorem dX0_lineFor_70 : decode cX0_lineFor 70 = .ok (.iload 7, 2) := dk_21 (a := 7) (by decide +kernel)
theorem dX0_lineFor_72 : decode cX0_lineFor 72 = .ok (.ireturn, 1) := dk_172 (by decide +kernel)
theorem dX0_lineFor_73 : decode cX0_lineFor 73 = .ok (.iinc 7 1, 3) := dk_132 (a := 7) (b := 1) (by decide +kernel) (by decide +kernel)
theorem dX0_lineFor_76 : decode cX0_lineFor 76 = .ok (.goto (-35), 3) := dk_167 (a := 255) (b := 221) (by decide +kernel) (by decide +kernel)
theorem dX0_lineFor_79 : decode cX0_lineFor 79 = .ok (.iconst (-1), 1) := dk_2 (by decide +kernel)
theorem dX0_lineFor_80 : decode cX0_lineFor 80 = .ok (.ireturn, 1) := dk_172 (by decide +kernel)
theorem dX0_holds_0 : decode cX0_holds 0 = .ok (.aload_n 0, 1) := dk_42 (by decide +kernel)
theorem dX0_holds_1 : decode cX0_holds 1 = .ok (.getfield 24, 3) := dk_180 (a := 0) (b := 24) (by decide +kernel) rfl
theorem dX0_holds_4 : decode cX0_holds 4 = .ok (.iload_n 1, 1) := dk_27 (by decide +kernel)
theorem dX0_holds_5 : decode cX0_holds 5 = .ok (.iaload, 1) := dk_46 (by decide +kernel)
theorem dX0_holds_6 : decode cX0_holds 6 = .ok (.sipush 700, 3) := dk_17 (a := 2) (b := 188) (by decide +kernel) (by decide +kernel)
theorem dX0_holds_9 : decode cX0_holds 9 = .ok (.invokestatic 50, 3) := dk_184 (a := 0) (b := 50) (by decide +kernel) rfl
theorem dX0_holds_12 : decode cX0_holds 12 = .ok (.istore_n 2, 1) := dk_61 (by decide +kernel)
theorem dX0_holds_13 : decode cX0_holds 13 = .ok (.lconst 0, 1) := dk_9 (by decide +kernel)
theorem dX0_holds_14 : decode cX0_holds 14 = .ok (.lstore_n 3, 1) := dk_66 (by decide +kernel)
theorem dX0_holds_15 : decode cX0_holds 15 = .ok (.lconst 0, 1) := dk_9 (by decide +kernel)
theorem dX0_holds_16 : decode cX0_holds 16 = .ok (.lstore 5, 2) := dk_55 (a := 5) (by decide +kernel)
theorem dX0_holds_18 : decode cX0_holds 18 = .ok (.lconst 1, 1) := dk_10 (by decide +kernel)
theorem dX0_holds_19 : decode cX0_holds 19 = .ok (.lstore 7, 2) := dk_55 (a := 7) (by decide +kernel)
theorem dX0_holds_21 : decode cX0_holds 21 = .ok (.iconst 0, 1) := dk_3 (by decide +kernel)
theorem dX0_holds_22 : decode cX0_holds 22 = .ok (.istore 9, 2) := dk_54 (a := 9) (by decide +kernel)
theorem dX0_holds_24 : decode cX0_holds 24 = .ok (.sipush 2005, 3) := dk_17 (a := 7) (b := 213) (by decide +kernel) (by decide +kernel)
theorem dX0_holds_27 : decode cX0_holds 27 = .ok (.istore 10, 2) := dk_54 (a := 10) (by decide +kernel)
theorem dX0_holds_29 : decode cX0_holds 29 = .ok (.aload_n 0, 1) := dk_42 (by decide +kernel)
theorem dX0_holds_30 : decode cX0_holds 30 = .ok (.iconst 0, 1) := dk_3 (by decide +kernel)
theorem dX0_holds_31 : decode cX0_holds 31 = .ok (.putfield 56, 3) := dk_181 (a := 0) (b := 56) (by decide +kernel) rfl
theorem dX0_holds_34 : decode cX0_holds 34 = .ok (.aload_n 0, 1) := dk_42 (by decide +kernel)
theorem dX0_holds_35 : decode cX0_holds 35 = .ok (.getfield 21, 3) := dk_180 (a := 0) (b := 21) (by decide +kernel) rfl
theorem dX0_holds_38 : decode cX0_holds 38 = .ok (.iload_n 1, 1) := dk_27 (by decide +kernel)
theorem dX0_holds_39 : decode cX0_holds 39 = .ok (.iaload, 1) := dk_46 (by decide +kernel)
theorem dX0_holds_40 : decode cX0_holds 40 = .ok (.istore 11, 2) := dk_54 (a := 11) (by decide +kernel)
theorem dX0_holds_42 : decode cX0_holds 42 = .ok (.iload 11, 2) := dk_21 (a := 11) (by decide +kernel)
theorem dX0_holds_44 : decode cX0_holds 44 = .ok (.iload_n 2, 1) := dk_28 (by decide +kernel)
theorem dX0_holds_45 : decode cX0_holds 45 = .ok (.if_icmp .ge 160, 3) := dk_162 (a := 0) (b := 160) (by decide +kernel) (by decide +kernel)
theorem dX0_holds_48 : decode cX0_holds 48 = .ok (.iload 11, 2) := dk_21 (a := 11) (by decide +kernel)
theorem dX0_holds_50 : decode cX0_holds 50 = .ok (.iconst 1, 1) := dk_4 (by decide +kernel)
theorem dX0_holds_51 : decode cX0_holds 51 = .ok (.iadd, 1) := dk_96 (by decide +kernel)
theorem dX0_holds_52 : decode cX0_holds 52 = .ok (.iload_n 2, 1) := dk_28 (by decide +kernel)
theorem dX0_holds_53 : decode cX0_holds 53 = .ok (.if_icmp .ge 15, 3) := dk_162 (a := 0) (b := 15) (by decide +kernel) (by decide +kernel)
theorem dX0_holds_56 : decode cX0_holds 56 = .ok (.aload_n 0, 1) := dk_42 (by decide +kernel)
theorem dX0_holds_57 : decode cX0_holds 57 = .ok (.getfield 27, 3) := dk_180 (a := 0) (b := 27) (by decide +kernel) rfl
theorem dX0_holds_60 : decode cX0_holds 60 = .ok (.iload 11, 2) := dk_21 (a := 11) (by decide +kernel)
theorem dX0_holds_62 : decode cX0_holds 62 = .ok (.iconst 1, 1) := dk_4 (by decide +kernel)
theorem dX0_holds_63 : decode cX0_holds 63 = .ok (.iadd, 1) := dk_96 (by decide +kernel)
theorem dX0_holds_64 : decode cX0_holds 64 = .ok (.iaload, 1) := dk_46 (by decide +kernel)
theorem dX0_holds_65 : decode cX0_holds 65 = .ok (.goto 6, 3) := dk_167 (a := 0) (b := 6) (by decide +kernel) (by decide +kernel)
theorem dX0_holds_68 : decode cX0_holds 68 = .ok (.sipush 2006, 3) := dk_17 (a := 7) (b := 214) (by decide +kernel) (by decide +kernel)
theorem dX0_holds_71 : decode cX0_holds 71 = .ok (.istore 12, 2) := dk_54 (a := 12) (by decide +kernel)
theorem dX0_holds_73 : decode cX0_holds 73 = .ok (.aload_n 0, 1) := dk_42 (by decide +kernel)
theorem dX0_holds_74 : decode cX0_holds 74 = .ok (.lload 7, 2) := dk_22 (a := 7) (by decide +kernel)
theorem dX0_holds_76 : decode cX0_holds 76 = .ok (.aload_n 0, 1) := dk_42 (by decide +kernel)
theorem dX0_holds_77 : decode cX0_holds 77 = .ok (.aload_n 0, 1) := dk_42 (by decide +kernel)
theorem dX0_holds_78 : decode cX0_holds 78 = .ok (.getfield 27, 3) := dk_180 (a := 0) (b := 27) (by decide +kernel) rfl
theorem dX0_holds_81 : decode cX0_holds 81 = .ok (.iload 11, 2) := dk_21 (a := 11) (by decide +kernel)
theorem dX0_holds_83 : decode cX0_holds 83 = .ok (.iaload, 1) := dk_46 (by decide +kernel)
theorem dX0_holds_84 : decode cX0_holds 84 = .ok (.invokevirtual 60, 3) := dk_182 (a := 0) (b := 60) (by decide +kernel) rfl
theorem dX0_holds_87 : decode cX0_holds 87 = .ok (.i2l, 1) := dk_133 (by decide +kernel)
theorem dX0_holds_88 : decode cX0_holds 88 = .ok (.lmul, 1) := dk_105 (by decide +kernel)
theorem dX0_holds_89 : decode cX0_holds 89 = .ok (.invokevirtual 64, 3) := dk_182 (a := 0) (b := 64) (by decide +kernel) rfl
theorem dX0_holds_92 : decode cX0_holds 92 = .ok (.lstore 7, 2) := dk_55 (a := 7) (by decide +kernel)
theorem dX0_holds_94 : decode cX0_holds 94 = .ok (.iload 12, 2) := dk_21 (a := 12) (by decide +kernel)
theorem dX0_holds_96 : decode cX0_holds 96 = .ok (.sipush 2002, 3) := dk_17 (a := 7) (b := 210) (by decide +kernel) (by decide +kernel)
theorem dX0_holds_99 : decode cX0_holds 99 = .ok (.if_icmp .ne 6, 3) := dk_160 (a := 0) (b := 6) (by decide +kernel) (by decide +kernel)
theorem dX0_holds_102 : decode cX0_holds 102 = .ok (.goto 97, 3) := dk_167 (a := 0) (b := 97) (by decide +kernel) (by decide +kernel)
theorem dX0_holds_105 : decode cX0_holds 105 = .ok (.aload_n 0, 1) := dk_42 (by decide +kernel)
theorem dX0_holds_106 : decode cX0_holds 106 = .ok (.iload 9, 2) := dk_21 (a := 9) (by decide +kernel)
theorem dX0_holds_108 : decode cX0_holds 108 = .ok (.ifCond .eq 11, 3) := dk_153 (a := 0) (b := 11) (by decide +kernel) (by decide +kernel)
theorem dX0_holds_111 : decode cX0_holds 111 = .ok (.lload 5, 2) := dk_22 (a := 5) (by decide +kernel)
theorem dX0_holds_113 : decode cX0_holds 113 = .ok (.lload 7, 2) := dk_22 (a := 7) (by decide +kernel)
theorem dX0_holds_115 : decode cX0_holds 115 = .ok (.lsub, 1) := dk_101 (by decide +kernel)
theorem dX0_holds_116 : decode cX0_holds 116 = .ok (.goto 8, 3) := dk_167 (a := 0) (b := 8) (by decide +kernel) (by decide +kernel)
theorem dX0_holds_119 : decode cX0_holds 119 = .ok (.lload 5, 2) := dk_22 (a := 5) (by decide +kernel)
theorem dX0_holds_121 : decode cX0_holds 121 = .ok (.lload 7, 2) := dk_22 (a := 7) (by decide +kernel)
theorem dX0_holds_123 : decode cX0_holds 123 = .ok (.ladd, 1) := dk_97 (by decide +kernel)
theorem dX0_holds_124 : decode cX0_holds 124 = .ok (.invokevirtual 64, 3) := dk_182 (a := 0) (b := 64) (by decide +kernel) rfl
theorem dX0_holds_127 : decode cX0_holds 127 = .ok (.lstore 5, 2) := dk_55 (a := 5) (by decide +kernel)
theorem dX0_holds_129 : decode cX0_holds 129 = .ok (.lconst 1, 1) := dk_10 (by decide +kernel)
theorem dX0_holds_130 : decode cX0_holds 130 = .ok (.lstore 7, 2) := dk_55 (a := 7) (by decide +kernel)
theorem dX0_holds_132 : decode cX0_holds 132 = .ok (.iload 12, 2) := dk_21 (a := 12) (by decide +kernel)
theorem dX0_holds_134 : decode cX0_holds 134 = .ok (.sipush 2001, 3) := dk_17 (a := 7) (b := 209) (by decide +kernel) (by decide +kernel)
theorem dX0_holds_137 : decode cX0_holds 137 = .ok (.if_icmp .ne 7, 3) := dk_160 (a := 0) (b := 7) (by decide +kernel) (by decide +kernel)
theorem dX0_holds_140 : decode cX0_holds 140 = .ok (.iconst 1, 1) := dk_4 (by decide +kernel)
theorem dX0_holds_141 : decode cX0_holds 141 = .ok (.goto 4, 3) := dk_167 (a := 0) (b := 4) (by decide +kernel) (by decide +kernel)
theorem dX0_holds_144 : decode cX0_holds 144 = .ok (.iconst 0, 1) := dk_3 (by decide +kernel)
theorem dX0_holds_145 : decode cX0_holds 145 = .ok (.istore 9, 2) := dk_54 (a := 9) (by decide +kernel)
theorem dX0_holds_147 : decode cX0_holds 147 = .ok (.iload 12, 2) := dk_21 (a := 12) (by decide +kernel)
theorem dX0_holds_149 : decode cX0_holds 149 = .ok (.sipush 2006, 3) := dk_17 (a := 7) (b := 214) (by decide +kernel) (by decide +kernel)
theorem dX0_holds_152 : decode cX0_holds 152 = .ok (.if_icmp .ne 29, 3) := dk_160 (a := 0) (b := 29) (by decide +kernel) (by decide +kernel)
theorem dX0_holds_155 : decode cX0_holds 155 = .ok (.aload_n 0, 1) := dk_42 (by decide +kernel)
theorem dX0_holds_156 : decode cX0_holds 156 = .ok (.getfield 56, 3) := dk_180 (a := 0) (b := 56) (by decide +kernel) rfl
theorem dX0_holds_159 : decode cX0_holds 159 = .ok (.ifCond .ne 14, 3) := dk_154 (a := 0) (b := 14) (by decide +kernel) (by decide +kernel)
theorem dX0_holds_162 : decode cX0_holds 162 = .ok (.lload_n 3, 1) := dk_33 (by decide +kernel)
theorem dX0_holds_163 : decode cX0_holds 163 = .ok (.iload 10, 2) := dk_21 (a := 10) (by decide +kernel)
theorem dX0_holds_165 : decode cX0_holds 165 = .ok (.lload 5, 2) := dk_22 (a := 5) (by decide +kernel)
theorem dX0_holds_167 : decode cX0_holds 167 = .ok (.invokestatic 68, 3) := dk_184 (a := 0) (b := 68) (by decide +kernel) rfl
theorem dX0_holds_170 : decode cX0_holds 170 = .ok (.ifCond .ne 5, 3) := dk_154 (a := 0) (b := 5) (by decide +kernel) (by decide +kernel)
theorem dX0_holds_173 : decode cX0_holds 173 = .ok (.iconst 0, 1) := dk_3 (by decide +kernel)
theorem dX0_holds_174 : decode cX0_holds 174 = .ok (.ireturn, 1) := dk_172 (by decide +kernel)
theorem dX0_holds_175 : decode cX0_holds 175 = .ok (.lconst 0, 1) := dk_9 (by decide +kernel)
theorem dX0_holds_176 : decode cX0_holds 176 = .ok (.lstore 5, 2) := dk_55 (a := 5) (by decide +kernel)
theorem dX0_holds_178 : decode cX0_holds 178 = .ok (.goto 21, 3) := dk_167 (a := 0) (b := 21) (by decide +kernel) (by decide +kernel)
theorem dX0_holds_181 : decode cX0_holds 181 = .ok (.iload 12, 2) := dk_21 (a := 12) (by decide +kernel)
theorem dX0_holds_183 : decode cX0_holds 183 = .ok (.sipush 2003, 3) := dk_17 (a := 7) (b := 211) (by decide +kernel) (by decide +kernel)
theorem dX0_holds_186 : decode cX0_holds 186 = .ok (.if_icmp .lt 13, 3) := dk_161 (a := 0) (b := 13) (by decide +kernel) (by decide +kernel)
theorem dX0_holds_189 : decode cX0_holds 189 = .ok (.lload 5, 2) := dk_22 (a := 5) (by decide +kernel)
theorem dX0_holds_191 : decode cX0_holds 191 = .ok (.lstore_n 3, 1) := dk_66 (by decide +kernel)
theorem dX0_holds_192 : decode cX0_holds 192 = .ok (.iload 12, 2) := dk_21 (a := 12) (by decide +kernel)
theorem dX0_holds_194 : decode cX0_holds 194 = .ok (.istore 10, 2) := dk_54 (a := 10) (by decide +kernel)
theorem dX0_holds_196 : decode cX0_holds 196 = .ok (.lconst 0, 1) := dk_9 (by decide +kernel)
theorem dX0_holds_197 : decode cX0_holds 197 = .ok (.lstore 5, 2) := dk_55 (a := 5) (by decide +kernel)
theorem dX0_holds_199 : decode cX0_holds 199 = .ok (.iinc 11 2, 3) := dk_132 (a := 11) (b := 2) (by decide +kernel) (by decide +kernel)
theorem dX0_holds_202 : decode cX0_holds 202 = .ok (.goto (-160), 3) := dk_167 (a := 255) (b := 96) (by decide +kernel) (by decide +kernel)
theorem dX0_holds_205 : decode cX0_holds 205 = .ok (.iconst 1, 1) := dk_4 (by decide +kernel)
theorem dX0_holds_206 : decode cX0_holds 206 = .ok (.ireturn, 1) := dk_172 (by decide +kernel)
theorem dX0_compares_0 : decode cX0_compares 0 = .ok (.iload_n 2, 1) := dk_28 (by decide +kernel)
theorem dX0_compares_1 : decode cX0_compares 1 = .ok (.sipush 2003, 3) := dk_17 (a := 7) (b := 211) (by decide +kernel) (by decide +kernel)
theorem dX0_compares_4 : decode cX0_compares 4 = .ok (.if_icmp .ne 15, 3) := dk_160 (a := 0) (b := 15) (by decide +kernel) (by decide +kernel)
theorem dX0_compares_7 : decode cX0_compares 7 = .ok (.lload_n 0, 1) := dk_30 (by decide +kernel)
theorem dX0_compares_8 : decode cX0_compares 8 = .ok (.lload_n 3, 1) := dk_33 (by decide +kernel)
theorem dX0_compares_9 : decode cX0_compares 9 = .ok (.lcmp, 1) := dk_148 (by decide +kernel)
theorem dX0_compares_10 : decode cX0_compares 10 = .ok (.ifCond .le 7, 3) := dk_158 (a := 0) (b := 7) (by decide +kernel) (by decide +kernel)
theorem dX0_compares_13 : decode cX0_compares 13 = .ok (.iconst 1, 1) := dk_4 (by decide +kernel)
theorem dX0_compares_14 : decode cX0_compares 14 = .ok (.goto 4, 3) := dk_167 (a := 0) (b := 4) (by decide +kernel) (by decide +kernel)
theorem dX0_compares_17 : decode cX0_compares 17 = .ok (.iconst 0, 1) := dk_3 (by decide +kernel)
theorem dX0_compares_18 : decode cX0_compares 18 = .ok (.ireturn, 1) := dk_172 (by decide +kernel)
theorem dX0_compares_19 : decode cX0_compares 19 = .ok (.iload_n 2, 1) := dk_28 (by decide +kernel)
theorem dX0_compares_20 : decode cX0_compares 20 = .ok (.sipush 2004, 3) := dk_17 (a := 7) (b := 212) (by decide +kernel) (by decide +kernel)
theorem dX0_compares_23 : decode cX0_compares 23 = .ok (.if_icmp .ne 17, 3) := dk_160 (a := 0) (b := 17) (by decide +kernel) (by decide +kernel)
theorem dX0_compares_26 : decode cX0_compares 26 = .ok (.lload_n 0, 1) := dk_30 (by decide +kernel)
theorem dX0_compares_27 : decode cX0_compares 27 = .ok (.lload_n 3, 1) := dk_33 (by decide +kernel)
theorem dX0_compares_28 : decode cX0_compares 28 = .ok (.lcmp, 1) := dk_148 (by decide +kernel)
theorem dX0_compares_29 : decode cX0_compares 29 = .ok (.ifCond .ge 7, 3) := dk_156 (a := 0) (b := 7) (by decide +kernel) (by decide +kernel)
theorem dX0_compares_32 : decode cX0_compares 32 = .ok (.iconst 1, 1) := dk_4 (by decide +kernel)
theorem dX0_compares_33 : decode cX0_compares 33 = .ok (.goto 18, 3) := dk_167 (a := 0) (b := 18) (by decide +kernel) (by decide +kernel)
theorem dX0_compares_36 : decode cX0_compares 36 = .ok (.iconst 0, 1) := dk_3 (by decide +kernel)
theorem dX0_compares_37 : decode cX0_compares 37 = .ok (.goto 14, 3) := dk_167 (a := 0) (b := 14) (by decide +kernel) (by decide +kernel)
theorem dX0_compares_40 : decode cX0_compares 40 = .ok (.lload_n 0, 1) := dk_30 (by decide +kernel)
theorem dX0_compares_41 : decode cX0_compares 41 = .ok (.lload_n 3, 1) := dk_33 (by decide +kernel)
theorem dX0_compares_42 : decode cX0_compares 42 = .ok (.lcmp, 1) := dk_148 (by decide +kernel)
theorem dX0_compares_43 : decode cX0_compares 43 = .ok (.ifCond .ne 7, 3) := dk_154 (a := 0) (b := 7) (by decide +kernel) (by decide +kernel)
theorem dX0_compares_46 : decode cX0_compares 46 = .ok (.iconst 1, 1) := dk_4 (by decide +kernel)
theorem dX0_compares_47 : decode cX0_compares 47 = .ok (.goto 4, 3) := dk_167 (a := 0) (b := 4) (by decide +kernel) (by decide +kernel)
theorem dX0_compares_50 : decode cX0_compares 50 = .ok (.iconst 0, 1) := dk_3 (by decide +kernel)
theorem dX0_compares_51 : decode cX0_compares 51 = .ok (.ireturn, 1) := dk_172 (by decide +kernel)
theorem dX0_partOf_0 : decode cX0_partOf 0 = .ok (.iload_n 1, 1) := dk_27 (by decide +kernel)
theorem dX0_partOf_1 : decode cX0_partOf 1 = .ok (.sipush 1000, 3) := dk_17 (a := 3) (b := 232) (by decide +kernel) (by decide +kernel)
theorem dX0_partOf_4 : decode cX0_partOf 4 = .ok (.if_icmp .ge 5, 3) := dk_162 (a := 0) (b := 5) (by decide +kernel) (by decide +kernel)
theorem dX0_partOf_7 : decode cX0_partOf 7 = .ok (.iload_n 1, 1) := dk_27 (by decide +kernel)
theorem dX0_partOf_8 : decode cX0_partOf 8 = .ok (.ireturn, 1) := dk_172 (by decide +kernel)
theorem dX0_partOf_9 : decode cX0_partOf 9 = .ok (.iload_n 1, 1) := dk_27 (by decide +kernel)
theorem dX0_partOf_10 : decode cX0_partOf 10 = .ok (.sipush 1000, 3) := dk_17 (a := 3) (b := 232) (by decide +kernel) (by decide +kernel)
theorem dX0_partOf_13 : decode cX0_partOf 13 = .ok (.isub, 1) := dk_100 (by decide +kernel)
theorem dX0_partOf_14 : decode cX0_partOf 14 = .ok (.iconst 5, 1) := dk_8 (by decide +kernel)
theorem dX0_partOf_15 : decode cX0_partOf 15 = .ok (.if_icmp .ge 16, 3) := dk_162 (a := 0) (b := 16) (by decide +kernel) (by decide +kernel)
theorem dX0_partOf_18 : decode cX0_partOf 18 = .ok (.aload_n 0, 1) := dk_42 (by decide +kernel)
theorem dX0_partOf_19 : decode cX0_partOf 19 = .ok (.getfield 30, 3) := dk_180 (a := 0) (b := 30) (by decide +kernel) rfl
theorem dX0_partOf_22 : decode cX0_partOf 22 = .ok (.iload_n 1, 1) := dk_27 (by decide +kernel)
theorem dX0_partOf_23 : decode cX0_partOf 23 = .ok (.sipush 1000, 3) := dk_17 (a := 3) (b := 232) (by decide +kernel) (by decide +kernel)
theorem dX0_partOf_26 : decode cX0_partOf 26 = .ok (.isub, 1) := dk_100 (by decide +kernel)
theorem dX0_partOf_27 : decode cX0_partOf 27 = .ok (.iaload, 1) := dk_46 (by decide +kernel)
theorem dX0_partOf_28 : decode cX0_partOf 28 = .ok (.goto 4, 3) := dk_167 (a := 0) (b := 4) (by decide +kernel) (by decide +kernel)
theorem dX0_partOf_31 : decode cX0_partOf 31 = .ok (.iconst 0, 1) := dk_3 (by decide +kernel)
theorem dX0_partOf_32 : decode cX0_partOf 32 = .ok (.ireturn, 1) := dk_172 (by decide +kernel)
theorem dX0_bounded_0 : decode cX0_bounded 0 = .ok (.lload_n 1, 1) := dk_31 (by decide +kernel)
theorem dX0_bounded_1 : decode cX0_bounded 1 = .ok (.ldc2_w 72, 3) := dk_20 (a := 0) (b := 72) (by decide +kernel) rfl
theorem dX0_bounded_4 : decode cX0_bounded 4 = .ok (.lcmp, 1) := dk_148 (by decide +kernel)
theorem dX0_bounded_5 : decode cX0_bounded 5 = .ok (.ifCond .gt 11, 3) := dk_157 (a := 0) (b := 11) (by decide +kernel) (by decide +kernel)
theorem dX0_bounded_8 : decode cX0_bounded 8 = .ok (.lload_n 1, 1) := dk_31 (by decide +kernel)
theorem dX0_bounded_9 : decode cX0_bounded 9 = .ok (.ldc2_w 74, 3) := dk_20 (a := 0) (b := 74) (by decide +kernel) rfl
theorem dX0_bounded_12 : decode cX0_bounded 12 = .ok (.lcmp, 1) := dk_148 (by decide +kernel)
theorem dX0_bounded_13 : decode cX0_bounded 13 = .ok (.ifCond .ge 10, 3) := dk_156 (a := 0) (b := 10) (by decide +kernel) (by decide +kernel)
theorem dX0_bounded_16 : decode cX0_bounded 16 = .ok (.aload_n 0, 1) := dk_42 (by decide +kernel)
theorem dX0_bounded_17 : decode cX0_bounded 17 = .ok (.iconst 1, 1) := dk_4 (by decide +kernel)
theorem dX0_bounded_18 : decode cX0_bounded 18 = .ok (.putfield 56, 3) := dk_181 (a := 0) (b := 56) (by decide +kernel) rfl
theorem dX0_bounded_21 : decode cX0_bounded 21 = .ok (.lconst 0, 1) := dk_9 (by decide +kernel)
theorem dX0_bounded_22 : decode cX0_bounded 22 = .ok (.lreturn, 1) := dk_173 (by decide +kernel)
theorem dX0_bounded_23 : decode cX0_bounded 23 = .ok (.lload_n 1, 1) := dk_31 (by decide +kernel)
theorem dX0_bounded_24 : decode cX0_bounded 24 = .ok (.lreturn, 1) := dk_173 (by decide +kernel)
theorem dX1_init_0 : decode cX1_init 0 = .ok (.aload_n 0, 1) := dk_42 (by decide +kernel)
theorem dX1_init_1 : decode cX1_init 1 = .ok (.invokespecial 3, 3) := dk_183 (a := 0) (b := 3) (by decide +kernel) rfl
theorem dX1_init_4 : decode cX1_init 4 = .ok (.aload_n 0, 1) := dk_42 (by decide +kernel)
theorem dX1_init_5 : decode cX1_init 5 = .ok (.sipush 600, 3) := dk_17 (a := 2) (b := 88) (by decide +kernel) (by decide +kernel)
theorem dX1_init_8 : decode cX1_init 8 = .ok (.newarray .int, 2) := dk_188_10 (by decide +kernel)
theorem dX1_init_10 : decode cX1_init 10 = .ok (.putfield 9, 3) := dk_181 (a := 0) (b := 9) (by decide +kernel) rfl
theorem dX1_init_13 : decode cX1_init 13 = .ok (.aload_n 0, 1) := dk_42 (by decide +kernel)
theorem dX1_init_14 : decode cX1_init 14 = .ok (.sipush 600, 3) := dk_17 (a := 2) (b := 88) (by decide +kernel) (by decide +kernel)
theorem dX1_init_17 : decode cX1_init 17 = .ok (.newarray .int, 2) := dk_188_10 (by decide +kernel)
theorem dX1_init_19 : decode cX1_init 19 = .ok (.putfield 15, 3) := dk_181 (a := 0) (b := 15) (by decide +kernel) rfl
theorem dX1_init_22 : decode cX1_init 22 = .ok (.aload_n 0, 1) := dk_42 (by decide +kernel)
theorem dX1_init_23 : decode cX1_init 23 = .ok (.sipush 600, 3) := dk_17 (a := 2) (b := 88) (by decide +kernel) (by decide +kernel)
theorem dX1_init_26 : decode cX1_init 26 = .ok (.newarray .int, 2) := dk_188_10 (by decide +kernel)
theorem dX1_init_28 : decode cX1_init 28 = .ok (.putfield 18, 3) := dk_181 (a := 0) (b := 18) (by decide +kernel) rfl
theorem dX1_init_31 : decode cX1_init 31 = .ok (.aload_n 0, 1) := dk_42 (by decide +kernel)
theorem dX1_init_32 : decode cX1_init 32 = .ok (.sipush 600, 3) := dk_17 (a := 2) (b := 88) (by decide +kernel) (by decide +kernel)
theorem dX1_init_35 : decode cX1_init 35 = .ok (.newarray .int, 2) := dk_188_10 (by decide +kernel)
theorem dX1_init_37 : decode cX1_init 37 = .ok (.putfield 21, 3) := dk_181 (a := 0) (b := 21) (by decide +kernel) rfl
theorem dX1_init_40 : decode cX1_init 40 = .ok (.aload_n 0, 1) := dk_42 (by decide +kernel)
theorem dX1_init_41 : decode cX1_init 41 = .ok (.sipush 600, 3) := dk_17 (a := 2) (b := 88) (by decide +kernel) (by decide +kernel)
theorem dX1_init_44 : decode cX1_init 44 = .ok (.newarray .int, 2) := dk_188_10 (by decide +kernel)
theorem dX1_init_46 : decode cX1_init 46 = .ok (.putfield 24, 3) := dk_181 (a := 0) (b := 24) (by decide +kernel) rfl
theorem dX1_init_49 : decode cX1_init 49 = .ok (.aload_n 0, 1) := dk_42 (by decide +kernel)
theorem dX1_init_50 : decode cX1_init 50 = .ok (.bipush 16, 2) := dk_16 (a := 16) (by decide +kernel) (by decide +kernel)
theorem dX1_init_52 : decode cX1_init 52 = .ok (.newarray .int, 2) := dk_188_10 (by decide +kernel)
theorem dX1_init_54 : decode cX1_init 54 = .ok (.putfield 27, 3) := dk_181 (a := 0) (b := 27) (by decide +kernel) rfl
theorem dX1_init_57 : decode cX1_init 57 = .ok (.aload_n 0, 1) := dk_42 (by decide +kernel)
theorem dX1_init_58 : decode cX1_init 58 = .ok (.sipush 256, 3) := dk_17 (a := 1) (b := 0) (by decide +kernel) (by decide +kernel)
theorem dX1_init_61 : decode cX1_init 61 = .ok (.newarray .int, 2) := dk_188_10 (by decide +kernel)
theorem dX1_init_63 : decode cX1_init 63 = .ok (.putfield 30, 3) := dk_181 (a := 0) (b := 30) (by decide +kernel) rfl
theorem dX1_init_66 : decode cX1_init 66 = .ok (.return_, 1) := dk_177 (by decide +kernel)
theorem dX1_clear_0 : decode cX1_clear 0 = .ok (.aload_n 0, 1) := dk_42 (by decide +kernel)
theorem dX1_clear_1 : decode cX1_clear 1 = .ok (.iconst 0, 1) := dk_3 (by decide +kernel)
theorem dX1_clear_2 : decode cX1_clear 2 = .ok (.putfield 33, 3) := dk_181 (a := 0) (b := 33) (by decide +kernel) rfl
theorem dX1_clear_5 : decode cX1_clear 5 = .ok (.aload_n 0, 1) := dk_42 (by decide +kernel)
theorem dX1_clear_6 : decode cX1_clear 6 = .ok (.getfield 27, 3) := dk_180 (a := 0) (b := 27) (by decide +kernel) rfl
theorem dX1_clear_9 : decode cX1_clear 9 = .ok (.iconst 0, 1) := dk_3 (by decide +kernel)
theorem dX1_clear_10 : decode cX1_clear 10 = .ok (.invokestatic 37, 3) := dk_184 (a := 0) (b := 37) (by decide +kernel) rfl
theorem dX1_clear_13 : decode cX1_clear 13 = .ok (.aload_n 0, 1) := dk_42 (by decide +kernel)
theorem dX1_clear_14 : decode cX1_clear 14 = .ok (.getfield 30, 3) := dk_180 (a := 0) (b := 30) (by decide +kernel) rfl
theorem dX1_clear_17 : decode cX1_clear 17 = .ok (.iconst 0, 1) := dk_3 (by decide +kernel)
theorem dX1_clear_18 : decode cX1_clear 18 = .ok (.invokestatic 37, 3) := dk_184 (a := 0) (b := 37) (by decide +kernel) rfl
theorem dX1_clear_21 : decode cX1_clear 21 = .ok (.return_, 1) := dk_177 (by decide +kernel)
theorem dX1_copy_0 : decode cX1_copy 0 = .ok (.aload_n 0, 1) := dk_42 (by decide +kernel)
theorem dX1_copy_1 : decode cX1_copy 1 = .ok (.aload_n 1, 1) := dk_43 (by decide +kernel)
theorem dX1_copy_2 : decode cX1_copy 2 = .ok (.getfield 33, 3) := dk_180 (a := 0) (b := 33) (by decide +kernel) rfl
theorem dX1_copy_5 : decode cX1_copy 5 = .ok (.putfield 33, 3) := dk_181 (a := 0) (b := 33) (by decide +kernel) rfl
theorem dX1_copy_8 : decode cX1_copy 8 = .ok (.aload_n 1, 1) := dk_43 (by decide +kernel)
theorem dX1_copy_9 : decode cX1_copy 9 = .ok (.getfield 9, 3) := dk_180 (a := 0) (b := 9) (by decide +kernel) rfl
theorem dX1_copy_12 : decode cX1_copy 12 = .ok (.iconst 0, 1) := dk_3 (by decide +kernel)
theorem dX1_copy_13 : decode cX1_copy 13 = .ok (.aload_n 0, 1) := dk_42 (by decide +kernel)
theorem dX1_copy_14 : decode cX1_copy 14 = .ok (.getfield 9, 3) := dk_180 (a := 0) (b := 9) (by decide +kernel) rfl
theorem dX1_copy_17 : decode cX1_copy 17 = .ok (.iconst 0, 1) := dk_3 (by decide +kernel)
theorem dX1_copy_18 : decode cX1_copy 18 = .ok (.aload_n 0, 1) := dk_42 (by decide +kernel)
theorem dX1_copy_19 : decode cX1_copy 19 = .ok (.getfield 33, 3) := dk_180 (a := 0) (b := 33) (by decide +kernel) rfl
theorem dX1_copy_22 : decode cX1_copy 22 = .ok (.invokestatic 43, 3) := dk_184 (a := 0) (b := 43) (by decide +kernel) rfl
theorem dX1_copy_25 : decode cX1_copy 25 = .ok (.aload_n 1, 1) := dk_43 (by decide +kernel)
theorem dX1_copy_26 : decode cX1_copy 26 = .ok (.getfield 15, 3) := dk_180 (a := 0) (b := 15) (by decide +kernel) rfl
theorem dX1_copy_29 : decode cX1_copy 29 = .ok (.iconst 0, 1) := dk_3 (by decide +kernel)
theorem dX1_copy_30 : decode cX1_copy 30 = .ok (.aload_n 0, 1) := dk_42 (by decide +kernel)
theorem dX1_copy_31 : decode cX1_copy 31 = .ok (.getfield 15, 3) := dk_180 (a := 0) (b := 15) (by decide +kernel) rfl
theorem dX1_copy_34 : decode cX1_copy 34 = .ok (.iconst 0, 1) := dk_3 (by decide +kernel)
theorem dX1_copy_35 : decode cX1_copy 35 = .ok (.aload_n 0, 1) := dk_42 (by decide +kernel)
theorem dX1_copy_36 : decode cX1_copy 36 = .ok (.getfield 33, 3) := dk_180 (a := 0) (b := 33) (by decide +kernel) rfl
theorem dX1_copy_39 : decode cX1_copy 39 = .ok (.invokestatic 43, 3) := dk_184 (a := 0) (b := 43) (by decide +kernel) rfl
theorem dX1_copy_42 : decode cX1_copy 42 = .ok (.aload_n 1, 1) := dk_43 (by decide +kernel)
theorem dX1_copy_43 : decode cX1_copy 43 = .ok (.getfield 18, 3) := dk_180 (a := 0) (b := 18) (by decide +kernel) rfl
theorem dX1_copy_46 : decode cX1_copy 46 = .ok (.iconst 0, 1) := dk_3 (by decide +kernel)
theorem dX1_copy_47 : decode cX1_copy 47 = .ok (.aload_n 0, 1) := dk_42 (by decide +kernel)
theorem dX1_copy_48 : decode cX1_copy 48 = .ok (.getfield 18, 3) := dk_180 (a := 0) (b := 18) (by decide +kernel) rfl
theorem dX1_copy_51 : decode cX1_copy 51 = .ok (.iconst 0, 1) := dk_3 (by decide +kernel)
theorem dX1_copy_52 : decode cX1_copy 52 = .ok (.aload_n 0, 1) := dk_42 (by decide +kernel)
theorem dX1_copy_53 : decode cX1_copy 53 = .ok (.getfield 33, 3) := dk_180 (a := 0) (b := 33) (by decide +kernel) rfl
theorem dX1_copy_56 : decode cX1_copy 56 = .ok (.invokestatic 43, 3) := dk_184 (a := 0) (b := 43) (by decide +kernel) rfl
theorem dX1_copy_59 : decode cX1_copy 59 = .ok (.aload_n 1, 1) := dk_43 (by decide +kernel)
theorem dX1_copy_60 : decode cX1_copy 60 = .ok (.getfield 21, 3) := dk_180 (a := 0) (b := 21) (by decide +kernel) rfl
theorem dX1_copy_63 : decode cX1_copy 63 = .ok (.iconst 0, 1) := dk_3 (by decide +kernel)
theorem dX1_copy_64 : decode cX1_copy 64 = .ok (.aload_n 0, 1) := dk_42 (by decide +kernel)
theorem dX1_copy_65 : decode cX1_copy 65 = .ok (.getfield 21, 3) := dk_180 (a := 0) (b := 21) (by decide +kernel) rfl
theorem dX1_copy_68 : decode cX1_copy 68 = .ok (.iconst 0, 1) := dk_3 (by decide +kernel)
theorem dX1_copy_69 : decode cX1_copy 69 = .ok (.aload_n 0, 1) := dk_42 (by decide +kernel)
theorem dX1_copy_70 : decode cX1_copy 70 = .ok (.getfield 33, 3) := dk_180 (a := 0) (b := 33) (by decide +kernel) rfl
theorem dX1_copy_73 : decode cX1_copy 73 = .ok (.invokestatic 43, 3) := dk_184 (a := 0) (b := 43) (by decide +kernel) rfl
theorem dX1_copy_76 : decode cX1_copy 76 = .ok (.aload_n 1, 1) := dk_43 (by decide +kernel)
theorem dX1_copy_77 : decode cX1_copy 77 = .ok (.getfield 24, 3) := dk_180 (a := 0) (b := 24) (by decide +kernel) rfl
theorem dX1_copy_80 : decode cX1_copy 80 = .ok (.iconst 0, 1) := dk_3 (by decide +kernel)
theorem dX1_copy_81 : decode cX1_copy 81 = .ok (.aload_n 0, 1) := dk_42 (by decide +kernel)
theorem dX1_copy_82 : decode cX1_copy 82 = .ok (.getfield 24, 3) := dk_180 (a := 0) (b := 24) (by decide +kernel) rfl
theorem dX1_copy_85 : decode cX1_copy 85 = .ok (.iconst 0, 1) := dk_3 (by decide +kernel)
theorem dX1_copy_86 : decode cX1_copy 86 = .ok (.aload_n 0, 1) := dk_42 (by decide +kernel)
theorem dX1_copy_87 : decode cX1_copy 87 = .ok (.getfield 33, 3) := dk_180 (a := 0) (b := 33) (by decide +kernel) rfl
theorem dX1_copy_90 : decode cX1_copy 90 = .ok (.invokestatic 43, 3) := dk_184 (a := 0) (b := 43) (by decide +kernel) rfl
theorem dX1_copy_93 : decode cX1_copy 93 = .ok (.aload_n 1, 1) := dk_43 (by decide +kernel)
theorem dX1_copy_94 : decode cX1_copy 94 = .ok (.getfield 27, 3) := dk_180 (a := 0) (b := 27) (by decide +kernel) rfl
theorem dX1_copy_97 : decode cX1_copy 97 = .ok (.iconst 0, 1) := dk_3 (by decide +kernel)
theorem dX1_copy_98 : decode cX1_copy 98 = .ok (.aload_n 0, 1) := dk_42 (by decide +kernel)
theorem dX1_copy_99 : decode cX1_copy 99 = .ok (.getfield 27, 3) := dk_180 (a := 0) (b := 27) (by decide +kernel) rfl
theorem dX1_copy_102 : decode cX1_copy 102 = .ok (.iconst 0, 1) := dk_3 (by decide +kernel)
theorem dX1_copy_103 : decode cX1_copy 103 = .ok (.aload_n 0, 1) := dk_42 (by decide +kernel)
theorem dX1_copy_104 : decode cX1_copy 104 = .ok (.getfield 27, 3) := dk_180 (a := 0) (b := 27) (by decide +kernel) rfl
theorem dX1_copy_107 : decode cX1_copy 107 = .ok (.arraylength, 1) := dk_190 (by decide +kernel)
theorem dX1_copy_108 : decode cX1_copy 108 = .ok (.invokestatic 43, 3) := dk_184 (a := 0) (b := 43) (by decide +kernel) rfl
theorem dX1_copy_111 : decode cX1_copy 111 = .ok (.aload_n 1, 1) := dk_43 (by decide +kernel)
theorem dX1_copy_112 : decode cX1_copy 112 = .ok (.getfield 30, 3) := dk_180 (a := 0) (b := 30) (by decide +kernel) rfl
theorem dX1_copy_115 : decode cX1_copy 115 = .ok (.iconst 0, 1) := dk_3 (by decide +kernel)
theorem dX1_copy_116 : decode cX1_copy 116 = .ok (.aload_n 0, 1) := dk_42 (by decide +kernel)
theorem dX1_copy_117 : decode cX1_copy 117 = .ok (.getfield 30, 3) := dk_180 (a := 0) (b := 30) (by decide +kernel) rfl
theorem dX1_copy_120 : decode cX1_copy 120 = .ok (.iconst 0, 1) := dk_3 (by decide +kernel)
theorem dX1_copy_121 : decode cX1_copy 121 = .ok (.aload_n 0, 1) := dk_42 (by decide +kernel)
theorem dX1_copy_122 : decode cX1_copy 122 = .ok (.getfield 30, 3) := dk_180 (a := 0) (b := 30) (by decide +kernel) rfl
theorem dX1_copy_125 : decode cX1_copy 125 = .ok (.arraylength, 1) := dk_190 (by decide +kernel)
theorem dX1_copy_126 : decode cX1_copy 126 = .ok (.invokestatic 43, 3) := dk_184 (a := 0) (b := 43) (by decide +kernel) rfl
theorem dX1_copy_129 : decode cX1_copy 129 = .ok (.return_, 1) := dk_177 (by decide +kernel)
theorem dX1_kindsOf_0 : decode cX1_kindsOf 0 = .ok (.aload_n 0, 1) := dk_42 (by decide +kernel)
theorem dX1_kindsOf_1 : decode cX1_kindsOf 1 = .ok (.getfield 30, 3) := dk_180 (a := 0) (b := 30) (by decide +kernel) rfl
theorem dX1_kindsOf_4 : decode cX1_kindsOf 4 = .ok (.iload_n 1, 1) := dk_27 (by decide +kernel)
theorem dX1_kindsOf_5 : decode cX1_kindsOf 5 = .ok (.bipush 16, 2) := dk_16 (a := 16) (by decide +kernel) (by decide +kernel)
theorem dX1_kindsOf_7 : decode cX1_kindsOf 7 = .ok (.imul, 1) := dk_104 (by decide +kernel)
theorem dX1_kindsOf_8 : decode cX1_kindsOf 8 = .ok (.iload_n 2, 1) := dk_28 (by decide +kernel)
theorem dX1_kindsOf_9 : decode cX1_kindsOf 9 = .ok (.iadd, 1) := dk_96 (by decide +kernel)
theorem dX1_kindsOf_10 : decode cX1_kindsOf 10 = .ok (.iaload, 1) := dk_46 (by decide +kernel)
theorem dX1_kindsOf_11 : decode cX1_kindsOf 11 = .ok (.ireturn, 1) := dk_172 (by decide +kernel)
theorem dX1_add_0 : decode cX1_add 0 = .ok (.aload_n 0, 1) := dk_42 (by decide +kernel)
theorem dX1_add_1 : decode cX1_add 1 = .ok (.getfield 33, 3) := dk_180 (a := 0) (b := 33) (by decide +kernel) rfl
theorem dX1_add_4 : decode cX1_add 4 = .ok (.sipush 600, 3) := dk_17 (a := 2) (b := 88) (by decide +kernel) (by decide +kernel)
theorem dX1_add_7 : decode cX1_add 7 = .ok (.if_icmp .lt 4, 3) := dk_161 (a := 0) (b := 4) (by decide +kernel) (by decide +kernel)
theorem dX1_add_10 : decode cX1_add 10 = .ok (.return_, 1) := dk_177 (by decide +kernel)
theorem dX1_add_11 : decode cX1_add 11 = .ok (.aload_n 0, 1) := dk_42 (by decide +kernel)
theorem dX1_add_12 : decode cX1_add 12 = .ok (.getfield 9, 3) := dk_180 (a := 0) (b := 9) (by decide +kernel) rfl
theorem dX1_add_15 : decode cX1_add 15 = .ok (.aload_n 0, 1) := dk_42 (by decide +kernel)
theorem dX1_add_16 : decode cX1_add 16 = .ok (.getfield 33, 3) := dk_180 (a := 0) (b := 33) (by decide +kernel) rfl
theorem dX1_add_19 : decode cX1_add 19 = .ok (.iload_n 1, 1) := dk_27 (by decide +kernel)
theorem dX1_add_20 : decode cX1_add 20 = .ok (.iastore, 1) := dk_79 (by decide +kernel)
theorem dX1_add_21 : decode cX1_add 21 = .ok (.aload_n 0, 1) := dk_42 (by decide +kernel)
theorem dX1_add_22 : decode cX1_add 22 = .ok (.getfield 15, 3) := dk_180 (a := 0) (b := 15) (by decide +kernel) rfl
theorem dX1_add_25 : decode cX1_add 25 = .ok (.aload_n 0, 1) := dk_42 (by decide +kernel)
theorem dX1_add_26 : decode cX1_add 26 = .ok (.getfield 33, 3) := dk_180 (a := 0) (b := 33) (by decide +kernel) rfl
theorem dX1_add_29 : decode cX1_add 29 = .ok (.iload_n 2, 1) := dk_28 (by decide +kernel)
theorem dX1_add_30 : decode cX1_add 30 = .ok (.iastore, 1) := dk_79 (by decide +kernel)
theorem dX1_add_31 : decode cX1_add 31 = .ok (.aload_n 0, 1) := dk_42 (by decide +kernel)
theorem dX1_add_32 : decode cX1_add 32 = .ok (.getfield 18, 3) := dk_180 (a := 0) (b := 18) (by decide +kernel) rfl
theorem dX1_add_35 : decode cX1_add 35 = .ok (.aload_n 0, 1) := dk_42 (by decide +kernel)
theorem dX1_add_36 : decode cX1_add 36 = .ok (.getfield 33, 3) := dk_180 (a := 0) (b := 33) (by decide +kernel) rfl
theorem dX1_add_39 : decode cX1_add 39 = .ok (.iload_n 3, 1) := dk_29 (by decide +kernel)
theorem dX1_add_40 : decode cX1_add 40 = .ok (.iastore, 1) := dk_79 (by decide +kernel)
theorem dX1_add_41 : decode cX1_add 41 = .ok (.aload_n 0, 1) := dk_42 (by decide +kernel)
theorem dX1_add_42 : decode cX1_add 42 = .ok (.getfield 21, 3) := dk_180 (a := 0) (b := 21) (by decide +kernel) rfl
theorem dX1_add_45 : decode cX1_add 45 = .ok (.aload_n 0, 1) := dk_42 (by decide +kernel)
theorem dX1_add_46 : decode cX1_add 46 = .ok (.getfield 33, 3) := dk_180 (a := 0) (b := 33) (by decide +kernel) rfl
theorem dX1_add_49 : decode cX1_add 49 = .ok (.iload 4, 2) := dk_21 (a := 4) (by decide +kernel)
theorem dX1_add_51 : decode cX1_add 51 = .ok (.iastore, 1) := dk_79 (by decide +kernel)
theorem dX1_add_52 : decode cX1_add 52 = .ok (.aload_n 0, 1) := dk_42 (by decide +kernel)
theorem dX1_add_53 : decode cX1_add 53 = .ok (.getfield 24, 3) := dk_180 (a := 0) (b := 24) (by decide +kernel) rfl
theorem dX1_add_56 : decode cX1_add 56 = .ok (.aload_n 0, 1) := dk_42 (by decide +kernel)
theorem dX1_add_57 : decode cX1_add 57 = .ok (.getfield 33, 3) := dk_180 (a := 0) (b := 33) (by decide +kernel) rfl
theorem dX1_add_60 : decode cX1_add 60 = .ok (.iload 5, 2) := dk_21 (a := 5) (by decide +kernel)
theorem dX1_add_62 : decode cX1_add 62 = .ok (.iastore, 1) := dk_79 (by decide +kernel)
theorem dX1_add_63 : decode cX1_add 63 = .ok (.aload_n 0, 1) := dk_42 (by decide +kernel)
theorem dX1_add_64 : decode cX1_add 64 = .ok (.dup, 1) := dk_89 (by decide +kernel)
theorem dX1_add_65 : decode cX1_add 65 = .ok (.getfield 33, 3) := dk_180 (a := 0) (b := 33) (by decide +kernel) rfl
theorem dX1_add_68 : decode cX1_add 68 = .ok (.iconst 1, 1) := dk_4 (by decide +kernel)
theorem dX1_add_69 : decode cX1_add 69 = .ok (.iadd, 1) := dk_96 (by decide +kernel)
theorem dX1_add_70 : decode cX1_add 70 = .ok (.putfield 33, 3) := dk_181 (a := 0) (b := 33) (by decide +kernel) rfl
theorem dX1_add_73 : decode cX1_add 73 = .ok (.aload_n 0, 1) := dk_42 (by decide +kernel)
theorem dX1_add_74 : decode cX1_add 74 = .ok (.getfield 27, 3) := dk_180 (a := 0) (b := 27) (by decide +kernel) rfl
theorem dX1_add_77 : decode cX1_add 77 = .ok (.iload_n 1, 1) := dk_27 (by decide +kernel)
theorem dX1_add_78 : decode cX1_add 78 = .ok (.dup2, 1) := dk_92 (by decide +kernel)
theorem dX1_add_79 : decode cX1_add 79 = .ok (.iaload, 1) := dk_46 (by decide +kernel)
theorem dX1_add_80 : decode cX1_add 80 = .ok (.iconst 1, 1) := dk_4 (by decide +kernel)
theorem dX1_add_81 : decode cX1_add 81 = .ok (.iadd, 1) := dk_96 (by decide +kernel)
theorem dX1_add_82 : decode cX1_add 82 = .ok (.iastore, 1) := dk_79 (by decide +kernel)
theorem dX1_add_83 : decode cX1_add 83 = .ok (.aload_n 0, 1) := dk_42 (by decide +kernel)
theorem dX1_add_84 : decode cX1_add 84 = .ok (.getfield 30, 3) := dk_180 (a := 0) (b := 30) (by decide +kernel) rfl
theorem dX1_add_87 : decode cX1_add 87 = .ok (.iload_n 1, 1) := dk_27 (by decide +kernel)
theorem dX1_add_88 : decode cX1_add 88 = .ok (.bipush 16, 2) := dk_16 (a := 16) (by decide +kernel) (by decide +kernel)
theorem dX1_add_90 : decode cX1_add 90 = .ok (.imul, 1) := dk_104 (by decide +kernel)
theorem dX1_add_91 : decode cX1_add 91 = .ok (.iload_n 2, 1) := dk_28 (by decide +kernel)
theorem dX1_add_92 : decode cX1_add 92 = .ok (.iadd, 1) := dk_96 (by decide +kernel)
theorem dX1_add_93 : decode cX1_add 93 = .ok (.dup2, 1) := dk_92 (by decide +kernel)
theorem dX1_add_94 : decode cX1_add 94 = .ok (.iaload, 1) := dk_46 (by decide +kernel)
theorem dX1_add_95 : decode cX1_add 95 = .ok (.iconst 1, 1) := dk_4 (by decide +kernel)
theorem dX1_add_96 : decode cX1_add 96 = .ok (.iload_n 3, 1) := dk_29 (by decide +kernel)
theorem dX1_add_97 : decode cX1_add 97 = .ok (.ishl, 1) := dk_120 (by decide +kernel)
theorem dX1_add_98 : decode cX1_add 98 = .ok (.ior, 1) := dk_128 (by decide +kernel)
theorem dX1_add_99 : decode cX1_add 99 = .ok (.iastore, 1) := dk_79 (by decide +kernel)
theorem dX1_add_100 : decode cX1_add 100 = .ok (.return_, 1) := dk_177 (by decide +kernel)
theorem dX1_settle_0 : decode cX1_settle 0 = .ok (.aload_n 0, 1) := dk_42 (by decide +kernel)
theorem dX1_settle_1 : decode cX1_settle 1 = .ok (.iload_n 1, 1) := dk_27 (by decide +kernel)
theorem dX1_settle_2 : decode cX1_settle 2 = .ok (.iload_n 2, 1) := dk_28 (by decide +kernel)
theorem dX1_settle_3 : decode cX1_settle 3 = .ok (.invokevirtual 49, 3) := dk_182 (a := 0) (b := 49) (by decide +kernel) rfl
theorem dX1_settle_6 : decode cX1_settle 6 = .ok (.iconst 2, 1) := dk_5 (by decide +kernel)
theorem dX1_settle_7 : decode cX1_settle 7 = .ok (.iload_n 3, 1) := dk_29 (by decide +kernel)
theorem dX1_settle_8 : decode cX1_settle 8 = .ok (.ishl, 1) := dk_120 (by decide +kernel)
theorem dX1_settle_9 : decode cX1_settle 9 = .ok (.iconst 1, 1) := dk_4 (by decide +kernel)
theorem dX1_settle_10 : decode cX1_settle 10 = .ok (.isub, 1) := dk_100 (by decide +kernel)
theorem dX1_settle_11 : decode cX1_settle 11 = .ok (.iand, 1) := dk_126 (by decide +kernel)
theorem dX1_settle_12 : decode cX1_settle 12 = .ok (.istore 4, 2) := dk_54 (a := 4) (by decide +kernel)
theorem dX1_settle_14 : decode cX1_settle 14 = .ok (.iload 4, 2) := dk_21 (a := 4) (by decide +kernel)
theorem dX1_settle_16 : decode cX1_settle 16 = .ok (.ifCond .ne 5, 3) := dk_154 (a := 0) (b := 5) (by decide +kernel) (by decide +kernel)
theorem dX1_settle_19 : decode cX1_settle 19 = .ok (.iconst 0, 1) := dk_3 (by decide +kernel)
theorem dX1_settle_20 : decode cX1_settle 20 = .ok (.ireturn, 1) := dk_172 (by decide +kernel)
theorem dX1_settle_21 : decode cX1_settle 21 = .ok (.iconst 0, 1) := dk_3 (by decide +kernel)
theorem dX1_settle_22 : decode cX1_settle 22 = .ok (.istore 5, 2) := dk_54 (a := 5) (by decide +kernel)
theorem dX1_settle_24 : decode cX1_settle 24 = .ok (.iconst 0, 1) := dk_3 (by decide +kernel)
theorem dX1_settle_25 : decode cX1_settle 25 = .ok (.istore 6, 2) := dk_54 (a := 6) (by decide +kernel)
theorem dX1_settle_27 : decode cX1_settle 27 = .ok (.iload 6, 2) := dk_21 (a := 6) (by decide +kernel)
theorem dX1_settle_29 : decode cX1_settle 29 = .ok (.aload_n 0, 1) := dk_42 (by decide +kernel)
theorem dX1_settle_30 : decode cX1_settle 30 = .ok (.getfield 33, 3) := dk_180 (a := 0) (b := 33) (by decide +kernel) rfl
theorem dX1_settle_33 : decode cX1_settle 33 = .ok (.if_icmp .ge 53, 3) := dk_162 (a := 0) (b := 53) (by decide +kernel) (by decide +kernel)
theorem dX1_settle_36 : decode cX1_settle 36 = .ok (.aload_n 0, 1) := dk_42 (by decide +kernel)
theorem dX1_settle_37 : decode cX1_settle 37 = .ok (.getfield 9, 3) := dk_180 (a := 0) (b := 9) (by decide +kernel) rfl
theorem dX1_settle_40 : decode cX1_settle 40 = .ok (.iload 6, 2) := dk_21 (a := 6) (by decide +kernel)
theorem dX1_settle_42 : decode cX1_settle 42 = .ok (.iaload, 1) := dk_46 (by decide +kernel)
theorem dX1_settle_43 : decode cX1_settle 43 = .ok (.iload_n 1, 1) := dk_27 (by decide +kernel)
theorem dX1_settle_44 : decode cX1_settle 44 = .ok (.if_icmp .ne 25, 3) := dk_160 (a := 0) (b := 25) (by decide +kernel) (by decide +kernel)
theorem dX1_settle_47 : decode cX1_settle 47 = .ok (.aload_n 0, 1) := dk_42 (by decide +kernel)
theorem dX1_settle_48 : decode cX1_settle 48 = .ok (.getfield 15, 3) := dk_180 (a := 0) (b := 15) (by decide +kernel) rfl
theorem dX1_settle_51 : decode cX1_settle 51 = .ok (.iload 6, 2) := dk_21 (a := 6) (by decide +kernel)
theorem dX1_settle_53 : decode cX1_settle 53 = .ok (.iaload, 1) := dk_46 (by decide +kernel)
theorem dX1_settle_54 : decode cX1_settle 54 = .ok (.iload_n 2, 1) := dk_28 (by decide +kernel)
theorem dX1_settle_55 : decode cX1_settle 55 = .ok (.if_icmp .ne 14, 3) := dk_160 (a := 0) (b := 14) (by decide +kernel) (by decide +kernel)
theorem dX1_settle_58 : decode cX1_settle 58 = .ok (.aload_n 0, 1) := dk_42 (by decide +kernel)
theorem dX1_settle_59 : decode cX1_settle 59 = .ok (.getfield 18, 3) := dk_180 (a := 0) (b := 18) (by decide +kernel) rfl
theorem dX1_settle_62 : decode cX1_settle 62 = .ok (.iload 6, 2) := dk_21 (a := 6) (by decide +kernel)
theorem dX1_settle_64 : decode cX1_settle 64 = .ok (.iaload, 1) := dk_46 (by decide +kernel)
theorem dX1_settle_65 : decode cX1_settle 65 = .ok (.iload_n 3, 1) := dk_29 (by decide +kernel)
theorem dX1_settle_66 : decode cX1_settle 66 = .ok (.if_icmp .le 14, 3) := dk_164 (a := 0) (b := 14) (by decide +kernel) (by decide +kernel)
theorem dX1_settle_69 : decode cX1_settle 69 = .ok (.aload_n 0, 1) := dk_42 (by decide +kernel)
theorem dX1_settle_70 : decode cX1_settle 70 = .ok (.iload 6, 2) := dk_21 (a := 6) (by decide +kernel)
theorem dX1_settle_72 : decode cX1_settle 72 = .ok (.iload 5, 2) := dk_21 (a := 5) (by decide +kernel)
theorem dX1_settle_74 : decode cX1_settle 74 = .ok (.invokevirtual 53, 3) := dk_182 (a := 0) (b := 53) (by decide +kernel) rfl
theorem dX1_settle_77 : decode cX1_settle 77 = .ok (.iinc 5 1, 3) := dk_132 (a := 5) (b := 1) (by decide +kernel) (by decide +kernel)
theorem dX1_settle_80 : decode cX1_settle 80 = .ok (.iinc 6 1, 3) := dk_132 (a := 6) (b := 1) (by decide +kernel) (by decide +kernel)
theorem dX1_settle_83 : decode cX1_settle 83 = .ok (.goto (-56), 3) := dk_167 (a := 255) (b := 200) (by decide +kernel) (by decide +kernel)
theorem dX1_settle_86 : decode cX1_settle 86 = .ok (.aload_n 0, 1) := dk_42 (by decide +kernel)
theorem dX1_settle_87 : decode cX1_settle 87 = .ok (.getfield 33, 3) := dk_180 (a := 0) (b := 33) (by decide +kernel) rfl
theorem dX1_settle_90 : decode cX1_settle 90 = .ok (.iload 5, 2) := dk_21 (a := 5) (by decide +kernel)
theorem dX1_settle_92 : decode cX1_settle 92 = .ok (.isub, 1) := dk_100 (by decide +kernel)
theorem dX1_settle_93 : decode cX1_settle 93 = .ok (.istore 6, 2) := dk_54 (a := 6) (by decide +kernel)
theorem dX1_settle_95 : decode cX1_settle 95 = .ok (.aload_n 0, 1) := dk_42 (by decide +kernel)
theorem dX1_settle_96 : decode cX1_settle 96 = .ok (.iload 5, 2) := dk_21 (a := 5) (by decide +kernel)
theorem dX1_settle_98 : decode cX1_settle 98 = .ok (.putfield 33, 3) := dk_181 (a := 0) (b := 33) (by decide +kernel) rfl
theorem dX1_settle_101 : decode cX1_settle 101 = .ok (.aload_n 0, 1) := dk_42 (by decide +kernel)
theorem dX1_settle_102 : decode cX1_settle 102 = .ok (.getfield 27, 3) := dk_180 (a := 0) (b := 27) (by decide +kernel) rfl
theorem dX1_settle_105 : decode cX1_settle 105 = .ok (.iload_n 1, 1) := dk_27 (by decide +kernel)
theorem dX1_settle_106 : decode cX1_settle 106 = .ok (.dup2, 1) := dk_92 (by decide +kernel)
theorem dX1_settle_107 : decode cX1_settle 107 = .ok (.iaload, 1) := dk_46 (by decide +kernel)
theorem dX1_settle_108 : decode cX1_settle 108 = .ok (.iload 6, 2) := dk_21 (a := 6) (by decide +kernel)
theorem dX1_settle_110 : decode cX1_settle 110 = .ok (.isub, 1) := dk_100 (by decide +kernel)
theorem dX1_settle_111 : decode cX1_settle 111 = .ok (.iastore, 1) := dk_79 (by decide +kernel)
theorem dX1_settle_112 : decode cX1_settle 112 = .ok (.aload_n 0, 1) := dk_42 (by decide +kernel)
theorem dX1_settle_113 : decode cX1_settle 113 = .ok (.getfield 30, 3) := dk_180 (a := 0) (b := 30) (by decide +kernel) rfl
theorem dX1_settle_116 : decode cX1_settle 116 = .ok (.iload_n 1, 1) := dk_27 (by decide +kernel)
theorem dX1_settle_117 : decode cX1_settle 117 = .ok (.bipush 16, 2) := dk_16 (a := 16) (by decide +kernel) (by decide +kernel)
theorem dX1_settle_119 : decode cX1_settle 119 = .ok (.imul, 1) := dk_104 (by decide +kernel)
theorem dX1_settle_120 : decode cX1_settle 120 = .ok (.iload_n 2, 1) := dk_28 (by decide +kernel)
theorem dX1_settle_121 : decode cX1_settle 121 = .ok (.iadd, 1) := dk_96 (by decide +kernel)
theorem dX1_settle_122 : decode cX1_settle 122 = .ok (.dup2, 1) := dk_92 (by decide +kernel)
theorem dX1_settle_123 : decode cX1_settle 123 = .ok (.iaload, 1) := dk_46 (by decide +kernel)
theorem dX1_settle_124 : decode cX1_settle 124 = .ok (.iload 4, 2) := dk_21 (a := 4) (by decide +kernel)
theorem dX1_settle_126 : decode cX1_settle 126 = .ok (.iconst (-1), 1) := dk_2 (by decide +kernel)
theorem dX1_settle_127 : decode cX1_settle 127 = .ok (.ixor, 1) := dk_130 (by decide +kernel)
theorem dX1_settle_128 : decode cX1_settle 128 = .ok (.iand, 1) := dk_126 (by decide +kernel)
theorem dX1_settle_129 : decode cX1_settle 129 = .ok (.iastore, 1) := dk_79 (by decide +kernel)
theorem dX1_settle_130 : decode cX1_settle 130 = .ok (.iload 6, 2) := dk_21 (a := 6) (by decide +kernel)
theorem dX1_settle_132 : decode cX1_settle 132 = .ok (.ireturn, 1) := dk_172 (by decide +kernel)
theorem dX1_move_0 : decode cX1_move 0 = .ok (.aload_n 0, 1) := dk_42 (by decide +kernel)
theorem dX1_move_1 : decode cX1_move 1 = .ok (.getfield 9, 3) := dk_180 (a := 0) (b := 9) (by decide +kernel) rfl
theorem dX1_move_4 : decode cX1_move 4 = .ok (.iload_n 2, 1) := dk_28 (by decide +kernel)
theorem dX1_move_5 : decode cX1_move 5 = .ok (.aload_n 0, 1) := dk_42 (by decide +kernel)
theorem dX1_move_6 : decode cX1_move 6 = .ok (.getfield 9, 3) := dk_180 (a := 0) (b := 9) (by decide +kernel) rfl
theorem dX1_move_9 : decode cX1_move 9 = .ok (.iload_n 1, 1) := dk_27 (by decide +kernel)
theorem dX1_move_10 : decode cX1_move 10 = .ok (.iaload, 1) := dk_46 (by decide +kernel)
theorem dX1_move_11 : decode cX1_move 11 = .ok (.iastore, 1) := dk_79 (by decide +kernel)
theorem dX1_move_12 : decode cX1_move 12 = .ok (.aload_n 0, 1) := dk_42 (by decide +kernel)
theorem dX1_move_13 : decode cX1_move 13 = .ok (.getfield 15, 3) := dk_180 (a := 0) (b := 15) (by decide +kernel) rfl
theorem dX1_move_16 : decode cX1_move 16 = .ok (.iload_n 2, 1) := dk_28 (by decide +kernel)
theorem dX1_move_17 : decode cX1_move 17 = .ok (.aload_n 0, 1) := dk_42 (by decide +kernel)
theorem dX1_move_18 : decode cX1_move 18 = .ok (.getfield 15, 3) := dk_180 (a := 0) (b := 15) (by decide +kernel) rfl
theorem dX1_move_21 : decode cX1_move 21 = .ok (.iload_n 1, 1) := dk_27 (by decide +kernel)
theorem dX1_move_22 : decode cX1_move 22 = .ok (.iaload, 1) := dk_46 (by decide +kernel)
theorem dX1_move_23 : decode cX1_move 23 = .ok (.iastore, 1) := dk_79 (by decide +kernel)
theorem dX1_move_24 : decode cX1_move 24 = .ok (.aload_n 0, 1) := dk_42 (by decide +kernel)
theorem dX1_move_25 : decode cX1_move 25 = .ok (.getfield 18, 3) := dk_180 (a := 0) (b := 18) (by decide +kernel) rfl
theorem dX1_move_28 : decode cX1_move 28 = .ok (.iload_n 2, 1) := dk_28 (by decide +kernel)
theorem dX1_move_29 : decode cX1_move 29 = .ok (.aload_n 0, 1) := dk_42 (by decide +kernel)
theorem dX1_move_30 : decode cX1_move 30 = .ok (.getfield 18, 3) := dk_180 (a := 0) (b := 18) (by decide +kernel) rfl
theorem dX1_move_33 : decode cX1_move 33 = .ok (.iload_n 1, 1) := dk_27 (by decide +kernel)
theorem dX1_move_34 : decode cX1_move 34 = .ok (.iaload, 1) := dk_46 (by decide +kernel)
theorem dX1_move_35 : decode cX1_move 35 = .ok (.iastore, 1) := dk_79 (by decide +kernel)
theorem dX1_move_36 : decode cX1_move 36 = .ok (.aload_n 0, 1) := dk_42 (by decide +kernel)
theorem dX1_move_37 : decode cX1_move 37 = .ok (.getfield 21, 3) := dk_180 (a := 0) (b := 21) (by decide +kernel) rfl
theorem dX1_move_40 : decode cX1_move 40 = .ok (.iload_n 2, 1) := dk_28 (by decide +kernel)
theorem dX1_move_41 : decode cX1_move 41 = .ok (.aload_n 0, 1) := dk_42 (by decide +kernel)
theorem dX1_move_42 : decode cX1_move 42 = .ok (.getfield 21, 3) := dk_180 (a := 0) (b := 21) (by decide +kernel) rfl
theorem dX1_move_45 : decode cX1_move 45 = .ok (.iload_n 1, 1) := dk_27 (by decide +kernel)
theorem dX1_move_46 : decode cX1_move 46 = .ok (.iaload, 1) := dk_46 (by decide +kernel)
theorem dX1_move_47 : decode cX1_move 47 = .ok (.iastore, 1) := dk_79 (by decide +kernel)
theorem dX1_move_48 : decode cX1_move 48 = .ok (.aload_n 0, 1) := dk_42 (by decide +kernel)
theorem dX1_move_49 : decode cX1_move 49 = .ok (.getfield 24, 3) := dk_180 (a := 0) (b := 24) (by decide +kernel) rfl
theorem dX1_move_52 : decode cX1_move 52 = .ok (.iload_n 2, 1) := dk_28 (by decide +kernel)
theorem dX1_move_53 : decode cX1_move 53 = .ok (.aload_n 0, 1) := dk_42 (by decide +kernel)
theorem dX1_move_54 : decode cX1_move 54 = .ok (.getfield 24, 3) := dk_180 (a := 0) (b := 24) (by decide +kernel) rfl
theorem dX1_move_57 : decode cX1_move 57 = .ok (.iload_n 1, 1) := dk_27 (by decide +kernel)
theorem dX1_move_58 : decode cX1_move 58 = .ok (.iaload, 1) := dk_46 (by decide +kernel)
theorem dX1_move_59 : decode cX1_move 59 = .ok (.iastore, 1) := dk_79 (by decide +kernel)
theorem dX1_move_60 : decode cX1_move 60 = .ok (.return_, 1) := dk_177 (by decide +kernel)
theorem dX1_nth_0 : decode cX1_nth 0 = .ok (.iload_n 2, 1) := dk_28 (by decide +kernel)
theorem dX1_nth_1 : decode cX1_nth 1 = .ok (.ifCond .lt 13, 3) := dk_155 (a := 0) (b := 13) (by decide +kernel) (by decide +kernel)
theorem dX1_nth_4 : decode cX1_nth 4 = .ok (.iload_n 2, 1) := dk_28 (by decide +kernel)
theorem dX1_nth_5 : decode cX1_nth 5 = .ok (.aload_n 0, 1) := dk_42 (by decide +kernel)
theorem dX1_nth_6 : decode cX1_nth 6 = .ok (.getfield 27, 3) := dk_180 (a := 0) (b := 27) (by decide +kernel) rfl
theorem dX1_nth_9 : decode cX1_nth 9 = .ok (.iload_n 1, 1) := dk_27 (by decide +kernel)
theorem dX1_nth_10 : decode cX1_nth 10 = .ok (.iaload, 1) := dk_46 (by decide +kernel)
theorem dX1_nth_11 : decode cX1_nth 11 = .ok (.if_icmp .lt 5, 3) := dk_161 (a := 0) (b := 5) (by decide +kernel) (by decide +kernel)
theorem dX1_nth_14 : decode cX1_nth 14 = .ok (.iconst (-1), 1) := dk_2 (by decide +kernel)
theorem dX1_nth_15 : decode cX1_nth 15 = .ok (.ireturn, 1) := dk_172 (by decide +kernel)
theorem dX1_nth_16 : decode cX1_nth 16 = .ok (.iload_n 2, 1) := dk_28 (by decide +kernel)
theorem dX1_nth_17 : decode cX1_nth 17 = .ok (.istore_n 3, 1) := dk_62 (by decide +kernel)
theorem dX1_nth_18 : decode cX1_nth 18 = .ok (.iconst 0, 1) := dk_3 (by decide +kernel)
theorem dX1_nth_19 : decode cX1_nth 19 = .ok (.istore 4, 2) := dk_54 (a := 4) (by decide +kernel)
theorem dX1_nth_21 : decode cX1_nth 21 = .ok (.iload 4, 2) := dk_21 (a := 4) (by decide +kernel)
theorem dX1_nth_23 : decode cX1_nth 23 = .ok (.aload_n 0, 1) := dk_42 (by decide +kernel)
theorem dX1_nth_24 : decode cX1_nth 24 = .ok (.getfield 33, 3) := dk_180 (a := 0) (b := 33) (by decide +kernel) rfl
theorem dX1_nth_27 : decode cX1_nth 27 = .ok (.if_icmp .ge 30, 3) := dk_162 (a := 0) (b := 30) (by decide +kernel) (by decide +kernel)
theorem dX1_nth_30 : decode cX1_nth 30 = .ok (.aload_n 0, 1) := dk_42 (by decide +kernel)
theorem dX1_nth_31 : decode cX1_nth 31 = .ok (.getfield 9, 3) := dk_180 (a := 0) (b := 9) (by decide +kernel) rfl
theorem dX1_nth_34 : decode cX1_nth 34 = .ok (.iload 4, 2) := dk_21 (a := 4) (by decide +kernel)
theorem dX1_nth_36 : decode cX1_nth 36 = .ok (.iaload, 1) := dk_46 (by decide +kernel)
theorem dX1_nth_37 : decode cX1_nth 37 = .ok (.iload_n 1, 1) := dk_27 (by decide +kernel)
theorem dX1_nth_38 : decode cX1_nth 38 = .ok (.if_icmp .ne 13, 3) := dk_160 (a := 0) (b := 13) (by decide +kernel) (by decide +kernel)
theorem dX1_nth_41 : decode cX1_nth 41 = .ok (.iload_n 3, 1) := dk_29 (by decide +kernel)
theorem dX1_nth_42 : decode cX1_nth 42 = .ok (.ifCond .ne 6, 3) := dk_154 (a := 0) (b := 6) (by decide +kernel) (by decide +kernel)
theorem dX1_nth_45 : decode cX1_nth 45 = .ok (.iload 4, 2) := dk_21 (a := 4) (by decide +kernel)
theorem dX1_nth_47 : decode cX1_nth 47 = .ok (.ireturn, 1) := dk_172 (by decide +kernel)
theorem dX1_nth_48 : decode cX1_nth 48 = .ok (.iinc 3 (-1), 3) := dk_132 (a := 3) (b := 255) (by decide +kernel) (by decide +kernel)
theorem dX1_nth_51 : decode cX1_nth 51 = .ok (.iinc 4 1, 3) := dk_132 (a := 4) (b := 1) (by decide +kernel) (by decide +kernel)
theorem dX1_nth_54 : decode cX1_nth 54 = .ok (.goto (-33), 3) := dk_167 (a := 255) (b := 223) (by decide +kernel) (by decide +kernel)
theorem dX1_nth_57 : decode cX1_nth 57 = .ok (.iconst (-1), 1) := dk_2 (by decide +kernel)
theorem dX1_nth_58 : decode cX1_nth 58 = .ok (.ireturn, 1) := dk_172 (by decide +kernel)
theorem dX1_overdue_0 : decode cX1_overdue 0 = .ok (.iconst 0, 1) := dk_3 (by decide +kernel)
theorem dX1_overdue_1 : decode cX1_overdue 1 = .ok (.istore_n 2, 1) := dk_61 (by decide +kernel)
theorem dX1_overdue_2 : decode cX1_overdue 2 = .ok (.iconst 0, 1) := dk_3 (by decide +kernel)
theorem dX1_overdue_3 : decode cX1_overdue 3 = .ok (.istore_n 3, 1) := dk_62 (by decide +kernel)
theorem dX1_overdue_4 : decode cX1_overdue 4 = .ok (.iload_n 3, 1) := dk_29 (by decide +kernel)
theorem dX1_overdue_5 : decode cX1_overdue 5 = .ok (.aload_n 0, 1) := dk_42 (by decide +kernel)
theorem dX1_overdue_6 : decode cX1_overdue 6 = .ok (.getfield 33, 3) := dk_180 (a := 0) (b := 33) (by decide +kernel) rfl
theorem dX1_overdue_9 : decode cX1_overdue 9 = .ok (.if_icmp .ge 22, 3) := dk_162 (a := 0) (b := 22) (by decide +kernel) (by decide +kernel)
theorem dX1_overdue_12 : decode cX1_overdue 12 = .ok (.aload_n 0, 1) := dk_42 (by decide +kernel)
theorem dX1_overdue_13 : decode cX1_overdue 13 = .ok (.getfield 21, 3) := dk_180 (a := 0) (b := 21) (by decide +kernel) rfl
theorem dX1_overdue_16 : decode cX1_overdue 16 = .ok (.iload_n 3, 1) := dk_29 (by decide +kernel)
theorem dX1_overdue_17 : decode cX1_overdue 17 = .ok (.iaload, 1) := dk_46 (by decide +kernel)
theorem dX1_overdue_18 : decode cX1_overdue 18 = .ok (.iload_n 1, 1) := dk_27 (by decide +kernel)
theorem dX1_overdue_19 : decode cX1_overdue 19 = .ok (.if_icmp .ge 6, 3) := dk_162 (a := 0) (b := 6) (by decide +kernel) (by decide +kernel)
theorem dX1_overdue_22 : decode cX1_overdue 22 = .ok (.iinc 2 1, 3) := dk_132 (a := 2) (b := 1) (by decide +kernel) (by decide +kernel)
theorem dX1_overdue_25 : decode cX1_overdue 25 = .ok (.iinc 3 1, 3) := dk_132 (a := 3) (b := 1) (by decide +kernel) (by decide +kernel)
theorem dX1_overdue_28 : decode cX1_overdue 28 = .ok (.goto (-24), 3) := dk_167 (a := 255) (b := 232) (by decide +kernel) (by decide +kernel)
theorem dX1_overdue_31 : decode cX1_overdue 31 = .ok (.iload_n 2, 1) := dk_28 (by decide +kernel)
theorem dX1_overdue_32 : decode cX1_overdue 32 = .ok (.ireturn, 1) := dk_172 (by decide +kernel)
theorem dX1_overdueTo_0 : decode cX1_overdueTo 0 = .ok (.iconst 0, 1) := dk_3 (by decide +kernel)
theorem dX1_overdueTo_1 : decode cX1_overdueTo 1 = .ok (.istore_n 3, 1) := dk_62 (by decide +kernel)
theorem dX1_overdueTo_2 : decode cX1_overdueTo 2 = .ok (.iconst 0, 1) := dk_3 (by decide +kernel)
theorem dX1_overdueTo_3 : decode cX1_overdueTo 3 = .ok (.istore 4, 2) := dk_54 (a := 4) (by decide +kernel)
theorem dX1_overdueTo_5 : decode cX1_overdueTo 5 = .ok (.iload 4, 2) := dk_21 (a := 4) (by decide +kernel)
theorem dX1_overdueTo_7 : decode cX1_overdueTo 7 = .ok (.aload_n 0, 1) := dk_42 (by decide +kernel)
theorem dX1_overdueTo_8 : decode cX1_overdueTo 8 = .ok (.getfield 33, 3) := dk_180 (a := 0) (b := 33) (by decide +kernel) rfl
theorem dX1_overdueTo_11 : decode cX1_overdueTo 11 = .ok (.if_icmp .ge 34, 3) := dk_162 (a := 0) (b := 34) (by decide +kernel) (by decide +kernel)
theorem dX1_overdueTo_14 : decode cX1_overdueTo 14 = .ok (.aload_n 0, 1) := dk_42 (by decide +kernel)
theorem dX1_overdueTo_15 : decode cX1_overdueTo 15 = .ok (.getfield 15, 3) := dk_180 (a := 0) (b := 15) (by decide +kernel) rfl
theorem dX1_overdueTo_18 : decode cX1_overdueTo 18 = .ok (.iload 4, 2) := dk_21 (a := 4) (by decide +kernel)
theorem dX1_overdueTo_20 : decode cX1_overdueTo 20 = .ok (.iaload, 1) := dk_46 (by decide +kernel)
theorem dX1_overdueTo_21 : decode cX1_overdueTo 21 = .ok (.iload_n 1, 1) := dk_27 (by decide +kernel)
theorem dX1_overdueTo_22 : decode cX1_overdueTo 22 = .ok (.if_icmp .ne 17, 3) := dk_160 (a := 0) (b := 17) (by decide +kernel) (by decide +kernel)
theorem dX1_overdueTo_25 : decode cX1_overdueTo 25 = .ok (.aload_n 0, 1) := dk_42 (by decide +kernel)
theorem dX1_overdueTo_26 : decode cX1_overdueTo 26 = .ok (.getfield 21, 3) := dk_180 (a := 0) (b := 21) (by decide +kernel) rfl
theorem dX1_overdueTo_29 : decode cX1_overdueTo 29 = .ok (.iload 4, 2) := dk_21 (a := 4) (by decide +kernel)
theorem dX1_overdueTo_31 : decode cX1_overdueTo 31 = .ok (.iaload, 1) := dk_46 (by decide +kernel)
theorem dX1_overdueTo_32 : decode cX1_overdueTo 32 = .ok (.iload_n 2, 1) := dk_28 (by decide +kernel)
theorem dX1_overdueTo_33 : decode cX1_overdueTo 33 = .ok (.if_icmp .ge 6, 3) := dk_162 (a := 0) (b := 6) (by decide +kernel) (by decide +kernel)
theorem dX1_overdueTo_36 : decode cX1_overdueTo 36 = .ok (.iinc 3 1, 3) := dk_132 (a := 3) (b := 1) (by decide +kernel) (by decide +kernel)
theorem dX1_overdueTo_39 : decode cX1_overdueTo 39 = .ok (.iinc 4 1, 3) := dk_132 (a := 4) (b := 1) (by decide +kernel) (by decide +kernel)
theorem dX1_overdueTo_42 : decode cX1_overdueTo 42 = .ok (.goto (-37), 3) := dk_167 (a := 255) (b := 219) (by decide +kernel) (by decide +kernel)
theorem dX1_overdueTo_45 : decode cX1_overdueTo 45 = .ok (.iload_n 3, 1) := dk_29 (by decide +kernel)
theorem dX1_overdueTo_46 : decode cX1_overdueTo 46 = .ok (.ireturn, 1) := dk_172 (by decide +kernel)
theorem dX2_init_0 : decode cX2_init 0 = .ok (.aload_n 0, 1) := dk_42 (by decide +kernel)
theorem dX2_init_1 : decode cX2_init 1 = .ok (.invokespecial 3, 3) := dk_183 (a := 0) (b := 3) (by decide +kernel) rfl
theorem dX2_init_4 : decode cX2_init 4 = .ok (.aload_n 0, 1) := dk_42 (by decide +kernel)
theorem dX2_init_5 : decode cX2_init 5 = .ok (.sipush 600, 3) := dk_17 (a := 2) (b := 88) (by decide +kernel) (by decide +kernel)
theorem dX2_init_8 : decode cX2_init 8 = .ok (.newarray .int, 2) := dk_188_10 (by decide +kernel)
theorem dX2_init_10 : decode cX2_init 10 = .ok (.putfield 9, 3) := dk_181 (a := 0) (b := 9) (by decide +kernel) rfl
theorem dX2_init_13 : decode cX2_init 13 = .ok (.aload_n 0, 1) := dk_42 (by decide +kernel)
theorem dX2_init_14 : decode cX2_init 14 = .ok (.sipush 600, 3) := dk_17 (a := 2) (b := 88) (by decide +kernel) (by decide +kernel)
theorem dX2_init_17 : decode cX2_init 17 = .ok (.newarray .int, 2) := dk_188_10 (by decide +kernel)
theorem dX2_init_19 : decode cX2_init 19 = .ok (.putfield 15, 3) := dk_181 (a := 0) (b := 15) (by decide +kernel) rfl
theorem dX2_init_22 : decode cX2_init 22 = .ok (.aload_n 0, 1) := dk_42 (by decide +kernel)
theorem dX2_init_23 : decode cX2_init 23 = .ok (.sipush 600, 3) := dk_17 (a := 2) (b := 88) (by decide +kernel) (by decide +kernel)
theorem dX2_init_26 : decode cX2_init 26 = .ok (.newarray .int, 2) := dk_188_10 (by decide +kernel)
theorem dX2_init_28 : decode cX2_init 28 = .ok (.putfield 18, 3) := dk_181 (a := 0) (b := 18) (by decide +kernel) rfl
theorem dX2_init_31 : decode cX2_init 31 = .ok (.aload_n 0, 1) := dk_42 (by decide +kernel)
theorem dX2_init_32 : decode cX2_init 32 = .ok (.sipush 600, 3) := dk_17 (a := 2) (b := 88) (by decide +kernel) (by decide +kernel)
theorem dX2_init_35 : decode cX2_init 35 = .ok (.newarray .int, 2) := dk_188_10 (by decide +kernel)
theorem dX2_init_37 : decode cX2_init 37 = .ok (.putfield 21, 3) := dk_181 (a := 0) (b := 21) (by decide +kernel) rfl
theorem dX2_init_40 : decode cX2_init 40 = .ok (.return_, 1) := dk_177 (by decide +kernel)
theorem dX2_copy_0 : decode cX2_copy 0 = .ok (.aload_n 0, 1) := dk_42 (by decide +kernel)
theorem dX2_copy_1 : decode cX2_copy 1 = .ok (.aload_n 1, 1) := dk_43 (by decide +kernel)
theorem dX2_copy_2 : decode cX2_copy 2 = .ok (.getfield 24, 3) := dk_180 (a := 0) (b := 24) (by decide +kernel) rfl
theorem dX2_copy_5 : decode cX2_copy 5 = .ok (.putfield 24, 3) := dk_181 (a := 0) (b := 24) (by decide +kernel) rfl
theorem dX2_copy_8 : decode cX2_copy 8 = .ok (.aload_n 1, 1) := dk_43 (by decide +kernel)
theorem dX2_copy_9 : decode cX2_copy 9 = .ok (.getfield 9, 3) := dk_180 (a := 0) (b := 9) (by decide +kernel) rfl
theorem dX2_copy_12 : decode cX2_copy 12 = .ok (.iconst 0, 1) := dk_3 (by decide +kernel)
theorem dX2_copy_13 : decode cX2_copy 13 = .ok (.aload_n 0, 1) := dk_42 (by decide +kernel)
theorem dX2_copy_14 : decode cX2_copy 14 = .ok (.getfield 9, 3) := dk_180 (a := 0) (b := 9) (by decide +kernel) rfl
theorem dX2_copy_17 : decode cX2_copy 17 = .ok (.iconst 0, 1) := dk_3 (by decide +kernel)
theorem dX2_copy_18 : decode cX2_copy 18 = .ok (.aload_n 0, 1) := dk_42 (by decide +kernel)
theorem dX2_copy_19 : decode cX2_copy 19 = .ok (.getfield 24, 3) := dk_180 (a := 0) (b := 24) (by decide +kernel) rfl
theorem dX2_copy_22 : decode cX2_copy 22 = .ok (.invokestatic 28, 3) := dk_184 (a := 0) (b := 28) (by decide +kernel) rfl
theorem dX2_copy_25 : decode cX2_copy 25 = .ok (.aload_n 1, 1) := dk_43 (by decide +kernel)
theorem dX2_copy_26 : decode cX2_copy 26 = .ok (.getfield 15, 3) := dk_180 (a := 0) (b := 15) (by decide +kernel) rfl
theorem dX2_copy_29 : decode cX2_copy 29 = .ok (.iconst 0, 1) := dk_3 (by decide +kernel)
theorem dX2_copy_30 : decode cX2_copy 30 = .ok (.aload_n 0, 1) := dk_42 (by decide +kernel)
theorem dX2_copy_31 : decode cX2_copy 31 = .ok (.getfield 15, 3) := dk_180 (a := 0) (b := 15) (by decide +kernel) rfl
theorem dX2_copy_34 : decode cX2_copy 34 = .ok (.iconst 0, 1) := dk_3 (by decide +kernel)
theorem dX2_copy_35 : decode cX2_copy 35 = .ok (.aload_n 0, 1) := dk_42 (by decide +kernel)
theorem dX2_copy_36 : decode cX2_copy 36 = .ok (.getfield 24, 3) := dk_180 (a := 0) (b := 24) (by decide +kernel) rfl
theorem dX2_copy_39 : decode cX2_copy 39 = .ok (.invokestatic 28, 3) := dk_184 (a := 0) (b := 28) (by decide +kernel) rfl
theorem dX2_copy_42 : decode cX2_copy 42 = .ok (.aload_n 1, 1) := dk_43 (by decide +kernel)
theorem dX2_copy_43 : decode cX2_copy 43 = .ok (.getfield 18, 3) := dk_180 (a := 0) (b := 18) (by decide +kernel) rfl
theorem dX2_copy_46 : decode cX2_copy 46 = .ok (.iconst 0, 1) := dk_3 (by decide +kernel)
theorem dX2_copy_47 : decode cX2_copy 47 = .ok (.aload_n 0, 1) := dk_42 (by decide +kernel)
theorem dX2_copy_48 : decode cX2_copy 48 = .ok (.getfield 18, 3) := dk_180 (a := 0) (b := 18) (by decide +kernel) rfl
theorem dX2_copy_51 : decode cX2_copy 51 = .ok (.iconst 0, 1) := dk_3 (by decide +kernel)
theorem dX2_copy_52 : decode cX2_copy 52 = .ok (.aload_n 0, 1) := dk_42 (by decide +kernel)
theorem dX2_copy_53 : decode cX2_copy 53 = .ok (.getfield 24, 3) := dk_180 (a := 0) (b := 24) (by decide +kernel) rfl
theorem dX2_copy_56 : decode cX2_copy 56 = .ok (.invokestatic 28, 3) := dk_184 (a := 0) (b := 28) (by decide +kernel) rfl
theorem dX2_copy_59 : decode cX2_copy 59 = .ok (.aload_n 1, 1) := dk_43 (by decide +kernel)
theorem dX2_copy_60 : decode cX2_copy 60 = .ok (.getfield 21, 3) := dk_180 (a := 0) (b := 21) (by decide +kernel) rfl
theorem dX2_copy_63 : decode cX2_copy 63 = .ok (.iconst 0, 1) := dk_3 (by decide +kernel)
theorem dX2_copy_64 : decode cX2_copy 64 = .ok (.aload_n 0, 1) := dk_42 (by decide +kernel)
theorem dX2_copy_65 : decode cX2_copy 65 = .ok (.getfield 21, 3) := dk_180 (a := 0) (b := 21) (by decide +kernel) rfl
theorem dX2_copy_68 : decode cX2_copy 68 = .ok (.iconst 0, 1) := dk_3 (by decide +kernel)
theorem dX2_copy_69 : decode cX2_copy 69 = .ok (.aload_n 0, 1) := dk_42 (by decide +kernel)
theorem dX2_copy_70 : decode cX2_copy 70 = .ok (.getfield 24, 3) := dk_180 (a := 0) (b := 24) (by decide +kernel) rfl
theorem dX2_copy_73 : decode cX2_copy 73 = .ok (.invokestatic 28, 3) := dk_184 (a := 0) (b := 28) (by decide +kernel) rfl
theorem dX2_copy_76 : decode cX2_copy 76 = .ok (.return_, 1) := dk_177 (by decide +kernel)
theorem dX2_isFull_0 : decode cX2_isFull 0 = .ok (.aload_n 0, 1) := dk_42 (by decide +kernel)
theorem dX2_isFull_1 : decode cX2_isFull 1 = .ok (.getfield 24, 3) := dk_180 (a := 0) (b := 24) (by decide +kernel) rfl
theorem dX2_isFull_4 : decode cX2_isFull 4 = .ok (.sipush 600, 3) := dk_17 (a := 2) (b := 88) (by decide +kernel) (by decide +kernel)
theorem dX2_isFull_7 : decode cX2_isFull 7 = .ok (.if_icmp .lt 7, 3) := dk_161 (a := 0) (b := 7) (by decide +kernel) (by decide +kernel)
theorem dX2_isFull_10 : decode cX2_isFull 10 = .ok (.iconst 1, 1) := dk_4 (by decide +kernel)
theorem dX2_isFull_11 : decode cX2_isFull 11 = .ok (.goto 4, 3) := dk_167 (a := 0) (b := 4) (by decide +kernel) (by decide +kernel)
theorem dX2_isFull_14 : decode cX2_isFull 14 = .ok (.iconst 0, 1) := dk_3 (by decide +kernel)
theorem dX2_isFull_15 : decode cX2_isFull 15 = .ok (.ireturn, 1) := dk_172 (by decide +kernel)
theorem dX2_add_0 : decode cX2_add 0 = .ok (.aload_n 0, 1) := dk_42 (by decide +kernel)
theorem dX2_add_1 : decode cX2_add 1 = .ok (.getfield 24, 3) := dk_180 (a := 0) (b := 24) (by decide +kernel) rfl
theorem dX2_add_4 : decode cX2_add 4 = .ok (.sipush 600, 3) := dk_17 (a := 2) (b := 88) (by decide +kernel) (by decide +kernel)
theorem dX2_add_7 : decode cX2_add 7 = .ok (.if_icmp .ge 54, 3) := dk_162 (a := 0) (b := 54) (by decide +kernel) (by decide +kernel)
theorem dX2_add_10 : decode cX2_add 10 = .ok (.aload_n 0, 1) := dk_42 (by decide +kernel)
theorem dX2_add_11 : decode cX2_add 11 = .ok (.getfield 9, 3) := dk_180 (a := 0) (b := 9) (by decide +kernel) rfl
theorem dX2_add_14 : decode cX2_add 14 = .ok (.aload_n 0, 1) := dk_42 (by decide +kernel)
theorem dX2_add_15 : decode cX2_add 15 = .ok (.getfield 24, 3) := dk_180 (a := 0) (b := 24) (by decide +kernel) rfl
theorem dX2_add_18 : decode cX2_add 18 = .ok (.iload_n 1, 1) := dk_27 (by decide +kernel)
theorem dX2_add_19 : decode cX2_add 19 = .ok (.iastore, 1) := dk_79 (by decide +kernel)
theorem dX2_add_20 : decode cX2_add 20 = .ok (.aload_n 0, 1) := dk_42 (by decide +kernel)
theorem dX2_add_21 : decode cX2_add 21 = .ok (.getfield 15, 3) := dk_180 (a := 0) (b := 15) (by decide +kernel) rfl
theorem dX2_add_24 : decode cX2_add 24 = .ok (.aload_n 0, 1) := dk_42 (by decide +kernel)
theorem dX2_add_25 : decode cX2_add 25 = .ok (.getfield 24, 3) := dk_180 (a := 0) (b := 24) (by decide +kernel) rfl
theorem dX2_add_28 : decode cX2_add 28 = .ok (.iload_n 2, 1) := dk_28 (by decide +kernel)
theorem dX2_add_29 : decode cX2_add 29 = .ok (.iastore, 1) := dk_79 (by decide +kernel)
theorem dX2_add_30 : decode cX2_add 30 = .ok (.aload_n 0, 1) := dk_42 (by decide +kernel)
theorem dX2_add_31 : decode cX2_add 31 = .ok (.getfield 18, 3) := dk_180 (a := 0) (b := 18) (by decide +kernel) rfl
theorem dX2_add_34 : decode cX2_add 34 = .ok (.aload_n 0, 1) := dk_42 (by decide +kernel)
theorem dX2_add_35 : decode cX2_add 35 = .ok (.getfield 24, 3) := dk_180 (a := 0) (b := 24) (by decide +kernel) rfl
theorem dX2_add_38 : decode cX2_add 38 = .ok (.iload_n 3, 1) := dk_29 (by decide +kernel)
theorem dX2_add_39 : decode cX2_add 39 = .ok (.iastore, 1) := dk_79 (by decide +kernel)
theorem dX2_add_40 : decode cX2_add 40 = .ok (.aload_n 0, 1) := dk_42 (by decide +kernel)
theorem dX2_add_41 : decode cX2_add 41 = .ok (.getfield 21, 3) := dk_180 (a := 0) (b := 21) (by decide +kernel) rfl
theorem dX2_add_44 : decode cX2_add 44 = .ok (.aload_n 0, 1) := dk_42 (by decide +kernel)
theorem dX2_add_45 : decode cX2_add 45 = .ok (.getfield 24, 3) := dk_180 (a := 0) (b := 24) (by decide +kernel) rfl
theorem dX2_add_48 : decode cX2_add 48 = .ok (.iload 4, 2) := dk_21 (a := 4) (by decide +kernel)
theorem dX2_add_50 : decode cX2_add 50 = .ok (.iastore, 1) := dk_79 (by decide +kernel)
theorem dX2_add_51 : decode cX2_add 51 = .ok (.aload_n 0, 1) := dk_42 (by decide +kernel)
theorem dX2_add_52 : decode cX2_add 52 = .ok (.dup, 1) := dk_89 (by decide +kernel)
theorem dX2_add_53 : decode cX2_add 53 = .ok (.getfield 24, 3) := dk_180 (a := 0) (b := 24) (by decide +kernel) rfl
theorem dX2_add_56 : decode cX2_add 56 = .ok (.iconst 1, 1) := dk_4 (by decide +kernel)
theorem dX2_add_57 : decode cX2_add 57 = .ok (.iadd, 1) := dk_96 (by decide +kernel)
theorem dX2_add_58 : decode cX2_add 58 = .ok (.putfield 24, 3) := dk_181 (a := 0) (b := 24) (by decide +kernel) rfl
theorem dX2_add_61 : decode cX2_add 61 = .ok (.return_, 1) := dk_177 (by decide +kernel)
theorem dX2_callsBy_0 : decode cX2_callsBy 0 = .ok (.iconst 0, 1) := dk_3 (by decide +kernel)
theorem dX2_callsBy_1 : decode cX2_callsBy 1 = .ok (.istore_n 2, 1) := dk_61 (by decide +kernel)
theorem dX2_callsBy_2 : decode cX2_callsBy 2 = .ok (.iconst 0, 1) := dk_3 (by decide +kernel)
theorem dX2_callsBy_3 : decode cX2_callsBy 3 = .ok (.istore_n 3, 1) := dk_62 (by decide +kernel)
theorem dX2_callsBy_4 : decode cX2_callsBy 4 = .ok (.iload_n 3, 1) := dk_29 (by decide +kernel)
theorem dX2_callsBy_5 : decode cX2_callsBy 5 = .ok (.aload_n 0, 1) := dk_42 (by decide +kernel)
theorem dX2_callsBy_6 : decode cX2_callsBy 6 = .ok (.getfield 24, 3) := dk_180 (a := 0) (b := 24) (by decide +kernel) rfl
theorem dX2_callsBy_9 : decode cX2_callsBy 9 = .ok (.if_icmp .ge 32, 3) := dk_162 (a := 0) (b := 32) (by decide +kernel) (by decide +kernel)
theorem dX2_callsBy_12 : decode cX2_callsBy 12 = .ok (.aload_n 0, 1) := dk_42 (by decide +kernel)
theorem dX2_callsBy_13 : decode cX2_callsBy 13 = .ok (.getfield 18, 3) := dk_180 (a := 0) (b := 18) (by decide +kernel) rfl
theorem dX2_callsBy_16 : decode cX2_callsBy 16 = .ok (.iload_n 3, 1) := dk_29 (by decide +kernel)
theorem dX2_callsBy_17 : decode cX2_callsBy 17 = .ok (.iaload, 1) := dk_46 (by decide +kernel)
theorem dX2_callsBy_18 : decode cX2_callsBy 18 = .ok (.iconst 2, 1) := dk_5 (by decide +kernel)
theorem dX2_callsBy_19 : decode cX2_callsBy 19 = .ok (.if_icmp .ne 16, 3) := dk_160 (a := 0) (b := 16) (by decide +kernel) (by decide +kernel)
theorem dX2_callsBy_22 : decode cX2_callsBy 22 = .ok (.aload_n 0, 1) := dk_42 (by decide +kernel)
theorem dX2_callsBy_23 : decode cX2_callsBy 23 = .ok (.getfield 9, 3) := dk_180 (a := 0) (b := 9) (by decide +kernel) rfl
theorem dX2_callsBy_26 : decode cX2_callsBy 26 = .ok (.iload_n 3, 1) := dk_29 (by decide +kernel)
theorem dX2_callsBy_27 : decode cX2_callsBy 27 = .ok (.iaload, 1) := dk_46 (by decide +kernel)
theorem dX2_callsBy_28 : decode cX2_callsBy 28 = .ok (.iload_n 1, 1) := dk_27 (by decide +kernel)
theorem dX2_callsBy_29 : decode cX2_callsBy 29 = .ok (.if_icmp .ne 6, 3) := dk_160 (a := 0) (b := 6) (by decide +kernel) (by decide +kernel)
theorem dX2_callsBy_32 : decode cX2_callsBy 32 = .ok (.iinc 2 1, 3) := dk_132 (a := 2) (b := 1) (by decide +kernel) (by decide +kernel)
theorem dX2_callsBy_35 : decode cX2_callsBy 35 = .ok (.iinc 3 1, 3) := dk_132 (a := 3) (b := 1) (by decide +kernel) (by decide +kernel)
theorem dX2_callsBy_38 : decode cX2_callsBy 38 = .ok (.goto (-34), 3) := dk_167 (a := 255) (b := 222) (by decide +kernel) (by decide +kernel)
theorem dX2_callsBy_41 : decode cX2_callsBy 41 = .ok (.iload_n 2, 1) := dk_28 (by decide +kernel)
theorem dX2_callsBy_42 : decode cX2_callsBy 42 = .ok (.ireturn, 1) := dk_172 (by decide +kernel)
theorem dX2_callsTo_0 : decode cX2_callsTo 0 = .ok (.iconst 0, 1) := dk_3 (by decide +kernel)
theorem dX2_callsTo_1 : decode cX2_callsTo 1 = .ok (.istore_n 2, 1) := dk_61 (by decide +kernel)
theorem dX2_callsTo_2 : decode cX2_callsTo 2 = .ok (.iconst 0, 1) := dk_3 (by decide +kernel)
theorem dX2_callsTo_3 : decode cX2_callsTo 3 = .ok (.istore_n 3, 1) := dk_62 (by decide +kernel)
theorem dX2_callsTo_4 : decode cX2_callsTo 4 = .ok (.iload_n 3, 1) := dk_29 (by decide +kernel)
theorem dX2_callsTo_5 : decode cX2_callsTo 5 = .ok (.aload_n 0, 1) := dk_42 (by decide +kernel)
theorem dX2_callsTo_6 : decode cX2_callsTo 6 = .ok (.getfield 24, 3) := dk_180 (a := 0) (b := 24) (by decide +kernel) rfl
theorem dX2_callsTo_9 : decode cX2_callsTo 9 = .ok (.if_icmp .ge 32, 3) := dk_162 (a := 0) (b := 32) (by decide +kernel) (by decide +kernel)
theorem dX2_callsTo_12 : decode cX2_callsTo 12 = .ok (.aload_n 0, 1) := dk_42 (by decide +kernel)
theorem dX2_callsTo_13 : decode cX2_callsTo 13 = .ok (.getfield 18, 3) := dk_180 (a := 0) (b := 18) (by decide +kernel) rfl
theorem dX2_callsTo_16 : decode cX2_callsTo 16 = .ok (.iload_n 3, 1) := dk_29 (by decide +kernel)
theorem dX2_callsTo_17 : decode cX2_callsTo 17 = .ok (.iaload, 1) := dk_46 (by decide +kernel)
theorem dX2_callsTo_18 : decode cX2_callsTo 18 = .ok (.iconst 2, 1) := dk_5 (by decide +kernel)
theorem dX2_callsTo_19 : decode cX2_callsTo 19 = .ok (.if_icmp .ne 16, 3) := dk_160 (a := 0) (b := 16) (by decide +kernel) (by decide +kernel)
theorem dX2_callsTo_22 : decode cX2_callsTo 22 = .ok (.aload_n 0, 1) := dk_42 (by decide +kernel)
theorem dX2_callsTo_23 : decode cX2_callsTo 23 = .ok (.getfield 15, 3) := dk_180 (a := 0) (b := 15) (by decide +kernel) rfl
theorem dX2_callsTo_26 : decode cX2_callsTo 26 = .ok (.iload_n 3, 1) := dk_29 (by decide +kernel)
theorem dX2_callsTo_27 : decode cX2_callsTo 27 = .ok (.iaload, 1) := dk_46 (by decide +kernel)
theorem dX2_callsTo_28 : decode cX2_callsTo 28 = .ok (.iload_n 1, 1) := dk_27 (by decide +kernel)
theorem dX2_callsTo_29 : decode cX2_callsTo 29 = .ok (.if_icmp .ne 6, 3) := dk_160 (a := 0) (b := 6) (by decide +kernel) (by decide +kernel)
theorem dX2_callsTo_32 : decode cX2_callsTo 32 = .ok (.iinc 2 1, 3) := dk_132 (a := 2) (b := 1) (by decide +kernel) (by decide +kernel)
theorem dX2_callsTo_35 : decode cX2_callsTo 35 = .ok (.iinc 3 1, 3) := dk_132 (a := 3) (b := 1) (by decide +kernel) (by decide +kernel)
theorem dX2_callsTo_38 : decode cX2_callsTo 38 = .ok (.goto (-34), 3) := dk_167 (a := 255) (b := 222) (by decide +kernel) (by decide +kernel)
theorem dX2_callsTo_41 : decode cX2_callsTo 41 = .ok (.iload_n 2, 1) := dk_28 (by decide +kernel)
theorem dX2_callsTo_42 : decode cX2_callsTo 42 = .ok (.ireturn, 1) := dk_172 (by decide +kernel)
theorem dX3_init_0 : decode cX3_init 0 = .ok (.aload_n 0, 1) := dk_42 (by decide +kernel)
theorem dX3_init_1 : decode cX3_init 1 = .ok (.invokespecial 3, 3) := dk_183 (a := 0) (b := 3) (by decide +kernel) rfl
theorem dX3_init_4 : decode cX3_init 4 = .ok (.aload_n 0, 1) := dk_42 (by decide +kernel)
theorem dX3_init_5 : decode cX3_init 5 = .ok (.new 9, 3) := dk_187 (a := 0) (b := 9) (by decide +kernel) rfl
theorem dX3_init_8 : decode cX3_init 8 = .ok (.dup, 1) := dk_89 (by decide +kernel)
theorem dX3_init_9 : decode cX3_init 9 = .ok (.invokespecial 11, 3) := dk_183 (a := 0) (b := 11) (by decide +kernel) rfl
theorem dX3_init_12 : decode cX3_init 12 = .ok (.putfield 12, 3) := dk_181 (a := 0) (b := 12) (by decide +kernel) rfl
theorem dX3_init_15 : decode cX3_init 15 = .ok (.aload_n 0, 1) := dk_42 (by decide +kernel)
theorem dX3_init_16 : decode cX3_init 16 = .ok (.new 18, 3) := dk_187 (a := 0) (b := 18) (by decide +kernel) rfl
theorem dX3_init_19 : decode cX3_init 19 = .ok (.dup, 1) := dk_89 (by decide +kernel)
theorem dX3_init_20 : decode cX3_init 20 = .ok (.invokespecial 20, 3) := dk_183 (a := 0) (b := 20) (by decide +kernel) rfl
theorem dX3_init_23 : decode cX3_init 23 = .ok (.putfield 21, 3) := dk_181 (a := 0) (b := 21) (by decide +kernel) rfl
theorem dX3_init_26 : decode cX3_init 26 = .ok (.aload_n 0, 1) := dk_42 (by decide +kernel)
theorem dX3_init_27 : decode cX3_init 27 = .ok (.iconst (-1), 1) := dk_2 (by decide +kernel)
theorem dX3_init_28 : decode cX3_init 28 = .ok (.putfield 25, 3) := dk_181 (a := 0) (b := 25) (by decide +kernel) rfl
theorem dX3_init_31 : decode cX3_init 31 = .ok (.return_, 1) := dk_177 (by decide +kernel)
theorem dX3_read_0 : decode cX3_read 0 = .ok (.aload_n 0, 1) := dk_42 (by decide +kernel)
theorem dX3_read_1 : decode cX3_read 1 = .ok (.aload_n 1, 1) := dk_43 (by decide +kernel)
theorem dX3_read_2 : decode cX3_read 2 = .ok (.putfield 29, 3) := dk_181 (a := 0) (b := 29) (by decide +kernel) rfl
theorem dX3_read_5 : decode cX3_read 5 = .ok (.aload_n 0, 1) := dk_42 (by decide +kernel)
theorem dX3_read_6 : decode cX3_read 6 = .ok (.iload_n 2, 1) := dk_28 (by decide +kernel)
theorem dX3_read_7 : decode cX3_read 7 = .ok (.aload_n 1, 1) := dk_43 (by decide +kernel)
theorem dX3_read_8 : decode cX3_read 8 = .ok (.arraylength, 1) := dk_190 (by decide +kernel)
theorem dX3_read_9 : decode cX3_read 9 = .ok (.invokestatic 33, 3) := dk_184 (a := 0) (b := 33) (by decide +kernel) rfl
theorem dX3_read_12 : decode cX3_read 12 = .ok (.putfield 39, 3) := dk_181 (a := 0) (b := 39) (by decide +kernel) rfl
theorem dX3_read_15 : decode cX3_read 15 = .ok (.aload_n 0, 1) := dk_42 (by decide +kernel)
theorem dX3_read_16 : decode cX3_read 16 = .ok (.iconst 0, 1) := dk_3 (by decide +kernel)
theorem dX3_read_17 : decode cX3_read 17 = .ok (.putfield 42, 3) := dk_181 (a := 0) (b := 42) (by decide +kernel) rfl
theorem dX3_read_20 : decode cX3_read 20 = .ok (.aload_n 0, 1) := dk_42 (by decide +kernel)
theorem dX3_read_21 : decode cX3_read 21 = .ok (.iconst 0, 1) := dk_3 (by decide +kernel)
theorem dX3_read_22 : decode cX3_read 22 = .ok (.putfield 45, 3) := dk_181 (a := 0) (b := 45) (by decide +kernel) rfl
theorem dX3_read_25 : decode cX3_read 25 = .ok (.aload_n 0, 1) := dk_42 (by decide +kernel)
theorem dX3_read_26 : decode cX3_read 26 = .ok (.iconst (-1), 1) := dk_2 (by decide +kernel)
theorem dX3_read_27 : decode cX3_read 27 = .ok (.putfield 25, 3) := dk_181 (a := 0) (b := 25) (by decide +kernel) rfl
theorem dX3_read_30 : decode cX3_read 30 = .ok (.aload_n 0, 1) := dk_42 (by decide +kernel)
theorem dX3_read_31 : decode cX3_read 31 = .ok (.getfield 12, 3) := dk_180 (a := 0) (b := 12) (by decide +kernel) rfl
theorem dX3_read_34 : decode cX3_read 34 = .ok (.invokevirtual 48, 3) := dk_182 (a := 0) (b := 48) (by decide +kernel) rfl
theorem dX3_read_37 : decode cX3_read 37 = .ok (.aload_n 0, 1) := dk_42 (by decide +kernel)
theorem dX3_read_38 : decode cX3_read 38 = .ok (.getfield 21, 3) := dk_180 (a := 0) (b := 21) (by decide +kernel) rfl
theorem dX3_read_41 : decode cX3_read 41 = .ok (.invokevirtual 51, 3) := dk_182 (a := 0) (b := 51) (by decide +kernel) rfl
theorem dX3_read_44 : decode cX3_read 44 = .ok (.aload_n 0, 1) := dk_42 (by decide +kernel)
theorem dX3_read_45 : decode cX3_read 45 = .ok (.invokevirtual 52, 3) := dk_182 (a := 0) (b := 52) (by decide +kernel) rfl
theorem dX3_read_48 : decode cX3_read 48 = .ok (.iconst 0, 1) := dk_3 (by decide +kernel)
theorem dX3_read_49 : decode cX3_read 49 = .ok (.istore_n 3, 1) := dk_62 (by decide +kernel)
theorem dX3_read_50 : decode cX3_read 50 = .ok (.iload_n 3, 1) := dk_29 (by decide +kernel)
theorem dX3_read_51 : decode cX3_read 51 = .ok (.sipush 1400, 3) := dk_17 (a := 5) (b := 120) (by decide +kernel) (by decide +kernel)
theorem dX3_read_54 : decode cX3_read 54 = .ok (.if_icmp .gt 58, 3) := dk_163 (a := 0) (b := 58) (by decide +kernel) (by decide +kernel)
theorem dX3_read_57 : decode cX3_read 57 = .ok (.aload_n 0, 1) := dk_42 (by decide +kernel)
theorem dX3_read_58 : decode cX3_read 58 = .ok (.getfield 45, 3) := dk_180 (a := 0) (b := 45) (by decide +kernel) rfl
theorem dX3_read_61 : decode cX3_read 61 = .ok (.ifCond .ne 51, 3) := dk_154 (a := 0) (b := 51) (by decide +kernel) (by decide +kernel)
theorem dX3_read_64 : decode cX3_read 64 = .ok (.aload_n 0, 1) := dk_42 (by decide +kernel)
theorem dX3_read_65 : decode cX3_read 65 = .ok (.getfield 55, 3) := dk_180 (a := 0) (b := 55) (by decide +kernel) rfl
theorem dX3_read_68 : decode cX3_read 68 = .ok (.ifCond .eq 44, 3) := dk_153 (a := 0) (b := 44) (by decide +kernel) (by decide +kernel)
theorem dX3_read_71 : decode cX3_read 71 = .ok (.aload_n 0, 1) := dk_42 (by decide +kernel)
theorem dX3_read_72 : decode cX3_read 72 = .ok (.ldc 58, 2) := dk_18 (a := 58) (by decide +kernel)
theorem dX3_read_74 : decode cX3_read 74 = .ok (.invokevirtual 60, 3) := dk_182 (a := 0) (b := 60) (by decide +kernel) rfl
theorem dX3_read_77 : decode cX3_read 77 = .ok (.istore 4, 2) := dk_54 (a := 4) (by decide +kernel)
theorem dX3_read_79 : decode cX3_read 79 = .ok (.iload 4, 2) := dk_21 (a := 4) (by decide +kernel)
theorem dX3_read_81 : decode cX3_read 81 = .ok (.iconst 4, 1) := dk_7 (by decide +kernel)
theorem dX3_read_82 : decode cX3_read 82 = .ok (.if_icmp .lt 14, 3) := dk_161 (a := 0) (b := 14) (by decide +kernel) (by decide +kernel)
theorem dX3_read_85 : decode cX3_read 85 = .ok (.aload_n 0, 1) := dk_42 (by decide +kernel)
theorem dX3_read_86 : decode cX3_read 86 = .ok (.iload 4, 2) := dk_21 (a := 4) (by decide +kernel)
theorem dX3_read_88 : decode cX3_read 88 = .ok (.iconst 4, 1) := dk_7 (by decide +kernel)
theorem dX3_read_89 : decode cX3_read 89 = .ok (.isub, 1) := dk_100 (by decide +kernel)
theorem dX3_read_90 : decode cX3_read 90 = .ok (.invokevirtual 64, 3) := dk_182 (a := 0) (b := 64) (by decide +kernel) rfl
theorem dX3_read_93 : decode cX3_read 93 = .ok (.goto 9, 3) := dk_167 (a := 0) (b := 9) (by decide +kernel) (by decide +kernel)
theorem dX3_read_96 : decode cX3_read 96 = .ok (.aload_n 0, 1) := dk_42 (by decide +kernel)
theorem dX3_read_97 : decode cX3_read 97 = .ok (.iload 4, 2) := dk_21 (a := 4) (by decide +kernel)
theorem dX3_read_99 : decode cX3_read 99 = .ok (.invokevirtual 68, 3) := dk_182 (a := 0) (b := 68) (by decide +kernel) rfl
theorem dX3_read_102 : decode cX3_read 102 = .ok (.aload_n 0, 1) := dk_42 (by decide +kernel)
theorem dX3_read_103 : decode cX3_read 103 = .ok (.invokevirtual 71, 3) := dk_182 (a := 0) (b := 71) (by decide +kernel) rfl
theorem dX3_read_106 : decode cX3_read 106 = .ok (.iinc 3 1, 3) := dk_132 (a := 3) (b := 1) (by decide +kernel) (by decide +kernel)
theorem dX3_read_109 : decode cX3_read 109 = .ok (.goto (-59), 3) := dk_167 (a := 255) (b := 197) (by decide +kernel) (by decide +kernel)
theorem dX3_read_112 : decode cX3_read 112 = .ok (.return_, 1) := dk_177 (by decide +kernel)
theorem dX3_readOther_0 : decode cX3_readOther 0 = .ok (.iload_n 1, 1) := dk_27 (by decide +kernel)
theorem dX3_readOther_1 : decode cX3_readOther 1 = .ok (.tableswitch 87 0 3 #[31, 38, 45, 66], 31) := by decide +kernel
theorem dX3_readOther_32 : decode cX3_readOther 32 = .ok (.aload_n 0, 1) := dk_42 (by decide +kernel)
theorem dX3_readOther_33 : decode cX3_readOther 33 = .ok (.invokevirtual 74, 3) := dk_182 (a := 0) (b := 74) (by decide +kernel) rfl
theorem dX3_readOther_36 : decode cX3_readOther 36 = .ok (.goto 57, 3) := dk_167 (a := 0) (b := 57) (by decide +kernel) (by decide +kernel)
theorem dX3_readOther_39 : decode cX3_readOther 39 = .ok (.aload_n 0, 1) := dk_42 (by decide +kernel)
theorem dX3_readOther_40 : decode cX3_readOther 40 = .ok (.invokevirtual 77, 3) := dk_182 (a := 0) (b := 77) (by decide +kernel) rfl
theorem dX3_readOther_43 : decode cX3_readOther 43 = .ok (.goto 50, 3) := dk_167 (a := 0) (b := 50) (by decide +kernel) (by decide +kernel)
theorem dX3_readOther_46 : decode cX3_readOther 46 = .ok (.aload_n 0, 1) := dk_42 (by decide +kernel)
theorem dX3_readOther_47 : decode cX3_readOther 47 = .ok (.invokevirtual 52, 3) := dk_182 (a := 0) (b := 52) (by decide +kernel) rfl
theorem dX3_readOther_50 : decode cX3_readOther 50 = .ok (.aload_n 0, 1) := dk_42 (by decide +kernel)
theorem dX3_readOther_51 : decode cX3_readOther 51 = .ok (.getfield 12, 3) := dk_180 (a := 0) (b := 12) (by decide +kernel) rfl
theorem dX3_readOther_54 : decode cX3_readOther 54 = .ok (.aload_n 0, 1) := dk_42 (by decide +kernel)
theorem dX3_readOther_55 : decode cX3_readOther 55 = .ok (.iconst 0, 1) := dk_3 (by decide +kernel)
theorem dX3_readOther_56 : decode cX3_readOther 56 = .ok (.bipush 99, 2) := dk_16 (a := 99) (by decide +kernel) (by decide +kernel)
theorem dX3_readOther_58 : decode cX3_readOther 58 = .ok (.invokevirtual 80, 3) := dk_182 (a := 0) (b := 80) (by decide +kernel) rfl
theorem dX3_readOther_61 : decode cX3_readOther 61 = .ok (.putfield 83, 3) := dk_181 (a := 0) (b := 83) (by decide +kernel) rfl
theorem dX3_readOther_64 : decode cX3_readOther 64 = .ok (.goto 29, 3) := dk_167 (a := 0) (b := 29) (by decide +kernel) (by decide +kernel)
theorem dX3_readOther_67 : decode cX3_readOther 67 = .ok (.aload_n 0, 1) := dk_42 (by decide +kernel)
theorem dX3_readOther_68 : decode cX3_readOther 68 = .ok (.invokevirtual 52, 3) := dk_182 (a := 0) (b := 52) (by decide +kernel) rfl
theorem dX3_readOther_71 : decode cX3_readOther 71 = .ok (.aload_n 0, 1) := dk_42 (by decide +kernel)
theorem dX3_readOther_72 : decode cX3_readOther 72 = .ok (.getfield 12, 3) := dk_180 (a := 0) (b := 12) (by decide +kernel) rfl
theorem dX3_readOther_75 : decode cX3_readOther 75 = .ok (.aload_n 0, 1) := dk_42 (by decide +kernel)
theorem dX3_readOther_76 : decode cX3_readOther 76 = .ok (.iconst 1, 1) := dk_4 (by decide +kernel)
theorem dX3_readOther_77 : decode cX3_readOther 77 = .ok (.bipush 9, 2) := dk_16 (a := 9) (by decide +kernel) (by decide +kernel)
theorem dX3_readOther_79 : decode cX3_readOther 79 = .ok (.invokevirtual 80, 3) := dk_182 (a := 0) (b := 80) (by decide +kernel) rfl
theorem dX3_readOther_82 : decode cX3_readOther 82 = .ok (.putfield 86, 3) := dk_181 (a := 0) (b := 86) (by decide +kernel) rfl
theorem dX3_readOther_85 : decode cX3_readOther 85 = .ok (.goto 8, 3) := dk_167 (a := 0) (b := 8) (by decide +kernel) (by decide +kernel)
theorem dX3_readOther_88 : decode cX3_readOther 88 = .ok (.aload_n 0, 1) := dk_42 (by decide +kernel)
theorem dX3_readOther_89 : decode cX3_readOther 89 = .ok (.iconst 1, 1) := dk_4 (by decide +kernel)
theorem dX3_readOther_90 : decode cX3_readOther 90 = .ok (.invokevirtual 89, 3) := dk_182 (a := 0) (b := 89) (by decide +kernel) rfl
theorem dX3_readOther_93 : decode cX3_readOther 93 = .ok (.return_, 1) := dk_177 (by decide +kernel)
theorem dX3_closeLine_0 : decode cX3_closeLine 0 = .ok (.aload_n 0, 1) := dk_42 (by decide +kernel)
theorem dX3_closeLine_1 : decode cX3_closeLine 1 = .ok (.getfield 55, 3) := dk_180 (a := 0) (b := 55) (by decide +kernel) rfl
theorem dX3_closeLine_4 : decode cX3_closeLine 4 = .ok (.iconst 3, 1) := dk_6 (by decide +kernel)
theorem dX3_closeLine_5 : decode cX3_closeLine 5 = .ok (.if_icmp .eq 8, 3) := dk_159 (a := 0) (b := 8) (by decide +kernel) (by decide +kernel)
theorem dX3_closeLine_8 : decode cX3_closeLine 8 = .ok (.aload_n 0, 1) := dk_42 (by decide +kernel)
theorem dX3_closeLine_9 : decode cX3_closeLine 9 = .ok (.iconst 1, 1) := dk_4 (by decide +kernel)
theorem dX3_closeLine_10 : decode cX3_closeLine 10 = .ok (.invokevirtual 89, 3) := dk_182 (a := 0) (b := 89) (by decide +kernel) rfl
theorem dX3_closeLine_13 : decode cX3_closeLine 13 = .ok (.aload_n 0, 1) := dk_42 (by decide +kernel)
theorem dX3_closeLine_14 : decode cX3_closeLine 14 = .ok (.getfield 45, 3) := dk_180 (a := 0) (b := 45) (by decide +kernel) rfl
theorem dX3_closeLine_17 : decode cX3_closeLine 17 = .ok (.ifCond .ne 7, 3) := dk_154 (a := 0) (b := 7) (by decide +kernel) (by decide +kernel)
theorem dX3_closeLine_20 : decode cX3_closeLine 20 = .ok (.aload_n 0, 1) := dk_42 (by decide +kernel)
theorem dX3_closeLine_21 : decode cX3_closeLine 21 = .ok (.invokevirtual 52, 3) := dk_182 (a := 0) (b := 52) (by decide +kernel) rfl
theorem dX3_closeLine_24 : decode cX3_closeLine 24 = .ok (.return_, 1) := dk_177 (by decide +kernel)
theorem dX3_readHouse_0 : decode cX3_readHouse 0 = .ok (.aload_n 0, 1) := dk_42 (by decide +kernel)
theorem dX3_readHouse_1 : decode cX3_readHouse 1 = .ok (.getfield 12, 3) := dk_180 (a := 0) (b := 12) (by decide +kernel) rfl
theorem dX3_readHouse_4 : decode cX3_readHouse 4 = .ok (.getfield 92, 3) := dk_180 (a := 0) (b := 92) (by decide +kernel) rfl
theorem dX3_readHouse_7 : decode cX3_readHouse 7 = .ok (.istore_n 1, 1) := dk_60 (by decide +kernel)
theorem dX3_readHouse_8 : decode cX3_readHouse 8 = .ok (.iload_n 1, 1) := dk_27 (by decide +kernel)
theorem dX3_readHouse_9 : decode cX3_readHouse 9 = .ok (.bipush 16, 2) := dk_16 (a := 16) (by decide +kernel) (by decide +kernel)
theorem dX3_readHouse_11 : decode cX3_readHouse 11 = .ok (.if_icmp .lt 9, 3) := dk_161 (a := 0) (b := 9) (by decide +kernel) (by decide +kernel)
theorem dX3_readHouse_14 : decode cX3_readHouse 14 = .ok (.aload_n 0, 1) := dk_42 (by decide +kernel)
theorem dX3_readHouse_15 : decode cX3_readHouse 15 = .ok (.iconst 3, 1) := dk_6 (by decide +kernel)
theorem dX3_readHouse_16 : decode cX3_readHouse 16 = .ok (.invokevirtual 89, 3) := dk_182 (a := 0) (b := 89) (by decide +kernel) rfl
theorem dX3_readHouse_19 : decode cX3_readHouse 19 = .ok (.return_, 1) := dk_177 (by decide +kernel)
theorem dX3_readHouse_20 : decode cX3_readHouse 20 = .ok (.aload_n 0, 1) := dk_42 (by decide +kernel)
theorem dX3_readHouse_21 : decode cX3_readHouse 21 = .ok (.invokevirtual 52, 3) := dk_182 (a := 0) (b := 52) (by decide +kernel) rfl
theorem dX3_readHouse_24 : decode cX3_readHouse 24 = .ok (.aload_n 0, 1) := dk_42 (by decide +kernel)
theorem dX3_readHouse_25 : decode cX3_readHouse 25 = .ok (.ldc 95, 2) := dk_18 (a := 95) (by decide +kernel)
theorem dX3_readHouse_27 : decode cX3_readHouse 27 = .ok (.invokevirtual 97, 3) := dk_182 (a := 0) (b := 97) (by decide +kernel) rfl
theorem dX3_readHouse_30 : decode cX3_readHouse 30 = .ok (.pop, 1) := dk_87 (by decide +kernel)
theorem dX3_readHouse_31 : decode cX3_readHouse 31 = .ok (.aload_n 0, 1) := dk_42 (by decide +kernel)
theorem dX3_readHouse_32 : decode cX3_readHouse 32 = .ok (.getfield 12, 3) := dk_180 (a := 0) (b := 12) (by decide +kernel) rfl
theorem dX3_readHouse_35 : decode cX3_readHouse 35 = .ok (.getfield 100, 3) := dk_180 (a := 0) (b := 100) (by decide +kernel) rfl
theorem dX3_readHouse_38 : decode cX3_readHouse 38 = .ok (.iload_n 1, 1) := dk_27 (by decide +kernel)
theorem dX3_readHouse_39 : decode cX3_readHouse 39 = .ok (.aload_n 0, 1) := dk_42 (by decide +kernel)
theorem dX3_readHouse_40 : decode cX3_readHouse 40 = .ok (.iconst 0, 1) := dk_3 (by decide +kernel)
theorem dX3_readHouse_41 : decode cX3_readHouse 41 = .ok (.bipush 99, 2) := dk_16 (a := 99) (by decide +kernel) (by decide +kernel)
theorem dX3_readHouse_43 : decode cX3_readHouse 43 = .ok (.invokevirtual 80, 3) := dk_182 (a := 0) (b := 80) (by decide +kernel) rfl
theorem dX3_readHouse_46 : decode cX3_readHouse 46 = .ok (.iastore, 1) := dk_79 (by decide +kernel)
theorem dX3_readHouse_47 : decode cX3_readHouse 47 = .ok (.aload_n 0, 1) := dk_42 (by decide +kernel)
theorem dX3_readHouse_48 : decode cX3_readHouse 48 = .ok (.getfield 12, 3) := dk_180 (a := 0) (b := 12) (by decide +kernel) rfl
theorem dX3_readHouse_51 : decode cX3_readHouse 51 = .ok (.getfield 104, 3) := dk_180 (a := 0) (b := 104) (by decide +kernel) rfl
theorem dX3_readHouse_54 : decode cX3_readHouse 54 = .ok (.iload_n 1, 1) := dk_27 (by decide +kernel)
theorem dX3_readHouse_55 : decode cX3_readHouse 55 = .ok (.aload_n 0, 1) := dk_42 (by decide +kernel)
theorem dX3_readHouse_56 : decode cX3_readHouse 56 = .ok (.iconst 0, 1) := dk_3 (by decide +kernel)
theorem dX3_readHouse_57 : decode cX3_readHouse 57 = .ok (.bipush 99, 2) := dk_16 (a := 99) (by decide +kernel) (by decide +kernel)
theorem dX3_readHouse_59 : decode cX3_readHouse 59 = .ok (.invokevirtual 80, 3) := dk_182 (a := 0) (b := 80) (by decide +kernel) rfl
theorem dX3_readHouse_62 : decode cX3_readHouse 62 = .ok (.iastore, 1) := dk_79 (by decide +kernel)
theorem dX3_readHouse_63 : decode cX3_readHouse 63 = .ok (.aload_n 0, 1) := dk_42 (by decide +kernel)
theorem dX3_readHouse_64 : decode cX3_readHouse 64 = .ok (.ldc 107, 2) := dk_18 (a := 107) (by decide +kernel)
theorem dX3_readHouse_66 : decode cX3_readHouse 66 = .ok (.invokevirtual 97, 3) := dk_182 (a := 0) (b := 97) (by decide +kernel) rfl
theorem dX3_readHouse_69 : decode cX3_readHouse 69 = .ok (.pop, 1) := dk_87 (by decide +kernel)
theorem dX3_readHouse_70 : decode cX3_readHouse 70 = .ok (.aload_n 0, 1) := dk_42 (by decide +kernel)
theorem dX3_readHouse_71 : decode cX3_readHouse 71 = .ok (.getfield 12, 3) := dk_180 (a := 0) (b := 12) (by decide +kernel) rfl
theorem dX3_readHouse_74 : decode cX3_readHouse 74 = .ok (.getfield 109, 3) := dk_180 (a := 0) (b := 109) (by decide +kernel) rfl
theorem dX3_readHouse_77 : decode cX3_readHouse 77 = .ok (.iload_n 1, 1) := dk_27 (by decide +kernel)
theorem dX3_readHouse_78 : decode cX3_readHouse 78 = .ok (.aload_n 0, 1) := dk_42 (by decide +kernel)
theorem dX3_readHouse_79 : decode cX3_readHouse 79 = .ok (.iconst 0, 1) := dk_3 (by decide +kernel)
theorem dX3_readHouse_80 : decode cX3_readHouse 80 = .ok (.bipush 9, 2) := dk_16 (a := 9) (by decide +kernel) (by decide +kernel)
theorem dX3_readHouse_82 : decode cX3_readHouse 82 = .ok (.invokevirtual 80, 3) := dk_182 (a := 0) (b := 80) (by decide +kernel) rfl
theorem dX3_readHouse_85 : decode cX3_readHouse 85 = .ok (.iastore, 1) := dk_79 (by decide +kernel)
theorem dX3_readHouse_86 : decode cX3_readHouse 86 = .ok (.aload_n 0, 1) := dk_42 (by decide +kernel)
theorem dX3_readHouse_87 : decode cX3_readHouse 87 = .ok (.ldc 111, 2) := dk_18 (a := 111) (by decide +kernel)
theorem dX3_readHouse_89 : decode cX3_readHouse 89 = .ok (.invokevirtual 97, 3) := dk_182 (a := 0) (b := 97) (by decide +kernel) rfl
theorem dX3_readHouse_92 : decode cX3_readHouse 92 = .ok (.pop, 1) := dk_87 (by decide +kernel)
theorem dX3_readHouse_93 : decode cX3_readHouse 93 = .ok (.aload_n 0, 1) := dk_42 (by decide +kernel)
theorem dX3_readHouse_94 : decode cX3_readHouse 94 = .ok (.getfield 12, 3) := dk_180 (a := 0) (b := 12) (by decide +kernel) rfl
theorem dX3_readHouse_97 : decode cX3_readHouse 97 = .ok (.getfield 113, 3) := dk_180 (a := 0) (b := 113) (by decide +kernel) rfl
theorem dX3_readHouse_100 : decode cX3_readHouse 100 = .ok (.iload_n 1, 1) := dk_27 (by decide +kernel)
theorem dX3_readHouse_101 : decode cX3_readHouse 101 = .ok (.aload_n 0, 1) := dk_42 (by decide +kernel)
theorem dX3_readHouse_102 : decode cX3_readHouse 102 = .ok (.ldc 116, 2) := dk_18 (a := 116) (by decide +kernel)
theorem dX3_readHouse_104 : decode cX3_readHouse 104 = .ok (.invokevirtual 97, 3) := dk_182 (a := 0) (b := 97) (by decide +kernel) rfl
theorem dX3_readHouse_107 : decode cX3_readHouse 107 = .ok (.iastore, 1) := dk_79 (by decide +kernel)
theorem dX3_readHouse_108 : decode cX3_readHouse 108 = .ok (.aload_n 0, 1) := dk_42 (by decide +kernel)
theorem dX3_readHouse_109 : decode cX3_readHouse 109 = .ok (.getfield 12, 3) := dk_180 (a := 0) (b := 12) (by decide +kernel) rfl
theorem dX3_readHouse_112 : decode cX3_readHouse 112 = .ok (.getfield 118, 3) := dk_180 (a := 0) (b := 118) (by decide +kernel) rfl
theorem dX3_readHouse_115 : decode cX3_readHouse 115 = .ok (.iload_n 1, 1) := dk_27 (by decide +kernel)
theorem dX3_readHouse_116 : decode cX3_readHouse 116 = .ok (.aload_n 0, 1) := dk_42 (by decide +kernel)
theorem dX3_readHouse_117 : decode cX3_readHouse 117 = .ok (.iconst 0, 1) := dk_3 (by decide +kernel)
theorem dX3_readHouse_118 : decode cX3_readHouse 118 = .ok (.sipush 180, 3) := dk_17 (a := 0) (b := 180) (by decide +kernel) (by decide +kernel)
theorem dX3_readHouse_121 : decode cX3_readHouse 121 = .ok (.invokevirtual 80, 3) := dk_182 (a := 0) (b := 80) (by decide +kernel) rfl
theorem dX3_readHouse_124 : decode cX3_readHouse 124 = .ok (.iastore, 1) := dk_79 (by decide +kernel)
theorem dX3_readHouse_125 : decode cX3_readHouse 125 = .ok (.aload_n 0, 1) := dk_42 (by decide +kernel)
theorem dX3_readHouse_126 : decode cX3_readHouse 126 = .ok (.getfield 12, 3) := dk_180 (a := 0) (b := 12) (by decide +kernel) rfl
theorem dX3_readHouse_129 : decode cX3_readHouse 129 = .ok (.getfield 121, 3) := dk_180 (a := 0) (b := 121) (by decide +kernel) rfl
theorem dX3_readHouse_132 : decode cX3_readHouse 132 = .ok (.iload_n 1, 1) := dk_27 (by decide +kernel)
theorem dX3_readHouse_133 : decode cX3_readHouse 133 = .ok (.aload_n 0, 1) := dk_42 (by decide +kernel)
theorem dX3_readHouse_134 : decode cX3_readHouse 134 = .ok (.aload_n 0, 1) := dk_42 (by decide +kernel)
theorem dX3_readHouse_135 : decode cX3_readHouse 135 = .ok (.getfield 12, 3) := dk_180 (a := 0) (b := 12) (by decide +kernel) rfl
theorem dX3_readHouse_138 : decode cX3_readHouse 138 = .ok (.getfield 118, 3) := dk_180 (a := 0) (b := 118) (by decide +kernel) rfl
theorem dX3_readHouse_141 : decode cX3_readHouse 141 = .ok (.iload_n 1, 1) := dk_27 (by decide +kernel)
theorem dX3_readHouse_142 : decode cX3_readHouse 142 = .ok (.iaload, 1) := dk_46 (by decide +kernel)
theorem dX3_readHouse_143 : decode cX3_readHouse 143 = .ok (.sipush 180, 3) := dk_17 (a := 0) (b := 180) (by decide +kernel) (by decide +kernel)
theorem dX3_readHouse_146 : decode cX3_readHouse 146 = .ok (.invokevirtual 80, 3) := dk_182 (a := 0) (b := 80) (by decide +kernel) rfl
theorem dX3_readHouse_149 : decode cX3_readHouse 149 = .ok (.iastore, 1) := dk_79 (by decide +kernel)
theorem dX3_readHouse_150 : decode cX3_readHouse 150 = .ok (.aload_n 0, 1) := dk_42 (by decide +kernel)
theorem dX3_readHouse_151 : decode cX3_readHouse 151 = .ok (.getfield 12, 3) := dk_180 (a := 0) (b := 12) (by decide +kernel) rfl
theorem dX3_readHouse_154 : decode cX3_readHouse 154 = .ok (.getfield 124, 3) := dk_180 (a := 0) (b := 124) (by decide +kernel) rfl
theorem dX3_readHouse_157 : decode cX3_readHouse 157 = .ok (.iload_n 1, 1) := dk_27 (by decide +kernel)
theorem dX3_readHouse_158 : decode cX3_readHouse 158 = .ok (.aload_n 0, 1) := dk_42 (by decide +kernel)
theorem dX3_readHouse_159 : decode cX3_readHouse 159 = .ok (.ldc 127, 2) := dk_18 (a := 127) (by decide +kernel)
theorem dX3_readHouse_161 : decode cX3_readHouse 161 = .ok (.invokevirtual 128, 3) := dk_182 (a := 0) (b := 128) (by decide +kernel) rfl
theorem dX3_readHouse_164 : decode cX3_readHouse 164 = .ok (.ifCond .eq 14, 3) := dk_153 (a := 0) (b := 14) (by decide +kernel) (by decide +kernel)
theorem dX3_readHouse_167 : decode cX3_readHouse 167 = .ok (.aload_n 0, 1) := dk_42 (by decide +kernel)
theorem dX3_readHouse_168 : decode cX3_readHouse 168 = .ok (.iconst 0, 1) := dk_3 (by decide +kernel)
theorem dX3_readHouse_169 : decode cX3_readHouse 169 = .ok (.sipush 399, 3) := dk_17 (a := 1) (b := 143) (by decide +kernel) (by decide +kernel)
theorem dX3_readHouse_172 : decode cX3_readHouse 172 = .ok (.invokevirtual 80, 3) := dk_182 (a := 0) (b := 80) (by decide +kernel) rfl
theorem dX3_readHouse_175 : decode cX3_readHouse 175 = .ok (.goto 4, 3) := dk_167 (a := 0) (b := 4) (by decide +kernel) (by decide +kernel)
theorem dX3_readHouse_178 : decode cX3_readHouse 178 = .ok (.iconst 0, 1) := dk_3 (by decide +kernel)
theorem dX3_readHouse_179 : decode cX3_readHouse 179 = .ok (.iastore, 1) := dk_79 (by decide +kernel)
theorem dX3_readHouse_180 : decode cX3_readHouse 180 = .ok (.aload_n 0, 1) := dk_42 (by decide +kernel)
theorem dX3_readHouse_181 : decode cX3_readHouse 181 = .ok (.getfield 12, 3) := dk_180 (a := 0) (b := 12) (by decide +kernel) rfl
theorem dX3_readHouse_184 : decode cX3_readHouse 184 = .ok (.getfield 132, 3) := dk_180 (a := 0) (b := 132) (by decide +kernel) rfl
theorem dX3_readHouse_187 : decode cX3_readHouse 187 = .ok (.iload_n 1, 1) := dk_27 (by decide +kernel)
theorem dX3_readHouse_188 : decode cX3_readHouse 188 = .ok (.aload_n 0, 1) := dk_42 (by decide +kernel)
theorem dX3_readHouse_189 : decode cX3_readHouse 189 = .ok (.ldc 135, 2) := dk_18 (a := 135) (by decide +kernel)
theorem dX3_readHouse_191 : decode cX3_readHouse 191 = .ok (.invokevirtual 128, 3) := dk_182 (a := 0) (b := 128) (by decide +kernel) rfl
theorem dX3_readHouse_194 : decode cX3_readHouse 194 = .ok (.ifCond .eq 13, 3) := dk_153 (a := 0) (b := 13) (by decide +kernel) (by decide +kernel)
theorem dX3_readHouse_197 : decode cX3_readHouse 197 = .ok (.aload_n 0, 1) := dk_42 (by decide +kernel)
theorem dX3_readHouse_198 : decode cX3_readHouse 198 = .ok (.iconst 0, 1) := dk_3 (by decide +kernel)
theorem dX3_readHouse_199 : decode cX3_readHouse 199 = .ok (.bipush 99, 2) := dk_16 (a := 99) (by decide +kernel) (by decide +kernel)
theorem dX3_readHouse_201 : decode cX3_readHouse 201 = .ok (.invokevirtual 80, 3) := dk_182 (a := 0) (b := 80) (by decide +kernel) rfl
theorem dX3_readHouse_204 : decode cX3_readHouse 204 = .ok (.goto 4, 3) := dk_167 (a := 0) (b := 4) (by decide +kernel) (by decide +kernel)
theorem dX3_readHouse_207 : decode cX3_readHouse 207 = .ok (.iconst 0, 1) := dk_3 (by decide +kernel)
theorem dX3_readHouse_208 : decode cX3_readHouse 208 = .ok (.iastore, 1) := dk_79 (by decide +kernel)
theorem dX3_readHouse_209 : decode cX3_readHouse 209 = .ok (.aload_n 0, 1) := dk_42 (by decide +kernel)
theorem dX3_readHouse_210 : decode cX3_readHouse 210 = .ok (.getfield 12, 3) := dk_180 (a := 0) (b := 12) (by decide +kernel) rfl
theorem dX3_readHouse_213 : decode cX3_readHouse 213 = .ok (.dup, 1) := dk_89 (by decide +kernel)
theorem dX3_readHouse_214 : decode cX3_readHouse 214 = .ok (.getfield 92, 3) := dk_180 (a := 0) (b := 92) (by decide +kernel) rfl
theorem dX3_readHouse_217 : decode cX3_readHouse 217 = .ok (.iconst 1, 1) := dk_4 (by decide +kernel)
theorem dX3_readHouse_218 : decode cX3_readHouse 218 = .ok (.iadd, 1) := dk_96 (by decide +kernel)
theorem dX3_readHouse_219 : decode cX3_readHouse 219 = .ok (.putfield 92, 3) := dk_181 (a := 0) (b := 92) (by decide +kernel) rfl
theorem dX3_readHouse_222 : decode cX3_readHouse 222 = .ok (.return_, 1) := dk_177 (by decide +kernel)
theorem dX3_readKnow_0 : decode cX3_readKnow 0 = .ok (.aload_n 0, 1) := dk_42 (by decide +kernel)
theorem dX3_readKnow_1 : decode cX3_readKnow 1 = .ok (.invokevirtual 52, 3) := dk_182 (a := 0) (b := 52) (by decide +kernel) rfl
theorem dX3_readKnow_4 : decode cX3_readKnow 4 = .ok (.aload_n 0, 1) := dk_42 (by decide +kernel)
theorem dX3_readKnow_5 : decode cX3_readKnow 5 = .ok (.iconst 0, 1) := dk_3 (by decide +kernel)
theorem dX3_readKnow_6 : decode cX3_readKnow 6 = .ok (.aload_n 0, 1) := dk_42 (by decide +kernel)
theorem dX3_readKnow_7 : decode cX3_readKnow 7 = .ok (.getfield 12, 3) := dk_180 (a := 0) (b := 12) (by decide +kernel) rfl
theorem dX3_readKnow_10 : decode cX3_readKnow 10 = .ok (.getfield 92, 3) := dk_180 (a := 0) (b := 92) (by decide +kernel) rfl
theorem dX3_readKnow_13 : decode cX3_readKnow 13 = .ok (.iconst 1, 1) := dk_4 (by decide +kernel)
theorem dX3_readKnow_14 : decode cX3_readKnow 14 = .ok (.isub, 1) := dk_100 (by decide +kernel)
theorem dX3_readKnow_15 : decode cX3_readKnow 15 = .ok (.invokevirtual 80, 3) := dk_182 (a := 0) (b := 80) (by decide +kernel) rfl
theorem dX3_readKnow_18 : decode cX3_readKnow 18 = .ok (.istore_n 1, 1) := dk_60 (by decide +kernel)
theorem dX3_readKnow_19 : decode cX3_readKnow 19 = .ok (.aload_n 0, 1) := dk_42 (by decide +kernel)
theorem dX3_readKnow_20 : decode cX3_readKnow 20 = .ok (.getfield 55, 3) := dk_180 (a := 0) (b := 55) (by decide +kernel) rfl
theorem dX3_readKnow_23 : decode cX3_readKnow 23 = .ok (.iconst 2, 1) := dk_5 (by decide +kernel)
theorem dX3_readKnow_24 : decode cX3_readKnow 24 = .ok (.if_icmp .ne 16, 3) := dk_160 (a := 0) (b := 16) (by decide +kernel) (by decide +kernel)
theorem dX3_readKnow_27 : decode cX3_readKnow 27 = .ok (.aload_n 0, 1) := dk_42 (by decide +kernel)
theorem dX3_readKnow_28 : decode cX3_readKnow 28 = .ok (.getfield 136, 3) := dk_180 (a := 0) (b := 136) (by decide +kernel) rfl
theorem dX3_readKnow_31 : decode cX3_readKnow 31 = .ok (.iload_n 1, 1) := dk_27 (by decide +kernel)
theorem dX3_readKnow_32 : decode cX3_readKnow 32 = .ok (.if_icmp .ne 8, 3) := dk_160 (a := 0) (b := 8) (by decide +kernel) (by decide +kernel)
theorem dX3_readKnow_35 : decode cX3_readKnow 35 = .ok (.aload_n 0, 1) := dk_42 (by decide +kernel)
theorem dX3_readKnow_36 : decode cX3_readKnow 36 = .ok (.iconst 2, 1) := dk_5 (by decide +kernel)
theorem dX3_readKnow_37 : decode cX3_readKnow 37 = .ok (.invokevirtual 89, 3) := dk_182 (a := 0) (b := 89) (by decide +kernel) rfl
theorem dX3_readKnow_40 : decode cX3_readKnow 40 = .ok (.aload_n 0, 1) := dk_42 (by decide +kernel)
theorem dX3_readKnow_41 : decode cX3_readKnow 41 = .ok (.iconst 0, 1) := dk_3 (by decide +kernel)
theorem dX3_readKnow_42 : decode cX3_readKnow 42 = .ok (.aload_n 0, 1) := dk_42 (by decide +kernel)
theorem dX3_readKnow_43 : decode cX3_readKnow 43 = .ok (.getfield 12, 3) := dk_180 (a := 0) (b := 12) (by decide +kernel) rfl
theorem dX3_readKnow_46 : decode cX3_readKnow 46 = .ok (.getfield 92, 3) := dk_180 (a := 0) (b := 92) (by decide +kernel) rfl
theorem dX3_readKnow_49 : decode cX3_readKnow 49 = .ok (.iconst 1, 1) := dk_4 (by decide +kernel)
theorem dX3_readKnow_50 : decode cX3_readKnow 50 = .ok (.isub, 1) := dk_100 (by decide +kernel)
theorem dX3_readKnow_51 : decode cX3_readKnow 51 = .ok (.invokevirtual 80, 3) := dk_182 (a := 0) (b := 80) (by decide +kernel) rfl
theorem dX3_readKnow_54 : decode cX3_readKnow 54 = .ok (.istore_n 2, 1) := dk_61 (by decide +kernel)
theorem dX3_readKnow_55 : decode cX3_readKnow 55 = .ok (.aload_n 0, 1) := dk_42 (by decide +kernel)
theorem dX3_readKnow_56 : decode cX3_readKnow 56 = .ok (.getfield 45, 3) := dk_180 (a := 0) (b := 45) (by decide +kernel) rfl
theorem dX3_readKnow_59 : decode cX3_readKnow 59 = .ok (.ifCond .ne 33, 3) := dk_154 (a := 0) (b := 33) (by decide +kernel) (by decide +kernel)
theorem dX3_readKnow_62 : decode cX3_readKnow 62 = .ok (.aload_n 0, 1) := dk_42 (by decide +kernel)
theorem dX3_readKnow_63 : decode cX3_readKnow 63 = .ok (.getfield 12, 3) := dk_180 (a := 0) (b := 12) (by decide +kernel) rfl
theorem dX3_readKnow_66 : decode cX3_readKnow 66 = .ok (.getfield 139, 3) := dk_180 (a := 0) (b := 139) (by decide +kernel) rfl
theorem dX3_readKnow_69 : decode cX3_readKnow 69 = .ok (.iload_n 1, 1) := dk_27 (by decide +kernel)
theorem dX3_readKnow_70 : decode cX3_readKnow 70 = .ok (.dup2, 1) := dk_92 (by decide +kernel)
theorem dX3_readKnow_71 : decode cX3_readKnow 71 = .ok (.iaload, 1) := dk_46 (by decide +kernel)
theorem dX3_readKnow_72 : decode cX3_readKnow 72 = .ok (.iconst 1, 1) := dk_4 (by decide +kernel)
theorem dX3_readKnow_73 : decode cX3_readKnow 73 = .ok (.iload_n 2, 1) := dk_28 (by decide +kernel)
theorem dX3_readKnow_74 : decode cX3_readKnow 74 = .ok (.ishl, 1) := dk_120 (by decide +kernel)
theorem dX3_readKnow_75 : decode cX3_readKnow 75 = .ok (.ior, 1) := dk_128 (by decide +kernel)
theorem dX3_readKnow_76 : decode cX3_readKnow 76 = .ok (.iastore, 1) := dk_79 (by decide +kernel)
theorem dX3_readKnow_77 : decode cX3_readKnow 77 = .ok (.aload_n 0, 1) := dk_42 (by decide +kernel)
theorem dX3_readKnow_78 : decode cX3_readKnow 78 = .ok (.getfield 12, 3) := dk_180 (a := 0) (b := 12) (by decide +kernel) rfl
theorem dX3_readKnow_81 : decode cX3_readKnow 81 = .ok (.getfield 139, 3) := dk_180 (a := 0) (b := 139) (by decide +kernel) rfl
theorem dX3_readKnow_84 : decode cX3_readKnow 84 = .ok (.iload_n 2, 1) := dk_28 (by decide +kernel)
theorem dX3_readKnow_85 : decode cX3_readKnow 85 = .ok (.dup2, 1) := dk_92 (by decide +kernel)
theorem dX3_readKnow_86 : decode cX3_readKnow 86 = .ok (.iaload, 1) := dk_46 (by decide +kernel)
theorem dX3_readKnow_87 : decode cX3_readKnow 87 = .ok (.iconst 1, 1) := dk_4 (by decide +kernel)
theorem dX3_readKnow_88 : decode cX3_readKnow 88 = .ok (.iload_n 1, 1) := dk_27 (by decide +kernel)
theorem dX3_readKnow_89 : decode cX3_readKnow 89 = .ok (.ishl, 1) := dk_120 (by decide +kernel)
theorem dX3_readKnow_90 : decode cX3_readKnow 90 = .ok (.ior, 1) := dk_128 (by decide +kernel)
theorem dX3_readKnow_91 : decode cX3_readKnow 91 = .ok (.iastore, 1) := dk_79 (by decide +kernel)
theorem dX3_readKnow_92 : decode cX3_readKnow 92 = .ok (.return_, 1) := dk_177 (by decide +kernel)
theorem dX3_readOwes_0 : decode cX3_readOwes 0 = .ok (.aload_n 0, 1) := dk_42 (by decide +kernel)
theorem dX3_readOwes_1 : decode cX3_readOwes 1 = .ok (.getfield 21, 3) := dk_180 (a := 0) (b := 21) (by decide +kernel) rfl
theorem dX3_readOwes_4 : decode cX3_readOwes 4 = .ok (.getfield 142, 3) := dk_180 (a := 0) (b := 142) (by decide +kernel) rfl
theorem dX3_readOwes_7 : decode cX3_readOwes 7 = .ok (.istore_n 2, 1) := dk_61 (by decide +kernel)
theorem dX3_readOwes_8 : decode cX3_readOwes 8 = .ok (.iload_n 2, 1) := dk_28 (by decide +kernel)
theorem dX3_readOwes_9 : decode cX3_readOwes 9 = .ok (.bipush 24, 2) := dk_16 (a := 24) (by decide +kernel) (by decide +kernel)
theorem dX3_readOwes_11 : decode cX3_readOwes 11 = .ok (.if_icmp .lt 9, 3) := dk_161 (a := 0) (b := 9) (by decide +kernel) (by decide +kernel)
theorem dX3_readOwes_14 : decode cX3_readOwes 14 = .ok (.aload_n 0, 1) := dk_42 (by decide +kernel)
theorem dX3_readOwes_15 : decode cX3_readOwes 15 = .ok (.iconst 3, 1) := dk_6 (by decide +kernel)
theorem dX3_readOwes_16 : decode cX3_readOwes 16 = .ok (.invokevirtual 89, 3) := dk_182 (a := 0) (b := 89) (by decide +kernel) rfl
theorem dX3_readOwes_19 : decode cX3_readOwes 19 = .ok (.return_, 1) := dk_177 (by decide +kernel)
theorem dX3_readOwes_20 : decode cX3_readOwes 20 = .ok (.aload_n 0, 1) := dk_42 (by decide +kernel)
theorem dX3_readOwes_21 : decode cX3_readOwes 21 = .ok (.invokevirtual 52, 3) := dk_182 (a := 0) (b := 52) (by decide +kernel) rfl
theorem dX3_readOwes_24 : decode cX3_readOwes 24 = .ok (.aload_n 0, 1) := dk_42 (by decide +kernel)
theorem dX3_readOwes_25 : decode cX3_readOwes 25 = .ok (.ldc 145, 2) := dk_18 (a := 145) (by decide +kernel)
theorem dX3_readOwes_27 : decode cX3_readOwes 27 = .ok (.invokevirtual 97, 3) := dk_182 (a := 0) (b := 97) (by decide +kernel) rfl
theorem dX3_readOwes_30 : decode cX3_readOwes 30 = .ok (.pop, 1) := dk_87 (by decide +kernel)
theorem dX3_readOwes_31 : decode cX3_readOwes 31 = .ok (.aload_n 0, 1) := dk_42 (by decide +kernel)
theorem dX3_readOwes_32 : decode cX3_readOwes 32 = .ok (.getfield 21, 3) := dk_180 (a := 0) (b := 21) (by decide +kernel) rfl
theorem dX3_readOwes_35 : decode cX3_readOwes 35 = .ok (.getfield 147, 3) := dk_180 (a := 0) (b := 147) (by decide +kernel) rfl
theorem dX3_readOwes_38 : decode cX3_readOwes 38 = .ok (.iload_n 2, 1) := dk_28 (by decide +kernel)
theorem dX3_readOwes_39 : decode cX3_readOwes 39 = .ok (.iload_n 1, 1) := dk_27 (by decide +kernel)
theorem dX3_readOwes_40 : decode cX3_readOwes 40 = .ok (.iastore, 1) := dk_79 (by decide +kernel)
theorem dX3_readOwes_41 : decode cX3_readOwes 41 = .ok (.aload_n 0, 1) := dk_42 (by decide +kernel)
theorem dX3_readOwes_42 : decode cX3_readOwes 42 = .ok (.getfield 21, 3) := dk_180 (a := 0) (b := 21) (by decide +kernel) rfl
theorem dX3_readOwes_45 : decode cX3_readOwes 45 = .ok (.getfield 150, 3) := dk_180 (a := 0) (b := 150) (by decide +kernel) rfl
theorem dX3_readOwes_48 : decode cX3_readOwes 48 = .ok (.iload_n 2, 1) := dk_28 (by decide +kernel)
theorem dX3_readOwes_49 : decode cX3_readOwes 49 = .ok (.aload_n 0, 1) := dk_42 (by decide +kernel)
theorem dX3_readOwes_50 : decode cX3_readOwes 50 = .ok (.ldc 152, 2) := dk_18 (a := 152) (by decide +kernel)
theorem dX3_readOwes_52 : decode cX3_readOwes 52 = .ok (.invokevirtual 97, 3) := dk_182 (a := 0) (b := 97) (by decide +kernel) rfl
theorem dX3_readOwes_55 : decode cX3_readOwes 55 = .ok (.iastore, 1) := dk_79 (by decide +kernel)
theorem dX3_readOwes_56 : decode cX3_readOwes 56 = .ok (.aload_n 0, 1) := dk_42 (by decide +kernel)
theorem dX3_readOwes_57 : decode cX3_readOwes 57 = .ok (.ldc 154, 2) := dk_18 (a := 154) (by decide +kernel)
theorem dX3_readOwes_59 : decode cX3_readOwes 59 = .ok (.invokevirtual 97, 3) := dk_182 (a := 0) (b := 97) (by decide +kernel) rfl
theorem dX3_readOwes_62 : decode cX3_readOwes 62 = .ok (.pop, 1) := dk_87 (by decide +kernel)
theorem dX3_readOwes_63 : decode cX3_readOwes 63 = .ok (.aload_n 0, 1) := dk_42 (by decide +kernel)
theorem dX3_readOwes_64 : decode cX3_readOwes 64 = .ok (.getfield 21, 3) := dk_180 (a := 0) (b := 21) (by decide +kernel) rfl
theorem dX3_readOwes_67 : decode cX3_readOwes 67 = .ok (.getfield 156, 3) := dk_180 (a := 0) (b := 156) (by decide +kernel) rfl
theorem dX3_readOwes_70 : decode cX3_readOwes 70 = .ok (.iload_n 2, 1) := dk_28 (by decide +kernel)
theorem dX3_readOwes_71 : decode cX3_readOwes 71 = .ok (.aload_n 0, 1) := dk_42 (by decide +kernel)
theorem dX3_readOwes_72 : decode cX3_readOwes 72 = .ok (.iconst 0, 1) := dk_3 (by decide +kernel)
theorem dX3_readOwes_73 : decode cX3_readOwes 73 = .ok (.bipush 99, 2) := dk_16 (a := 99) (by decide +kernel) (by decide +kernel)
theorem dX3_readOwes_75 : decode cX3_readOwes 75 = .ok (.invokevirtual 80, 3) := dk_182 (a := 0) (b := 80) (by decide +kernel) rfl
theorem dX3_readOwes_78 : decode cX3_readOwes 78 = .ok (.iastore, 1) := dk_79 (by decide +kernel)
theorem dX3_readOwes_79 : decode cX3_readOwes 79 = .ok (.aload_n 0, 1) := dk_42 (by decide +kernel)
theorem dX3_readOwes_80 : decode cX3_readOwes 80 = .ok (.getfield 21, 3) := dk_180 (a := 0) (b := 21) (by decide +kernel) rfl
theorem dX3_readOwes_83 : decode cX3_readOwes 83 = .ok (.getfield 158, 3) := dk_180 (a := 0) (b := 158) (by decide +kernel) rfl
theorem dX3_readOwes_86 : decode cX3_readOwes 86 = .ok (.iload_n 2, 1) := dk_28 (by decide +kernel)
theorem dX3_readOwes_87 : decode cX3_readOwes 87 = .ok (.aload_n 0, 1) := dk_42 (by decide +kernel)
theorem dX3_readOwes_88 : decode cX3_readOwes 88 = .ok (.getfield 21, 3) := dk_180 (a := 0) (b := 21) (by decide +kernel) rfl
theorem dX3_readOwes_91 : decode cX3_readOwes 91 = .ok (.getfield 161, 3) := dk_180 (a := 0) (b := 161) (by decide +kernel) rfl
theorem dX3_readOwes_94 : decode cX3_readOwes 94 = .ok (.iastore, 1) := dk_79 (by decide +kernel)
theorem dX3_readOwes_95 : decode cX3_readOwes 95 = .ok (.aload_n 0, 1) := dk_42 (by decide +kernel)
theorem dX3_readOwes_96 : decode cX3_readOwes 96 = .ok (.ldc 164, 2) := dk_18 (a := 164) (by decide +kernel)
theorem dX3_readOwes_98 : decode cX3_readOwes 98 = .ok (.invokevirtual 128, 3) := dk_182 (a := 0) (b := 128) (by decide +kernel) rfl
theorem dX3_readOwes_101 : decode cX3_readOwes 101 = .ok (.ifCond .eq 7, 3) := dk_153 (a := 0) (b := 7) (by decide +kernel) (by decide +kernel)
theorem dX3_readOwes_104 : decode cX3_readOwes 104 = .ok (.aload_n 0, 1) := dk_42 (by decide +kernel)
theorem dX3_readOwes_105 : decode cX3_readOwes 105 = .ok (.invokevirtual 166, 3) := dk_182 (a := 0) (b := 166) (by decide +kernel) rfl
theorem dX3_readOwes_108 : decode cX3_readOwes 108 = .ok (.aload_n 0, 1) := dk_42 (by decide +kernel)
theorem dX3_readOwes_109 : decode cX3_readOwes 109 = .ok (.getfield 21, 3) := dk_180 (a := 0) (b := 21) (by decide +kernel) rfl
theorem dX3_readOwes_112 : decode cX3_readOwes 112 = .ok (.getfield 169, 3) := dk_180 (a := 0) (b := 169) (by decide +kernel) rfl
theorem dX3_readOwes_115 : decode cX3_readOwes 115 = .ok (.iload_n 2, 1) := dk_28 (by decide +kernel)
theorem dX3_readOwes_116 : decode cX3_readOwes 116 = .ok (.aload_n 0, 1) := dk_42 (by decide +kernel)
theorem dX3_readOwes_117 : decode cX3_readOwes 117 = .ok (.getfield 21, 3) := dk_180 (a := 0) (b := 21) (by decide +kernel) rfl
theorem dX3_readOwes_120 : decode cX3_readOwes 120 = .ok (.getfield 161, 3) := dk_180 (a := 0) (b := 161) (by decide +kernel) rfl
theorem dX3_readOwes_123 : decode cX3_readOwes 123 = .ok (.iastore, 1) := dk_79 (by decide +kernel)
theorem dX3_readOwes_124 : decode cX3_readOwes 124 = .ok (.aload_n 0, 1) := dk_42 (by decide +kernel)
theorem dX3_readOwes_125 : decode cX3_readOwes 125 = .ok (.getfield 21, 3) := dk_180 (a := 0) (b := 21) (by decide +kernel) rfl
theorem dX3_readOwes_128 : decode cX3_readOwes 128 = .ok (.dup, 1) := dk_89 (by decide +kernel)
theorem dX3_readOwes_129 : decode cX3_readOwes 129 = .ok (.getfield 142, 3) := dk_180 (a := 0) (b := 142) (by decide +kernel) rfl
theorem dX3_readOwes_132 : decode cX3_readOwes 132 = .ok (.iconst 1, 1) := dk_4 (by decide +kernel)
theorem dX3_readOwes_133 : decode cX3_readOwes 133 = .ok (.iadd, 1) := dk_96 (by decide +kernel)
theorem dX3_readOwes_134 : decode cX3_readOwes 134 = .ok (.putfield 142, 3) := dk_181 (a := 0) (b := 142) (by decide +kernel) rfl
theorem dX3_readOwes_137 : decode cX3_readOwes 137 = .ok (.return_, 1) := dk_177 (by decide +kernel)
theorem dX3_readTests_0 : decode cX3_readTests 0 = .ok (.iconst 0, 1) := dk_3 (by decide +kernel)
theorem dX3_readTests_1 : decode cX3_readTests 1 = .ok (.istore_n 1, 1) := dk_60 (by decide +kernel)
theorem dX3_readTests_2 : decode cX3_readTests 2 = .ok (.iconst 0, 1) := dk_3 (by decide +kernel)
theorem dX3_readTests_3 : decode cX3_readTests 3 = .ok (.istore_n 2, 1) := dk_61 (by decide +kernel)
theorem dX3_readTests_4 : decode cX3_readTests 4 = .ok (.iload_n 2, 1) := dk_28 (by decide +kernel)
theorem dX3_readTests_5 : decode cX3_readTests 5 = .ok (.sipush 1400, 3) := dk_17 (a := 5) (b := 120) (by decide +kernel) (by decide +kernel)
theorem dX3_readTests_8 : decode cX3_readTests 8 = .ok (.if_icmp .gt 186, 3) := dk_163 (a := 0) (b := 186) (by decide +kernel) (by decide +kernel)
theorem dX3_readTests_11 : decode cX3_readTests 11 = .ok (.aload_n 0, 1) := dk_42 (by decide +kernel)
theorem dX3_readTests_12 : decode cX3_readTests 12 = .ok (.getfield 55, 3) := dk_180 (a := 0) (b := 55) (by decide +kernel) rfl
theorem dX3_readTests_15 : decode cX3_readTests 15 = .ok (.iconst 2, 1) := dk_5 (by decide +kernel)
theorem dX3_readTests_16 : decode cX3_readTests 16 = .ok (.if_icmp .ne 7, 3) := dk_160 (a := 0) (b := 7) (by decide +kernel) (by decide +kernel)
theorem dX3_readTests_19 : decode cX3_readTests 19 = .ok (.iconst 1, 1) := dk_4 (by decide +kernel)
theorem dX3_readTests_20 : decode cX3_readTests 20 = .ok (.goto 4, 3) := dk_167 (a := 0) (b := 4) (by decide +kernel) (by decide +kernel)
theorem dX3_readTests_23 : decode cX3_readTests 23 = .ok (.iconst 0, 1) := dk_3 (by decide +kernel)
theorem dX3_readTests_24 : decode cX3_readTests 24 = .ok (.istore_n 3, 1) := dk_62 (by decide +kernel)
theorem dX3_readTests_25 : decode cX3_readTests 25 = .ok (.aload_n 0, 1) := dk_42 (by decide +kernel)
theorem dX3_readTests_26 : decode cX3_readTests 26 = .ok (.getfield 21, 3) := dk_180 (a := 0) (b := 21) (by decide +kernel) rfl
theorem dX3_readTests_29 : decode cX3_readTests 29 = .ok (.iload_n 3, 1) := dk_29 (by decide +kernel)
theorem dX3_readTests_30 : decode cX3_readTests 30 = .ok (.ifCond .eq 14, 3) := dk_153 (a := 0) (b := 14) (by decide +kernel) (by decide +kernel)
theorem dX3_readTests_33 : decode cX3_readTests 33 = .ok (.aload_n 0, 1) := dk_42 (by decide +kernel)
theorem dX3_readTests_34 : decode cX3_readTests 34 = .ok (.iconst 0, 1) := dk_3 (by decide +kernel)
theorem dX3_readTests_35 : decode cX3_readTests 35 = .ok (.sipush 999, 3) := dk_17 (a := 3) (b := 231) (by decide +kernel) (by decide +kernel)
theorem dX3_readTests_38 : decode cX3_readTests 38 = .ok (.invokevirtual 80, 3) := dk_182 (a := 0) (b := 80) (by decide +kernel) rfl
theorem dX3_readTests_41 : decode cX3_readTests 41 = .ok (.goto 13, 3) := dk_167 (a := 0) (b := 13) (by decide +kernel) (by decide +kernel)
theorem dX3_readTests_44 : decode cX3_readTests 44 = .ok (.sipush 1000, 3) := dk_17 (a := 3) (b := 232) (by decide +kernel) (by decide +kernel)
theorem dX3_readTests_47 : decode cX3_readTests 47 = .ok (.aload_n 0, 1) := dk_42 (by decide +kernel)
theorem dX3_readTests_48 : decode cX3_readTests 48 = .ok (.ldc 172, 2) := dk_18 (a := 172) (by decide +kernel)
theorem dX3_readTests_50 : decode cX3_readTests 50 = .ok (.invokevirtual 97, 3) := dk_182 (a := 0) (b := 97) (by decide +kernel) rfl
theorem dX3_readTests_53 : decode cX3_readTests 53 = .ok (.iadd, 1) := dk_96 (by decide +kernel)
theorem dX3_readTests_54 : decode cX3_readTests 54 = .ok (.invokevirtual 174, 3) := dk_182 (a := 0) (b := 174) (by decide +kernel) rfl
theorem dX3_readTests_57 : decode cX3_readTests 57 = .ok (.aload_n 0, 1) := dk_42 (by decide +kernel)
theorem dX3_readTests_58 : decode cX3_readTests 58 = .ok (.getfield 45, 3) := dk_180 (a := 0) (b := 45) (by decide +kernel) rfl
theorem dX3_readTests_61 : decode cX3_readTests 61 = .ok (.ifCond .ne 15, 3) := dk_154 (a := 0) (b := 15) (by decide +kernel) (by decide +kernel)
theorem dX3_readTests_64 : decode cX3_readTests 64 = .ok (.iload_n 1, 1) := dk_27 (by decide +kernel)
theorem dX3_readTests_65 : decode cX3_readTests 65 = .ok (.ifCond .eq 12, 3) := dk_153 (a := 0) (b := 12) (by decide +kernel) (by decide +kernel)
theorem dX3_readTests_68 : decode cX3_readTests 68 = .ok (.aload_n 0, 1) := dk_42 (by decide +kernel)
theorem dX3_readTests_69 : decode cX3_readTests 69 = .ok (.getfield 55, 3) := dk_180 (a := 0) (b := 55) (by decide +kernel) rfl
theorem dX3_readTests_72 : decode cX3_readTests 72 = .ok (.iconst 3, 1) := dk_6 (by decide +kernel)
theorem dX3_readTests_73 : decode cX3_readTests 73 = .ok (.if_icmp .ne 4, 3) := dk_160 (a := 0) (b := 4) (by decide +kernel) (by decide +kernel)
theorem dX3_readTests_76 : decode cX3_readTests 76 = .ok (.return_, 1) := dk_177 (by decide +kernel)
theorem dX3_readTests_77 : decode cX3_readTests 77 = .ok (.sipush 2000, 3) := dk_17 (a := 7) (b := 208) (by decide +kernel) (by decide +kernel)
theorem dX3_readTests_80 : decode cX3_readTests 80 = .ok (.aload_n 0, 1) := dk_42 (by decide +kernel)
theorem dX3_readTests_81 : decode cX3_readTests 81 = .ok (.ldc 177, 2) := dk_18 (a := 177) (by decide +kernel)
theorem dX3_readTests_83 : decode cX3_readTests 83 = .ok (.invokevirtual 60, 3) := dk_182 (a := 0) (b := 60) (by decide +kernel) rfl
theorem dX3_readTests_86 : decode cX3_readTests 86 = .ok (.iadd, 1) := dk_96 (by decide +kernel)
theorem dX3_readTests_87 : decode cX3_readTests 87 = .ok (.istore 4, 2) := dk_54 (a := 4) (by decide +kernel)
theorem dX3_readTests_89 : decode cX3_readTests 89 = .ok (.iload 4, 2) := dk_21 (a := 4) (by decide +kernel)
theorem dX3_readTests_91 : decode cX3_readTests 91 = .ok (.sipush 2000, 3) := dk_17 (a := 7) (b := 208) (by decide +kernel) (by decide +kernel)
theorem dX3_readTests_94 : decode cX3_readTests 94 = .ok (.if_icmp .lt 15, 3) := dk_161 (a := 0) (b := 15) (by decide +kernel) (by decide +kernel)
theorem dX3_readTests_97 : decode cX3_readTests 97 = .ok (.iload 4, 2) := dk_21 (a := 4) (by decide +kernel)
theorem dX3_readTests_99 : decode cX3_readTests 99 = .ok (.sipush 2002, 3) := dk_17 (a := 7) (b := 210) (by decide +kernel) (by decide +kernel)
theorem dX3_readTests_102 : decode cX3_readTests 102 = .ok (.if_icmp .gt 7, 3) := dk_163 (a := 0) (b := 7) (by decide +kernel) (by decide +kernel)
theorem dX3_readTests_105 : decode cX3_readTests 105 = .ok (.iconst 1, 1) := dk_4 (by decide +kernel)
theorem dX3_readTests_106 : decode cX3_readTests 106 = .ok (.goto 4, 3) := dk_167 (a := 0) (b := 4) (by decide +kernel) (by decide +kernel)
theorem dX3_readTests_109 : decode cX3_readTests 109 = .ok (.iconst 0, 1) := dk_3 (by decide +kernel)
theorem dX3_readTests_110 : decode cX3_readTests 110 = .ok (.istore 5, 2) := dk_54 (a := 5) (by decide +kernel)
theorem dX3_readTests_112 : decode cX3_readTests 112 = .ok (.iload 4, 2) := dk_21 (a := 4) (by decide +kernel)
theorem dX3_readTests_114 : decode cX3_readTests 114 = .ok (.sipush 2003, 3) := dk_17 (a := 7) (b := 211) (by decide +kernel) (by decide +kernel)
theorem dX3_readTests_117 : decode cX3_readTests 117 = .ok (.if_icmp .lt 15, 3) := dk_161 (a := 0) (b := 15) (by decide +kernel) (by decide +kernel)
theorem dX3_readTests_120 : decode cX3_readTests 120 = .ok (.iload 4, 2) := dk_21 (a := 4) (by decide +kernel)
theorem dX3_readTests_122 : decode cX3_readTests 122 = .ok (.sipush 2005, 3) := dk_17 (a := 7) (b := 213) (by decide +kernel) (by decide +kernel)
theorem dX3_readTests_125 : decode cX3_readTests 125 = .ok (.if_icmp .gt 7, 3) := dk_163 (a := 0) (b := 7) (by decide +kernel) (by decide +kernel)
theorem dX3_readTests_128 : decode cX3_readTests 128 = .ok (.iconst 1, 1) := dk_4 (by decide +kernel)
theorem dX3_readTests_129 : decode cX3_readTests 129 = .ok (.goto 4, 3) := dk_167 (a := 0) (b := 4) (by decide +kernel) (by decide +kernel)
theorem dX3_readTests_132 : decode cX3_readTests 132 = .ok (.iconst 0, 1) := dk_3 (by decide +kernel)
theorem dX3_readTests_133 : decode cX3_readTests 133 = .ok (.istore 6, 2) := dk_54 (a := 6) (by decide +kernel)
theorem dX3_readTests_135 : decode cX3_readTests 135 = .ok (.iload 5, 2) := dk_21 (a := 5) (by decide +kernel)
theorem dX3_readTests_137 : decode cX3_readTests 137 = .ok (.ifCond .ne 30, 3) := dk_154 (a := 0) (b := 30) (by decide +kernel) (by decide +kernel)
theorem dX3_readTests_140 : decode cX3_readTests 140 = .ok (.iload 6, 2) := dk_21 (a := 6) (by decide +kernel)
theorem dX3_readTests_142 : decode cX3_readTests 142 = .ok (.ifCond .eq 7, 3) := dk_153 (a := 0) (b := 7) (by decide +kernel) (by decide +kernel)
theorem dX3_readTests_145 : decode cX3_readTests 145 = .ok (.iload_n 1, 1) := dk_27 (by decide +kernel)
theorem dX3_readTests_146 : decode cX3_readTests 146 = .ok (.ifCond .eq 21, 3) := dk_153 (a := 0) (b := 21) (by decide +kernel) (by decide +kernel)
theorem dX3_readTests_149 : decode cX3_readTests 149 = .ok (.iload 4, 2) := dk_21 (a := 4) (by decide +kernel)
theorem dX3_readTests_151 : decode cX3_readTests 151 = .ok (.sipush 2006, 3) := dk_17 (a := 7) (b := 214) (by decide +kernel) (by decide +kernel)
theorem dX3_readTests_154 : decode cX3_readTests 154 = .ok (.if_icmp .ne 7, 3) := dk_160 (a := 0) (b := 7) (by decide +kernel) (by decide +kernel)
theorem dX3_readTests_157 : decode cX3_readTests 157 = .ok (.iload_n 1, 1) := dk_27 (by decide +kernel)
theorem dX3_readTests_158 : decode cX3_readTests 158 = .ok (.ifCond .ne 9, 3) := dk_154 (a := 0) (b := 9) (by decide +kernel) (by decide +kernel)
theorem dX3_readTests_161 : decode cX3_readTests 161 = .ok (.aload_n 0, 1) := dk_42 (by decide +kernel)
theorem dX3_readTests_162 : decode cX3_readTests 162 = .ok (.iconst 1, 1) := dk_4 (by decide +kernel)
theorem dX3_readTests_163 : decode cX3_readTests 163 = .ok (.invokevirtual 89, 3) := dk_182 (a := 0) (b := 89) (by decide +kernel) rfl
theorem dX3_readTests_166 : decode cX3_readTests 166 = .ok (.return_, 1) := dk_177 (by decide +kernel)
theorem dX3_readTests_167 : decode cX3_readTests 167 = .ok (.iload 5, 2) := dk_21 (a := 5) (by decide +kernel)
theorem dX3_readTests_169 : decode cX3_readTests 169 = .ok (.ifCond .ne 6, 3) := dk_154 (a := 0) (b := 6) (by decide +kernel) (by decide +kernel)
theorem dX3_readTests_172 : decode cX3_readTests 172 = .ok (.iload 6, 2) := dk_21 (a := 6) (by decide +kernel)
theorem dX3_readTests_174 : decode cX3_readTests 174 = .ok (.istore_n 1, 1) := dk_60 (by decide +kernel)
theorem dX3_readTests_175 : decode cX3_readTests 175 = .ok (.aload_n 0, 1) := dk_42 (by decide +kernel)
theorem dX3_readTests_176 : decode cX3_readTests 176 = .ok (.getfield 21, 3) := dk_180 (a := 0) (b := 21) (by decide +kernel) rfl
theorem dX3_readTests_179 : decode cX3_readTests 179 = .ok (.iload 4, 2) := dk_21 (a := 4) (by decide +kernel)
theorem dX3_readTests_181 : decode cX3_readTests 181 = .ok (.invokevirtual 174, 3) := dk_182 (a := 0) (b := 174) (by decide +kernel) rfl
theorem dX3_readTests_184 : decode cX3_readTests 184 = .ok (.aload_n 0, 1) := dk_42 (by decide +kernel)
theorem dX3_readTests_185 : decode cX3_readTests 185 = .ok (.invokevirtual 52, 3) := dk_182 (a := 0) (b := 52) (by decide +kernel) rfl
theorem dX3_readTests_188 : decode cX3_readTests 188 = .ok (.iinc 2 1, 3) := dk_132 (a := 2) (b := 1) (by decide +kernel) (by decide +kernel)
theorem dX3_readTests_191 : decode cX3_readTests 191 = .ok (.goto (-187), 3) := dk_167 (a := 255) (b := 69) (by decide +kernel) (by decide +kernel)
theorem dX3_readTests_194 : decode cX3_readTests 194 = .ok (.return_, 1) := dk_177 (by decide +kernel)
theorem dX3_choice_0 : decode cX3_choice 0 = .ok (.aload_n 0, 1) := dk_42 (by decide +kernel)
theorem dX3_choice_1 : decode cX3_choice 1 = .ok (.aload_n 1, 1) := dk_43 (by decide +kernel)
theorem dX3_choice_2 : decode cX3_choice 2 = .ok (.invokevirtual 60, 3) := dk_182 (a := 0) (b := 60) (by decide +kernel) rfl
theorem dX3_choice_5 : decode cX3_choice 5 = .ok (.istore_n 2, 1) := dk_61 (by decide +kernel)
theorem dX3_choice_6 : decode cX3_choice 6 = .ok (.iload_n 2, 1) := dk_28 (by decide +kernel)
theorem dX3_choice_7 : decode cX3_choice 7 = .ok (.ifCond .ge 8, 3) := dk_156 (a := 0) (b := 8) (by decide +kernel) (by decide +kernel)
theorem dX3_choice_10 : decode cX3_choice 10 = .ok (.aload_n 0, 1) := dk_42 (by decide +kernel)
theorem dX3_choice_11 : decode cX3_choice 11 = .ok (.iconst 1, 1) := dk_4 (by decide +kernel)
theorem dX3_choice_12 : decode cX3_choice 12 = .ok (.invokevirtual 89, 3) := dk_182 (a := 0) (b := 89) (by decide +kernel) rfl
theorem dX3_choice_15 : decode cX3_choice 15 = .ok (.aload_n 0, 1) := dk_42 (by decide +kernel)
theorem dX3_choice_16 : decode cX3_choice 16 = .ok (.getfield 45, 3) := dk_180 (a := 0) (b := 45) (by decide +kernel) rfl
theorem dX3_choice_19 : decode cX3_choice 19 = .ok (.ifCond .eq 5, 3) := dk_153 (a := 0) (b := 5) (by decide +kernel) (by decide +kernel)
theorem dX3_choice_22 : decode cX3_choice 22 = .ok (.iconst 0, 1) := dk_3 (by decide +kernel)
theorem dX3_choice_23 : decode cX3_choice 23 = .ok (.ireturn, 1) := dk_172 (by decide +kernel)
theorem dX3_choice_24 : decode cX3_choice 24 = .ok (.aload_n 0, 1) := dk_42 (by decide +kernel)
theorem dX3_choice_25 : decode cX3_choice 25 = .ok (.invokevirtual 52, 3) := dk_182 (a := 0) (b := 52) (by decide +kernel) rfl
theorem dX3_choice_28 : decode cX3_choice 28 = .ok (.iload_n 2, 1) := dk_28 (by decide +kernel)
theorem dX3_choice_29 : decode cX3_choice 29 = .ok (.ireturn, 1) := dk_172 (by decide +kernel)
theorem dX3_takes_0 : decode cX3_takes 0 = .ok (.aload_n 0, 1) := dk_42 (by decide +kernel)
theorem dX3_takes_1 : decode cX3_takes 1 = .ok (.getfield 45, 3) := dk_180 (a := 0) (b := 45) (by decide +kernel) rfl
theorem dX3_takes_4 : decode cX3_takes 4 = .ok (.ifCond .ne 11, 3) := dk_154 (a := 0) (b := 11) (by decide +kernel) (by decide +kernel)
theorem dX3_takes_7 : decode cX3_takes 7 = .ok (.aload_n 0, 1) := dk_42 (by decide +kernel)
theorem dX3_takes_8 : decode cX3_takes 8 = .ok (.aload_n 1, 1) := dk_43 (by decide +kernel)
theorem dX3_takes_9 : decode cX3_takes 9 = .ok (.invokevirtual 60, 3) := dk_182 (a := 0) (b := 60) (by decide +kernel) rfl
theorem dX3_takes_12 : decode cX3_takes 12 = .ok (.ifCond .ge 5, 3) := dk_156 (a := 0) (b := 5) (by decide +kernel) (by decide +kernel)
theorem dX3_takes_15 : decode cX3_takes 15 = .ok (.iconst 0, 1) := dk_3 (by decide +kernel)
theorem dX3_takes_16 : decode cX3_takes 16 = .ok (.ireturn, 1) := dk_172 (by decide +kernel)
theorem dX3_takes_17 : decode cX3_takes 17 = .ok (.aload_n 0, 1) := dk_42 (by decide +kernel)
theorem dX3_takes_18 : decode cX3_takes 18 = .ok (.invokevirtual 52, 3) := dk_182 (a := 0) (b := 52) (by decide +kernel) rfl
theorem dX3_takes_21 : decode cX3_takes 21 = .ok (.iconst 1, 1) := dk_4 (by decide +kernel)
theorem dX3_takes_22 : decode cX3_takes 22 = .ok (.ireturn, 1) := dk_172 (by decide +kernel)
theorem dX3_number_0 : decode cX3_number 0 = .ok (.aload_n 0, 1) := dk_42 (by decide +kernel)
theorem dX3_number_1 : decode cX3_number 1 = .ok (.getfield 55, 3) := dk_180 (a := 0) (b := 55) (by decide +kernel) rfl
theorem dX3_number_4 : decode cX3_number 4 = .ok (.iconst 2, 1) := dk_5 (by decide +kernel)
theorem dX3_number_5 : decode cX3_number 5 = .ok (.if_icmp .eq 11, 3) := dk_159 (a := 0) (b := 11) (by decide +kernel) (by decide +kernel)
theorem dX3_number_8 : decode cX3_number 8 = .ok (.aload_n 0, 1) := dk_42 (by decide +kernel)
theorem dX3_number_9 : decode cX3_number 9 = .ok (.iconst 1, 1) := dk_4 (by decide +kernel)
theorem dX3_number_10 : decode cX3_number 10 = .ok (.invokevirtual 89, 3) := dk_182 (a := 0) (b := 89) (by decide +kernel) rfl
theorem dX3_number_13 : decode cX3_number 13 = .ok (.goto 24, 3) := dk_167 (a := 0) (b := 24) (by decide +kernel) (by decide +kernel)
theorem dX3_number_16 : decode cX3_number 16 = .ok (.aload_n 0, 1) := dk_42 (by decide +kernel)
theorem dX3_number_17 : decode cX3_number 17 = .ok (.getfield 136, 3) := dk_180 (a := 0) (b := 136) (by decide +kernel) rfl
theorem dX3_number_20 : decode cX3_number 20 = .ok (.iload_n 1, 1) := dk_27 (by decide +kernel)
theorem dX3_number_21 : decode cX3_number 21 = .ok (.if_icmp .lt 11, 3) := dk_161 (a := 0) (b := 11) (by decide +kernel) (by decide +kernel)
theorem dX3_number_24 : decode cX3_number 24 = .ok (.aload_n 0, 1) := dk_42 (by decide +kernel)
theorem dX3_number_25 : decode cX3_number 25 = .ok (.getfield 136, 3) := dk_180 (a := 0) (b := 136) (by decide +kernel) rfl
theorem dX3_number_28 : decode cX3_number 28 = .ok (.iload_n 2, 1) := dk_28 (by decide +kernel)
theorem dX3_number_29 : decode cX3_number 29 = .ok (.if_icmp .le 8, 3) := dk_164 (a := 0) (b := 8) (by decide +kernel) (by decide +kernel)
theorem dX3_number_32 : decode cX3_number 32 = .ok (.aload_n 0, 1) := dk_42 (by decide +kernel)
theorem dX3_number_33 : decode cX3_number 33 = .ok (.iconst 2, 1) := dk_5 (by decide +kernel)
theorem dX3_number_34 : decode cX3_number 34 = .ok (.invokevirtual 89, 3) := dk_182 (a := 0) (b := 89) (by decide +kernel) rfl
theorem dX3_number_37 : decode cX3_number 37 = .ok (.aload_n 0, 1) := dk_42 (by decide +kernel)
theorem dX3_number_38 : decode cX3_number 38 = .ok (.getfield 45, 3) := dk_180 (a := 0) (b := 45) (by decide +kernel) rfl
theorem dX3_number_41 : decode cX3_number 41 = .ok (.ifCond .eq 5, 3) := dk_153 (a := 0) (b := 5) (by decide +kernel) (by decide +kernel)
theorem dX3_number_44 : decode cX3_number 44 = .ok (.iconst 0, 1) := dk_3 (by decide +kernel)
theorem dX3_number_45 : decode cX3_number 45 = .ok (.ireturn, 1) := dk_172 (by decide +kernel)
theorem dX3_number_46 : decode cX3_number 46 = .ok (.aload_n 0, 1) := dk_42 (by decide +kernel)
theorem dX3_number_47 : decode cX3_number 47 = .ok (.getfield 136, 3) := dk_180 (a := 0) (b := 136) (by decide +kernel) rfl
theorem dX3_number_50 : decode cX3_number 50 = .ok (.istore_n 3, 1) := dk_62 (by decide +kernel)
theorem dX3_number_51 : decode cX3_number 51 = .ok (.aload_n 0, 1) := dk_42 (by decide +kernel)
theorem dX3_number_52 : decode cX3_number 52 = .ok (.invokevirtual 52, 3) := dk_182 (a := 0) (b := 52) (by decide +kernel) rfl
theorem dX3_number_55 : decode cX3_number 55 = .ok (.iload_n 3, 1) := dk_29 (by decide +kernel)
theorem dX3_number_56 : decode cX3_number 56 = .ok (.ireturn, 1) := dk_172 (by decide +kernel)
theorem dX3_refuse_0 : decode cX3_refuse 0 = .ok (.aload_n 0, 1) := dk_42 (by decide +kernel)
theorem dX3_refuse_1 : decode cX3_refuse 1 = .ok (.getfield 45, 3) := dk_180 (a := 0) (b := 45) (by decide +kernel) rfl
theorem dX3_refuse_4 : decode cX3_refuse 4 = .ok (.ifCond .ne 16, 3) := dk_154 (a := 0) (b := 16) (by decide +kernel) (by decide +kernel)
theorem dX3_refuse_7 : decode cX3_refuse 7 = .ok (.aload_n 0, 1) := dk_42 (by decide +kernel)
theorem dX3_refuse_8 : decode cX3_refuse 8 = .ok (.iload_n 1, 1) := dk_27 (by decide +kernel)
theorem dX3_refuse_9 : decode cX3_refuse 9 = .ok (.putfield 45, 3) := dk_181 (a := 0) (b := 45) (by decide +kernel) rfl
theorem dX3_refuse_12 : decode cX3_refuse 12 = .ok (.aload_n 0, 1) := dk_42 (by decide +kernel)
theorem dX3_refuse_13 : decode cX3_refuse 13 = .ok (.aload_n 0, 1) := dk_42 (by decide +kernel)
theorem dX3_refuse_14 : decode cX3_refuse 14 = .ok (.getfield 179, 3) := dk_180 (a := 0) (b := 179) (by decide +kernel) rfl
theorem dX3_refuse_17 : decode cX3_refuse 17 = .ok (.putfield 25, 3) := dk_181 (a := 0) (b := 25) (by decide +kernel) rfl
theorem dX3_refuse_20 : decode cX3_refuse 20 = .ok (.return_, 1) := dk_177 (by decide +kernel)
theorem dX3_advance_0 : decode cX3_advance 0 = .ok (.aload_n 0, 1) := dk_42 (by decide +kernel)
theorem dX3_advance_1 : decode cX3_advance 1 = .ok (.getfield 42, 3) := dk_180 (a := 0) (b := 42) (by decide +kernel) rfl
theorem dX3_advance_4 : decode cX3_advance 4 = .ok (.aload_n 0, 1) := dk_42 (by decide +kernel)
theorem dX3_advance_5 : decode cX3_advance 5 = .ok (.getfield 39, 3) := dk_180 (a := 0) (b := 39) (by decide +kernel) rfl
theorem dX3_advance_8 : decode cX3_advance 8 = .ok (.if_icmp .ge 44, 3) := dk_162 (a := 0) (b := 44) (by decide +kernel) (by decide +kernel)
theorem dX3_advance_11 : decode cX3_advance 11 = .ok (.aload_n 0, 1) := dk_42 (by decide +kernel)
theorem dX3_advance_12 : decode cX3_advance 12 = .ok (.getfield 29, 3) := dk_180 (a := 0) (b := 29) (by decide +kernel) rfl
theorem dX3_advance_15 : decode cX3_advance 15 = .ok (.aload_n 0, 1) := dk_42 (by decide +kernel)
theorem dX3_advance_16 : decode cX3_advance 16 = .ok (.getfield 42, 3) := dk_180 (a := 0) (b := 42) (by decide +kernel) rfl
theorem dX3_advance_19 : decode cX3_advance 19 = .ok (.baload, 1) := dk_51 (by decide +kernel)
theorem dX3_advance_20 : decode cX3_advance 20 = .ok (.bipush 32, 2) := dk_16 (a := 32) (by decide +kernel) (by decide +kernel)
theorem dX3_advance_22 : decode cX3_advance 22 = .ok (.if_icmp .eq 17, 3) := dk_159 (a := 0) (b := 17) (by decide +kernel) (by decide +kernel)
theorem dX3_advance_25 : decode cX3_advance 25 = .ok (.aload_n 0, 1) := dk_42 (by decide +kernel)
theorem dX3_advance_26 : decode cX3_advance 26 = .ok (.getfield 29, 3) := dk_180 (a := 0) (b := 29) (by decide +kernel) rfl
theorem dX3_advance_29 : decode cX3_advance 29 = .ok (.aload_n 0, 1) := dk_42 (by decide +kernel)
theorem dX3_advance_30 : decode cX3_advance 30 = .ok (.getfield 42, 3) := dk_180 (a := 0) (b := 42) (by decide +kernel) rfl
theorem dX3_advance_33 : decode cX3_advance 33 = .ok (.baload, 1) := dk_51 (by decide +kernel)
theorem dX3_advance_34 : decode cX3_advance 34 = .ok (.bipush 10, 2) := dk_16 (a := 10) (by decide +kernel) (by decide +kernel)
theorem dX3_advance_36 : decode cX3_advance 36 = .ok (.if_icmp .ne 16, 3) := dk_160 (a := 0) (b := 16) (by decide +kernel) (by decide +kernel)
theorem dX3_advance_39 : decode cX3_advance 39 = .ok (.aload_n 0, 1) := dk_42 (by decide +kernel)
theorem dX3_advance_40 : decode cX3_advance 40 = .ok (.dup, 1) := dk_89 (by decide +kernel)
theorem dX3_advance_41 : decode cX3_advance 41 = .ok (.getfield 42, 3) := dk_180 (a := 0) (b := 42) (by decide +kernel) rfl
theorem dX3_advance_44 : decode cX3_advance 44 = .ok (.iconst 1, 1) := dk_4 (by decide +kernel)
theorem dX3_advance_45 : decode cX3_advance 45 = .ok (.iadd, 1) := dk_96 (by decide +kernel)
theorem dX3_advance_46 : decode cX3_advance 46 = .ok (.putfield 42, 3) := dk_181 (a := 0) (b := 42) (by decide +kernel) rfl
theorem dX3_advance_49 : decode cX3_advance 49 = .ok (.goto (-49), 3) := dk_167 (a := 255) (b := 207) (by decide +kernel) (by decide +kernel)
theorem dX3_advance_52 : decode cX3_advance 52 = .ok (.aload_n 0, 1) := dk_42 (by decide +kernel)
theorem dX3_advance_53 : decode cX3_advance 53 = .ok (.aload_n 0, 1) := dk_42 (by decide +kernel)
theorem dX3_advance_54 : decode cX3_advance 54 = .ok (.getfield 42, 3) := dk_180 (a := 0) (b := 42) (by decide +kernel) rfl
theorem dX3_advance_57 : decode cX3_advance 57 = .ok (.putfield 179, 3) := dk_181 (a := 0) (b := 179) (by decide +kernel) rfl
theorem dX3_advance_60 : decode cX3_advance 60 = .ok (.aload_n 0, 1) := dk_42 (by decide +kernel)
theorem dX3_advance_61 : decode cX3_advance 61 = .ok (.getfield 42, 3) := dk_180 (a := 0) (b := 42) (by decide +kernel) rfl
theorem dX3_advance_64 : decode cX3_advance 64 = .ok (.aload_n 0, 1) := dk_42 (by decide +kernel)
theorem dX3_advance_65 : decode cX3_advance 65 = .ok (.getfield 39, 3) := dk_180 (a := 0) (b := 39) (by decide +kernel) rfl
theorem dX3_advance_68 : decode cX3_advance 68 = .ok (.if_icmp .lt 11, 3) := dk_161 (a := 0) (b := 11) (by decide +kernel) (by decide +kernel)
theorem dX3_advance_71 : decode cX3_advance 71 = .ok (.aload_n 0, 1) := dk_42 (by decide +kernel)
theorem dX3_advance_72 : decode cX3_advance 72 = .ok (.iconst 0, 1) := dk_3 (by decide +kernel)
theorem dX3_advance_73 : decode cX3_advance 73 = .ok (.putfield 55, 3) := dk_181 (a := 0) (b := 55) (by decide +kernel) rfl
theorem dX3_advance_76 : decode cX3_advance 76 = .ok (.goto 106, 3) := dk_167 (a := 0) (b := 106) (by decide +kernel) (by decide +kernel)
theorem dX3_advance_79 : decode cX3_advance 79 = .ok (.aload_n 0, 1) := dk_42 (by decide +kernel)
theorem dX3_advance_80 : decode cX3_advance 80 = .ok (.getfield 29, 3) := dk_180 (a := 0) (b := 29) (by decide +kernel) rfl
theorem dX3_advance_83 : decode cX3_advance 83 = .ok (.aload_n 0, 1) := dk_42 (by decide +kernel)
theorem dX3_advance_84 : decode cX3_advance 84 = .ok (.getfield 42, 3) := dk_180 (a := 0) (b := 42) (by decide +kernel) rfl
theorem dX3_advance_87 : decode cX3_advance 87 = .ok (.baload, 1) := dk_51 (by decide +kernel)
theorem dX3_advance_88 : decode cX3_advance 88 = .ok (.bipush 97, 2) := dk_16 (a := 97) (by decide +kernel) (by decide +kernel)
theorem dX3_advance_90 : decode cX3_advance 90 = .ok (.if_icmp .lt 24, 3) := dk_161 (a := 0) (b := 24) (by decide +kernel) (by decide +kernel)
theorem dX3_advance_93 : decode cX3_advance 93 = .ok (.aload_n 0, 1) := dk_42 (by decide +kernel)
theorem dX3_advance_94 : decode cX3_advance 94 = .ok (.getfield 29, 3) := dk_180 (a := 0) (b := 29) (by decide +kernel) rfl
theorem dX3_advance_97 : decode cX3_advance 97 = .ok (.aload_n 0, 1) := dk_42 (by decide +kernel)
theorem dX3_advance_98 : decode cX3_advance 98 = .ok (.getfield 42, 3) := dk_180 (a := 0) (b := 42) (by decide +kernel) rfl
theorem dX3_advance_101 : decode cX3_advance 101 = .ok (.baload, 1) := dk_51 (by decide +kernel)
theorem dX3_advance_102 : decode cX3_advance 102 = .ok (.bipush 122, 2) := dk_16 (a := 122) (by decide +kernel) (by decide +kernel)
theorem dX3_advance_104 : decode cX3_advance 104 = .ok (.if_icmp .gt 10, 3) := dk_163 (a := 0) (b := 10) (by decide +kernel) (by decide +kernel)
theorem dX3_advance_107 : decode cX3_advance 107 = .ok (.aload_n 0, 1) := dk_42 (by decide +kernel)
theorem dX3_advance_108 : decode cX3_advance 108 = .ok (.invokevirtual 182, 3) := dk_182 (a := 0) (b := 182) (by decide +kernel) rfl
theorem dX3_advance_111 : decode cX3_advance 111 = .ok (.goto 71, 3) := dk_167 (a := 0) (b := 71) (by decide +kernel) (by decide +kernel)
theorem dX3_advance_114 : decode cX3_advance 114 = .ok (.aload_n 0, 1) := dk_42 (by decide +kernel)
theorem dX3_advance_115 : decode cX3_advance 115 = .ok (.getfield 29, 3) := dk_180 (a := 0) (b := 29) (by decide +kernel) rfl
theorem dX3_advance_118 : decode cX3_advance 118 = .ok (.aload_n 0, 1) := dk_42 (by decide +kernel)
theorem dX3_advance_119 : decode cX3_advance 119 = .ok (.getfield 42, 3) := dk_180 (a := 0) (b := 42) (by decide +kernel) rfl
theorem dX3_advance_122 : decode cX3_advance 122 = .ok (.baload, 1) := dk_51 (by decide +kernel)
theorem dX3_advance_123 : decode cX3_advance 123 = .ok (.bipush 48, 2) := dk_16 (a := 48) (by decide +kernel) (by decide +kernel)
theorem dX3_advance_125 : decode cX3_advance 125 = .ok (.if_icmp .lt 24, 3) := dk_161 (a := 0) (b := 24) (by decide +kernel) (by decide +kernel)
theorem dX3_advance_128 : decode cX3_advance 128 = .ok (.aload_n 0, 1) := dk_42 (by decide +kernel)
theorem dX3_advance_129 : decode cX3_advance 129 = .ok (.getfield 29, 3) := dk_180 (a := 0) (b := 29) (by decide +kernel) rfl
theorem dX3_advance_132 : decode cX3_advance 132 = .ok (.aload_n 0, 1) := dk_42 (by decide +kernel)
theorem dX3_advance_133 : decode cX3_advance 133 = .ok (.getfield 42, 3) := dk_180 (a := 0) (b := 42) (by decide +kernel) rfl
theorem dX3_advance_136 : decode cX3_advance 136 = .ok (.baload, 1) := dk_51 (by decide +kernel)
theorem dX3_advance_137 : decode cX3_advance 137 = .ok (.bipush 57, 2) := dk_16 (a := 57) (by decide +kernel) (by decide +kernel)
theorem dX3_advance_139 : decode cX3_advance 139 = .ok (.if_icmp .gt 10, 3) := dk_163 (a := 0) (b := 10) (by decide +kernel) (by decide +kernel)
theorem dX3_advance_142 : decode cX3_advance 142 = .ok (.aload_n 0, 1) := dk_42 (by decide +kernel)
theorem dX3_advance_143 : decode cX3_advance 143 = .ok (.invokevirtual 185, 3) := dk_182 (a := 0) (b := 185) (by decide +kernel) rfl
theorem dX3_advance_146 : decode cX3_advance 146 = .ok (.goto 36, 3) := dk_167 (a := 0) (b := 36) (by decide +kernel) (by decide +kernel)
theorem dX3_advance_149 : decode cX3_advance 149 = .ok (.aload_n 0, 1) := dk_42 (by decide +kernel)
theorem dX3_advance_150 : decode cX3_advance 150 = .ok (.aload_n 0, 1) := dk_42 (by decide +kernel)
theorem dX3_advance_151 : decode cX3_advance 151 = .ok (.getfield 29, 3) := dk_180 (a := 0) (b := 29) (by decide +kernel) rfl
theorem dX3_advance_154 : decode cX3_advance 154 = .ok (.aload_n 0, 1) := dk_42 (by decide +kernel)
theorem dX3_advance_155 : decode cX3_advance 155 = .ok (.getfield 42, 3) := dk_180 (a := 0) (b := 42) (by decide +kernel) rfl
theorem dX3_advance_158 : decode cX3_advance 158 = .ok (.baload, 1) := dk_51 (by decide +kernel)
theorem dX3_advance_159 : decode cX3_advance 159 = .ok (.bipush 59, 2) := dk_16 (a := 59) (by decide +kernel) (by decide +kernel)
theorem dX3_advance_161 : decode cX3_advance 161 = .ok (.if_icmp .ne 7, 3) := dk_160 (a := 0) (b := 7) (by decide +kernel) (by decide +kernel)
theorem dX3_advance_164 : decode cX3_advance 164 = .ok (.iconst 3, 1) := dk_6 (by decide +kernel)
theorem dX3_advance_165 : decode cX3_advance 165 = .ok (.goto 4, 3) := dk_167 (a := 0) (b := 4) (by decide +kernel) (by decide +kernel)
theorem dX3_advance_168 : decode cX3_advance 168 = .ok (.iconst 4, 1) := dk_7 (by decide +kernel)
theorem dX3_advance_169 : decode cX3_advance 169 = .ok (.putfield 55, 3) := dk_181 (a := 0) (b := 55) (by decide +kernel) rfl
theorem dX3_advance_172 : decode cX3_advance 172 = .ok (.aload_n 0, 1) := dk_42 (by decide +kernel)
theorem dX3_advance_173 : decode cX3_advance 173 = .ok (.dup, 1) := dk_89 (by decide +kernel)
theorem dX3_advance_174 : decode cX3_advance 174 = .ok (.getfield 42, 3) := dk_180 (a := 0) (b := 42) (by decide +kernel) rfl
theorem dX3_advance_177 : decode cX3_advance 177 = .ok (.iconst 1, 1) := dk_4 (by decide +kernel)
theorem dX3_advance_178 : decode cX3_advance 178 = .ok (.iadd, 1) := dk_96 (by decide +kernel)
theorem dX3_advance_179 : decode cX3_advance 179 = .ok (.putfield 42, 3) := dk_181 (a := 0) (b := 42) (by decide +kernel) rfl
theorem dX3_advance_182 : decode cX3_advance 182 = .ok (.return_, 1) := dk_177 (by decide +kernel)
theorem dX3_takeWord_0 : decode cX3_takeWord 0 = .ok (.aload_n 0, 1) := dk_42 (by decide +kernel)
theorem dX3_takeWord_1 : decode cX3_takeWord 1 = .ok (.iconst 1, 1) := dk_4 (by decide +kernel)
theorem dX3_takeWord_2 : decode cX3_takeWord 2 = .ok (.putfield 55, 3) := dk_181 (a := 0) (b := 55) (by decide +kernel) rfl
theorem dX3_takeWord_5 : decode cX3_takeWord 5 = .ok (.aload_n 0, 1) := dk_42 (by decide +kernel)
theorem dX3_takeWord_6 : decode cX3_takeWord 6 = .ok (.getfield 42, 3) := dk_180 (a := 0) (b := 42) (by decide +kernel) rfl
theorem dX3_takeWord_9 : decode cX3_takeWord 9 = .ok (.aload_n 0, 1) := dk_42 (by decide +kernel)
theorem dX3_takeWord_10 : decode cX3_takeWord 10 = .ok (.getfield 39, 3) := dk_180 (a := 0) (b := 39) (by decide +kernel) rfl
theorem dX3_takeWord_13 : decode cX3_takeWord 13 = .ok (.if_icmp .ge 44, 3) := dk_162 (a := 0) (b := 44) (by decide +kernel) (by decide +kernel)
theorem dX3_takeWord_16 : decode cX3_takeWord 16 = .ok (.aload_n 0, 1) := dk_42 (by decide +kernel)
theorem dX3_takeWord_17 : decode cX3_takeWord 17 = .ok (.getfield 29, 3) := dk_180 (a := 0) (b := 29) (by decide +kernel) rfl
theorem dX3_takeWord_20 : decode cX3_takeWord 20 = .ok (.aload_n 0, 1) := dk_42 (by decide +kernel)
theorem dX3_takeWord_21 : decode cX3_takeWord 21 = .ok (.getfield 42, 3) := dk_180 (a := 0) (b := 42) (by decide +kernel) rfl
theorem dX3_takeWord_24 : decode cX3_takeWord 24 = .ok (.baload, 1) := dk_51 (by decide +kernel)
theorem dX3_takeWord_25 : decode cX3_takeWord 25 = .ok (.bipush 97, 2) := dk_16 (a := 97) (by decide +kernel) (by decide +kernel)
theorem dX3_takeWord_27 : decode cX3_takeWord 27 = .ok (.if_icmp .lt 30, 3) := dk_161 (a := 0) (b := 30) (by decide +kernel) (by decide +kernel)
theorem dX3_takeWord_30 : decode cX3_takeWord 30 = .ok (.aload_n 0, 1) := dk_42 (by decide +kernel)
theorem dX3_takeWord_31 : decode cX3_takeWord 31 = .ok (.getfield 29, 3) := dk_180 (a := 0) (b := 29) (by decide +kernel) rfl
theorem dX3_takeWord_34 : decode cX3_takeWord 34 = .ok (.aload_n 0, 1) := dk_42 (by decide +kernel)
theorem dX3_takeWord_35 : decode cX3_takeWord 35 = .ok (.getfield 42, 3) := dk_180 (a := 0) (b := 42) (by decide +kernel) rfl
theorem dX3_takeWord_38 : decode cX3_takeWord 38 = .ok (.baload, 1) := dk_51 (by decide +kernel)
theorem dX3_takeWord_39 : decode cX3_takeWord 39 = .ok (.bipush 122, 2) := dk_16 (a := 122) (by decide +kernel) (by decide +kernel)
theorem dX3_takeWord_41 : decode cX3_takeWord 41 = .ok (.if_icmp .gt 16, 3) := dk_163 (a := 0) (b := 16) (by decide +kernel) (by decide +kernel)
theorem dX3_takeWord_44 : decode cX3_takeWord 44 = .ok (.aload_n 0, 1) := dk_42 (by decide +kernel)
theorem dX3_takeWord_45 : decode cX3_takeWord 45 = .ok (.dup, 1) := dk_89 (by decide +kernel)
theorem dX3_takeWord_46 : decode cX3_takeWord 46 = .ok (.getfield 42, 3) := dk_180 (a := 0) (b := 42) (by decide +kernel) rfl
theorem dX3_takeWord_49 : decode cX3_takeWord 49 = .ok (.iconst 1, 1) := dk_4 (by decide +kernel)
theorem dX3_takeWord_50 : decode cX3_takeWord 50 = .ok (.iadd, 1) := dk_96 (by decide +kernel)
theorem dX3_takeWord_51 : decode cX3_takeWord 51 = .ok (.putfield 42, 3) := dk_181 (a := 0) (b := 42) (by decide +kernel) rfl
theorem dX3_takeWord_54 : decode cX3_takeWord 54 = .ok (.goto (-49), 3) := dk_167 (a := 255) (b := 207) (by decide +kernel) (by decide +kernel)
theorem dX3_takeWord_57 : decode cX3_takeWord 57 = .ok (.return_, 1) := dk_177 (by decide +kernel)
theorem dX3_takeNumber_0 : decode cX3_takeNumber 0 = .ok (.aload_n 0, 1) := dk_42 (by decide +kernel)
theorem dX3_takeNumber_1 : decode cX3_takeNumber 1 = .ok (.iconst 2, 1) := dk_5 (by decide +kernel)
theorem dX3_takeNumber_2 : decode cX3_takeNumber 2 = .ok (.putfield 55, 3) := dk_181 (a := 0) (b := 55) (by decide +kernel) rfl
theorem dX3_takeNumber_5 : decode cX3_takeNumber 5 = .ok (.aload_n 0, 1) := dk_42 (by decide +kernel)
theorem dX3_takeNumber_6 : decode cX3_takeNumber 6 = .ok (.iconst 0, 1) := dk_3 (by decide +kernel)
theorem dX3_takeNumber_7 : decode cX3_takeNumber 7 = .ok (.putfield 136, 3) := dk_181 (a := 0) (b := 136) (by decide +kernel) rfl
theorem dX3_takeNumber_10 : decode cX3_takeNumber 10 = .ok (.aload_n 0, 1) := dk_42 (by decide +kernel)
theorem dX3_takeNumber_11 : decode cX3_takeNumber 11 = .ok (.getfield 42, 3) := dk_180 (a := 0) (b := 42) (by decide +kernel) rfl
theorem dX3_takeNumber_14 : decode cX3_takeNumber 14 = .ok (.aload_n 0, 1) := dk_42 (by decide +kernel)
theorem dX3_takeNumber_15 : decode cX3_takeNumber 15 = .ok (.getfield 39, 3) := dk_180 (a := 0) (b := 39) (by decide +kernel) rfl
theorem dX3_takeNumber_18 : decode cX3_takeNumber 18 = .ok (.if_icmp .ge 73, 3) := dk_162 (a := 0) (b := 73) (by decide +kernel) (by decide +kernel)
theorem dX3_takeNumber_21 : decode cX3_takeNumber 21 = .ok (.aload_n 0, 1) := dk_42 (by decide +kernel)
theorem dX3_takeNumber_22 : decode cX3_takeNumber 22 = .ok (.getfield 29, 3) := dk_180 (a := 0) (b := 29) (by decide +kernel) rfl
theorem dX3_takeNumber_25 : decode cX3_takeNumber 25 = .ok (.aload_n 0, 1) := dk_42 (by decide +kernel)
theorem dX3_takeNumber_26 : decode cX3_takeNumber 26 = .ok (.getfield 42, 3) := dk_180 (a := 0) (b := 42) (by decide +kernel) rfl
theorem dX3_takeNumber_29 : decode cX3_takeNumber 29 = .ok (.baload, 1) := dk_51 (by decide +kernel)
theorem dX3_takeNumber_30 : decode cX3_takeNumber 30 = .ok (.bipush 48, 2) := dk_16 (a := 48) (by decide +kernel) (by decide +kernel)
theorem dX3_takeNumber_32 : decode cX3_takeNumber 32 = .ok (.if_icmp .lt 59, 3) := dk_161 (a := 0) (b := 59) (by decide +kernel) (by decide +kernel)
theorem dX3_takeNumber_35 : decode cX3_takeNumber 35 = .ok (.aload_n 0, 1) := dk_42 (by decide +kernel)
theorem dX3_takeNumber_36 : decode cX3_takeNumber 36 = .ok (.getfield 29, 3) := dk_180 (a := 0) (b := 29) (by decide +kernel) rfl
theorem dX3_takeNumber_39 : decode cX3_takeNumber 39 = .ok (.aload_n 0, 1) := dk_42 (by decide +kernel)
theorem dX3_takeNumber_40 : decode cX3_takeNumber 40 = .ok (.getfield 42, 3) := dk_180 (a := 0) (b := 42) (by decide +kernel) rfl
theorem dX3_takeNumber_43 : decode cX3_takeNumber 43 = .ok (.baload, 1) := dk_51 (by decide +kernel)
theorem dX3_takeNumber_44 : decode cX3_takeNumber 44 = .ok (.bipush 57, 2) := dk_16 (a := 57) (by decide +kernel) (by decide +kernel)
theorem dX3_takeNumber_46 : decode cX3_takeNumber 46 = .ok (.if_icmp .gt 45, 3) := dk_163 (a := 0) (b := 45) (by decide +kernel) (by decide +kernel)
theorem dX3_takeNumber_49 : decode cX3_takeNumber 49 = .ok (.aload_n 0, 1) := dk_42 (by decide +kernel)
theorem dX3_takeNumber_50 : decode cX3_takeNumber 50 = .ok (.ldc 188, 2) := dk_18 (a := 188) (by decide +kernel)
theorem dX3_takeNumber_52 : decode cX3_takeNumber 52 = .ok (.aload_n 0, 1) := dk_42 (by decide +kernel)
theorem dX3_takeNumber_53 : decode cX3_takeNumber 53 = .ok (.getfield 136, 3) := dk_180 (a := 0) (b := 136) (by decide +kernel) rfl
theorem dX3_takeNumber_56 : decode cX3_takeNumber 56 = .ok (.bipush 10, 2) := dk_16 (a := 10) (by decide +kernel) (by decide +kernel)
theorem dX3_takeNumber_58 : decode cX3_takeNumber 58 = .ok (.imul, 1) := dk_104 (by decide +kernel)
theorem dX3_takeNumber_59 : decode cX3_takeNumber 59 = .ok (.aload_n 0, 1) := dk_42 (by decide +kernel)
theorem dX3_takeNumber_60 : decode cX3_takeNumber 60 = .ok (.getfield 29, 3) := dk_180 (a := 0) (b := 29) (by decide +kernel) rfl
theorem dX3_takeNumber_63 : decode cX3_takeNumber 63 = .ok (.aload_n 0, 1) := dk_42 (by decide +kernel)
theorem dX3_takeNumber_64 : decode cX3_takeNumber 64 = .ok (.getfield 42, 3) := dk_180 (a := 0) (b := 42) (by decide +kernel) rfl
theorem dX3_takeNumber_67 : decode cX3_takeNumber 67 = .ok (.baload, 1) := dk_51 (by decide +kernel)
theorem dX3_takeNumber_68 : decode cX3_takeNumber 68 = .ok (.iadd, 1) := dk_96 (by decide +kernel)
theorem dX3_takeNumber_69 : decode cX3_takeNumber 69 = .ok (.bipush 48, 2) := dk_16 (a := 48) (by decide +kernel) (by decide +kernel)
theorem dX3_takeNumber_71 : decode cX3_takeNumber 71 = .ok (.isub, 1) := dk_100 (by decide +kernel)
theorem dX3_takeNumber_72 : decode cX3_takeNumber 72 = .ok (.invokestatic 33, 3) := dk_184 (a := 0) (b := 33) (by decide +kernel) rfl
theorem dX3_takeNumber_75 : decode cX3_takeNumber 75 = .ok (.putfield 136, 3) := dk_181 (a := 0) (b := 136) (by decide +kernel) rfl
theorem dX3_takeNumber_78 : decode cX3_takeNumber 78 = .ok (.aload_n 0, 1) := dk_42 (by decide +kernel)
theorem dX3_takeNumber_79 : decode cX3_takeNumber 79 = .ok (.dup, 1) := dk_89 (by decide +kernel)
theorem dX3_takeNumber_80 : decode cX3_takeNumber 80 = .ok (.getfield 42, 3) := dk_180 (a := 0) (b := 42) (by decide +kernel) rfl
theorem dX3_takeNumber_83 : decode cX3_takeNumber 83 = .ok (.iconst 1, 1) := dk_4 (by decide +kernel)
theorem dX3_takeNumber_84 : decode cX3_takeNumber 84 = .ok (.iadd, 1) := dk_96 (by decide +kernel)
theorem dX3_takeNumber_85 : decode cX3_takeNumber 85 = .ok (.putfield 42, 3) := dk_181 (a := 0) (b := 42) (by decide +kernel) rfl
theorem dX3_takeNumber_88 : decode cX3_takeNumber 88 = .ok (.goto (-78), 3) := dk_167 (a := 255) (b := 178) (by decide +kernel) (by decide +kernel)
theorem dX3_takeNumber_91 : decode cX3_takeNumber 91 = .ok (.return_, 1) := dk_177 (by decide +kernel)
theorem dX3_among_0 : decode cX3_among 0 = .ok (.aload_n 0, 1) := dk_42 (by decide +kernel)
theorem dX3_among_1 : decode cX3_among 1 = .ok (.getfield 55, 3) := dk_180 (a := 0) (b := 55) (by decide +kernel) rfl
theorem dX3_among_4 : decode cX3_among 4 = .ok (.iconst 1, 1) := dk_4 (by decide +kernel)
theorem dX3_among_5 : decode cX3_among 5 = .ok (.if_icmp .eq 5, 3) := dk_159 (a := 0) (b := 5) (by decide +kernel) (by decide +kernel)
theorem dX3_among_8 : decode cX3_among 8 = .ok (.iconst (-1), 1) := dk_2 (by decide +kernel)
theorem dX3_among_9 : decode cX3_among 9 = .ok (.ireturn, 1) := dk_172 (by decide +kernel)
theorem dX3_among_10 : decode cX3_among 10 = .ok (.aload_n 1, 1) := dk_43 (by decide +kernel)
theorem dX3_among_11 : decode cX3_among 11 = .ok (.invokevirtual 189, 3) := dk_182 (a := 0) (b := 189) (by decide +kernel) rfl
theorem dX3_among_14 : decode cX3_among 14 = .ok (.istore_n 2, 1) := dk_61 (by decide +kernel)
theorem dX3_among_15 : decode cX3_among 15 = .ok (.iconst 0, 1) := dk_3 (by decide +kernel)
theorem dX3_among_16 : decode cX3_among 16 = .ok (.istore_n 3, 1) := dk_62 (by decide +kernel)
theorem dX3_among_17 : decode cX3_among 17 = .ok (.iconst 0, 1) := dk_3 (by decide +kernel)
theorem dX3_among_18 : decode cX3_among 18 = .ok (.istore 4, 2) := dk_54 (a := 4) (by decide +kernel)
theorem dX3_among_20 : decode cX3_among 20 = .ok (.iload 4, 2) := dk_21 (a := 4) (by decide +kernel)
theorem dX3_among_22 : decode cX3_among 22 = .ok (.iload_n 2, 1) := dk_28 (by decide +kernel)
theorem dX3_among_23 : decode cX3_among 23 = .ok (.if_icmp .ge 134, 3) := dk_162 (a := 0) (b := 134) (by decide +kernel) (by decide +kernel)
theorem dX3_among_26 : decode cX3_among 26 = .ok (.iconst 0, 1) := dk_3 (by decide +kernel)
theorem dX3_among_27 : decode cX3_among 27 = .ok (.istore 5, 2) := dk_54 (a := 5) (by decide +kernel)
theorem dX3_among_29 : decode cX3_among 29 = .ok (.iload 4, 2) := dk_21 (a := 4) (by decide +kernel)
theorem dX3_among_31 : decode cX3_among 31 = .ok (.iload 5, 2) := dk_21 (a := 5) (by decide +kernel)
theorem dX3_among_33 : decode cX3_among 33 = .ok (.iadd, 1) := dk_96 (by decide +kernel)
theorem dX3_among_34 : decode cX3_among 34 = .ok (.iload_n 2, 1) := dk_28 (by decide +kernel)
theorem dX3_among_35 : decode cX3_among 35 = .ok (.if_icmp .ge 47, 3) := dk_162 (a := 0) (b := 47) (by decide +kernel) (by decide +kernel)
theorem dX3_among_38 : decode cX3_among 38 = .ok (.aload_n 0, 1) := dk_42 (by decide +kernel)
theorem dX3_among_39 : decode cX3_among 39 = .ok (.getfield 179, 3) := dk_180 (a := 0) (b := 179) (by decide +kernel) rfl
theorem dX3_among_42 : decode cX3_among 42 = .ok (.iload 5, 2) := dk_21 (a := 5) (by decide +kernel)
theorem dX3_among_44 : decode cX3_among 44 = .ok (.iadd, 1) := dk_96 (by decide +kernel)
theorem dX3_among_45 : decode cX3_among 45 = .ok (.aload_n 0, 1) := dk_42 (by decide +kernel)
theorem dX3_among_46 : decode cX3_among 46 = .ok (.getfield 42, 3) := dk_180 (a := 0) (b := 42) (by decide +kernel) rfl
theorem dX3_among_49 : decode cX3_among 49 = .ok (.if_icmp .ge 33, 3) := dk_162 (a := 0) (b := 33) (by decide +kernel) (by decide +kernel)
theorem dX3_among_52 : decode cX3_among 52 = .ok (.aload_n 1, 1) := dk_43 (by decide +kernel)
theorem dX3_among_53 : decode cX3_among 53 = .ok (.iload 4, 2) := dk_21 (a := 4) (by decide +kernel)
theorem dX3_among_55 : decode cX3_among 55 = .ok (.iload 5, 2) := dk_21 (a := 5) (by decide +kernel)
theorem dX3_among_57 : decode cX3_among 57 = .ok (.iadd, 1) := dk_96 (by decide +kernel)
theorem dX3_among_58 : decode cX3_among 58 = .ok (.invokevirtual 195, 3) := dk_182 (a := 0) (b := 195) (by decide +kernel) rfl
theorem dX3_among_61 : decode cX3_among 61 = .ok (.aload_n 0, 1) := dk_42 (by decide +kernel)
theorem dX3_among_62 : decode cX3_among 62 = .ok (.getfield 29, 3) := dk_180 (a := 0) (b := 29) (by decide +kernel) rfl
theorem dX3_among_65 : decode cX3_among 65 = .ok (.aload_n 0, 1) := dk_42 (by decide +kernel)
theorem dX3_among_66 : decode cX3_among 66 = .ok (.getfield 179, 3) := dk_180 (a := 0) (b := 179) (by decide +kernel) rfl
theorem dX3_among_69 : decode cX3_among 69 = .ok (.iload 5, 2) := dk_21 (a := 5) (by decide +kernel)
theorem dX3_among_71 : decode cX3_among 71 = .ok (.iadd, 1) := dk_96 (by decide +kernel)
theorem dX3_among_72 : decode cX3_among 72 = .ok (.baload, 1) := dk_51 (by decide +kernel)
theorem dX3_among_73 : decode cX3_among 73 = .ok (.if_icmp .ne 9, 3) := dk_160 (a := 0) (b := 9) (by decide +kernel) (by decide +kernel)
theorem dX3_among_76 : decode cX3_among 76 = .ok (.iinc 5 1, 3) := dk_132 (a := 5) (b := 1) (by decide +kernel) (by decide +kernel)
theorem dX3_among_79 : decode cX3_among 79 = .ok (.goto (-50), 3) := dk_167 (a := 255) (b := 206) (by decide +kernel) (by decide +kernel)
theorem dX3_among_82 : decode cX3_among 82 = .ok (.iload 4, 2) := dk_21 (a := 4) (by decide +kernel)
theorem dX3_among_84 : decode cX3_among 84 = .ok (.iload 5, 2) := dk_21 (a := 5) (by decide +kernel)
theorem dX3_among_86 : decode cX3_among 86 = .ok (.iadd, 1) := dk_96 (by decide +kernel)
theorem dX3_among_87 : decode cX3_among 87 = .ok (.istore 6, 2) := dk_54 (a := 6) (by decide +kernel)
theorem dX3_among_89 : decode cX3_among 89 = .ok (.aload_n 0, 1) := dk_42 (by decide +kernel)
theorem dX3_among_90 : decode cX3_among 90 = .ok (.getfield 179, 3) := dk_180 (a := 0) (b := 179) (by decide +kernel) rfl
theorem dX3_among_93 : decode cX3_among 93 = .ok (.iload 5, 2) := dk_21 (a := 5) (by decide +kernel)
theorem dX3_among_95 : decode cX3_among 95 = .ok (.iadd, 1) := dk_96 (by decide +kernel)
theorem dX3_among_96 : decode cX3_among 96 = .ok (.aload_n 0, 1) := dk_42 (by decide +kernel)
theorem dX3_among_97 : decode cX3_among 97 = .ok (.getfield 42, 3) := dk_180 (a := 0) (b := 42) (by decide +kernel) rfl
theorem dX3_among_100 : decode cX3_among 100 = .ok (.if_icmp .ne 22, 3) := dk_160 (a := 0) (b := 22) (by decide +kernel) (by decide +kernel)
theorem dX3_among_103 : decode cX3_among 103 = .ok (.iload 6, 2) := dk_21 (a := 6) (by decide +kernel)
theorem dX3_among_105 : decode cX3_among 105 = .ok (.iload_n 2, 1) := dk_28 (by decide +kernel)
theorem dX3_among_106 : decode cX3_among 106 = .ok (.if_icmp .ge 14, 3) := dk_162 (a := 0) (b := 14) (by decide +kernel) (by decide +kernel)
theorem dX3_among_109 : decode cX3_among 109 = .ok (.aload_n 1, 1) := dk_43 (by decide +kernel)
theorem dX3_among_110 : decode cX3_among 110 = .ok (.iload 6, 2) := dk_21 (a := 6) (by decide +kernel)
theorem dX3_among_112 : decode cX3_among 112 = .ok (.invokevirtual 195, 3) := dk_182 (a := 0) (b := 195) (by decide +kernel) rfl
theorem dX3_among_115 : decode cX3_among 115 = .ok (.bipush 32, 2) := dk_16 (a := 32) (by decide +kernel) (by decide +kernel)
theorem dX3_among_117 : decode cX3_among 117 = .ok (.if_icmp .ne 5, 3) := dk_160 (a := 0) (b := 5) (by decide +kernel) (by decide +kernel)
theorem dX3_among_120 : decode cX3_among 120 = .ok (.iload_n 3, 1) := dk_29 (by decide +kernel)
theorem dX3_among_121 : decode cX3_among 121 = .ok (.ireturn, 1) := dk_172 (by decide +kernel)
theorem dX3_among_122 : decode cX3_among 122 = .ok (.iload 6, 2) := dk_21 (a := 6) (by decide +kernel)
theorem dX3_among_124 : decode cX3_among 124 = .ok (.iload_n 2, 1) := dk_28 (by decide +kernel)
theorem dX3_among_125 : decode cX3_among 125 = .ok (.if_icmp .ge 20, 3) := dk_162 (a := 0) (b := 20) (by decide +kernel) (by decide +kernel)
theorem dX3_among_128 : decode cX3_among 128 = .ok (.aload_n 1, 1) := dk_43 (by decide +kernel)
theorem dX3_among_129 : decode cX3_among 129 = .ok (.iload 6, 2) := dk_21 (a := 6) (by decide +kernel)
theorem dX3_among_131 : decode cX3_among 131 = .ok (.invokevirtual 195, 3) := dk_182 (a := 0) (b := 195) (by decide +kernel) rfl
theorem dX3_among_134 : decode cX3_among 134 = .ok (.bipush 32, 2) := dk_16 (a := 32) (by decide +kernel) (by decide +kernel)
theorem dX3_among_136 : decode cX3_among 136 = .ok (.if_icmp .eq 9, 3) := dk_159 (a := 0) (b := 9) (by decide +kernel) (by decide +kernel)
theorem dX3_among_139 : decode cX3_among 139 = .ok (.iinc 6 1, 3) := dk_132 (a := 6) (b := 1) (by decide +kernel) (by decide +kernel)
theorem dX3_among_142 : decode cX3_among 142 = .ok (.goto (-20), 3) := dk_167 (a := 255) (b := 236) (by decide +kernel) (by decide +kernel)
theorem dX3_among_145 : decode cX3_among 145 = .ok (.iload 6, 2) := dk_21 (a := 6) (by decide +kernel)
theorem dX3_among_147 : decode cX3_among 147 = .ok (.iconst 1, 1) := dk_4 (by decide +kernel)
theorem dX3_among_148 : decode cX3_among 148 = .ok (.iadd, 1) := dk_96 (by decide +kernel)
theorem dX3_among_149 : decode cX3_among 149 = .ok (.istore 4, 2) := dk_54 (a := 4) (by decide +kernel)
theorem dX3_among_151 : decode cX3_among 151 = .ok (.iinc 3 1, 3) := dk_132 (a := 3) (b := 1) (by decide +kernel) (by decide +kernel)
theorem dX3_among_154 : decode cX3_among 154 = .ok (.goto (-134), 3) := dk_167 (a := 255) (b := 122) (by decide +kernel) (by decide +kernel)
theorem dX3_among_157 : decode cX3_among 157 = .ok (.iconst (-1), 1) := dk_2 (by decide +kernel)
theorem dX3_among_158 : decode cX3_among 158 = .ok (.ireturn, 1) := dk_172 (by decide +kernel)
theorem dX4_init_0 : decode cX4_init 0 = .ok (.aload_n 0, 1) := dk_42 (by decide +kernel)
theorem dX4_init_1 : decode cX4_init 1 = .ok (.invokespecial 5, 3) := dk_183 (a := 0) (b := 5) (by decide +kernel) rfl
theorem dX4_init_4 : decode cX4_init 4 = .ok (.aload_n 0, 1) := dk_42 (by decide +kernel)
theorem dX4_init_5 : decode cX4_init 5 = .ok (.bipush 10, 2) := dk_16 (a := 10) (by decide +kernel) (by decide +kernel)
theorem dX4_init_7 : decode cX4_init 7 = .ok (.newarray .int, 2) := dk_188_10 (by decide +kernel)
theorem dX4_init_9 : decode cX4_init 9 = .ok (.putfield 11, 3) := dk_181 (a := 0) (b := 11) (by decide +kernel) rfl
theorem dX4_init_12 : decode cX4_init 12 = .ok (.aload_n 0, 1) := dk_42 (by decide +kernel)
theorem dX4_init_13 : decode cX4_init 13 = .ok (.iconst (-1), 1) := dk_2 (by decide +kernel)
theorem dX4_init_14 : decode cX4_init 14 = .ok (.putfield 15, 3) := dk_181 (a := 0) (b := 15) (by decide +kernel) rfl
theorem dX4_init_17 : decode cX4_init 17 = .ok (.aload_n 0, 1) := dk_42 (by decide +kernel)
theorem dX4_init_18 : decode cX4_init 18 = .ok (.iconst (-1), 1) := dk_2 (by decide +kernel)
theorem dX4_init_19 : decode cX4_init 19 = .ok (.putfield 19, 3) := dk_181 (a := 0) (b := 19) (by decide +kernel) rfl
theorem dX4_init_22 : decode cX4_init 22 = .ok (.aload_n 0, 1) := dk_42 (by decide +kernel)
theorem dX4_init_23 : decode cX4_init 23 = .ok (.bipush 10, 2) := dk_16 (a := 10) (by decide +kernel) (by decide +kernel)
theorem dX4_init_25 : decode cX4_init 25 = .ok (.newarray .int, 2) := dk_188_10 (by decide +kernel)
theorem dX4_init_27 : decode cX4_init 27 = .ok (.putfield 22, 3) := dk_181 (a := 0) (b := 22) (by decide +kernel) rfl
theorem dX4_init_30 : decode cX4_init 30 = .ok (.aload_n 0, 1) := dk_42 (by decide +kernel)
theorem dX4_init_31 : decode cX4_init 31 = .ok (.bipush 10, 2) := dk_16 (a := 10) (by decide +kernel) (by decide +kernel)
theorem dX4_init_33 : decode cX4_init 33 = .ok (.newarray .int, 2) := dk_188_10 (by decide +kernel)
theorem dX4_init_35 : decode cX4_init 35 = .ok (.putfield 25, 3) := dk_181 (a := 0) (b := 25) (by decide +kernel) rfl
theorem dX4_init_38 : decode cX4_init 38 = .ok (.aload_n 0, 1) := dk_42 (by decide +kernel)
theorem dX4_init_39 : decode cX4_init 39 = .ok (.bipush 16, 2) := dk_16 (a := 16) (by decide +kernel) (by decide +kernel)
theorem dX4_init_41 : decode cX4_init 41 = .ok (.newarray .int, 2) := dk_188_10 (by decide +kernel)
theorem dX4_init_43 : decode cX4_init 43 = .ok (.putfield 28, 3) := dk_181 (a := 0) (b := 28) (by decide +kernel) rfl
theorem dX4_init_46 : decode cX4_init 46 = .ok (.aload_n 0, 1) := dk_42 (by decide +kernel)
theorem dX4_init_47 : decode cX4_init 47 = .ok (.bipush 16, 2) := dk_16 (a := 16) (by decide +kernel) (by decide +kernel)
theorem dX4_init_49 : decode cX4_init 49 = .ok (.newarray .int, 2) := dk_188_10 (by decide +kernel)
theorem dX4_init_51 : decode cX4_init 51 = .ok (.putfield 31, 3) := dk_181 (a := 0) (b := 31) (by decide +kernel) rfl
theorem dX4_init_54 : decode cX4_init 54 = .ok (.aload_n 0, 1) := dk_42 (by decide +kernel)
theorem dX4_init_55 : decode cX4_init 55 = .ok (.bipush 16, 2) := dk_16 (a := 16) (by decide +kernel) (by decide +kernel)
theorem dX4_init_57 : decode cX4_init 57 = .ok (.newarray .int, 2) := dk_188_10 (by decide +kernel)
theorem dX4_init_59 : decode cX4_init 59 = .ok (.putfield 34, 3) := dk_181 (a := 0) (b := 34) (by decide +kernel) rfl
theorem dX4_init_62 : decode cX4_init 62 = .ok (.aload_n 0, 1) := dk_42 (by decide +kernel)
theorem dX4_init_63 : decode cX4_init 63 = .ok (.sipush 256, 3) := dk_17 (a := 1) (b := 0) (by decide +kernel) (by decide +kernel)
theorem dX4_init_66 : decode cX4_init 66 = .ok (.newarray .int, 2) := dk_188_10 (by decide +kernel)
theorem dX4_init_68 : decode cX4_init 68 = .ok (.putfield 37, 3) := dk_181 (a := 0) (b := 37) (by decide +kernel) rfl
theorem dX4_init_71 : decode cX4_init 71 = .ok (.aload_n 0, 1) := dk_42 (by decide +kernel)
theorem dX4_init_72 : decode cX4_init 72 = .ok (.sipush 10240, 3) := dk_17 (a := 40) (b := 0) (by decide +kernel) (by decide +kernel)
theorem dX4_init_75 : decode cX4_init 75 = .ok (.newarray .int, 2) := dk_188_10 (by decide +kernel)
theorem dX4_init_77 : decode cX4_init 77 = .ok (.putfield 40, 3) := dk_181 (a := 0) (b := 40) (by decide +kernel) rfl
theorem dX4_init_80 : decode cX4_init 80 = .ok (.aload_n 0, 1) := dk_42 (by decide +kernel)
theorem dX4_init_81 : decode cX4_init 81 = .ok (.sipush 1024, 3) := dk_17 (a := 4) (b := 0) (by decide +kernel) (by decide +kernel)
theorem dX4_init_84 : decode cX4_init 84 = .ok (.newarray .int, 2) := dk_188_10 (by decide +kernel)
theorem dX4_init_86 : decode cX4_init 86 = .ok (.putfield 43, 3) := dk_181 (a := 0) (b := 43) (by decide +kernel) rfl
theorem dX4_init_89 : decode cX4_init 89 = .ok (.aload_n 0, 1) := dk_42 (by decide +kernel)
theorem dX4_init_90 : decode cX4_init 90 = .ok (.sipush 1024, 3) := dk_17 (a := 4) (b := 0) (by decide +kernel) (by decide +kernel)
theorem dX4_init_93 : decode cX4_init 93 = .ok (.newarray .int, 2) := dk_188_10 (by decide +kernel)
theorem dX4_init_95 : decode cX4_init 95 = .ok (.putfield 46, 3) := dk_181 (a := 0) (b := 46) (by decide +kernel) rfl
theorem dX4_init_98 : decode cX4_init 98 = .ok (.return_, 1) := dk_177 (by decide +kernel)
theorem dX4_plan_0 : decode cX4_plan 0 = .ok (.aload_n 0, 1) := dk_42 (by decide +kernel)
theorem dX4_plan_1 : decode cX4_plan 1 = .ok (.getfield 49, 3) := dk_180 (a := 0) (b := 49) (by decide +kernel) rfl
theorem dX4_plan_4 : decode cX4_plan 4 = .ok (.ifCond .eq 23, 3) := dk_153 (a := 0) (b := 23) (by decide +kernel) (by decide +kernel)
theorem dX4_plan_7 : decode cX4_plan 7 = .ok (.aload_n 0, 1) := dk_42 (by decide +kernel)
theorem dX4_plan_8 : decode cX4_plan 8 = .ok (.getfield 15, 3) := dk_180 (a := 0) (b := 15) (by decide +kernel) rfl
theorem dX4_plan_11 : decode cX4_plan 11 = .ok (.iload_n 2, 1) := dk_28 (by decide +kernel)
theorem dX4_plan_12 : decode cX4_plan 12 = .ok (.if_icmp .ne 15, 3) := dk_160 (a := 0) (b := 15) (by decide +kernel) (by decide +kernel)
theorem dX4_plan_15 : decode cX4_plan 15 = .ok (.aload_n 0, 1) := dk_42 (by decide +kernel)
theorem dX4_plan_16 : decode cX4_plan 16 = .ok (.getfield 19, 3) := dk_180 (a := 0) (b := 19) (by decide +kernel) rfl
theorem dX4_plan_19 : decode cX4_plan 19 = .ok (.iload_n 3, 1) := dk_29 (by decide +kernel)
theorem dX4_plan_20 : decode cX4_plan 20 = .ok (.bipush 7, 2) := dk_16 (a := 7) (by decide +kernel) (by decide +kernel)
theorem dX4_plan_22 : decode cX4_plan 22 = .ok (.irem, 1) := dk_112 (by decide +kernel)
theorem dX4_plan_23 : decode cX4_plan 23 = .ok (.if_icmp .ne 4, 3) := dk_160 (a := 0) (b := 4) (by decide +kernel) (by decide +kernel)
theorem dX4_plan_26 : decode cX4_plan 26 = .ok (.return_, 1) := dk_177 (by decide +kernel)
theorem dX4_plan_27 : decode cX4_plan 27 = .ok (.aload_n 0, 1) := dk_42 (by decide +kernel)
theorem dX4_plan_28 : decode cX4_plan 28 = .ok (.iconst 1, 1) := dk_4 (by decide +kernel)
theorem dX4_plan_29 : decode cX4_plan 29 = .ok (.putfield 49, 3) := dk_181 (a := 0) (b := 49) (by decide +kernel) rfl
theorem dX4_plan_32 : decode cX4_plan 32 = .ok (.aload_n 0, 1) := dk_42 (by decide +kernel)
theorem dX4_plan_33 : decode cX4_plan 33 = .ok (.iload_n 2, 1) := dk_28 (by decide +kernel)
theorem dX4_plan_34 : decode cX4_plan 34 = .ok (.putfield 15, 3) := dk_181 (a := 0) (b := 15) (by decide +kernel) rfl
theorem dX4_plan_37 : decode cX4_plan 37 = .ok (.aload_n 0, 1) := dk_42 (by decide +kernel)
theorem dX4_plan_38 : decode cX4_plan 38 = .ok (.iload_n 3, 1) := dk_29 (by decide +kernel)
theorem dX4_plan_39 : decode cX4_plan 39 = .ok (.bipush 7, 2) := dk_16 (a := 7) (by decide +kernel) (by decide +kernel)
theorem dX4_plan_41 : decode cX4_plan 41 = .ok (.irem, 1) := dk_112 (by decide +kernel)
theorem dX4_plan_42 : decode cX4_plan 42 = .ok (.putfield 19, 3) := dk_181 (a := 0) (b := 19) (by decide +kernel) rfl
theorem dX4_plan_45 : decode cX4_plan 45 = .ok (.aload_n 0, 1) := dk_42 (by decide +kernel)
theorem dX4_plan_46 : decode cX4_plan 46 = .ok (.iconst 0, 1) := dk_3 (by decide +kernel)
theorem dX4_plan_47 : decode cX4_plan 47 = .ok (.putfield 53, 3) := dk_181 (a := 0) (b := 53) (by decide +kernel) rfl
theorem dX4_plan_50 : decode cX4_plan 50 = .ok (.iconst 0, 1) := dk_3 (by decide +kernel)
theorem dX4_plan_51 : decode cX4_plan 51 = .ok (.istore 4, 2) := dk_54 (a := 4) (by decide +kernel)
theorem dX4_plan_53 : decode cX4_plan 53 = .ok (.iload 4, 2) := dk_21 (a := 4) (by decide +kernel)
theorem dX4_plan_55 : decode cX4_plan 55 = .ok (.aload_n 1, 1) := dk_43 (by decide +kernel)
theorem dX4_plan_56 : decode cX4_plan 56 = .ok (.getfield 56, 3) := dk_180 (a := 0) (b := 56) (by decide +kernel) rfl
theorem dX4_plan_59 : decode cX4_plan 59 = .ok (.getfield 62, 3) := dk_180 (a := 0) (b := 62) (by decide +kernel) rfl
theorem dX4_plan_62 : decode cX4_plan 62 = .ok (.if_icmp .ge 52, 3) := dk_162 (a := 0) (b := 52) (by decide +kernel) (by decide +kernel)
theorem dX4_plan_65 : decode cX4_plan 65 = .ok (.aload_n 0, 1) := dk_42 (by decide +kernel)
theorem dX4_plan_66 : decode cX4_plan 66 = .ok (.getfield 53, 3) := dk_180 (a := 0) (b := 53) (by decide +kernel) rfl
theorem dX4_plan_69 : decode cX4_plan 69 = .ok (.bipush 10, 2) := dk_16 (a := 10) (by decide +kernel) (by decide +kernel)
theorem dX4_plan_71 : decode cX4_plan 71 = .ok (.if_icmp .ge 43, 3) := dk_162 (a := 0) (b := 43) (by decide +kernel) (by decide +kernel)
theorem dX4_plan_74 : decode cX4_plan 74 = .ok (.aload_n 1, 1) := dk_43 (by decide +kernel)
theorem dX4_plan_75 : decode cX4_plan 75 = .ok (.getfield 67, 3) := dk_180 (a := 0) (b := 67) (by decide +kernel) rfl
theorem dX4_plan_78 : decode cX4_plan 78 = .ok (.iload_n 2, 1) := dk_28 (by decide +kernel)
theorem dX4_plan_79 : decode cX4_plan 79 = .ok (.iload 4, 2) := dk_21 (a := 4) (by decide +kernel)
theorem dX4_plan_81 : decode cX4_plan 81 = .ok (.invokevirtual 71, 3) := dk_182 (a := 0) (b := 71) (by decide +kernel) rfl
theorem dX4_plan_84 : decode cX4_plan 84 = .ok (.ifCond .eq 24, 3) := dk_153 (a := 0) (b := 24) (by decide +kernel) (by decide +kernel)
theorem dX4_plan_87 : decode cX4_plan 87 = .ok (.aload_n 0, 1) := dk_42 (by decide +kernel)
theorem dX4_plan_88 : decode cX4_plan 88 = .ok (.getfield 22, 3) := dk_180 (a := 0) (b := 22) (by decide +kernel) rfl
theorem dX4_plan_91 : decode cX4_plan 91 = .ok (.aload_n 0, 1) := dk_42 (by decide +kernel)
theorem dX4_plan_92 : decode cX4_plan 92 = .ok (.getfield 53, 3) := dk_180 (a := 0) (b := 53) (by decide +kernel) rfl
theorem dX4_plan_95 : decode cX4_plan 95 = .ok (.iload 4, 2) := dk_21 (a := 4) (by decide +kernel)
theorem dX4_plan_97 : decode cX4_plan 97 = .ok (.iastore, 1) := dk_79 (by decide +kernel)
theorem dX4_plan_98 : decode cX4_plan 98 = .ok (.aload_n 0, 1) := dk_42 (by decide +kernel)
theorem dX4_plan_99 : decode cX4_plan 99 = .ok (.dup, 1) := dk_89 (by decide +kernel)
theorem dX4_plan_100 : decode cX4_plan 100 = .ok (.getfield 53, 3) := dk_180 (a := 0) (b := 53) (by decide +kernel) rfl
theorem dX4_plan_103 : decode cX4_plan 103 = .ok (.iconst 1, 1) := dk_4 (by decide +kernel)
theorem dX4_plan_104 : decode cX4_plan 104 = .ok (.iadd, 1) := dk_96 (by decide +kernel)
theorem dX4_plan_105 : decode cX4_plan 105 = .ok (.putfield 53, 3) := dk_181 (a := 0) (b := 53) (by decide +kernel) rfl
theorem dX4_plan_108 : decode cX4_plan 108 = .ok (.iinc 4 1, 3) := dk_132 (a := 4) (b := 1) (by decide +kernel) (by decide +kernel)
theorem dX4_plan_111 : decode cX4_plan 111 = .ok (.goto (-58), 3) := dk_167 (a := 255) (b := 198) (by decide +kernel) (by decide +kernel)
theorem dX4_plan_114 : decode cX4_plan 114 = .ok (.aload_n 0, 1) := dk_42 (by decide +kernel)
theorem dX4_plan_115 : decode cX4_plan 115 = .ok (.aload_n 1, 1) := dk_43 (by decide +kernel)
theorem dX4_plan_116 : decode cX4_plan 116 = .ok (.iload_n 2, 1) := dk_28 (by decide +kernel)
theorem dX4_plan_117 : decode cX4_plan 117 = .ok (.invokevirtual 77, 3) := dk_182 (a := 0) (b := 77) (by decide +kernel) rfl
theorem dX4_plan_120 : decode cX4_plan 120 = .ok (.aload_n 0, 1) := dk_42 (by decide +kernel)
theorem dX4_plan_121 : decode cX4_plan 121 = .ok (.iload_n 2, 1) := dk_28 (by decide +kernel)
theorem dX4_plan_122 : decode cX4_plan 122 = .ok (.aload_n 0, 1) := dk_42 (by decide +kernel)
theorem dX4_plan_123 : decode cX4_plan 123 = .ok (.aload_n 1, 1) := dk_43 (by decide +kernel)
theorem dX4_plan_124 : decode cX4_plan 124 = .ok (.iload_n 3, 1) := dk_29 (by decide +kernel)
theorem dX4_plan_125 : decode cX4_plan 125 = .ok (.invokevirtual 81, 3) := dk_182 (a := 0) (b := 81) (by decide +kernel) rfl
theorem dX4_plan_128 : decode cX4_plan 128 = .ok (.invokevirtual 85, 3) := dk_182 (a := 0) (b := 85) (by decide +kernel) rfl
theorem dX4_plan_131 : decode cX4_plan 131 = .ok (.aload_n 0, 1) := dk_42 (by decide +kernel)
theorem dX4_plan_132 : decode cX4_plan 132 = .ok (.aload_n 1, 1) := dk_43 (by decide +kernel)
theorem dX4_plan_133 : decode cX4_plan 133 = .ok (.iload_n 2, 1) := dk_28 (by decide +kernel)
theorem dX4_plan_134 : decode cX4_plan 134 = .ok (.invokevirtual 89, 3) := dk_182 (a := 0) (b := 89) (by decide +kernel) rfl
theorem dX4_plan_137 : decode cX4_plan 137 = .ok (.istore 4, 2) := dk_54 (a := 4) (by decide +kernel)
theorem dX4_plan_139 : decode cX4_plan 139 = .ok (.aload_n 0, 1) := dk_42 (by decide +kernel)
theorem dX4_plan_140 : decode cX4_plan 140 = .ok (.iload 4, 2) := dk_21 (a := 4) (by decide +kernel)
theorem dX4_plan_142 : decode cX4_plan 142 = .ok (.aload_n 0, 1) := dk_42 (by decide +kernel)
theorem dX4_plan_143 : decode cX4_plan 143 = .ok (.getfield 92, 3) := dk_180 (a := 0) (b := 92) (by decide +kernel) rfl
theorem dX4_plan_146 : decode cX4_plan 146 = .ok (.invokevirtual 95, 3) := dk_182 (a := 0) (b := 95) (by decide +kernel) rfl
theorem dX4_plan_149 : decode cX4_plan 149 = .ok (.aload_n 0, 1) := dk_42 (by decide +kernel)
theorem dX4_plan_150 : decode cX4_plan 150 = .ok (.iload_n 2, 1) := dk_28 (by decide +kernel)
theorem dX4_plan_151 : decode cX4_plan 151 = .ok (.iload 4, 2) := dk_21 (a := 4) (by decide +kernel)
theorem dX4_plan_153 : decode cX4_plan 153 = .ok (.invokevirtual 98, 3) := dk_182 (a := 0) (b := 98) (by decide +kernel) rfl
theorem dX4_plan_156 : decode cX4_plan 156 = .ok (.return_, 1) := dk_177 (by decide +kernel)
theorem dX4_lookAtSpots_0 : decode cX4_lookAtSpots 0 = .ok (.iconst 0, 1) := dk_3 (by decide +kernel)
theorem dX4_lookAtSpots_1 : decode cX4_lookAtSpots 1 = .ok (.istore_n 3, 1) := dk_62 (by decide +kernel)
theorem dX4_lookAtSpots_2 : decode cX4_lookAtSpots 2 = .ok (.iload_n 3, 1) := dk_29 (by decide +kernel)
theorem dX4_lookAtSpots_3 : decode cX4_lookAtSpots 3 = .ok (.aload_n 0, 1) := dk_42 (by decide +kernel)
theorem dX4_lookAtSpots_4 : decode cX4_lookAtSpots 4 = .ok (.getfield 53, 3) := dk_180 (a := 0) (b := 53) (by decide +kernel) rfl
theorem dX4_lookAtSpots_7 : decode cX4_lookAtSpots 7 = .ok (.if_icmp .ge 99, 3) := dk_162 (a := 0) (b := 99) (by decide +kernel) (by decide +kernel)
theorem dX4_lookAtSpots_10 : decode cX4_lookAtSpots 10 = .ok (.aload_n 0, 1) := dk_42 (by decide +kernel)
theorem dX4_lookAtSpots_11 : decode cX4_lookAtSpots 11 = .ok (.getfield 22, 3) := dk_180 (a := 0) (b := 22) (by decide +kernel) rfl
theorem dX4_lookAtSpots_14 : decode cX4_lookAtSpots 14 = .ok (.iload_n 3, 1) := dk_29 (by decide +kernel)
theorem dX4_lookAtSpots_15 : decode cX4_lookAtSpots 15 = .ok (.iaload, 1) := dk_46 (by decide +kernel)
theorem dX4_lookAtSpots_16 : decode cX4_lookAtSpots 16 = .ok (.istore 4, 2) := dk_54 (a := 4) (by decide +kernel)
theorem dX4_lookAtSpots_18 : decode cX4_lookAtSpots 18 = .ok (.aload_n 0, 1) := dk_42 (by decide +kernel)
theorem dX4_lookAtSpots_19 : decode cX4_lookAtSpots 19 = .ok (.aload_n 1, 1) := dk_43 (by decide +kernel)
theorem dX4_lookAtSpots_20 : decode cX4_lookAtSpots 20 = .ok (.iload_n 2, 1) := dk_28 (by decide +kernel)
theorem dX4_lookAtSpots_21 : decode cX4_lookAtSpots 21 = .ok (.iload 4, 2) := dk_21 (a := 4) (by decide +kernel)
theorem dX4_lookAtSpots_23 : decode cX4_lookAtSpots 23 = .ok (.invokevirtual 101, 3) := dk_182 (a := 0) (b := 101) (by decide +kernel) rfl
theorem dX4_lookAtSpots_26 : decode cX4_lookAtSpots 26 = .ok (.aload_n 0, 1) := dk_42 (by decide +kernel)
theorem dX4_lookAtSpots_27 : decode cX4_lookAtSpots 27 = .ok (.getfield 37, 3) := dk_180 (a := 0) (b := 37) (by decide +kernel) rfl
theorem dX4_lookAtSpots_30 : decode cX4_lookAtSpots 30 = .ok (.iload_n 2, 1) := dk_28 (by decide +kernel)
theorem dX4_lookAtSpots_31 : decode cX4_lookAtSpots 31 = .ok (.bipush 16, 2) := dk_16 (a := 16) (by decide +kernel) (by decide +kernel)
theorem dX4_lookAtSpots_33 : decode cX4_lookAtSpots 33 = .ok (.imul, 1) := dk_104 (by decide +kernel)
theorem dX4_lookAtSpots_34 : decode cX4_lookAtSpots 34 = .ok (.iload 4, 2) := dk_21 (a := 4) (by decide +kernel)
theorem dX4_lookAtSpots_36 : decode cX4_lookAtSpots 36 = .ok (.iadd, 1) := dk_96 (by decide +kernel)
theorem dX4_lookAtSpots_37 : decode cX4_lookAtSpots 37 = .ok (.aload_n 1, 1) := dk_43 (by decide +kernel)
theorem dX4_lookAtSpots_38 : decode cX4_lookAtSpots 38 = .ok (.getfield 56, 3) := dk_180 (a := 0) (b := 56) (by decide +kernel) rfl
theorem dX4_lookAtSpots_41 : decode cX4_lookAtSpots 41 = .ok (.iload_n 2, 1) := dk_28 (by decide +kernel)
theorem dX4_lookAtSpots_42 : decode cX4_lookAtSpots 42 = .ok (.iload 4, 2) := dk_21 (a := 4) (by decide +kernel)
theorem dX4_lookAtSpots_44 : decode cX4_lookAtSpots 44 = .ok (.invokevirtual 105, 3) := dk_182 (a := 0) (b := 105) (by decide +kernel) rfl
theorem dX4_lookAtSpots_47 : decode cX4_lookAtSpots 47 = .ok (.iastore, 1) := dk_79 (by decide +kernel)
theorem dX4_lookAtSpots_48 : decode cX4_lookAtSpots 48 = .ok (.iconst 0, 1) := dk_3 (by decide +kernel)
theorem dX4_lookAtSpots_49 : decode cX4_lookAtSpots 49 = .ok (.istore 5, 2) := dk_54 (a := 5) (by decide +kernel)
theorem dX4_lookAtSpots_51 : decode cX4_lookAtSpots 51 = .ok (.iload 5, 2) := dk_21 (a := 5) (by decide +kernel)
theorem dX4_lookAtSpots_53 : decode cX4_lookAtSpots 53 = .ok (.aload_n 0, 1) := dk_42 (by decide +kernel)
theorem dX4_lookAtSpots_54 : decode cX4_lookAtSpots 54 = .ok (.getfield 53, 3) := dk_180 (a := 0) (b := 53) (by decide +kernel) rfl
theorem dX4_lookAtSpots_57 : decode cX4_lookAtSpots 57 = .ok (.if_icmp .ge 43, 3) := dk_162 (a := 0) (b := 43) (by decide +kernel) (by decide +kernel)
theorem dX4_lookAtSpots_60 : decode cX4_lookAtSpots 60 = .ok (.aload_n 0, 1) := dk_42 (by decide +kernel)
theorem dX4_lookAtSpots_61 : decode cX4_lookAtSpots 61 = .ok (.getfield 37, 3) := dk_180 (a := 0) (b := 37) (by decide +kernel) rfl
theorem dX4_lookAtSpots_64 : decode cX4_lookAtSpots 64 = .ok (.iload 4, 2) := dk_21 (a := 4) (by decide +kernel)
theorem dX4_lookAtSpots_66 : decode cX4_lookAtSpots 66 = .ok (.bipush 16, 2) := dk_16 (a := 16) (by decide +kernel) (by decide +kernel)
theorem dX4_lookAtSpots_68 : decode cX4_lookAtSpots 68 = .ok (.imul, 1) := dk_104 (by decide +kernel)
theorem dX4_lookAtSpots_69 : decode cX4_lookAtSpots 69 = .ok (.aload_n 0, 1) := dk_42 (by decide +kernel)
theorem dX4_lookAtSpots_70 : decode cX4_lookAtSpots 70 = .ok (.getfield 22, 3) := dk_180 (a := 0) (b := 22) (by decide +kernel) rfl
theorem dX4_lookAtSpots_73 : decode cX4_lookAtSpots 73 = .ok (.iload 5, 2) := dk_21 (a := 5) (by decide +kernel)
theorem dX4_lookAtSpots_75 : decode cX4_lookAtSpots 75 = .ok (.iaload, 1) := dk_46 (by decide +kernel)
theorem dX4_lookAtSpots_76 : decode cX4_lookAtSpots 76 = .ok (.iadd, 1) := dk_96 (by decide +kernel)
theorem dX4_lookAtSpots_77 : decode cX4_lookAtSpots 77 = .ok (.aload_n 1, 1) := dk_43 (by decide +kernel)
theorem dX4_lookAtSpots_78 : decode cX4_lookAtSpots 78 = .ok (.getfield 56, 3) := dk_180 (a := 0) (b := 56) (by decide +kernel) rfl
theorem dX4_lookAtSpots_81 : decode cX4_lookAtSpots 81 = .ok (.iload 4, 2) := dk_21 (a := 4) (by decide +kernel)
theorem dX4_lookAtSpots_83 : decode cX4_lookAtSpots 83 = .ok (.aload_n 0, 1) := dk_42 (by decide +kernel)
theorem dX4_lookAtSpots_84 : decode cX4_lookAtSpots 84 = .ok (.getfield 22, 3) := dk_180 (a := 0) (b := 22) (by decide +kernel) rfl
theorem dX4_lookAtSpots_87 : decode cX4_lookAtSpots 87 = .ok (.iload 5, 2) := dk_21 (a := 5) (by decide +kernel)
theorem dX4_lookAtSpots_89 : decode cX4_lookAtSpots 89 = .ok (.iaload, 1) := dk_46 (by decide +kernel)
theorem dX4_lookAtSpots_90 : decode cX4_lookAtSpots 90 = .ok (.invokevirtual 105, 3) := dk_182 (a := 0) (b := 105) (by decide +kernel) rfl
theorem dX4_lookAtSpots_93 : decode cX4_lookAtSpots 93 = .ok (.iastore, 1) := dk_79 (by decide +kernel)
theorem dX4_lookAtSpots_94 : decode cX4_lookAtSpots 94 = .ok (.iinc 5 1, 3) := dk_132 (a := 5) (b := 1) (by decide +kernel) (by decide +kernel)
theorem dX4_lookAtSpots_97 : decode cX4_lookAtSpots 97 = .ok (.goto (-46), 3) := dk_167 (a := 255) (b := 210) (by decide +kernel) (by decide +kernel)
theorem dX4_lookAtSpots_100 : decode cX4_lookAtSpots 100 = .ok (.iinc 3 1, 3) := dk_132 (a := 3) (b := 1) (by decide +kernel) (by decide +kernel)
theorem dX4_lookAtSpots_103 : decode cX4_lookAtSpots 103 = .ok (.goto (-101), 3) := dk_167 (a := 255) (b := 155) (by decide +kernel) (by decide +kernel)
theorem dX4_lookAtSpots_106 : decode cX4_lookAtSpots 106 = .ok (.return_, 1) := dk_177 (by decide +kernel)
theorem dX4_lookAt_0 : decode cX4_lookAt 0 = .ok (.aload_n 1, 1) := dk_43 (by decide +kernel)
theorem dX4_lookAt_1 : decode cX4_lookAt 1 = .ok (.iload_n 2, 1) := dk_28 (by decide +kernel)
theorem dX4_lookAt_2 : decode cX4_lookAt 2 = .ok (.iload_n 3, 1) := dk_29 (by decide +kernel)
theorem dX4_lookAt_3 : decode cX4_lookAt 3 = .ok (.invokestatic 108, 3) := dk_184 (a := 0) (b := 108) (by decide +kernel) rfl
theorem dX4_lookAt_6 : decode cX4_lookAt 6 = .ok (.istore 4, 2) := dk_54 (a := 4) (by decide +kernel)
theorem dX4_lookAt_8 : decode cX4_lookAt 8 = .ok (.aload_n 0, 1) := dk_42 (by decide +kernel)
theorem dX4_lookAt_9 : decode cX4_lookAt 9 = .ok (.getfield 28, 3) := dk_180 (a := 0) (b := 28) (by decide +kernel) rfl
theorem dX4_lookAt_12 : decode cX4_lookAt 12 = .ok (.iload_n 3, 1) := dk_29 (by decide +kernel)
theorem dX4_lookAt_13 : decode cX4_lookAt 13 = .ok (.iload 4, 2) := dk_21 (a := 4) (by decide +kernel)
theorem dX4_lookAt_15 : decode cX4_lookAt 15 = .ok (.ifCond .eq 15, 3) := dk_153 (a := 0) (b := 15) (by decide +kernel) (by decide +kernel)
theorem dX4_lookAt_18 : decode cX4_lookAt 18 = .ok (.aload_n 1, 1) := dk_43 (by decide +kernel)
theorem dX4_lookAt_19 : decode cX4_lookAt 19 = .ok (.getfield 56, 3) := dk_180 (a := 0) (b := 56) (by decide +kernel) rfl
theorem dX4_lookAt_22 : decode cX4_lookAt 22 = .ok (.getfield 112, 3) := dk_180 (a := 0) (b := 112) (by decide +kernel) rfl
theorem dX4_lookAt_25 : decode cX4_lookAt 25 = .ok (.iload_n 3, 1) := dk_29 (by decide +kernel)
theorem dX4_lookAt_26 : decode cX4_lookAt 26 = .ok (.iaload, 1) := dk_46 (by decide +kernel)
theorem dX4_lookAt_27 : decode cX4_lookAt 27 = .ok (.goto 4, 3) := dk_167 (a := 0) (b := 4) (by decide +kernel) (by decide +kernel)
theorem dX4_lookAt_30 : decode cX4_lookAt 30 = .ok (.iconst 0, 1) := dk_3 (by decide +kernel)
theorem dX4_lookAt_31 : decode cX4_lookAt 31 = .ok (.iastore, 1) := dk_79 (by decide +kernel)
theorem dX4_lookAt_32 : decode cX4_lookAt 32 = .ok (.aload_n 0, 1) := dk_42 (by decide +kernel)
theorem dX4_lookAt_33 : decode cX4_lookAt 33 = .ok (.getfield 31, 3) := dk_180 (a := 0) (b := 31) (by decide +kernel) rfl
theorem dX4_lookAt_36 : decode cX4_lookAt 36 = .ok (.iload_n 3, 1) := dk_29 (by decide +kernel)
theorem dX4_lookAt_37 : decode cX4_lookAt 37 = .ok (.iload 4, 2) := dk_21 (a := 4) (by decide +kernel)
theorem dX4_lookAt_39 : decode cX4_lookAt 39 = .ok (.ifCond .eq 15, 3) := dk_153 (a := 0) (b := 15) (by decide +kernel) (by decide +kernel)
theorem dX4_lookAt_42 : decode cX4_lookAt 42 = .ok (.aload_n 1, 1) := dk_43 (by decide +kernel)
theorem dX4_lookAt_43 : decode cX4_lookAt 43 = .ok (.getfield 56, 3) := dk_180 (a := 0) (b := 56) (by decide +kernel) rfl
theorem dX4_lookAt_46 : decode cX4_lookAt 46 = .ok (.getfield 115, 3) := dk_180 (a := 0) (b := 115) (by decide +kernel) rfl
theorem dX4_lookAt_49 : decode cX4_lookAt 49 = .ok (.iload_n 3, 1) := dk_29 (by decide +kernel)
theorem dX4_lookAt_50 : decode cX4_lookAt 50 = .ok (.iaload, 1) := dk_46 (by decide +kernel)
theorem dX4_lookAt_51 : decode cX4_lookAt 51 = .ok (.goto 6, 3) := dk_167 (a := 0) (b := 6) (by decide +kernel) (by decide +kernel)
theorem dX4_lookAt_54 : decode cX4_lookAt 54 = .ok (.sipush 180, 3) := dk_17 (a := 0) (b := 180) (by decide +kernel) (by decide +kernel)
theorem dX4_lookAt_57 : decode cX4_lookAt 57 = .ok (.iastore, 1) := dk_79 (by decide +kernel)
theorem dX4_lookAt_58 : decode cX4_lookAt 58 = .ok (.aload_n 0, 1) := dk_42 (by decide +kernel)
theorem dX4_lookAt_59 : decode cX4_lookAt 59 = .ok (.getfield 34, 3) := dk_180 (a := 0) (b := 34) (by decide +kernel) rfl
theorem dX4_lookAt_62 : decode cX4_lookAt 62 = .ok (.iload_n 3, 1) := dk_29 (by decide +kernel)
theorem dX4_lookAt_63 : decode cX4_lookAt 63 = .ok (.iload 4, 2) := dk_21 (a := 4) (by decide +kernel)
theorem dX4_lookAt_65 : decode cX4_lookAt 65 = .ok (.ifCond .eq 8, 3) := dk_153 (a := 0) (b := 8) (by decide +kernel) (by decide +kernel)
theorem dX4_lookAt_68 : decode cX4_lookAt 68 = .ok (.bipush 15, 2) := dk_16 (a := 15) (by decide +kernel) (by decide +kernel)
theorem dX4_lookAt_70 : decode cX4_lookAt 70 = .ok (.goto 4, 3) := dk_167 (a := 0) (b := 4) (by decide +kernel) (by decide +kernel)
theorem dX4_lookAt_73 : decode cX4_lookAt 73 = .ok (.iconst 0, 1) := dk_3 (by decide +kernel)
theorem dX4_lookAt_74 : decode cX4_lookAt 74 = .ok (.iastore, 1) := dk_79 (by decide +kernel)
theorem dX4_lookAt_75 : decode cX4_lookAt 75 = .ok (.return_, 1) := dk_177 (by decide +kernel)
theorem dX4_isByCall_0 : decode cX4_isByCall 0 = .ok (.aload_n 0, 1) := dk_42 (by decide +kernel)
theorem dX4_isByCall_1 : decode cX4_isByCall 1 = .ok (.getfield 67, 3) := dk_180 (a := 0) (b := 67) (by decide +kernel) rfl
theorem dX4_isByCall_4 : decode cX4_isByCall 4 = .ok (.iload_n 1, 1) := dk_27 (by decide +kernel)
theorem dX4_isByCall_5 : decode cX4_isByCall 5 = .ok (.iload_n 2, 1) := dk_28 (by decide +kernel)
theorem dX4_isByCall_6 : decode cX4_isByCall 6 = .ok (.invokevirtual 71, 3) := dk_182 (a := 0) (b := 71) (by decide +kernel) rfl
theorem dX4_isByCall_9 : decode cX4_isByCall 9 = .ok (.iconst 2, 1) := dk_5 (by decide +kernel)
theorem dX4_isByCall_10 : decode cX4_isByCall 10 = .ok (.ishr, 1) := dk_122 (by decide +kernel)
theorem dX4_isByCall_11 : decode cX4_isByCall 11 = .ok (.ifCond .eq 7, 3) := dk_153 (a := 0) (b := 7) (by decide +kernel) (by decide +kernel)
theorem dX4_isByCall_14 : decode cX4_isByCall 14 = .ok (.iconst 1, 1) := dk_4 (by decide +kernel)
theorem dX4_isByCall_15 : decode cX4_isByCall 15 = .ok (.goto 4, 3) := dk_167 (a := 0) (b := 4) (by decide +kernel) (by decide +kernel)
theorem dX4_isByCall_18 : decode cX4_isByCall 18 = .ok (.iconst 0, 1) := dk_3 (by decide +kernel)
theorem dX4_isByCall_19 : decode cX4_isByCall 19 = .ok (.ireturn, 1) := dk_172 (by decide +kernel)
theorem dX4_isAtHome_0 : decode cX4_isAtHome 0 = .ok (.aload_n 0, 1) := dk_42 (by decide +kernel)
theorem dX4_isAtHome_1 : decode cX4_isAtHome 1 = .ok (.iload_n 1, 1) := dk_27 (by decide +kernel)
theorem dX4_isAtHome_2 : decode cX4_isAtHome 2 = .ok (.iload_n 2, 1) := dk_28 (by decide +kernel)
theorem dX4_isAtHome_3 : decode cX4_isAtHome 3 = .ok (.invokestatic 108, 3) := dk_184 (a := 0) (b := 108) (by decide +kernel) rfl
theorem dX4_isAtHome_6 : decode cX4_isAtHome 6 = .ok (.ifCond .eq 19, 3) := dk_153 (a := 0) (b := 19) (by decide +kernel) (by decide +kernel)
theorem dX4_isAtHome_9 : decode cX4_isAtHome 9 = .ok (.aload_n 0, 1) := dk_42 (by decide +kernel)
theorem dX4_isAtHome_10 : decode cX4_isAtHome 10 = .ok (.getfield 56, 3) := dk_180 (a := 0) (b := 56) (by decide +kernel) rfl
theorem dX4_isAtHome_13 : decode cX4_isAtHome 13 = .ok (.getfield 118, 3) := dk_180 (a := 0) (b := 118) (by decide +kernel) rfl
theorem dX4_isAtHome_16 : decode cX4_isAtHome 16 = .ok (.iload_n 2, 1) := dk_28 (by decide +kernel)
theorem dX4_isAtHome_17 : decode cX4_isAtHome 17 = .ok (.iaload, 1) := dk_46 (by decide +kernel)
theorem dX4_isAtHome_18 : decode cX4_isAtHome 18 = .ok (.iload_n 3, 1) := dk_29 (by decide +kernel)
theorem dX4_isAtHome_19 : decode cX4_isAtHome 19 = .ok (.bipush 7, 2) := dk_16 (a := 7) (by decide +kernel) (by decide +kernel)
theorem dX4_isAtHome_21 : decode cX4_isAtHome 21 = .ok (.irem, 1) := dk_112 (by decide +kernel)
theorem dX4_isAtHome_22 : decode cX4_isAtHome 22 = .ok (.if_icmp .ne 7, 3) := dk_160 (a := 0) (b := 7) (by decide +kernel) (by decide +kernel)
theorem dX4_isAtHome_25 : decode cX4_isAtHome 25 = .ok (.iconst 1, 1) := dk_4 (by decide +kernel)
theorem dX4_isAtHome_26 : decode cX4_isAtHome 26 = .ok (.goto 4, 3) := dk_167 (a := 0) (b := 4) (by decide +kernel) (by decide +kernel)
theorem dX4_isAtHome_29 : decode cX4_isAtHome 29 = .ok (.iconst 0, 1) := dk_3 (by decide +kernel)
theorem dX4_isAtHome_30 : decode cX4_isAtHome 30 = .ok (.ireturn, 1) := dk_172 (by decide +kernel)
theorem dX4_openSpots_0 : decode cX4_openSpots 0 = .ok (.iconst 0, 1) := dk_3 (by decide +kernel)
theorem dX4_openSpots_1 : decode cX4_openSpots 1 = .ok (.istore_n 3, 1) := dk_62 (by decide +kernel)
theorem dX4_openSpots_2 : decode cX4_openSpots 2 = .ok (.iconst 0, 1) := dk_3 (by decide +kernel)
theorem dX4_openSpots_3 : decode cX4_openSpots 3 = .ok (.istore 4, 2) := dk_54 (a := 4) (by decide +kernel)
theorem dX4_openSpots_5 : decode cX4_openSpots 5 = .ok (.iload 4, 2) := dk_21 (a := 4) (by decide +kernel)
theorem dX4_openSpots_7 : decode cX4_openSpots 7 = .ok (.aload_n 0, 1) := dk_42 (by decide +kernel)
theorem dX4_openSpots_8 : decode cX4_openSpots 8 = .ok (.getfield 53, 3) := dk_180 (a := 0) (b := 53) (by decide +kernel) rfl
theorem dX4_openSpots_11 : decode cX4_openSpots 11 = .ok (.if_icmp .ge 35, 3) := dk_162 (a := 0) (b := 35) (by decide +kernel) (by decide +kernel)
theorem dX4_openSpots_14 : decode cX4_openSpots 14 = .ok (.aload_n 1, 1) := dk_43 (by decide +kernel)
theorem dX4_openSpots_15 : decode cX4_openSpots 15 = .ok (.aload_n 0, 1) := dk_42 (by decide +kernel)
theorem dX4_openSpots_16 : decode cX4_openSpots 16 = .ok (.getfield 15, 3) := dk_180 (a := 0) (b := 15) (by decide +kernel) rfl
theorem dX4_openSpots_19 : decode cX4_openSpots 19 = .ok (.aload_n 0, 1) := dk_42 (by decide +kernel)
theorem dX4_openSpots_20 : decode cX4_openSpots 20 = .ok (.getfield 22, 3) := dk_180 (a := 0) (b := 22) (by decide +kernel) rfl
theorem dX4_openSpots_23 : decode cX4_openSpots 23 = .ok (.iload 4, 2) := dk_21 (a := 4) (by decide +kernel)
theorem dX4_openSpots_25 : decode cX4_openSpots 25 = .ok (.iaload, 1) := dk_46 (by decide +kernel)
theorem dX4_openSpots_26 : decode cX4_openSpots 26 = .ok (.iload_n 2, 1) := dk_28 (by decide +kernel)
theorem dX4_openSpots_27 : decode cX4_openSpots 27 = .ok (.invokestatic 120, 3) := dk_184 (a := 0) (b := 120) (by decide +kernel) rfl
theorem dX4_openSpots_30 : decode cX4_openSpots 30 = .ok (.ifCond .eq 10, 3) := dk_153 (a := 0) (b := 10) (by decide +kernel) (by decide +kernel)
theorem dX4_openSpots_33 : decode cX4_openSpots 33 = .ok (.iload_n 3, 1) := dk_29 (by decide +kernel)
theorem dX4_openSpots_34 : decode cX4_openSpots 34 = .ok (.iconst 1, 1) := dk_4 (by decide +kernel)
theorem dX4_openSpots_35 : decode cX4_openSpots 35 = .ok (.iload 4, 2) := dk_21 (a := 4) (by decide +kernel)
theorem dX4_openSpots_37 : decode cX4_openSpots 37 = .ok (.ishl, 1) := dk_120 (by decide +kernel)
theorem dX4_openSpots_38 : decode cX4_openSpots 38 = .ok (.ior, 1) := dk_128 (by decide +kernel)
theorem dX4_openSpots_39 : decode cX4_openSpots 39 = .ok (.istore_n 3, 1) := dk_62 (by decide +kernel)
theorem dX4_openSpots_40 : decode cX4_openSpots 40 = .ok (.iinc 4 1, 3) := dk_132 (a := 4) (b := 1) (by decide +kernel) (by decide +kernel)
theorem dX4_openSpots_43 : decode cX4_openSpots 43 = .ok (.goto (-38), 3) := dk_167 (a := 255) (b := 218) (by decide +kernel) (by decide +kernel)
theorem dX4_openSpots_46 : decode cX4_openSpots 46 = .ok (.iload_n 3, 1) := dk_29 (by decide +kernel)
theorem dX4_openSpots_47 : decode cX4_openSpots 47 = .ok (.ireturn, 1) := dk_172 (by decide +kernel)
theorem dX4_seen_0 : decode cX4_seen 0 = .ok (.iload_n 2, 1) := dk_28 (by decide +kernel)
theorem dX4_seen_1 : decode cX4_seen 1 = .ok (.aload_n 0, 1) := dk_42 (by decide +kernel)
theorem dX4_seen_2 : decode cX4_seen 2 = .ok (.getfield 28, 3) := dk_180 (a := 0) (b := 28) (by decide +kernel) rfl
theorem dX4_seen_5 : decode cX4_seen 5 = .ok (.iload_n 1, 1) := dk_27 (by decide +kernel)
theorem dX4_seen_6 : decode cX4_seen 6 = .ok (.iaload, 1) := dk_46 (by decide +kernel)
theorem dX4_seen_7 : decode cX4_seen 7 = .ok (.invokestatic 124, 3) := dk_184 (a := 0) (b := 124) (by decide +kernel) rfl
theorem dX4_seen_10 : decode cX4_seen 10 = .ok (.aload_n 0, 1) := dk_42 (by decide +kernel)
theorem dX4_seen_11 : decode cX4_seen 11 = .ok (.getfield 34, 3) := dk_180 (a := 0) (b := 34) (by decide +kernel) rfl
theorem dX4_seen_14 : decode cX4_seen 14 = .ok (.iload_n 1, 1) := dk_27 (by decide +kernel)
theorem dX4_seen_15 : decode cX4_seen 15 = .ok (.iaload, 1) := dk_46 (by decide +kernel)
theorem dX4_seen_16 : decode cX4_seen 16 = .ok (.iadd, 1) := dk_96 (by decide +kernel)
theorem dX4_seen_17 : decode cX4_seen 17 = .ok (.istore_n 3, 1) := dk_62 (by decide +kernel)
theorem dX4_seen_18 : decode cX4_seen 18 = .ok (.iload_n 3, 1) := dk_29 (by decide +kernel)
theorem dX4_seen_19 : decode cX4_seen 19 = .ok (.aload_n 0, 1) := dk_42 (by decide +kernel)
theorem dX4_seen_20 : decode cX4_seen 20 = .ok (.getfield 31, 3) := dk_180 (a := 0) (b := 31) (by decide +kernel) rfl
theorem dX4_seen_23 : decode cX4_seen 23 = .ok (.iload_n 1, 1) := dk_27 (by decide +kernel)
theorem dX4_seen_24 : decode cX4_seen 24 = .ok (.iaload, 1) := dk_46 (by decide +kernel)
theorem dX4_seen_25 : decode cX4_seen 25 = .ok (.if_icmp .le 9, 3) := dk_164 (a := 0) (b := 9) (by decide +kernel) (by decide +kernel)
theorem dX4_seen_28 : decode cX4_seen 28 = .ok (.sipush 1000, 3) := dk_17 (a := 3) (b := 232) (by decide +kernel) (by decide +kernel)
theorem dX4_seen_31 : decode cX4_seen 31 = .ok (.goto 4, 3) := dk_167 (a := 0) (b := 4) (by decide +kernel) (by decide +kernel)
theorem dX4_seen_34 : decode cX4_seen 34 = .ok (.iload_n 3, 1) := dk_29 (by decide +kernel)
theorem dX4_seen_35 : decode cX4_seen 35 = .ok (.ireturn, 1) := dk_172 (by decide +kernel)
theorem dX4_reckonMinutes_0 : decode cX4_reckonMinutes 0 = .ok (.iconst 1, 1) := dk_4 (by decide +kernel)
theorem dX4_reckonMinutes_1 : decode cX4_reckonMinutes 1 = .ok (.aload_n 0, 1) := dk_42 (by decide +kernel)
theorem dX4_reckonMinutes_2 : decode cX4_reckonMinutes 2 = .ok (.getfield 53, 3) := dk_180 (a := 0) (b := 53) (by decide +kernel) rfl
theorem dX4_reckonMinutes_5 : decode cX4_reckonMinutes 5 = .ok (.ishl, 1) := dk_120 (by decide +kernel)
theorem dX4_reckonMinutes_6 : decode cX4_reckonMinutes 6 = .ok (.istore_n 3, 1) := dk_62 (by decide +kernel)
theorem dX4_reckonMinutes_7 : decode cX4_reckonMinutes 7 = .ok (.aload_n 0, 1) := dk_42 (by decide +kernel)
theorem dX4_reckonMinutes_8 : decode cX4_reckonMinutes 8 = .ok (.getfield 43, 3) := dk_180 (a := 0) (b := 43) (by decide +kernel) rfl
theorem dX4_reckonMinutes_11 : decode cX4_reckonMinutes 11 = .ok (.iconst 0, 1) := dk_3 (by decide +kernel)
theorem dX4_reckonMinutes_12 : decode cX4_reckonMinutes 12 = .ok (.iconst 0, 1) := dk_3 (by decide +kernel)
theorem dX4_reckonMinutes_13 : decode cX4_reckonMinutes 13 = .ok (.iastore, 1) := dk_79 (by decide +kernel)
theorem dX4_reckonMinutes_14 : decode cX4_reckonMinutes 14 = .ok (.iconst 1, 1) := dk_4 (by decide +kernel)
theorem dX4_reckonMinutes_15 : decode cX4_reckonMinutes 15 = .ok (.istore 4, 2) := dk_54 (a := 4) (by decide +kernel)
theorem dX4_reckonMinutes_17 : decode cX4_reckonMinutes 17 = .ok (.iload 4, 2) := dk_21 (a := 4) (by decide +kernel)
theorem dX4_reckonMinutes_19 : decode cX4_reckonMinutes 19 = .ok (.iload_n 3, 1) := dk_29 (by decide +kernel)
theorem dX4_reckonMinutes_20 : decode cX4_reckonMinutes 20 = .ok (.if_icmp .ge 117, 3) := dk_162 (a := 0) (b := 117) (by decide +kernel) (by decide +kernel)
theorem dX4_reckonMinutes_23 : decode cX4_reckonMinutes 23 = .ok (.sipush 1000, 3) := dk_17 (a := 3) (b := 232) (by decide +kernel) (by decide +kernel)
theorem dX4_reckonMinutes_26 : decode cX4_reckonMinutes 26 = .ok (.istore 5, 2) := dk_54 (a := 5) (by decide +kernel)
theorem dX4_reckonMinutes_28 : decode cX4_reckonMinutes 28 = .ok (.iload 4, 2) := dk_21 (a := 4) (by decide +kernel)
theorem dX4_reckonMinutes_30 : decode cX4_reckonMinutes 30 = .ok (.iload_n 2, 1) := dk_28 (by decide +kernel)
theorem dX4_reckonMinutes_31 : decode cX4_reckonMinutes 31 = .ok (.iconst (-1), 1) := dk_2 (by decide +kernel)
