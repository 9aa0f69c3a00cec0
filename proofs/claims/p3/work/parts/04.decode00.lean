theorem dX0_init_0 : decode cX0_init 0 = .ok (.aload_n 0, 1) := by decide +kernel
theorem dX0_init_1 : decode cX0_init 1 = .ok (.invokespecial 3, 3) := by decide +kernel
theorem dX0_init_4 : decode cX0_init 4 = .ok (.aload_n 0, 1) := by decide +kernel
theorem dX0_init_5 : decode cX0_init 5 = .ok (.bipush 24, 2) := by decide +kernel
theorem dX0_init_7 : decode cX0_init 7 = .ok (.newarray .int, 2) := by decide +kernel
theorem dX0_init_9 : decode cX0_init 9 = .ok (.putfield 9, 3) := by decide +kernel
theorem dX0_init_12 : decode cX0_init 12 = .ok (.aload_n 0, 1) := by decide +kernel
theorem dX0_init_13 : decode cX0_init 13 = .ok (.bipush 24, 2) := by decide +kernel
theorem dX0_init_15 : decode cX0_init 15 = .ok (.newarray .int, 2) := by decide +kernel
theorem dX0_init_17 : decode cX0_init 17 = .ok (.putfield 15, 3) := by decide +kernel
theorem dX0_init_20 : decode cX0_init 20 = .ok (.aload_n 0, 1) := by decide +kernel
theorem dX0_init_21 : decode cX0_init 21 = .ok (.bipush 24, 2) := by decide +kernel
theorem dX0_init_23 : decode cX0_init 23 = .ok (.newarray .int, 2) := by decide +kernel
theorem dX0_init_25 : decode cX0_init 25 = .ok (.putfield 18, 3) := by decide +kernel
theorem dX0_init_28 : decode cX0_init 28 = .ok (.aload_n 0, 1) := by decide +kernel
theorem dX0_init_29 : decode cX0_init 29 = .ok (.bipush 24, 2) := by decide +kernel
theorem dX0_init_31 : decode cX0_init 31 = .ok (.newarray .int, 2) := by decide +kernel
theorem dX0_init_33 : decode cX0_init 33 = .ok (.putfield 21, 3) := by decide +kernel
theorem dX0_init_36 : decode cX0_init 36 = .ok (.aload_n 0, 1) := by decide +kernel
theorem dX0_init_37 : decode cX0_init 37 = .ok (.bipush 24, 2) := by decide +kernel
theorem dX0_init_39 : decode cX0_init 39 = .ok (.newarray .int, 2) := by decide +kernel
theorem dX0_init_41 : decode cX0_init 41 = .ok (.putfield 24, 3) := by decide +kernel
theorem dX0_init_44 : decode cX0_init 44 = .ok (.aload_n 0, 1) := by decide +kernel
theorem dX0_init_45 : decode cX0_init 45 = .ok (.sipush 700, 3) := by decide +kernel
theorem dX0_init_48 : decode cX0_init 48 = .ok (.newarray .int, 2) := by decide +kernel
theorem dX0_init_50 : decode cX0_init 50 = .ok (.putfield 27, 3) := by decide +kernel
theorem dX0_init_53 : decode cX0_init 53 = .ok (.aload_n 0, 1) := by decide +kernel
theorem dX0_init_54 : decode cX0_init 54 = .ok (.iconst 5, 1) := by decide +kernel
theorem dX0_init_55 : decode cX0_init 55 = .ok (.newarray .int, 2) := by decide +kernel
theorem dX0_init_57 : decode cX0_init 57 = .ok (.putfield 30, 3) := by decide +kernel
theorem dX0_init_60 : decode cX0_init 60 = .ok (.return_, 1) := by decide +kernel
theorem dX0_clear_0 : decode cX0_clear 0 = .ok (.aload_n 0, 1) := by decide +kernel
theorem dX0_clear_1 : decode cX0_clear 1 = .ok (.iconst 0, 1) := by decide +kernel
theorem dX0_clear_2 : decode cX0_clear 2 = .ok (.putfield 33, 3) := by decide +kernel
theorem dX0_clear_5 : decode cX0_clear 5 = .ok (.aload_n 0, 1) := by decide +kernel
theorem dX0_clear_6 : decode cX0_clear 6 = .ok (.iconst 0, 1) := by decide +kernel
theorem dX0_clear_7 : decode cX0_clear 7 = .ok (.putfield 37, 3) := by decide +kernel
theorem dX0_clear_10 : decode cX0_clear 10 = .ok (.return_, 1) := by decide +kernel
theorem dX0_copy_0 : decode cX0_copy 0 = .ok (.aload_n 0, 1) := by decide +kernel
theorem dX0_copy_1 : decode cX0_copy 1 = .ok (.aload_n 1, 1) := by decide +kernel
theorem dX0_copy_2 : decode cX0_copy 2 = .ok (.getfield 33, 3) := by decide +kernel
theorem dX0_copy_5 : decode cX0_copy 5 = .ok (.putfield 33, 3) := by decide +kernel
theorem dX0_copy_8 : decode cX0_copy 8 = .ok (.aload_n 0, 1) := by decide +kernel
theorem dX0_copy_9 : decode cX0_copy 9 = .ok (.aload_n 1, 1) := by decide +kernel
theorem dX0_copy_10 : decode cX0_copy 10 = .ok (.getfield 37, 3) := by decide +kernel
theorem dX0_copy_13 : decode cX0_copy 13 = .ok (.putfield 37, 3) := by decide +kernel
theorem dX0_copy_16 : decode cX0_copy 16 = .ok (.aload_n 1, 1) := by decide +kernel
theorem dX0_copy_17 : decode cX0_copy 17 = .ok (.getfield 9, 3) := by decide +kernel
theorem dX0_copy_20 : decode cX0_copy 20 = .ok (.iconst 0, 1) := by decide +kernel
theorem dX0_copy_21 : decode cX0_copy 21 = .ok (.aload_n 0, 1) := by decide +kernel
theorem dX0_copy_22 : decode cX0_copy 22 = .ok (.getfield 9, 3) := by decide +kernel
theorem dX0_copy_25 : decode cX0_copy 25 = .ok (.iconst 0, 1) := by decide +kernel
theorem dX0_copy_26 : decode cX0_copy 26 = .ok (.aload_n 0, 1) := by decide +kernel
theorem dX0_copy_27 : decode cX0_copy 27 = .ok (.getfield 33, 3) := by decide +kernel
theorem dX0_copy_30 : decode cX0_copy 30 = .ok (.invokestatic 40, 3) := by decide +kernel
theorem dX0_copy_33 : decode cX0_copy 33 = .ok (.aload_n 1, 1) := by decide +kernel
theorem dX0_copy_34 : decode cX0_copy 34 = .ok (.getfield 15, 3) := by decide +kernel
theorem dX0_copy_37 : decode cX0_copy 37 = .ok (.iconst 0, 1) := by decide +kernel
theorem dX0_copy_38 : decode cX0_copy 38 = .ok (.aload_n 0, 1) := by decide +kernel
theorem dX0_copy_39 : decode cX0_copy 39 = .ok (.getfield 15, 3) := by decide +kernel
theorem dX0_copy_42 : decode cX0_copy 42 = .ok (.iconst 0, 1) := by decide +kernel
theorem dX0_copy_43 : decode cX0_copy 43 = .ok (.aload_n 0, 1) := by decide +kernel
theorem dX0_copy_44 : decode cX0_copy 44 = .ok (.getfield 33, 3) := by decide +kernel
theorem dX0_copy_47 : decode cX0_copy 47 = .ok (.invokestatic 40, 3) := by decide +kernel
theorem dX0_copy_50 : decode cX0_copy 50 = .ok (.aload_n 1, 1) := by decide +kernel
theorem dX0_copy_51 : decode cX0_copy 51 = .ok (.getfield 18, 3) := by decide +kernel
theorem dX0_copy_54 : decode cX0_copy 54 = .ok (.iconst 0, 1) := by decide +kernel
theorem dX0_copy_55 : decode cX0_copy 55 = .ok (.aload_n 0, 1) := by decide +kernel
theorem dX0_copy_56 : decode cX0_copy 56 = .ok (.getfield 18, 3) := by decide +kernel
theorem dX0_copy_59 : decode cX0_copy 59 = .ok (.iconst 0, 1) := by decide +kernel
theorem dX0_copy_60 : decode cX0_copy 60 = .ok (.aload_n 0, 1) := by decide +kernel
theorem dX0_copy_61 : decode cX0_copy 61 = .ok (.getfield 33, 3) := by decide +kernel
theorem dX0_copy_64 : decode cX0_copy 64 = .ok (.invokestatic 40, 3) := by decide +kernel
theorem dX0_copy_67 : decode cX0_copy 67 = .ok (.aload_n 1, 1) := by decide +kernel
theorem dX0_copy_68 : decode cX0_copy 68 = .ok (.getfield 21, 3) := by decide +kernel
theorem dX0_copy_71 : decode cX0_copy 71 = .ok (.iconst 0, 1) := by decide +kernel
theorem dX0_copy_72 : decode cX0_copy 72 = .ok (.aload_n 0, 1) := by decide +kernel
theorem dX0_copy_73 : decode cX0_copy 73 = .ok (.getfield 21, 3) := by decide +kernel
theorem dX0_copy_76 : decode cX0_copy 76 = .ok (.iconst 0, 1) := by decide +kernel
theorem dX0_copy_77 : decode cX0_copy 77 = .ok (.aload_n 0, 1) := by decide +kernel
theorem dX0_copy_78 : decode cX0_copy 78 = .ok (.getfield 33, 3) := by decide +kernel
theorem dX0_copy_81 : decode cX0_copy 81 = .ok (.invokestatic 40, 3) := by decide +kernel
theorem dX0_copy_84 : decode cX0_copy 84 = .ok (.aload_n 1, 1) := by decide +kernel
theorem dX0_copy_85 : decode cX0_copy 85 = .ok (.getfield 24, 3) := by decide +kernel
theorem dX0_copy_88 : decode cX0_copy 88 = .ok (.iconst 0, 1) := by decide +kernel
theorem dX0_copy_89 : decode cX0_copy 89 = .ok (.aload_n 0, 1) := by decide +kernel
theorem dX0_copy_90 : decode cX0_copy 90 = .ok (.getfield 24, 3) := by decide +kernel
theorem dX0_copy_93 : decode cX0_copy 93 = .ok (.iconst 0, 1) := by decide +kernel
theorem dX0_copy_94 : decode cX0_copy 94 = .ok (.aload_n 0, 1) := by decide +kernel
theorem dX0_copy_95 : decode cX0_copy 95 = .ok (.getfield 33, 3) := by decide +kernel
theorem dX0_copy_98 : decode cX0_copy 98 = .ok (.invokestatic 40, 3) := by decide +kernel
theorem dX0_copy_101 : decode cX0_copy 101 = .ok (.aload_n 1, 1) := by decide +kernel
theorem dX0_copy_102 : decode cX0_copy 102 = .ok (.getfield 27, 3) := by decide +kernel
theorem dX0_copy_105 : decode cX0_copy 105 = .ok (.iconst 0, 1) := by decide +kernel
theorem dX0_copy_106 : decode cX0_copy 106 = .ok (.aload_n 0, 1) := by decide +kernel
theorem dX0_copy_107 : decode cX0_copy 107 = .ok (.getfield 27, 3) := by decide +kernel
theorem dX0_copy_110 : decode cX0_copy 110 = .ok (.iconst 0, 1) := by decide +kernel
theorem dX0_copy_111 : decode cX0_copy 111 = .ok (.aload_n 0, 1) := by decide +kernel
theorem dX0_copy_112 : decode cX0_copy 112 = .ok (.getfield 37, 3) := by decide +kernel
theorem dX0_copy_115 : decode cX0_copy 115 = .ok (.invokestatic 40, 3) := by decide +kernel
theorem dX0_copy_118 : decode cX0_copy 118 = .ok (.return_, 1) := by decide +kernel
theorem dX0_put_0 : decode cX0_put 0 = .ok (.aload_n 0, 1) := by decide +kernel
theorem dX0_put_1 : decode cX0_put 1 = .ok (.getfield 37, 3) := by decide +kernel
theorem dX0_put_4 : decode cX0_put 4 = .ok (.sipush 700, 3) := by decide +kernel
theorem dX0_put_7 : decode cX0_put 7 = .ok (.if_icmp .ge 23, 3) := by decide +kernel
theorem dX0_put_10 : decode cX0_put 10 = .ok (.aload_n 0, 1) := by decide +kernel
theorem dX0_put_11 : decode cX0_put 11 = .ok (.getfield 27, 3) := by decide +kernel
theorem dX0_put_14 : decode cX0_put 14 = .ok (.aload_n 0, 1) := by decide +kernel
theorem dX0_put_15 : decode cX0_put 15 = .ok (.getfield 37, 3) := by decide +kernel
theorem dX0_put_18 : decode cX0_put 18 = .ok (.iload_n 1, 1) := by decide +kernel
theorem dX0_put_19 : decode cX0_put 19 = .ok (.iastore, 1) := by decide +kernel
theorem dX0_put_20 : decode cX0_put 20 = .ok (.aload_n 0, 1) := by decide +kernel
theorem dX0_put_21 : decode cX0_put 21 = .ok (.dup, 1) := by decide +kernel
theorem dX0_put_22 : decode cX0_put 22 = .ok (.getfield 37, 3) := by decide +kernel
theorem dX0_put_25 : decode cX0_put 25 = .ok (.iconst 1, 1) := by decide +kernel
theorem dX0_put_26 : decode cX0_put 26 = .ok (.iadd, 1) := by decide +kernel
theorem dX0_put_27 : decode cX0_put 27 = .ok (.putfield 37, 3) := by decide +kernel
theorem dX0_put_30 : decode cX0_put 30 = .ok (.return_, 1) := by decide +kernel
theorem dX0_lineFor_0 : decode cX0_lineFor 0 = .ok (.aload_n 0, 1) := by decide +kernel
theorem dX0_lineFor_1 : decode cX0_lineFor 1 = .ok (.getfield 30, 3) := by decide +kernel
theorem dX0_lineFor_4 : decode cX0_lineFor 4 = .ok (.iconst 0, 1) := by decide +kernel
theorem dX0_lineFor_5 : decode cX0_lineFor 5 = .ok (.iload_n 2, 1) := by decide +kernel
theorem dX0_lineFor_6 : decode cX0_lineFor 6 = .ok (.iastore, 1) := by decide +kernel
theorem dX0_lineFor_7 : decode cX0_lineFor 7 = .ok (.aload_n 0, 1) := by decide +kernel
theorem dX0_lineFor_8 : decode cX0_lineFor 8 = .ok (.getfield 30, 3) := by decide +kernel
theorem dX0_lineFor_11 : decode cX0_lineFor 11 = .ok (.iconst 1, 1) := by decide +kernel
theorem dX0_lineFor_12 : decode cX0_lineFor 12 = .ok (.iload_n 3, 1) := by decide +kernel
theorem dX0_lineFor_13 : decode cX0_lineFor 13 = .ok (.iastore, 1) := by decide +kernel
theorem dX0_lineFor_14 : decode cX0_lineFor 14 = .ok (.aload_n 0, 1) := by decide +kernel
theorem dX0_lineFor_15 : decode cX0_lineFor 15 = .ok (.getfield 30, 3) := by decide +kernel
theorem dX0_lineFor_18 : decode cX0_lineFor 18 = .ok (.iconst 2, 1) := by decide +kernel
theorem dX0_lineFor_19 : decode cX0_lineFor 19 = .ok (.iload 4, 2) := by decide +kernel
theorem dX0_lineFor_21 : decode cX0_lineFor 21 = .ok (.iastore, 1) := by decide +kernel
theorem dX0_lineFor_22 : decode cX0_lineFor 22 = .ok (.aload_n 0, 1) := by decide +kernel
theorem dX0_lineFor_23 : decode cX0_lineFor 23 = .ok (.getfield 30, 3) := by decide +kernel
theorem dX0_lineFor_26 : decode cX0_lineFor 26 = .ok (.iconst 3, 1) := by decide +kernel
theorem dX0_lineFor_27 : decode cX0_lineFor 27 = .ok (.iload 5, 2) := by decide +kernel
theorem dX0_lineFor_29 : decode cX0_lineFor 29 = .ok (.iastore, 1) := by decide +kernel
theorem dX0_lineFor_30 : decode cX0_lineFor 30 = .ok (.aload_n 0, 1) := by decide +kernel
theorem dX0_lineFor_31 : decode cX0_lineFor 31 = .ok (.getfield 30, 3) := by decide +kernel
theorem dX0_lineFor_34 : decode cX0_lineFor 34 = .ok (.iconst 4, 1) := by decide +kernel
theorem dX0_lineFor_35 : decode cX0_lineFor 35 = .ok (.iload 6, 2) := by decide +kernel
theorem dX0_lineFor_37 : decode cX0_lineFor 37 = .ok (.iastore, 1) := by decide +kernel
theorem dX0_lineFor_38 : decode cX0_lineFor 38 = .ok (.iconst 0, 1) := by decide +kernel
theorem dX0_lineFor_39 : decode cX0_lineFor 39 = .ok (.istore 7, 2) := by decide +kernel
theorem dX0_lineFor_41 : decode cX0_lineFor 41 = .ok (.iload 7, 2) := by decide +kernel
theorem dX0_lineFor_43 : decode cX0_lineFor 43 = .ok (.aload_n 0, 1) := by decide +kernel
theorem dX0_lineFor_44 : decode cX0_lineFor 44 = .ok (.getfield 33, 3) := by decide +kernel
theorem dX0_lineFor_47 : decode cX0_lineFor 47 = .ok (.if_icmp .ge 32, 3) := by decide +kernel
theorem dX0_lineFor_50 : decode cX0_lineFor 50 = .ok (.aload_n 0, 1) := by decide +kernel
theorem dX0_lineFor_51 : decode cX0_lineFor 51 = .ok (.getfield 9, 3) := by decide +kernel
theorem dX0_lineFor_54 : decode cX0_lineFor 54 = .ok (.iload 7, 2) := by decide +kernel
theorem dX0_lineFor_56 : decode cX0_lineFor 56 = .ok (.iaload, 1) := by decide +kernel
theorem dX0_lineFor_57 : decode cX0_lineFor 57 = .ok (.iload_n 1, 1) := by decide +kernel
theorem dX0_lineFor_58 : decode cX0_lineFor 58 = .ok (.if_icmp .ne 15, 3) := by decide +kernel
theorem dX0_lineFor_61 : decode cX0_lineFor 61 = .ok (.aload_n 0, 1) := by decide +kernel
theorem dX0_lineFor_62 : decode cX0_lineFor 62 = .ok (.iload 7, 2) := by decide +kernel
theorem dX0_lineFor_64 : decode cX0_lineFor 64 = .ok (.invokevirtual 46, 3) := by decide +kernel
theorem dX0_lineFor_67 : decode cX0_lineFor 67 = .ok (.ifCond .eq 6, 3) := by decide +kernel
theorem dX0_lineFor_70 : decode cX0_lineFor 70 = .ok (.iload 7, 2) := by decide +kernel
theorem dX0_lineFor_72 : decode cX0_lineFor 72 = .ok (.ireturn, 1) := by decide +kernel
theorem dX0_lineFor_73 : decode cX0_lineFor 73 = .ok (.iinc 7 1, 3) := by decide +kernel
theorem dX0_lineFor_76 : decode cX0_lineFor 76 = .ok (.goto (-35), 3) := by decide +kernel
theorem dX0_lineFor_79 : decode cX0_lineFor 79 = .ok (.iconst (-1), 1) := by decide +kernel
theorem dX0_lineFor_80 : decode cX0_lineFor 80 = .ok (.ireturn, 1) := by decide +kernel
theorem dX0_holds_0 : decode cX0_holds 0 = .ok (.aload_n 0, 1) := by decide +kernel
theorem dX0_holds_1 : decode cX0_holds 1 = .ok (.getfield 24, 3) := by decide +kernel
theorem dX0_holds_4 : decode cX0_holds 4 = .ok (.iload_n 1, 1) := by decide +kernel
theorem dX0_holds_5 : decode cX0_holds 5 = .ok (.iaload, 1) := by decide +kernel
theorem dX0_holds_6 : decode cX0_holds 6 = .ok (.sipush 700, 3) := by decide +kernel
theorem dX0_holds_9 : decode cX0_holds 9 = .ok (.invokestatic 50, 3) := by decide +kernel
theorem dX0_holds_12 : decode cX0_holds 12 = .ok (.istore_n 2, 1) := by decide +kernel
theorem dX0_holds_13 : decode cX0_holds 13 = .ok (.lconst 0, 1) := by decide +kernel
theorem dX0_holds_14 : decode cX0_holds 14 = .ok (.lstore_n 3, 1) := by decide +kernel
theorem dX0_holds_15 : decode cX0_holds 15 = .ok (.lconst 0, 1) := by decide +kernel
theorem dX0_holds_16 : decode cX0_holds 16 = .ok (.lstore 5, 2) := by decide +kernel
theorem dX0_holds_18 : decode cX0_holds 18 = .ok (.lconst 1, 1) := by decide +kernel
theorem dX0_holds_19 : decode cX0_holds 19 = .ok (.lstore 7, 2) := by decide +kernel
theorem dX0_holds_21 : decode cX0_holds 21 = .ok (.iconst 0, 1) := by decide +kernel
theorem dX0_holds_22 : decode cX0_holds 22 = .ok (.istore 9, 2) := by decide +kernel
theorem dX0_holds_24 : decode cX0_holds 24 = .ok (.sipush 2005, 3) := by decide +kernel
theorem dX0_holds_27 : decode cX0_holds 27 = .ok (.istore 10, 2) := by decide +kernel
theorem dX0_holds_29 : decode cX0_holds 29 = .ok (.aload_n 0, 1) := by decide +kernel
theorem dX0_holds_30 : decode cX0_holds 30 = .ok (.iconst 0, 1) := by decide +kernel
theorem dX0_holds_31 : decode cX0_holds 31 = .ok (.putfield 56, 3) := by decide +kernel
theorem dX0_holds_34 : decode cX0_holds 34 = .ok (.aload_n 0, 1) := by decide +kernel
theorem dX0_holds_35 : decode cX0_holds 35 = .ok (.getfield 21, 3) := by decide +kernel
theorem dX0_holds_38 : decode cX0_holds 38 = .ok (.iload_n 1, 1) := by decide +kernel
theorem dX0_holds_39 : decode cX0_holds 39 = .ok (.iaload, 1) := by decide +kernel
theorem dX0_holds_40 : decode cX0_holds 40 = .ok (.istore 11, 2) := by decide +kernel
theorem dX0_holds_42 : decode cX0_holds 42 = .ok (.iload 11, 2) := by decide +kernel
theorem dX0_holds_44 : decode cX0_holds 44 = .ok (.iload_n 2, 1) := by decide +kernel
theorem dX0_holds_45 : decode cX0_holds 45 = .ok (.if_icmp .ge 160, 3) := by decide +kernel
theorem dX0_holds_48 : decode cX0_holds 48 = .ok (.iload 11, 2) := by decide +kernel
theorem dX0_holds_50 : decode cX0_holds 50 = .ok (.iconst 1, 1) := by decide +kernel
theorem dX0_holds_51 : decode cX0_holds 51 = .ok (.iadd, 1) := by decide +kernel
theorem dX0_holds_52 : decode cX0_holds 52 = .ok (.iload_n 2, 1) := by decide +kernel
theorem dX0_holds_53 : decode cX0_holds 53 = .ok (.if_icmp .ge 15, 3) := by decide +kernel
theorem dX0_holds_56 : decode cX0_holds 56 = .ok (.aload_n 0, 1) := by decide +kernel
theorem dX0_holds_57 : decode cX0_holds 57 = .ok (.getfield 27, 3) := by decide +kernel
theorem dX0_holds_60 : decode cX0_holds 60 = .ok (.iload 11, 2) := by decide +kernel
theorem dX0_holds_62 : decode cX0_holds 62 = .ok (.iconst 1, 1) := by decide +kernel
theorem dX0_holds_63 : decode cX0_holds 63 = .ok (.iadd, 1) := by decide +kernel
theorem dX0_holds_64 : decode cX0_holds 64 = .ok (.iaload, 1) := by decide +kernel
theorem dX0_holds_65 : decode cX0_holds 65 = .ok (.goto 6, 3) := by decide +kernel
theorem dX0_holds_68 : decode cX0_holds 68 = .ok (.sipush 2006, 3) := by decide +kernel
theorem dX0_holds_71 : decode cX0_holds 71 = .ok (.istore 12, 2) := by decide +kernel
theorem dX0_holds_73 : decode cX0_holds 73 = .ok (.aload_n 0, 1) := by decide +kernel
theorem dX0_holds_74 : decode cX0_holds 74 = .ok (.lload 7, 2) := by decide +kernel
theorem dX0_holds_76 : decode cX0_holds 76 = .ok (.aload_n 0, 1) := by decide +kernel
theorem dX0_holds_77 : decode cX0_holds 77 = .ok (.aload_n 0, 1) := by decide +kernel
theorem dX0_holds_78 : decode cX0_holds 78 = .ok (.getfield 27, 3) := by decide +kernel
theorem dX0_holds_81 : decode cX0_holds 81 = .ok (.iload 11, 2) := by decide +kernel
theorem dX0_holds_83 : decode cX0_holds 83 = .ok (.iaload, 1) := by decide +kernel
theorem dX0_holds_84 : decode cX0_holds 84 = .ok (.invokevirtual 60, 3) := by decide +kernel
theorem dX0_holds_87 : decode cX0_holds 87 = .ok (.i2l, 1) := by decide +kernel
theorem dX0_holds_88 : decode cX0_holds 88 = .ok (.lmul, 1) := by decide +kernel
theorem dX0_holds_89 : decode cX0_holds 89 = .ok (.invokevirtual 64, 3) := by decide +kernel
theorem dX0_holds_92 : decode cX0_holds 92 = .ok (.lstore 7, 2) := by decide +kernel
theorem dX0_holds_94 : decode cX0_holds 94 = .ok (.iload 12, 2) := by decide +kernel
theorem dX0_holds_96 : decode cX0_holds 96 = .ok (.sipush 2002, 3) := by decide +kernel
theorem dX0_holds_99 : decode cX0_holds 99 = .ok (.if_icmp .ne 6, 3) := by decide +kernel
theorem dX0_holds_102 : decode cX0_holds 102 = .ok (.goto 97, 3) := by decide +kernel
theorem dX0_holds_105 : decode cX0_holds 105 = .ok (.aload_n 0, 1) := by decide +kernel
theorem dX0_holds_106 : decode cX0_holds 106 = .ok (.iload 9, 2) := by decide +kernel
theorem dX0_holds_108 : decode cX0_holds 108 = .ok (.ifCond .eq 11, 3) := by decide +kernel
theorem dX0_holds_111 : decode cX0_holds 111 = .ok (.lload 5, 2) := by decide +kernel
theorem dX0_holds_113 : decode cX0_holds 113 = .ok (.lload 7, 2) := by decide +kernel
theorem dX0_holds_115 : decode cX0_holds 115 = .ok (.lsub, 1) := by decide +kernel
theorem dX0_holds_116 : decode cX0_holds 116 = .ok (.goto 8, 3) := by decide +kernel
theorem dX0_holds_119 : decode cX0_holds 119 = .ok (.lload 5, 2) := by decide +kernel
theorem dX0_holds_121 : decode cX0_holds 121 = .ok (.lload 7, 2) := by decide +kernel
theorem dX0_holds_123 : decode cX0_holds 123 = .ok (.ladd, 1) := by decide +kernel
theorem dX0_holds_124 : decode cX0_holds 124 = .ok (.invokevirtual 64, 3) := by decide +kernel
theorem dX0_holds_127 : decode cX0_holds 127 = .ok (.lstore 5, 2) := by decide +kernel
theorem dX0_holds_129 : decode cX0_holds 129 = .ok (.lconst 1, 1) := by decide +kernel
theorem dX0_holds_130 : decode cX0_holds 130 = .ok (.lstore 7, 2) := by decide +kernel
theorem dX0_holds_132 : decode cX0_holds 132 = .ok (.iload 12, 2) := by decide +kernel
theorem dX0_holds_134 : decode cX0_holds 134 = .ok (.sipush 2001, 3) := by decide +kernel
theorem dX0_holds_137 : decode cX0_holds 137 = .ok (.if_icmp .ne 7, 3) := by decide +kernel
theorem dX0_holds_140 : decode cX0_holds 140 = .ok (.iconst 1, 1) := by decide +kernel
theorem dX0_holds_141 : decode cX0_holds 141 = .ok (.goto 4, 3) := by decide +kernel
theorem dX0_holds_144 : decode cX0_holds 144 = .ok (.iconst 0, 1) := by decide +kernel
theorem dX0_holds_145 : decode cX0_holds 145 = .ok (.istore 9, 2) := by decide +kernel
theorem dX0_holds_147 : decode cX0_holds 147 = .ok (.iload 12, 2) := by decide +kernel
theorem dX0_holds_149 : decode cX0_holds 149 = .ok (.sipush 2006, 3) := by decide +kernel
theorem dX0_holds_152 : decode cX0_holds 152 = .ok (.if_icmp .ne 29, 3) := by decide +kernel
theorem dX0_holds_155 : decode cX0_holds 155 = .ok (.aload_n 0, 1) := by decide +kernel
theorem dX0_holds_156 : decode cX0_holds 156 = .ok (.getfield 56, 3) := by decide +kernel
theorem dX0_holds_159 : decode cX0_holds 159 = .ok (.ifCond .ne 14, 3) := by decide +kernel
theorem dX0_holds_162 : decode cX0_holds 162 = .ok (.lload_n 3, 1) := by decide +kernel
theorem dX0_holds_163 : decode cX0_holds 163 = .ok (.iload 10, 2) := by decide +kernel
theorem dX0_holds_165 : decode cX0_holds 165 = .ok (.lload 5, 2) := by decide +kernel
theorem dX0_holds_167 : decode cX0_holds 167 = .ok (.invokestatic 68, 3) := by decide +kernel
theorem dX0_holds_170 : decode cX0_holds 170 = .ok (.ifCond .ne 5, 3) := by decide +kernel
theorem dX0_holds_173 : decode cX0_holds 173 = .ok (.iconst 0, 1) := by decide +kernel
theorem dX0_holds_174 : decode cX0_holds 174 = .ok (.ireturn, 1) := by decide +kernel
theorem dX0_holds_175 : decode cX0_holds 175 = .ok (.lconst 0, 1) := by decide +kernel
theorem dX0_holds_176 : decode cX0_holds 176 = .ok (.lstore 5, 2) := by decide +kernel
theorem dX0_holds_178 : decode cX0_holds 178 = .ok (.goto 21, 3) := by decide +kernel
theorem dX0_holds_181 : decode cX0_holds 181 = .ok (.iload 12, 2) := by decide +kernel
theorem dX0_holds_183 : decode cX0_holds 183 = .ok (.sipush 2003, 3) := by decide +kernel
theorem dX0_holds_186 : decode cX0_holds 186 = .ok (.if_icmp .lt 13, 3) := by decide +kernel
theorem dX0_holds_189 : decode cX0_holds 189 = .ok (.lload 5, 2) := by decide +kernel
theorem dX0_holds_191 : decode cX0_holds 191 = .ok (.lstore_n 3, 1) := by decide +kernel
theorem dX0_holds_192 : decode cX0_holds 192 = .ok (.iload 12, 2) := by decide +kernel
theorem dX0_holds_194 : decode cX0_holds 194 = .ok (.istore 10, 2) := by decide +kernel
theorem dX0_holds_196 : decode cX0_holds 196 = .ok (.lconst 0, 1) := by decide +kernel
theorem dX0_holds_197 : decode cX0_holds 197 = .ok (.lstore 5, 2) := by decide +kernel
theorem dX0_holds_199 : decode cX0_holds 199 = .ok (.iinc 11 2, 3) := by decide +kernel
theorem dX0_holds_202 : decode cX0_holds 202 = .ok (.goto (-160), 3) := by decide +kernel
theorem dX0_holds_205 : decode cX0_holds 205 = .ok (.iconst 1, 1) := by decide +kernel
theorem dX0_holds_206 : decode cX0_holds 206 = .ok (.ireturn, 1) := by decide +kernel
theorem dX0_compares_0 : decode cX0_compares 0 = .ok (.iload_n 2, 1) := by decide +kernel
theorem dX0_compares_1 : decode cX0_compares 1 = .ok (.sipush 2003, 3) := by decide +kernel
theorem dX0_compares_4 : decode cX0_compares 4 = .ok (.if_icmp .ne 15, 3) := by decide +kernel
theorem dX0_compares_7 : decode cX0_compares 7 = .ok (.lload_n 0, 1) := by decide +kernel
theorem dX0_compares_8 : decode cX0_compares 8 = .ok (.lload_n 3, 1) := by decide +kernel
theorem dX0_compares_9 : decode cX0_compares 9 = .ok (.lcmp, 1) := by decide +kernel
theorem dX0_compares_10 : decode cX0_compares 10 = .ok (.ifCond .le 7, 3) := by decide +kernel
theorem dX0_compares_13 : decode cX0_compares 13 = .ok (.iconst 1, 1) := by decide +kernel
theorem dX0_compares_14 : decode cX0_compares 14 = .ok (.goto 4, 3) := by decide +kernel
theorem dX0_compares_17 : decode cX0_compares 17 = .ok (.iconst 0, 1) := by decide +kernel
theorem dX0_compares_18 : decode cX0_compares 18 = .ok (.ireturn, 1) := by decide +kernel
theorem dX0_compares_19 : decode cX0_compares 19 = .ok (.iload_n 2, 1) := by decide +kernel
theorem dX0_compares_20 : decode cX0_compares 20 = .ok (.sipush 2004, 3) := by decide +kernel
theorem dX0_compares_23 : decode cX0_compares 23 = .ok (.if_icmp .ne 17, 3) := by decide +kernel
theorem dX0_compares_26 : decode cX0_compares 26 = .ok (.lload_n 0, 1) := by decide +kernel
theorem dX0_compares_27 : decode cX0_compares 27 = .ok (.lload_n 3, 1) := by decide +kernel
theorem dX0_compares_28 : decode cX0_compares 28 = .ok (.lcmp, 1) := by decide +kernel
theorem dX0_compares_29 : decode cX0_compares 29 = .ok (.ifCond .ge 7, 3) := by decide +kernel
theorem dX0_compares_32 : decode cX0_compares 32 = .ok (.iconst 1, 1) := by decide +kernel
theorem dX0_compares_33 : decode cX0_compares 33 = .ok (.goto 18, 3) := by decide +kernel
theorem dX0_compares_36 : decode cX0_compares 36 = .ok (.iconst 0, 1) := by decide +kernel
theorem dX0_compares_37 : decode cX0_compares 37 = .ok (.goto 14, 3) := by decide +kernel
theorem dX0_compares_40 : decode cX0_compares 40 = .ok (.lload_n 0, 1) := by decide +kernel
theorem dX0_compares_41 : decode cX0_compares 41 = .ok (.lload_n 3, 1) := by decide +kernel
theorem dX0_compares_42 : decode cX0_compares 42 = .ok (.lcmp, 1) := by decide +kernel
theorem dX0_compares_43 : decode cX0_compares 43 = .ok (.ifCond .ne 7, 3) := by decide +kernel
theorem dX0_compares_46 : decode cX0_compares 46 = .ok (.iconst 1, 1) := by decide +kernel
theorem dX0_compares_47 : decode cX0_compares 47 = .ok (.goto 4, 3) := by decide +kernel
theorem dX0_compares_50 : decode cX0_compares 50 = .ok (.iconst 0, 1) := by decide +kernel
theorem dX0_compares_51 : decode cX0_compares 51 = .ok (.ireturn, 1) := by decide +kernel
theorem dX0_partOf_0 : decode cX0_partOf 0 = .ok (.iload_n 1, 1) := by decide +kernel
theorem dX0_partOf_1 : decode cX0_partOf 1 = .ok (.sipush 1000, 3) := by decide +kernel
theorem dX0_partOf_4 : decode cX0_partOf 4 = .ok (.if_icmp .ge 5, 3) := by decide +kernel
theorem dX0_partOf_7 : decode cX0_partOf 7 = .ok (.iload_n 1, 1) := by decide +kernel
theorem dX0_partOf_8 : decode cX0_partOf 8 = .ok (.ireturn, 1) := by decide +kernel
theorem dX0_partOf_9 : decode cX0_partOf 9 = .ok (.iload_n 1, 1) := by decide +kernel
theorem dX0_partOf_10 : decode cX0_partOf 10 = .ok (.sipush 1000, 3) := by decide +kernel
theorem dX0_partOf_13 : decode cX0_partOf 13 = .ok (.isub, 1) := by decide +kernel
theorem dX0_partOf_14 : decode cX0_partOf 14 = .ok (.iconst 5, 1) := by decide +kernel
theorem dX0_partOf_15 : decode cX0_partOf 15 = .ok (.if_icmp .ge 16, 3) := by decide +kernel
theorem dX0_partOf_18 : decode cX0_partOf 18 = .ok (.aload_n 0, 1) := by decide +kernel
theorem dX0_partOf_19 : decode cX0_partOf 19 = .ok (.getfield 30, 3) := by decide +kernel
theorem dX0_partOf_22 : decode cX0_partOf 22 = .ok (.iload_n 1, 1) := by decide +kernel
theorem dX0_partOf_23 : decode cX0_partOf 23 = .ok (.sipush 1000, 3) := by decide +kernel
theorem dX0_partOf_26 : decode cX0_partOf 26 = .ok (.isub, 1) := by decide +kernel
theorem dX0_partOf_27 : decode cX0_partOf 27 = .ok (.iaload, 1) := by decide +kernel
theorem dX0_partOf_28 : decode cX0_partOf 28 = .ok (.goto 4, 3) := by decide +kernel
theorem dX0_partOf_31 : decode cX0_partOf 31 = .ok (.iconst 0, 1) := by decide +kernel
theorem dX0_partOf_32 : decode cX0_partOf 32 = .ok (.ireturn, 1) := by decide +kernel
theorem dX0_bounded_0 : decode cX0_bounded 0 = .ok (.lload_n 1, 1) := by decide +kernel
theorem dX0_bounded_1 : decode cX0_bounded 1 = .ok (.ldc2_w 72, 3) := by decide +kernel
theorem dX0_bounded_4 : decode cX0_bounded 4 = .ok (.lcmp, 1) := by decide +kernel
theorem dX0_bounded_5 : decode cX0_bounded 5 = .ok (.ifCond .gt 11, 3) := by decide +kernel
theorem dX0_bounded_8 : decode cX0_bounded 8 = .ok (.lload_n 1, 1) := by decide +kernel
theorem dX0_bounded_9 : decode cX0_bounded 9 = .ok (.ldc2_w 74, 3) := by decide +kernel
theorem dX0_bounded_12 : decode cX0_bounded 12 = .ok (.lcmp, 1) := by decide +kernel
theorem dX0_bounded_13 : decode cX0_bounded 13 = .ok (.ifCond .ge 10, 3) := by decide +kernel
theorem dX0_bounded_16 : decode cX0_bounded 16 = .ok (.aload_n 0, 1) := by decide +kernel
theorem dX0_bounded_17 : decode cX0_bounded 17 = .ok (.iconst 1, 1) := by decide +kernel
theorem dX0_bounded_18 : decode cX0_bounded 18 = .ok (.putfield 56, 3) := by decide +kernel
theorem dX0_bounded_21 : decode cX0_bounded 21 = .ok (.lconst 0, 1) := by decide +kernel
theorem dX0_bounded_22 : decode cX0_bounded 22 = .ok (.lreturn, 1) := by decide +kernel
theorem dX0_bounded_23 : decode cX0_bounded 23 = .ok (.lload_n 1, 1) := by decide +kernel
theorem dX0_bounded_24 : decode cX0_bounded 24 = .ok (.lreturn, 1) := by decide +kernel
theorem dX1_init_0 : decode cX1_init 0 = .ok (.aload_n 0, 1) := by decide +kernel
theorem dX1_init_1 : decode cX1_init 1 = .ok (.invokespecial 3, 3) := by decide +kernel
theorem dX1_init_4 : decode cX1_init 4 = .ok (.aload_n 0, 1) := by decide +kernel
theorem dX1_init_5 : decode cX1_init 5 = .ok (.sipush 600, 3) := by decide +kernel
theorem dX1_init_8 : decode cX1_init 8 = .ok (.newarray .int, 2) := by decide +kernel
theorem dX1_init_10 : decode cX1_init 10 = .ok (.putfield 9, 3) := by decide +kernel
theorem dX1_init_13 : decode cX1_init 13 = .ok (.aload_n 0, 1) := by decide +kernel
theorem dX1_init_14 : decode cX1_init 14 = .ok (.sipush 600, 3) := by decide +kernel
theorem dX1_init_17 : decode cX1_init 17 = .ok (.newarray .int, 2) := by decide +kernel
theorem dX1_init_19 : decode cX1_init 19 = .ok (.putfield 15, 3) := by decide +kernel
theorem dX1_init_22 : decode cX1_init 22 = .ok (.aload_n 0, 1) := by decide +kernel
theorem dX1_init_23 : decode cX1_init 23 = .ok (.sipush 600, 3) := by decide +kernel
theorem dX1_init_26 : decode cX1_init 26 = .ok (.newarray .int, 2) := by decide +kernel
theorem dX1_init_28 : decode cX1_init 28 = .ok (.putfield 18, 3) := by decide +kernel
theorem dX1_init_31 : decode cX1_init 31 = .ok (.aload_n 0, 1) := by decide +kernel
theorem dX1_init_32 : decode cX1_init 32 = .ok (.sipush 600, 3) := by decide +kernel
theorem dX1_init_35 : decode cX1_init 35 = .ok (.newarray .int, 2) := by decide +kernel
theorem dX1_init_37 : decode cX1_init 37 = .ok (.putfield 21, 3) := by decide +kernel
theorem dX1_init_40 : decode cX1_init 40 = .ok (.aload_n 0, 1) := by decide +kernel
theorem dX1_init_41 : decode cX1_init 41 = .ok (.sipush 600, 3) := by decide +kernel
theorem dX1_init_44 : decode cX1_init 44 = .ok (.newarray .int, 2) := by decide +kernel
theorem dX1_init_46 : decode cX1_init 46 = .ok (.putfield 24, 3) := by decide +kernel
theorem dX1_init_49 : decode cX1_init 49 = .ok (.aload_n 0, 1) := by decide +kernel
theorem dX1_init_50 : decode cX1_init 50 = .ok (.bipush 16, 2) := by decide +kernel
theorem dX1_init_52 : decode cX1_init 52 = .ok (.newarray .int, 2) := by decide +kernel
theorem dX1_init_54 : decode cX1_init 54 = .ok (.putfield 27, 3) := by decide +kernel
theorem dX1_init_57 : decode cX1_init 57 = .ok (.aload_n 0, 1) := by decide +kernel
theorem dX1_init_58 : decode cX1_init 58 = .ok (.sipush 256, 3) := by decide +kernel
theorem dX1_init_61 : decode cX1_init 61 = .ok (.newarray .int, 2) := by decide +kernel
theorem dX1_init_63 : decode cX1_init 63 = .ok (.putfield 30, 3) := by decide +kernel
theorem dX1_init_66 : decode cX1_init 66 = .ok (.return_, 1) := by decide +kernel
theorem dX1_clear_0 : decode cX1_clear 0 = .ok (.aload_n 0, 1) := by decide +kernel
theorem dX1_clear_1 : decode cX1_clear 1 = .ok (.iconst 0, 1) := by decide +kernel
theorem dX1_clear_2 : decode cX1_clear 2 = .ok (.putfield 33, 3) := by decide +kernel
theorem dX1_clear_5 : decode cX1_clear 5 = .ok (.aload_n 0, 1) := by decide +kernel
theorem dX1_clear_6 : decode cX1_clear 6 = .ok (.getfield 27, 3) := by decide +kernel
theorem dX1_clear_9 : decode cX1_clear 9 = .ok (.iconst 0, 1) := by decide +kernel
theorem dX1_clear_10 : decode cX1_clear 10 = .ok (.invokestatic 37, 3) := by decide +kernel
theorem dX1_clear_13 : decode cX1_clear 13 = .ok (.aload_n 0, 1) := by decide +kernel
theorem dX1_clear_14 : decode cX1_clear 14 = .ok (.getfield 30, 3) := by decide +kernel
theorem dX1_clear_17 : decode cX1_clear 17 = .ok (.iconst 0, 1) := by decide +kernel
theorem dX1_clear_18 : decode cX1_clear 18 = .ok (.invokestatic 37, 3) := by decide +kernel
theorem dX1_clear_21 : decode cX1_clear 21 = .ok (.return_, 1) := by decide +kernel
theorem dX1_copy_0 : decode cX1_copy 0 = .ok (.aload_n 0, 1) := by decide +kernel
theorem dX1_copy_1 : decode cX1_copy 1 = .ok (.aload_n 1, 1) := by decide +kernel
theorem dX1_copy_2 : decode cX1_copy 2 = .ok (.getfield 33, 3) := by decide +kernel
theorem dX1_copy_5 : decode cX1_copy 5 = .ok (.putfield 33, 3) := by decide +kernel
theorem dX1_copy_8 : decode cX1_copy 8 = .ok (.aload_n 1, 1) := by decide +kernel
theorem dX1_copy_9 : decode cX1_copy 9 = .ok (.getfield 9, 3) := by decide +kernel
theorem dX1_copy_12 : decode cX1_copy 12 = .ok (.iconst 0, 1) := by decide +kernel
theorem dX1_copy_13 : decode cX1_copy 13 = .ok (.aload_n 0, 1) := by decide +kernel
theorem dX1_copy_14 : decode cX1_copy 14 = .ok (.getfield 9, 3) := by decide +kernel
theorem dX1_copy_17 : decode cX1_copy 17 = .ok (.iconst 0, 1) := by decide +kernel
theorem dX1_copy_18 : decode cX1_copy 18 = .ok (.aload_n 0, 1) := by decide +kernel
theorem dX1_copy_19 : decode cX1_copy 19 = .ok (.getfield 33, 3) := by decide +kernel
theorem dX1_copy_22 : decode cX1_copy 22 = .ok (.invokestatic 43, 3) := by decide +kernel
theorem dX1_copy_25 : decode cX1_copy 25 = .ok (.aload_n 1, 1) := by decide +kernel
theorem dX1_copy_26 : decode cX1_copy 26 = .ok (.getfield 15, 3) := by decide +kernel
theorem dX1_copy_29 : decode cX1_copy 29 = .ok (.iconst 0, 1) := by decide +kernel
theorem dX1_copy_30 : decode cX1_copy 30 = .ok (.aload_n 0, 1) := by decide +kernel
theorem dX1_copy_31 : decode cX1_copy 31 = .ok (.getfield 15, 3) := by decide +kernel
theorem dX1_copy_34 : decode cX1_copy 34 = .ok (.iconst 0, 1) := by decide +kernel
theorem dX1_copy_35 : decode cX1_copy 35 = .ok (.aload_n 0, 1) := by decide +kernel
