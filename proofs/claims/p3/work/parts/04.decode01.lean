theorem dX1_copy_36 : decode cX1_copy 36 = .ok (.getfield 33, 3) := by decide +kernel
theorem dX1_copy_39 : decode cX1_copy 39 = .ok (.invokestatic 43, 3) := by decide +kernel
theorem dX1_copy_42 : decode cX1_copy 42 = .ok (.aload_n 1, 1) := by decide +kernel
theorem dX1_copy_43 : decode cX1_copy 43 = .ok (.getfield 18, 3) := by decide +kernel
theorem dX1_copy_46 : decode cX1_copy 46 = .ok (.iconst 0, 1) := by decide +kernel
theorem dX1_copy_47 : decode cX1_copy 47 = .ok (.aload_n 0, 1) := by decide +kernel
theorem dX1_copy_48 : decode cX1_copy 48 = .ok (.getfield 18, 3) := by decide +kernel
theorem dX1_copy_51 : decode cX1_copy 51 = .ok (.iconst 0, 1) := by decide +kernel
theorem dX1_copy_52 : decode cX1_copy 52 = .ok (.aload_n 0, 1) := by decide +kernel
theorem dX1_copy_53 : decode cX1_copy 53 = .ok (.getfield 33, 3) := by decide +kernel
theorem dX1_copy_56 : decode cX1_copy 56 = .ok (.invokestatic 43, 3) := by decide +kernel
theorem dX1_copy_59 : decode cX1_copy 59 = .ok (.aload_n 1, 1) := by decide +kernel
theorem dX1_copy_60 : decode cX1_copy 60 = .ok (.getfield 21, 3) := by decide +kernel
theorem dX1_copy_63 : decode cX1_copy 63 = .ok (.iconst 0, 1) := by decide +kernel
theorem dX1_copy_64 : decode cX1_copy 64 = .ok (.aload_n 0, 1) := by decide +kernel
theorem dX1_copy_65 : decode cX1_copy 65 = .ok (.getfield 21, 3) := by decide +kernel
theorem dX1_copy_68 : decode cX1_copy 68 = .ok (.iconst 0, 1) := by decide +kernel
theorem dX1_copy_69 : decode cX1_copy 69 = .ok (.aload_n 0, 1) := by decide +kernel
theorem dX1_copy_70 : decode cX1_copy 70 = .ok (.getfield 33, 3) := by decide +kernel
theorem dX1_copy_73 : decode cX1_copy 73 = .ok (.invokestatic 43, 3) := by decide +kernel
theorem dX1_copy_76 : decode cX1_copy 76 = .ok (.aload_n 1, 1) := by decide +kernel
theorem dX1_copy_77 : decode cX1_copy 77 = .ok (.getfield 24, 3) := by decide +kernel
theorem dX1_copy_80 : decode cX1_copy 80 = .ok (.iconst 0, 1) := by decide +kernel
theorem dX1_copy_81 : decode cX1_copy 81 = .ok (.aload_n 0, 1) := by decide +kernel
theorem dX1_copy_82 : decode cX1_copy 82 = .ok (.getfield 24, 3) := by decide +kernel
theorem dX1_copy_85 : decode cX1_copy 85 = .ok (.iconst 0, 1) := by decide +kernel
theorem dX1_copy_86 : decode cX1_copy 86 = .ok (.aload_n 0, 1) := by decide +kernel
theorem dX1_copy_87 : decode cX1_copy 87 = .ok (.getfield 33, 3) := by decide +kernel
theorem dX1_copy_90 : decode cX1_copy 90 = .ok (.invokestatic 43, 3) := by decide +kernel
theorem dX1_copy_93 : decode cX1_copy 93 = .ok (.aload_n 1, 1) := by decide +kernel
theorem dX1_copy_94 : decode cX1_copy 94 = .ok (.getfield 27, 3) := by decide +kernel
theorem dX1_copy_97 : decode cX1_copy 97 = .ok (.iconst 0, 1) := by decide +kernel
theorem dX1_copy_98 : decode cX1_copy 98 = .ok (.aload_n 0, 1) := by decide +kernel
theorem dX1_copy_99 : decode cX1_copy 99 = .ok (.getfield 27, 3) := by decide +kernel
theorem dX1_copy_102 : decode cX1_copy 102 = .ok (.iconst 0, 1) := by decide +kernel
theorem dX1_copy_103 : decode cX1_copy 103 = .ok (.aload_n 0, 1) := by decide +kernel
theorem dX1_copy_104 : decode cX1_copy 104 = .ok (.getfield 27, 3) := by decide +kernel
theorem dX1_copy_107 : decode cX1_copy 107 = .ok (.arraylength, 1) := by decide +kernel
theorem dX1_copy_108 : decode cX1_copy 108 = .ok (.invokestatic 43, 3) := by decide +kernel
theorem dX1_copy_111 : decode cX1_copy 111 = .ok (.aload_n 1, 1) := by decide +kernel
theorem dX1_copy_112 : decode cX1_copy 112 = .ok (.getfield 30, 3) := by decide +kernel
theorem dX1_copy_115 : decode cX1_copy 115 = .ok (.iconst 0, 1) := by decide +kernel
theorem dX1_copy_116 : decode cX1_copy 116 = .ok (.aload_n 0, 1) := by decide +kernel
theorem dX1_copy_117 : decode cX1_copy 117 = .ok (.getfield 30, 3) := by decide +kernel
theorem dX1_copy_120 : decode cX1_copy 120 = .ok (.iconst 0, 1) := by decide +kernel
theorem dX1_copy_121 : decode cX1_copy 121 = .ok (.aload_n 0, 1) := by decide +kernel
theorem dX1_copy_122 : decode cX1_copy 122 = .ok (.getfield 30, 3) := by decide +kernel
theorem dX1_copy_125 : decode cX1_copy 125 = .ok (.arraylength, 1) := by decide +kernel
theorem dX1_copy_126 : decode cX1_copy 126 = .ok (.invokestatic 43, 3) := by decide +kernel
theorem dX1_copy_129 : decode cX1_copy 129 = .ok (.return_, 1) := by decide +kernel
theorem dX1_kindsOf_0 : decode cX1_kindsOf 0 = .ok (.aload_n 0, 1) := by decide +kernel
theorem dX1_kindsOf_1 : decode cX1_kindsOf 1 = .ok (.getfield 30, 3) := by decide +kernel
theorem dX1_kindsOf_4 : decode cX1_kindsOf 4 = .ok (.iload_n 1, 1) := by decide +kernel
theorem dX1_kindsOf_5 : decode cX1_kindsOf 5 = .ok (.bipush 16, 2) := by decide +kernel
theorem dX1_kindsOf_7 : decode cX1_kindsOf 7 = .ok (.imul, 1) := by decide +kernel
theorem dX1_kindsOf_8 : decode cX1_kindsOf 8 = .ok (.iload_n 2, 1) := by decide +kernel
theorem dX1_kindsOf_9 : decode cX1_kindsOf 9 = .ok (.iadd, 1) := by decide +kernel
theorem dX1_kindsOf_10 : decode cX1_kindsOf 10 = .ok (.iaload, 1) := by decide +kernel
theorem dX1_kindsOf_11 : decode cX1_kindsOf 11 = .ok (.ireturn, 1) := by decide +kernel
theorem dX1_add_0 : decode cX1_add 0 = .ok (.aload_n 0, 1) := by decide +kernel
theorem dX1_add_1 : decode cX1_add 1 = .ok (.getfield 33, 3) := by decide +kernel
theorem dX1_add_4 : decode cX1_add 4 = .ok (.sipush 600, 3) := by decide +kernel
theorem dX1_add_7 : decode cX1_add 7 = .ok (.if_icmp .lt 4, 3) := by decide +kernel
theorem dX1_add_10 : decode cX1_add 10 = .ok (.return_, 1) := by decide +kernel
theorem dX1_add_11 : decode cX1_add 11 = .ok (.aload_n 0, 1) := by decide +kernel
theorem dX1_add_12 : decode cX1_add 12 = .ok (.getfield 9, 3) := by decide +kernel
theorem dX1_add_15 : decode cX1_add 15 = .ok (.aload_n 0, 1) := by decide +kernel
theorem dX1_add_16 : decode cX1_add 16 = .ok (.getfield 33, 3) := by decide +kernel
theorem dX1_add_19 : decode cX1_add 19 = .ok (.iload_n 1, 1) := by decide +kernel
theorem dX1_add_20 : decode cX1_add 20 = .ok (.iastore, 1) := by decide +kernel
theorem dX1_add_21 : decode cX1_add 21 = .ok (.aload_n 0, 1) := by decide +kernel
theorem dX1_add_22 : decode cX1_add 22 = .ok (.getfield 15, 3) := by decide +kernel
theorem dX1_add_25 : decode cX1_add 25 = .ok (.aload_n 0, 1) := by decide +kernel
theorem dX1_add_26 : decode cX1_add 26 = .ok (.getfield 33, 3) := by decide +kernel
theorem dX1_add_29 : decode cX1_add 29 = .ok (.iload_n 2, 1) := by decide +kernel
theorem dX1_add_30 : decode cX1_add 30 = .ok (.iastore, 1) := by decide +kernel
theorem dX1_add_31 : decode cX1_add 31 = .ok (.aload_n 0, 1) := by decide +kernel
theorem dX1_add_32 : decode cX1_add 32 = .ok (.getfield 18, 3) := by decide +kernel
theorem dX1_add_35 : decode cX1_add 35 = .ok (.aload_n 0, 1) := by decide +kernel
theorem dX1_add_36 : decode cX1_add 36 = .ok (.getfield 33, 3) := by decide +kernel
theorem dX1_add_39 : decode cX1_add 39 = .ok (.iload_n 3, 1) := by decide +kernel
theorem dX1_add_40 : decode cX1_add 40 = .ok (.iastore, 1) := by decide +kernel
theorem dX1_add_41 : decode cX1_add 41 = .ok (.aload_n 0, 1) := by decide +kernel
theorem dX1_add_42 : decode cX1_add 42 = .ok (.getfield 21, 3) := by decide +kernel
theorem dX1_add_45 : decode cX1_add 45 = .ok (.aload_n 0, 1) := by decide +kernel
theorem dX1_add_46 : decode cX1_add 46 = .ok (.getfield 33, 3) := by decide +kernel
theorem dX1_add_49 : decode cX1_add 49 = .ok (.iload 4, 2) := by decide +kernel
theorem dX1_add_51 : decode cX1_add 51 = .ok (.iastore, 1) := by decide +kernel
theorem dX1_add_52 : decode cX1_add 52 = .ok (.aload_n 0, 1) := by decide +kernel
theorem dX1_add_53 : decode cX1_add 53 = .ok (.getfield 24, 3) := by decide +kernel
theorem dX1_add_56 : decode cX1_add 56 = .ok (.aload_n 0, 1) := by decide +kernel
theorem dX1_add_57 : decode cX1_add 57 = .ok (.getfield 33, 3) := by decide +kernel
theorem dX1_add_60 : decode cX1_add 60 = .ok (.iload 5, 2) := by decide +kernel
theorem dX1_add_62 : decode cX1_add 62 = .ok (.iastore, 1) := by decide +kernel
theorem dX1_add_63 : decode cX1_add 63 = .ok (.aload_n 0, 1) := by decide +kernel
theorem dX1_add_64 : decode cX1_add 64 = .ok (.dup, 1) := by decide +kernel
theorem dX1_add_65 : decode cX1_add 65 = .ok (.getfield 33, 3) := by decide +kernel
theorem dX1_add_68 : decode cX1_add 68 = .ok (.iconst 1, 1) := by decide +kernel
theorem dX1_add_69 : decode cX1_add 69 = .ok (.iadd, 1) := by decide +kernel
theorem dX1_add_70 : decode cX1_add 70 = .ok (.putfield 33, 3) := by decide +kernel
theorem dX1_add_73 : decode cX1_add 73 = .ok (.aload_n 0, 1) := by decide +kernel
theorem dX1_add_74 : decode cX1_add 74 = .ok (.getfield 27, 3) := by decide +kernel
theorem dX1_add_77 : decode cX1_add 77 = .ok (.iload_n 1, 1) := by decide +kernel
theorem dX1_add_78 : decode cX1_add 78 = .ok (.dup2, 1) := by decide +kernel
theorem dX1_add_79 : decode cX1_add 79 = .ok (.iaload, 1) := by decide +kernel
theorem dX1_add_80 : decode cX1_add 80 = .ok (.iconst 1, 1) := by decide +kernel
theorem dX1_add_81 : decode cX1_add 81 = .ok (.iadd, 1) := by decide +kernel
theorem dX1_add_82 : decode cX1_add 82 = .ok (.iastore, 1) := by decide +kernel
theorem dX1_add_83 : decode cX1_add 83 = .ok (.aload_n 0, 1) := by decide +kernel
theorem dX1_add_84 : decode cX1_add 84 = .ok (.getfield 30, 3) := by decide +kernel
theorem dX1_add_87 : decode cX1_add 87 = .ok (.iload_n 1, 1) := by decide +kernel
theorem dX1_add_88 : decode cX1_add 88 = .ok (.bipush 16, 2) := by decide +kernel
theorem dX1_add_90 : decode cX1_add 90 = .ok (.imul, 1) := by decide +kernel
theorem dX1_add_91 : decode cX1_add 91 = .ok (.iload_n 2, 1) := by decide +kernel
theorem dX1_add_92 : decode cX1_add 92 = .ok (.iadd, 1) := by decide +kernel
theorem dX1_add_93 : decode cX1_add 93 = .ok (.dup2, 1) := by decide +kernel
theorem dX1_add_94 : decode cX1_add 94 = .ok (.iaload, 1) := by decide +kernel
theorem dX1_add_95 : decode cX1_add 95 = .ok (.iconst 1, 1) := by decide +kernel
theorem dX1_add_96 : decode cX1_add 96 = .ok (.iload_n 3, 1) := by decide +kernel
theorem dX1_add_97 : decode cX1_add 97 = .ok (.ishl, 1) := by decide +kernel
theorem dX1_add_98 : decode cX1_add 98 = .ok (.ior, 1) := by decide +kernel
theorem dX1_add_99 : decode cX1_add 99 = .ok (.iastore, 1) := by decide +kernel
theorem dX1_add_100 : decode cX1_add 100 = .ok (.return_, 1) := by decide +kernel
theorem dX1_settle_0 : decode cX1_settle 0 = .ok (.aload_n 0, 1) := by decide +kernel
theorem dX1_settle_1 : decode cX1_settle 1 = .ok (.iload_n 1, 1) := by decide +kernel
theorem dX1_settle_2 : decode cX1_settle 2 = .ok (.iload_n 2, 1) := by decide +kernel
theorem dX1_settle_3 : decode cX1_settle 3 = .ok (.invokevirtual 49, 3) := by decide +kernel
theorem dX1_settle_6 : decode cX1_settle 6 = .ok (.iconst 2, 1) := by decide +kernel
theorem dX1_settle_7 : decode cX1_settle 7 = .ok (.iload_n 3, 1) := by decide +kernel
theorem dX1_settle_8 : decode cX1_settle 8 = .ok (.ishl, 1) := by decide +kernel
theorem dX1_settle_9 : decode cX1_settle 9 = .ok (.iconst 1, 1) := by decide +kernel
theorem dX1_settle_10 : decode cX1_settle 10 = .ok (.isub, 1) := by decide +kernel
theorem dX1_settle_11 : decode cX1_settle 11 = .ok (.iand, 1) := by decide +kernel
theorem dX1_settle_12 : decode cX1_settle 12 = .ok (.istore 4, 2) := by decide +kernel
theorem dX1_settle_14 : decode cX1_settle 14 = .ok (.iload 4, 2) := by decide +kernel
theorem dX1_settle_16 : decode cX1_settle 16 = .ok (.ifCond .ne 5, 3) := by decide +kernel
theorem dX1_settle_19 : decode cX1_settle 19 = .ok (.iconst 0, 1) := by decide +kernel
theorem dX1_settle_20 : decode cX1_settle 20 = .ok (.ireturn, 1) := by decide +kernel
theorem dX1_settle_21 : decode cX1_settle 21 = .ok (.iconst 0, 1) := by decide +kernel
theorem dX1_settle_22 : decode cX1_settle 22 = .ok (.istore 5, 2) := by decide +kernel
theorem dX1_settle_24 : decode cX1_settle 24 = .ok (.iconst 0, 1) := by decide +kernel
theorem dX1_settle_25 : decode cX1_settle 25 = .ok (.istore 6, 2) := by decide +kernel
theorem dX1_settle_27 : decode cX1_settle 27 = .ok (.iload 6, 2) := by decide +kernel
theorem dX1_settle_29 : decode cX1_settle 29 = .ok (.aload_n 0, 1) := by decide +kernel
theorem dX1_settle_30 : decode cX1_settle 30 = .ok (.getfield 33, 3) := by decide +kernel
theorem dX1_settle_33 : decode cX1_settle 33 = .ok (.if_icmp .ge 53, 3) := by decide +kernel
theorem dX1_settle_36 : decode cX1_settle 36 = .ok (.aload_n 0, 1) := by decide +kernel
theorem dX1_settle_37 : decode cX1_settle 37 = .ok (.getfield 9, 3) := by decide +kernel
theorem dX1_settle_40 : decode cX1_settle 40 = .ok (.iload 6, 2) := by decide +kernel
theorem dX1_settle_42 : decode cX1_settle 42 = .ok (.iaload, 1) := by decide +kernel
theorem dX1_settle_43 : decode cX1_settle 43 = .ok (.iload_n 1, 1) := by decide +kernel
theorem dX1_settle_44 : decode cX1_settle 44 = .ok (.if_icmp .ne 25, 3) := by decide +kernel
theorem dX1_settle_47 : decode cX1_settle 47 = .ok (.aload_n 0, 1) := by decide +kernel
theorem dX1_settle_48 : decode cX1_settle 48 = .ok (.getfield 15, 3) := by decide +kernel
theorem dX1_settle_51 : decode cX1_settle 51 = .ok (.iload 6, 2) := by decide +kernel
theorem dX1_settle_53 : decode cX1_settle 53 = .ok (.iaload, 1) := by decide +kernel
theorem dX1_settle_54 : decode cX1_settle 54 = .ok (.iload_n 2, 1) := by decide +kernel
theorem dX1_settle_55 : decode cX1_settle 55 = .ok (.if_icmp .ne 14, 3) := by decide +kernel
theorem dX1_settle_58 : decode cX1_settle 58 = .ok (.aload_n 0, 1) := by decide +kernel
theorem dX1_settle_59 : decode cX1_settle 59 = .ok (.getfield 18, 3) := by decide +kernel
theorem dX1_settle_62 : decode cX1_settle 62 = .ok (.iload 6, 2) := by decide +kernel
theorem dX1_settle_64 : decode cX1_settle 64 = .ok (.iaload, 1) := by decide +kernel
theorem dX1_settle_65 : decode cX1_settle 65 = .ok (.iload_n 3, 1) := by decide +kernel
theorem dX1_settle_66 : decode cX1_settle 66 = .ok (.if_icmp .le 14, 3) := by decide +kernel
theorem dX1_settle_69 : decode cX1_settle 69 = .ok (.aload_n 0, 1) := by decide +kernel
theorem dX1_settle_70 : decode cX1_settle 70 = .ok (.iload 6, 2) := by decide +kernel
theorem dX1_settle_72 : decode cX1_settle 72 = .ok (.iload 5, 2) := by decide +kernel
theorem dX1_settle_74 : decode cX1_settle 74 = .ok (.invokevirtual 53, 3) := by decide +kernel
theorem dX1_settle_77 : decode cX1_settle 77 = .ok (.iinc 5 1, 3) := by decide +kernel
theorem dX1_settle_80 : decode cX1_settle 80 = .ok (.iinc 6 1, 3) := by decide +kernel
theorem dX1_settle_83 : decode cX1_settle 83 = .ok (.goto (-56), 3) := by decide +kernel
theorem dX1_settle_86 : decode cX1_settle 86 = .ok (.aload_n 0, 1) := by decide +kernel
theorem dX1_settle_87 : decode cX1_settle 87 = .ok (.getfield 33, 3) := by decide +kernel
theorem dX1_settle_90 : decode cX1_settle 90 = .ok (.iload 5, 2) := by decide +kernel
theorem dX1_settle_92 : decode cX1_settle 92 = .ok (.isub, 1) := by decide +kernel
theorem dX1_settle_93 : decode cX1_settle 93 = .ok (.istore 6, 2) := by decide +kernel
theorem dX1_settle_95 : decode cX1_settle 95 = .ok (.aload_n 0, 1) := by decide +kernel
theorem dX1_settle_96 : decode cX1_settle 96 = .ok (.iload 5, 2) := by decide +kernel
theorem dX1_settle_98 : decode cX1_settle 98 = .ok (.putfield 33, 3) := by decide +kernel
theorem dX1_settle_101 : decode cX1_settle 101 = .ok (.aload_n 0, 1) := by decide +kernel
theorem dX1_settle_102 : decode cX1_settle 102 = .ok (.getfield 27, 3) := by decide +kernel
theorem dX1_settle_105 : decode cX1_settle 105 = .ok (.iload_n 1, 1) := by decide +kernel
theorem dX1_settle_106 : decode cX1_settle 106 = .ok (.dup2, 1) := by decide +kernel
theorem dX1_settle_107 : decode cX1_settle 107 = .ok (.iaload, 1) := by decide +kernel
theorem dX1_settle_108 : decode cX1_settle 108 = .ok (.iload 6, 2) := by decide +kernel
theorem dX1_settle_110 : decode cX1_settle 110 = .ok (.isub, 1) := by decide +kernel
theorem dX1_settle_111 : decode cX1_settle 111 = .ok (.iastore, 1) := by decide +kernel
theorem dX1_settle_112 : decode cX1_settle 112 = .ok (.aload_n 0, 1) := by decide +kernel
theorem dX1_settle_113 : decode cX1_settle 113 = .ok (.getfield 30, 3) := by decide +kernel
theorem dX1_settle_116 : decode cX1_settle 116 = .ok (.iload_n 1, 1) := by decide +kernel
theorem dX1_settle_117 : decode cX1_settle 117 = .ok (.bipush 16, 2) := by decide +kernel
theorem dX1_settle_119 : decode cX1_settle 119 = .ok (.imul, 1) := by decide +kernel
theorem dX1_settle_120 : decode cX1_settle 120 = .ok (.iload_n 2, 1) := by decide +kernel
theorem dX1_settle_121 : decode cX1_settle 121 = .ok (.iadd, 1) := by decide +kernel
theorem dX1_settle_122 : decode cX1_settle 122 = .ok (.dup2, 1) := by decide +kernel
theorem dX1_settle_123 : decode cX1_settle 123 = .ok (.iaload, 1) := by decide +kernel
theorem dX1_settle_124 : decode cX1_settle 124 = .ok (.iload 4, 2) := by decide +kernel
theorem dX1_settle_126 : decode cX1_settle 126 = .ok (.iconst (-1), 1) := by decide +kernel
theorem dX1_settle_127 : decode cX1_settle 127 = .ok (.ixor, 1) := by decide +kernel
theorem dX1_settle_128 : decode cX1_settle 128 = .ok (.iand, 1) := by decide +kernel
theorem dX1_settle_129 : decode cX1_settle 129 = .ok (.iastore, 1) := by decide +kernel
theorem dX1_settle_130 : decode cX1_settle 130 = .ok (.iload 6, 2) := by decide +kernel
theorem dX1_settle_132 : decode cX1_settle 132 = .ok (.ireturn, 1) := by decide +kernel
theorem dX1_move_0 : decode cX1_move 0 = .ok (.aload_n 0, 1) := by decide +kernel
theorem dX1_move_1 : decode cX1_move 1 = .ok (.getfield 9, 3) := by decide +kernel
theorem dX1_move_4 : decode cX1_move 4 = .ok (.iload_n 2, 1) := by decide +kernel
theorem dX1_move_5 : decode cX1_move 5 = .ok (.aload_n 0, 1) := by decide +kernel
theorem dX1_move_6 : decode cX1_move 6 = .ok (.getfield 9, 3) := by decide +kernel
theorem dX1_move_9 : decode cX1_move 9 = .ok (.iload_n 1, 1) := by decide +kernel
theorem dX1_move_10 : decode cX1_move 10 = .ok (.iaload, 1) := by decide +kernel
theorem dX1_move_11 : decode cX1_move 11 = .ok (.iastore, 1) := by decide +kernel
theorem dX1_move_12 : decode cX1_move 12 = .ok (.aload_n 0, 1) := by decide +kernel
theorem dX1_move_13 : decode cX1_move 13 = .ok (.getfield 15, 3) := by decide +kernel
theorem dX1_move_16 : decode cX1_move 16 = .ok (.iload_n 2, 1) := by decide +kernel
theorem dX1_move_17 : decode cX1_move 17 = .ok (.aload_n 0, 1) := by decide +kernel
theorem dX1_move_18 : decode cX1_move 18 = .ok (.getfield 15, 3) := by decide +kernel
theorem dX1_move_21 : decode cX1_move 21 = .ok (.iload_n 1, 1) := by decide +kernel
theorem dX1_move_22 : decode cX1_move 22 = .ok (.iaload, 1) := by decide +kernel
theorem dX1_move_23 : decode cX1_move 23 = .ok (.iastore, 1) := by decide +kernel
theorem dX1_move_24 : decode cX1_move 24 = .ok (.aload_n 0, 1) := by decide +kernel
theorem dX1_move_25 : decode cX1_move 25 = .ok (.getfield 18, 3) := by decide +kernel
theorem dX1_move_28 : decode cX1_move 28 = .ok (.iload_n 2, 1) := by decide +kernel
theorem dX1_move_29 : decode cX1_move 29 = .ok (.aload_n 0, 1) := by decide +kernel
theorem dX1_move_30 : decode cX1_move 30 = .ok (.getfield 18, 3) := by decide +kernel
theorem dX1_move_33 : decode cX1_move 33 = .ok (.iload_n 1, 1) := by decide +kernel
theorem dX1_move_34 : decode cX1_move 34 = .ok (.iaload, 1) := by decide +kernel
theorem dX1_move_35 : decode cX1_move 35 = .ok (.iastore, 1) := by decide +kernel
theorem dX1_move_36 : decode cX1_move 36 = .ok (.aload_n 0, 1) := by decide +kernel
theorem dX1_move_37 : decode cX1_move 37 = .ok (.getfield 21, 3) := by decide +kernel
theorem dX1_move_40 : decode cX1_move 40 = .ok (.iload_n 2, 1) := by decide +kernel
theorem dX1_move_41 : decode cX1_move 41 = .ok (.aload_n 0, 1) := by decide +kernel
theorem dX1_move_42 : decode cX1_move 42 = .ok (.getfield 21, 3) := by decide +kernel
theorem dX1_move_45 : decode cX1_move 45 = .ok (.iload_n 1, 1) := by decide +kernel
theorem dX1_move_46 : decode cX1_move 46 = .ok (.iaload, 1) := by decide +kernel
theorem dX1_move_47 : decode cX1_move 47 = .ok (.iastore, 1) := by decide +kernel
theorem dX1_move_48 : decode cX1_move 48 = .ok (.aload_n 0, 1) := by decide +kernel
theorem dX1_move_49 : decode cX1_move 49 = .ok (.getfield 24, 3) := by decide +kernel
theorem dX1_move_52 : decode cX1_move 52 = .ok (.iload_n 2, 1) := by decide +kernel
theorem dX1_move_53 : decode cX1_move 53 = .ok (.aload_n 0, 1) := by decide +kernel
theorem dX1_move_54 : decode cX1_move 54 = .ok (.getfield 24, 3) := by decide +kernel
theorem dX1_move_57 : decode cX1_move 57 = .ok (.iload_n 1, 1) := by decide +kernel
theorem dX1_move_58 : decode cX1_move 58 = .ok (.iaload, 1) := by decide +kernel
theorem dX1_move_59 : decode cX1_move 59 = .ok (.iastore, 1) := by decide +kernel
theorem dX1_move_60 : decode cX1_move 60 = .ok (.return_, 1) := by decide +kernel
theorem dX1_nth_0 : decode cX1_nth 0 = .ok (.iload_n 2, 1) := by decide +kernel
theorem dX1_nth_1 : decode cX1_nth 1 = .ok (.ifCond .lt 13, 3) := by decide +kernel
theorem dX1_nth_4 : decode cX1_nth 4 = .ok (.iload_n 2, 1) := by decide +kernel
theorem dX1_nth_5 : decode cX1_nth 5 = .ok (.aload_n 0, 1) := by decide +kernel
theorem dX1_nth_6 : decode cX1_nth 6 = .ok (.getfield 27, 3) := by decide +kernel
theorem dX1_nth_9 : decode cX1_nth 9 = .ok (.iload_n 1, 1) := by decide +kernel
theorem dX1_nth_10 : decode cX1_nth 10 = .ok (.iaload, 1) := by decide +kernel
theorem dX1_nth_11 : decode cX1_nth 11 = .ok (.if_icmp .lt 5, 3) := by decide +kernel
theorem dX1_nth_14 : decode cX1_nth 14 = .ok (.iconst (-1), 1) := by decide +kernel
theorem dX1_nth_15 : decode cX1_nth 15 = .ok (.ireturn, 1) := by decide +kernel
theorem dX1_nth_16 : decode cX1_nth 16 = .ok (.iload_n 2, 1) := by decide +kernel
theorem dX1_nth_17 : decode cX1_nth 17 = .ok (.istore_n 3, 1) := by decide +kernel
theorem dX1_nth_18 : decode cX1_nth 18 = .ok (.iconst 0, 1) := by decide +kernel
theorem dX1_nth_19 : decode cX1_nth 19 = .ok (.istore 4, 2) := by decide +kernel
theorem dX1_nth_21 : decode cX1_nth 21 = .ok (.iload 4, 2) := by decide +kernel
theorem dX1_nth_23 : decode cX1_nth 23 = .ok (.aload_n 0, 1) := by decide +kernel
theorem dX1_nth_24 : decode cX1_nth 24 = .ok (.getfield 33, 3) := by decide +kernel
theorem dX1_nth_27 : decode cX1_nth 27 = .ok (.if_icmp .ge 30, 3) := by decide +kernel
theorem dX1_nth_30 : decode cX1_nth 30 = .ok (.aload_n 0, 1) := by decide +kernel
theorem dX1_nth_31 : decode cX1_nth 31 = .ok (.getfield 9, 3) := by decide +kernel
theorem dX1_nth_34 : decode cX1_nth 34 = .ok (.iload 4, 2) := by decide +kernel
theorem dX1_nth_36 : decode cX1_nth 36 = .ok (.iaload, 1) := by decide +kernel
theorem dX1_nth_37 : decode cX1_nth 37 = .ok (.iload_n 1, 1) := by decide +kernel
theorem dX1_nth_38 : decode cX1_nth 38 = .ok (.if_icmp .ne 13, 3) := by decide +kernel
theorem dX1_nth_41 : decode cX1_nth 41 = .ok (.iload_n 3, 1) := by decide +kernel
theorem dX1_nth_42 : decode cX1_nth 42 = .ok (.ifCond .ne 6, 3) := by decide +kernel
theorem dX1_nth_45 : decode cX1_nth 45 = .ok (.iload 4, 2) := by decide +kernel
theorem dX1_nth_47 : decode cX1_nth 47 = .ok (.ireturn, 1) := by decide +kernel
theorem dX1_nth_48 : decode cX1_nth 48 = .ok (.iinc 3 (-1), 3) := by decide +kernel
theorem dX1_nth_51 : decode cX1_nth 51 = .ok (.iinc 4 1, 3) := by decide +kernel
theorem dX1_nth_54 : decode cX1_nth 54 = .ok (.goto (-33), 3) := by decide +kernel
theorem dX1_nth_57 : decode cX1_nth 57 = .ok (.iconst (-1), 1) := by decide +kernel
theorem dX1_nth_58 : decode cX1_nth 58 = .ok (.ireturn, 1) := by decide +kernel
theorem dX1_overdue_0 : decode cX1_overdue 0 = .ok (.iconst 0, 1) := by decide +kernel
theorem dX1_overdue_1 : decode cX1_overdue 1 = .ok (.istore_n 2, 1) := by decide +kernel
theorem dX1_overdue_2 : decode cX1_overdue 2 = .ok (.iconst 0, 1) := by decide +kernel
theorem dX1_overdue_3 : decode cX1_overdue 3 = .ok (.istore_n 3, 1) := by decide +kernel
theorem dX1_overdue_4 : decode cX1_overdue 4 = .ok (.iload_n 3, 1) := by decide +kernel
theorem dX1_overdue_5 : decode cX1_overdue 5 = .ok (.aload_n 0, 1) := by decide +kernel
theorem dX1_overdue_6 : decode cX1_overdue 6 = .ok (.getfield 33, 3) := by decide +kernel
theorem dX1_overdue_9 : decode cX1_overdue 9 = .ok (.if_icmp .ge 22, 3) := by decide +kernel
theorem dX1_overdue_12 : decode cX1_overdue 12 = .ok (.aload_n 0, 1) := by decide +kernel
theorem dX1_overdue_13 : decode cX1_overdue 13 = .ok (.getfield 21, 3) := by decide +kernel
theorem dX1_overdue_16 : decode cX1_overdue 16 = .ok (.iload_n 3, 1) := by decide +kernel
theorem dX1_overdue_17 : decode cX1_overdue 17 = .ok (.iaload, 1) := by decide +kernel
theorem dX1_overdue_18 : decode cX1_overdue 18 = .ok (.iload_n 1, 1) := by decide +kernel
theorem dX1_overdue_19 : decode cX1_overdue 19 = .ok (.if_icmp .ge 6, 3) := by decide +kernel
theorem dX1_overdue_22 : decode cX1_overdue 22 = .ok (.iinc 2 1, 3) := by decide +kernel
theorem dX1_overdue_25 : decode cX1_overdue 25 = .ok (.iinc 3 1, 3) := by decide +kernel
theorem dX1_overdue_28 : decode cX1_overdue 28 = .ok (.goto (-24), 3) := by decide +kernel
theorem dX1_overdue_31 : decode cX1_overdue 31 = .ok (.iload_n 2, 1) := by decide +kernel
theorem dX1_overdue_32 : decode cX1_overdue 32 = .ok (.ireturn, 1) := by decide +kernel
theorem dX1_overdueTo_0 : decode cX1_overdueTo 0 = .ok (.iconst 0, 1) := by decide +kernel
theorem dX1_overdueTo_1 : decode cX1_overdueTo 1 = .ok (.istore_n 3, 1) := by decide +kernel
theorem dX1_overdueTo_2 : decode cX1_overdueTo 2 = .ok (.iconst 0, 1) := by decide +kernel
theorem dX1_overdueTo_3 : decode cX1_overdueTo 3 = .ok (.istore 4, 2) := by decide +kernel
theorem dX1_overdueTo_5 : decode cX1_overdueTo 5 = .ok (.iload 4, 2) := by decide +kernel
theorem dX1_overdueTo_7 : decode cX1_overdueTo 7 = .ok (.aload_n 0, 1) := by decide +kernel
theorem dX1_overdueTo_8 : decode cX1_overdueTo 8 = .ok (.getfield 33, 3) := by decide +kernel
theorem dX1_overdueTo_11 : decode cX1_overdueTo 11 = .ok (.if_icmp .ge 34, 3) := by decide +kernel
theorem dX1_overdueTo_14 : decode cX1_overdueTo 14 = .ok (.aload_n 0, 1) := by decide +kernel
theorem dX1_overdueTo_15 : decode cX1_overdueTo 15 = .ok (.getfield 15, 3) := by decide +kernel
theorem dX1_overdueTo_18 : decode cX1_overdueTo 18 = .ok (.iload 4, 2) := by decide +kernel
theorem dX1_overdueTo_20 : decode cX1_overdueTo 20 = .ok (.iaload, 1) := by decide +kernel
theorem dX1_overdueTo_21 : decode cX1_overdueTo 21 = .ok (.iload_n 1, 1) := by decide +kernel
theorem dX1_overdueTo_22 : decode cX1_overdueTo 22 = .ok (.if_icmp .ne 17, 3) := by decide +kernel
theorem dX1_overdueTo_25 : decode cX1_overdueTo 25 = .ok (.aload_n 0, 1) := by decide +kernel
theorem dX1_overdueTo_26 : decode cX1_overdueTo 26 = .ok (.getfield 21, 3) := by decide +kernel
theorem dX1_overdueTo_29 : decode cX1_overdueTo 29 = .ok (.iload 4, 2) := by decide +kernel
theorem dX1_overdueTo_31 : decode cX1_overdueTo 31 = .ok (.iaload, 1) := by decide +kernel
theorem dX1_overdueTo_32 : decode cX1_overdueTo 32 = .ok (.iload_n 2, 1) := by decide +kernel
theorem dX1_overdueTo_33 : decode cX1_overdueTo 33 = .ok (.if_icmp .ge 6, 3) := by decide +kernel
theorem dX1_overdueTo_36 : decode cX1_overdueTo 36 = .ok (.iinc 3 1, 3) := by decide +kernel
theorem dX1_overdueTo_39 : decode cX1_overdueTo 39 = .ok (.iinc 4 1, 3) := by decide +kernel
theorem dX1_overdueTo_42 : decode cX1_overdueTo 42 = .ok (.goto (-37), 3) := by decide +kernel
theorem dX1_overdueTo_45 : decode cX1_overdueTo 45 = .ok (.iload_n 3, 1) := by decide +kernel
theorem dX1_overdueTo_46 : decode cX1_overdueTo 46 = .ok (.ireturn, 1) := by decide +kernel
theorem dX2_init_0 : decode cX2_init 0 = .ok (.aload_n 0, 1) := by decide +kernel
theorem dX2_init_1 : decode cX2_init 1 = .ok (.invokespecial 3, 3) := by decide +kernel
theorem dX2_init_4 : decode cX2_init 4 = .ok (.aload_n 0, 1) := by decide +kernel
theorem dX2_init_5 : decode cX2_init 5 = .ok (.sipush 600, 3) := by decide +kernel
theorem dX2_init_8 : decode cX2_init 8 = .ok (.newarray .int, 2) := by decide +kernel
theorem dX2_init_10 : decode cX2_init 10 = .ok (.putfield 9, 3) := by decide +kernel
theorem dX2_init_13 : decode cX2_init 13 = .ok (.aload_n 0, 1) := by decide +kernel
theorem dX2_init_14 : decode cX2_init 14 = .ok (.sipush 600, 3) := by decide +kernel
theorem dX2_init_17 : decode cX2_init 17 = .ok (.newarray .int, 2) := by decide +kernel
theorem dX2_init_19 : decode cX2_init 19 = .ok (.putfield 15, 3) := by decide +kernel
theorem dX2_init_22 : decode cX2_init 22 = .ok (.aload_n 0, 1) := by decide +kernel
theorem dX2_init_23 : decode cX2_init 23 = .ok (.sipush 600, 3) := by decide +kernel
theorem dX2_init_26 : decode cX2_init 26 = .ok (.newarray .int, 2) := by decide +kernel
theorem dX2_init_28 : decode cX2_init 28 = .ok (.putfield 18, 3) := by decide +kernel
theorem dX2_init_31 : decode cX2_init 31 = .ok (.aload_n 0, 1) := by decide +kernel
theorem dX2_init_32 : decode cX2_init 32 = .ok (.sipush 600, 3) := by decide +kernel
theorem dX2_init_35 : decode cX2_init 35 = .ok (.newarray .int, 2) := by decide +kernel
theorem dX2_init_37 : decode cX2_init 37 = .ok (.putfield 21, 3) := by decide +kernel
theorem dX2_init_40 : decode cX2_init 40 = .ok (.return_, 1) := by decide +kernel
theorem dX2_copy_0 : decode cX2_copy 0 = .ok (.aload_n 0, 1) := by decide +kernel
theorem dX2_copy_1 : decode cX2_copy 1 = .ok (.aload_n 1, 1) := by decide +kernel
theorem dX2_copy_2 : decode cX2_copy 2 = .ok (.getfield 24, 3) := by decide +kernel
theorem dX2_copy_5 : decode cX2_copy 5 = .ok (.putfield 24, 3) := by decide +kernel
theorem dX2_copy_8 : decode cX2_copy 8 = .ok (.aload_n 1, 1) := by decide +kernel
theorem dX2_copy_9 : decode cX2_copy 9 = .ok (.getfield 9, 3) := by decide +kernel
theorem dX2_copy_12 : decode cX2_copy 12 = .ok (.iconst 0, 1) := by decide +kernel
theorem dX2_copy_13 : decode cX2_copy 13 = .ok (.aload_n 0, 1) := by decide +kernel
theorem dX2_copy_14 : decode cX2_copy 14 = .ok (.getfield 9, 3) := by decide +kernel
theorem dX2_copy_17 : decode cX2_copy 17 = .ok (.iconst 0, 1) := by decide +kernel
theorem dX2_copy_18 : decode cX2_copy 18 = .ok (.aload_n 0, 1) := by decide +kernel
theorem dX2_copy_19 : decode cX2_copy 19 = .ok (.getfield 24, 3) := by decide +kernel
theorem dX2_copy_22 : decode cX2_copy 22 = .ok (.invokestatic 28, 3) := by decide +kernel
theorem dX2_copy_25 : decode cX2_copy 25 = .ok (.aload_n 1, 1) := by decide +kernel
theorem dX2_copy_26 : decode cX2_copy 26 = .ok (.getfield 15, 3) := by decide +kernel
theorem dX2_copy_29 : decode cX2_copy 29 = .ok (.iconst 0, 1) := by decide +kernel
theorem dX2_copy_30 : decode cX2_copy 30 = .ok (.aload_n 0, 1) := by decide +kernel
theorem dX2_copy_31 : decode cX2_copy 31 = .ok (.getfield 15, 3) := by decide +kernel
theorem dX2_copy_34 : decode cX2_copy 34 = .ok (.iconst 0, 1) := by decide +kernel
theorem dX2_copy_35 : decode cX2_copy 35 = .ok (.aload_n 0, 1) := by decide +kernel
theorem dX2_copy_36 : decode cX2_copy 36 = .ok (.getfield 24, 3) := by decide +kernel
theorem dX2_copy_39 : decode cX2_copy 39 = .ok (.invokestatic 28, 3) := by decide +kernel
theorem dX2_copy_42 : decode cX2_copy 42 = .ok (.aload_n 1, 1) := by decide +kernel
theorem dX2_copy_43 : decode cX2_copy 43 = .ok (.getfield 18, 3) := by decide +kernel
theorem dX2_copy_46 : decode cX2_copy 46 = .ok (.iconst 0, 1) := by decide +kernel
theorem dX2_copy_47 : decode cX2_copy 47 = .ok (.aload_n 0, 1) := by decide +kernel
theorem dX2_copy_48 : decode cX2_copy 48 = .ok (.getfield 18, 3) := by decide +kernel
theorem dX2_copy_51 : decode cX2_copy 51 = .ok (.iconst 0, 1) := by decide +kernel
theorem dX2_copy_52 : decode cX2_copy 52 = .ok (.aload_n 0, 1) := by decide +kernel
theorem dX2_copy_53 : decode cX2_copy 53 = .ok (.getfield 24, 3) := by decide +kernel
theorem dX2_copy_56 : decode cX2_copy 56 = .ok (.invokestatic 28, 3) := by decide +kernel
theorem dX2_copy_59 : decode cX2_copy 59 = .ok (.aload_n 1, 1) := by decide +kernel
theorem dX2_copy_60 : decode cX2_copy 60 = .ok (.getfield 21, 3) := by decide +kernel
theorem dX2_copy_63 : decode cX2_copy 63 = .ok (.iconst 0, 1) := by decide +kernel
theorem dX2_copy_64 : decode cX2_copy 64 = .ok (.aload_n 0, 1) := by decide +kernel
theorem dX2_copy_65 : decode cX2_copy 65 = .ok (.getfield 21, 3) := by decide +kernel
theorem dX2_copy_68 : decode cX2_copy 68 = .ok (.iconst 0, 1) := by decide +kernel
theorem dX2_copy_69 : decode cX2_copy 69 = .ok (.aload_n 0, 1) := by decide +kernel
theorem dX2_copy_70 : decode cX2_copy 70 = .ok (.getfield 24, 3) := by decide +kernel
theorem dX2_copy_73 : decode cX2_copy 73 = .ok (.invokestatic 28, 3) := by decide +kernel
theorem dX2_copy_76 : decode cX2_copy 76 = .ok (.return_, 1) := by decide +kernel
theorem dX2_isFull_0 : decode cX2_isFull 0 = .ok (.aload_n 0, 1) := by decide +kernel
theorem dX2_isFull_1 : decode cX2_isFull 1 = .ok (.getfield 24, 3) := by decide +kernel
theorem dX2_isFull_4 : decode cX2_isFull 4 = .ok (.sipush 600, 3) := by decide +kernel
theorem dX2_isFull_7 : decode cX2_isFull 7 = .ok (.if_icmp .lt 7, 3) := by decide +kernel
theorem dX2_isFull_10 : decode cX2_isFull 10 = .ok (.iconst 1, 1) := by decide +kernel
theorem dX2_isFull_11 : decode cX2_isFull 11 = .ok (.goto 4, 3) := by decide +kernel
theorem dX2_isFull_14 : decode cX2_isFull 14 = .ok (.iconst 0, 1) := by decide +kernel
theorem dX2_isFull_15 : decode cX2_isFull 15 = .ok (.ireturn, 1) := by decide +kernel
theorem dX2_add_0 : decode cX2_add 0 = .ok (.aload_n 0, 1) := by decide +kernel
theorem dX2_add_1 : decode cX2_add 1 = .ok (.getfield 24, 3) := by decide +kernel
theorem dX2_add_4 : decode cX2_add 4 = .ok (.sipush 600, 3) := by decide +kernel
theorem dX2_add_7 : decode cX2_add 7 = .ok (.if_icmp .ge 54, 3) := by decide +kernel
theorem dX2_add_10 : decode cX2_add 10 = .ok (.aload_n 0, 1) := by decide +kernel
theorem dX2_add_11 : decode cX2_add 11 = .ok (.getfield 9, 3) := by decide +kernel
theorem dX2_add_14 : decode cX2_add 14 = .ok (.aload_n 0, 1) := by decide +kernel
theorem dX2_add_15 : decode cX2_add 15 = .ok (.getfield 24, 3) := by decide +kernel
theorem dX2_add_18 : decode cX2_add 18 = .ok (.iload_n 1, 1) := by decide +kernel
theorem dX2_add_19 : decode cX2_add 19 = .ok (.iastore, 1) := by decide +kernel
theorem dX2_add_20 : decode cX2_add 20 = .ok (.aload_n 0, 1) := by decide +kernel
