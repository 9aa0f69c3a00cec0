theorem dX0_clear_0 : decode cX0_clear 0 = .ok (.aload_n 0, 1) := by decide +kernel
theorem dX0_clear_1 : decode cX0_clear 1 = .ok (.iconst 0, 1) := by decide +kernel
theorem dX0_clear_2 : decode cX0_clear 2 = .ok (.putfield 33, 3) := by decide +kernel
theorem dX0_clear_5 : decode cX0_clear 5 = .ok (.aload_n 0, 1) := by decide +kernel
theorem dX0_clear_6 : decode cX0_clear 6 = .ok (.iconst 0, 1) := by decide +kernel
theorem dX0_clear_7 : decode cX0_clear 7 = .ok (.putfield 37, 3) := by decide +kernel
theorem dX0_clear_10 : decode cX0_clear 10 = .ok (.return_, 1) := by decide +kernel
theorem dX0_put_0 : decode cX0_put 0 = .ok (.aload_n 0, 1) := by decide +kernel
theorem dX0_put_1 : decode cX0_put 1 = .ok (.getfield 37, 3) := by decide +kernel
theorem dX0_put_4 : decode cX0_put 4 = .ok (.sipush 700, 3) := by decide +kernel
theorem dX0_put_7 : decode cX0_put 7 = .ok (.if_icmp .ge 23, 3) := by decide +kernel
theorem dX0_put_10 : decode cX0_put 10 = .ok (.aload_n 0, 1) := by decide +kernel
theorem dX0_put_11 : decode cX0_put 11 = .ok (.getfield 27, 3) := by decide +kernel
theorem dX0_put_14 : decode cX0_put 14 = .ok (.aload_n 0, 1) := by decide +kernel
theorem dX0_put_15 : decode cX0_put 15 = .ok (.getfield 37, 3) := by decide +kernel
theorem dX0_put_18 : decode cX0_put 18 = .ok (.iload_n 1, 1) := by decide +kernel
theorem dX0_put_19 : decode cX0_put 19 = .ok (.iastore, 1) := by decide +kernel
theorem dX0_put_20 : decode cX0_put 20 = .ok (.aload_n 0, 1) := by decide +kernel
theorem dX0_put_21 : decode cX0_put 21 = .ok (.dup, 1) := by decide +kernel
theorem dX0_put_22 : decode cX0_put 22 = .ok (.getfield 37, 3) := by decide +kernel
theorem dX0_put_25 : decode cX0_put 25 = .ok (.iconst 1, 1) := by decide +kernel
theorem dX0_put_26 : decode cX0_put 26 = .ok (.iadd, 1) := by decide +kernel
theorem dX0_put_27 : decode cX0_put 27 = .ok (.putfield 37, 3) := by decide +kernel
theorem dX0_put_30 : decode cX0_put 30 = .ok (.return_, 1) := by decide +kernel
theorem dX0_partOf_0 : decode cX0_partOf 0 = .ok (.iload_n 1, 1) := by decide +kernel
theorem dX0_partOf_1 : decode cX0_partOf 1 = .ok (.sipush 1000, 3) := by decide +kernel
theorem dX0_partOf_4 : decode cX0_partOf 4 = .ok (.if_icmp .ge 5, 3) := by decide +kernel
theorem dX0_partOf_7 : decode cX0_partOf 7 = .ok (.iload_n 1, 1) := by decide +kernel
theorem dX0_partOf_8 : decode cX0_partOf 8 = .ok (.ireturn, 1) := by decide +kernel
theorem dX0_partOf_9 : decode cX0_partOf 9 = .ok (.iload_n 1, 1) := by decide +kernel
theorem dX0_partOf_10 : decode cX0_partOf 10 = .ok (.sipush 1000, 3) := by decide +kernel
theorem dX0_partOf_13 : decode cX0_partOf 13 = .ok (.isub, 1) := by decide +kernel
theorem dX0_partOf_14 : decode cX0_partOf 14 = .ok (.iconst 5, 1) := by decide +kernel
theorem dX0_partOf_15 : decode cX0_partOf 15 = .ok (.if_icmp .ge 16, 3) := by decide +kernel
theorem dX0_partOf_18 : decode cX0_partOf 18 = .ok (.aload_n 0, 1) := by decide +kernel
theorem dX0_partOf_19 : decode cX0_partOf 19 = .ok (.getfield 30, 3) := by decide +kernel
theorem dX0_partOf_22 : decode cX0_partOf 22 = .ok (.iload_n 1, 1) := by decide +kernel
theorem dX0_partOf_23 : decode cX0_partOf 23 = .ok (.sipush 1000, 3) := by decide +kernel
theorem dX0_partOf_26 : decode cX0_partOf 26 = .ok (.isub, 1) := by decide +kernel
theorem dX0_partOf_27 : decode cX0_partOf 27 = .ok (.iaload, 1) := by decide +kernel
theorem dX0_partOf_28 : decode cX0_partOf 28 = .ok (.goto 4, 3) := by decide +kernel
theorem dX0_partOf_31 : decode cX0_partOf 31 = .ok (.iconst 0, 1) := by decide +kernel
theorem dX0_partOf_32 : decode cX0_partOf 32 = .ok (.ireturn, 1) := by decide +kernel
theorem dX1_kindsOf_0 : decode cX1_kindsOf 0 = .ok (.aload_n 0, 1) := by decide +kernel
theorem dX1_kindsOf_1 : decode cX1_kindsOf 1 = .ok (.getfield 30, 3) := by decide +kernel
theorem dX1_kindsOf_4 : decode cX1_kindsOf 4 = .ok (.iload_n 1, 1) := by decide +kernel
theorem dX1_kindsOf_5 : decode cX1_kindsOf 5 = .ok (.bipush 16, 2) := by decide +kernel
theorem dX1_kindsOf_7 : decode cX1_kindsOf 7 = .ok (.imul, 1) := by decide +kernel
theorem dX1_kindsOf_8 : decode cX1_kindsOf 8 = .ok (.iload_n 2, 1) := by decide +kernel
theorem dX1_kindsOf_9 : decode cX1_kindsOf 9 = .ok (.iadd, 1) := by decide +kernel
theorem dX1_kindsOf_10 : decode cX1_kindsOf 10 = .ok (.iaload, 1) := by decide +kernel
theorem dX1_kindsOf_11 : decode cX1_kindsOf 11 = .ok (.ireturn, 1) := by decide +kernel
theorem dX1_add_0 : decode cX1_add 0 = .ok (.aload_n 0, 1) := by decide +kernel
theorem dX1_add_1 : decode cX1_add 1 = .ok (.getfield 33, 3) := by decide +kernel
theorem dX1_add_4 : decode cX1_add 4 = .ok (.sipush 600, 3) := by decide +kernel
theorem dX1_add_7 : decode cX1_add 7 = .ok (.if_icmp .lt 4, 3) := by decide +kernel
theorem dX1_add_10 : decode cX1_add 10 = .ok (.return_, 1) := by decide +kernel
theorem dX1_add_11 : decode cX1_add 11 = .ok (.aload_n 0, 1) := by decide +kernel
theorem dX1_add_12 : decode cX1_add 12 = .ok (.getfield 9, 3) := by decide +kernel
theorem dX1_add_15 : decode cX1_add 15 = .ok (.aload_n 0, 1) := by decide +kernel
theorem dX1_add_16 : decode cX1_add 16 = .ok (.getfield 33, 3) := by decide +kernel
theorem dX1_add_19 : decode cX1_add 19 = .ok (.iload_n 1, 1) := by decide +kernel
theorem dX1_add_20 : decode cX1_add 20 = .ok (.iastore, 1) := by decide +kernel
theorem dX1_add_21 : decode cX1_add 21 = .ok (.aload_n 0, 1) := by decide +kernel
theorem dX1_add_22 : decode cX1_add 22 = .ok (.getfield 15, 3) := by decide +kernel
theorem dX1_add_25 : decode cX1_add 25 = .ok (.aload_n 0, 1) := by decide +kernel
theorem dX1_add_26 : decode cX1_add 26 = .ok (.getfield 33, 3) := by decide +kernel
theorem dX1_add_29 : decode cX1_add 29 = .ok (.iload_n 2, 1) := by decide +kernel
theorem dX1_add_30 : decode cX1_add 30 = .ok (.iastore, 1) := by decide +kernel
theorem dX1_add_31 : decode cX1_add 31 = .ok (.aload_n 0, 1) := by decide +kernel
theorem dX1_add_32 : decode cX1_add 32 = .ok (.getfield 18, 3) := by decide +kernel
theorem dX1_add_35 : decode cX1_add 35 = .ok (.aload_n 0, 1) := by decide +kernel
theorem dX1_add_36 : decode cX1_add 36 = .ok (.getfield 33, 3) := by decide +kernel
theorem dX1_add_39 : decode cX1_add 39 = .ok (.iload_n 3, 1) := by decide +kernel
theorem dX1_add_40 : decode cX1_add 40 = .ok (.iastore, 1) := by decide +kernel
theorem dX1_add_41 : decode cX1_add 41 = .ok (.aload_n 0, 1) := by decide +kernel
theorem dX1_add_42 : decode cX1_add 42 = .ok (.getfield 21, 3) := by decide +kernel
theorem dX1_add_45 : decode cX1_add 45 = .ok (.aload_n 0, 1) := by decide +kernel
theorem dX1_add_46 : decode cX1_add 46 = .ok (.getfield 33, 3) := by decide +kernel
theorem dX1_add_49 : decode cX1_add 49 = .ok (.iload 4, 2) := by decide +kernel
theorem dX1_add_51 : decode cX1_add 51 = .ok (.iastore, 1) := by decide +kernel
theorem dX1_add_52 : decode cX1_add 52 = .ok (.aload_n 0, 1) := by decide +kernel
theorem dX1_add_53 : decode cX1_add 53 = .ok (.getfield 24, 3) := by decide +kernel
theorem dX1_add_56 : decode cX1_add 56 = .ok (.aload_n 0, 1) := by decide +kernel
theorem dX1_add_57 : decode cX1_add 57 = .ok (.getfield 33, 3) := by decide +kernel
theorem dX1_add_60 : decode cX1_add 60 = .ok (.iload 5, 2) := by decide +kernel
theorem dX1_add_62 : decode cX1_add 62 = .ok (.iastore, 1) := by decide +kernel
theorem dX1_add_63 : decode cX1_add 63 = .ok (.aload_n 0, 1) := by decide +kernel
theorem dX1_add_64 : decode cX1_add 64 = .ok (.dup, 1) := by decide +kernel
theorem dX1_add_65 : decode cX1_add 65 = .ok (.getfield 33, 3) := by decide +kernel
theorem dX1_add_68 : decode cX1_add 68 = .ok (.iconst 1, 1) := by decide +kernel
theorem dX1_add_69 : decode cX1_add 69 = .ok (.iadd, 1) := by decide +kernel
theorem dX1_add_70 : decode cX1_add 70 = .ok (.putfield 33, 3) := by decide +kernel
theorem dX1_add_73 : decode cX1_add 73 = .ok (.aload_n 0, 1) := by decide +kernel
theorem dX1_add_74 : decode cX1_add 74 = .ok (.getfield 27, 3) := by decide +kernel
theorem dX1_add_77 : decode cX1_add 77 = .ok (.iload_n 1, 1) := by decide +kernel
theorem dX1_add_78 : decode cX1_add 78 = .ok (.dup2, 1) := by decide +kernel
theorem dX1_add_79 : decode cX1_add 79 = .ok (.iaload, 1) := by decide +kernel
theorem dX1_add_80 : decode cX1_add 80 = .ok (.iconst 1, 1) := by decide +kernel
theorem dX1_add_81 : decode cX1_add 81 = .ok (.iadd, 1) := by decide +kernel
theorem dX1_add_82 : decode cX1_add 82 = .ok (.iastore, 1) := by decide +kernel
theorem dX1_add_83 : decode cX1_add 83 = .ok (.aload_n 0, 1) := by decide +kernel
theorem dX1_add_84 : decode cX1_add 84 = .ok (.getfield 30, 3) := by decide +kernel
theorem dX1_add_87 : decode cX1_add 87 = .ok (.iload_n 1, 1) := by decide +kernel
theorem dX1_add_88 : decode cX1_add 88 = .ok (.bipush 16, 2) := by decide +kernel
theorem dX1_add_90 : decode cX1_add 90 = .ok (.imul, 1) := by decide +kernel
theorem dX1_add_91 : decode cX1_add 91 = .ok (.iload_n 2, 1) := by decide +kernel
theorem dX1_add_92 : decode cX1_add 92 = .ok (.iadd, 1) := by decide +kernel
theorem dX1_add_93 : decode cX1_add 93 = .ok (.dup2, 1) := by decide +kernel
theorem dX1_add_94 : decode cX1_add 94 = .ok (.iaload, 1) := by decide +kernel
theorem dX1_add_95 : decode cX1_add 95 = .ok (.iconst 1, 1) := by decide +kernel
theorem dX1_add_96 : decode cX1_add 96 = .ok (.iload_n 3, 1) := by decide +kernel
theorem dX1_add_97 : decode cX1_add 97 = .ok (.ishl, 1) := by decide +kernel
theorem dX1_add_98 : decode cX1_add 98 = .ok (.ior, 1) := by decide +kernel
theorem dX1_add_99 : decode cX1_add 99 = .ok (.iastore, 1) := by decide +kernel
theorem dX1_add_100 : decode cX1_add 100 = .ok (.return_, 1) := by decide +kernel
theorem dX1_move_0 : decode cX1_move 0 = .ok (.aload_n 0, 1) := by decide +kernel
theorem dX1_move_1 : decode cX1_move 1 = .ok (.getfield 9, 3) := by decide +kernel
theorem dX1_move_4 : decode cX1_move 4 = .ok (.iload_n 2, 1) := by decide +kernel
theorem dX1_move_5 : decode cX1_move 5 = .ok (.aload_n 0, 1) := by decide +kernel
theorem dX1_move_6 : decode cX1_move 6 = .ok (.getfield 9, 3) := by decide +kernel
theorem dX1_move_9 : decode cX1_move 9 = .ok (.iload_n 1, 1) := by decide +kernel
theorem dX1_move_10 : decode cX1_move 10 = .ok (.iaload, 1) := by decide +kernel
theorem dX1_move_11 : decode cX1_move 11 = .ok (.iastore, 1) := by decide +kernel
theorem dX1_move_12 : decode cX1_move 12 = .ok (.aload_n 0, 1) := by decide +kernel
theorem dX1_move_13 : decode cX1_move 13 = .ok (.getfield 15, 3) := by decide +kernel
theorem dX1_move_16 : decode cX1_move 16 = .ok (.iload_n 2, 1) := by decide +kernel
theorem dX1_move_17 : decode cX1_move 17 = .ok (.aload_n 0, 1) := by decide +kernel
theorem dX1_move_18 : decode cX1_move 18 = .ok (.getfield 15, 3) := by decide +kernel
theorem dX1_move_21 : decode cX1_move 21 = .ok (.iload_n 1, 1) := by decide +kernel
theorem dX1_move_22 : decode cX1_move 22 = .ok (.iaload, 1) := by decide +kernel
theorem dX1_move_23 : decode cX1_move 23 = .ok (.iastore, 1) := by decide +kernel
theorem dX1_move_24 : decode cX1_move 24 = .ok (.aload_n 0, 1) := by decide +kernel
theorem dX1_move_25 : decode cX1_move 25 = .ok (.getfield 18, 3) := by decide +kernel
theorem dX1_move_28 : decode cX1_move 28 = .ok (.iload_n 2, 1) := by decide +kernel
theorem dX1_move_29 : decode cX1_move 29 = .ok (.aload_n 0, 1) := by decide +kernel
theorem dX1_move_30 : decode cX1_move 30 = .ok (.getfield 18, 3) := by decide +kernel
theorem dX1_move_33 : decode cX1_move 33 = .ok (.iload_n 1, 1) := by decide +kernel
theorem dX1_move_34 : decode cX1_move 34 = .ok (.iaload, 1) := by decide +kernel
theorem dX1_move_35 : decode cX1_move 35 = .ok (.iastore, 1) := by decide +kernel
theorem dX1_move_36 : decode cX1_move 36 = .ok (.aload_n 0, 1) := by decide +kernel
theorem dX1_move_37 : decode cX1_move 37 = .ok (.getfield 21, 3) := by decide +kernel
theorem dX1_move_40 : decode cX1_move 40 = .ok (.iload_n 2, 1) := by decide +kernel
theorem dX1_move_41 : decode cX1_move 41 = .ok (.aload_n 0, 1) := by decide +kernel
theorem dX1_move_42 : decode cX1_move 42 = .ok (.getfield 21, 3) := by decide +kernel
theorem dX1_move_45 : decode cX1_move 45 = .ok (.iload_n 1, 1) := by decide +kernel
theorem dX1_move_46 : decode cX1_move 46 = .ok (.iaload, 1) := by decide +kernel
theorem dX1_move_47 : decode cX1_move 47 = .ok (.iastore, 1) := by decide +kernel
theorem dX1_move_48 : decode cX1_move 48 = .ok (.aload_n 0, 1) := by decide +kernel
theorem dX1_move_49 : decode cX1_move 49 = .ok (.getfield 24, 3) := by decide +kernel
theorem dX1_move_52 : decode cX1_move 52 = .ok (.iload_n 2, 1) := by decide +kernel
theorem dX1_move_53 : decode cX1_move 53 = .ok (.aload_n 0, 1) := by decide +kernel
theorem dX1_move_54 : decode cX1_move 54 = .ok (.getfield 24, 3) := by decide +kernel
theorem dX1_move_57 : decode cX1_move 57 = .ok (.iload_n 1, 1) := by decide +kernel
theorem dX1_move_58 : decode cX1_move 58 = .ok (.iaload, 1) := by decide +kernel
theorem dX1_move_59 : decode cX1_move 59 = .ok (.iastore, 1) := by decide +kernel
theorem dX1_move_60 : decode cX1_move 60 = .ok (.return_, 1) := by decide +kernel
theorem dX1_nth_0 : decode cX1_nth 0 = .ok (.iload_n 2, 1) := by decide +kernel
theorem dX1_nth_1 : decode cX1_nth 1 = .ok (.ifCond .lt 13, 3) := by decide +kernel
theorem dX1_nth_4 : decode cX1_nth 4 = .ok (.iload_n 2, 1) := by decide +kernel
theorem dX1_nth_5 : decode cX1_nth 5 = .ok (.aload_n 0, 1) := by decide +kernel
theorem dX1_nth_6 : decode cX1_nth 6 = .ok (.getfield 27, 3) := by decide +kernel
theorem dX1_nth_9 : decode cX1_nth 9 = .ok (.iload_n 1, 1) := by decide +kernel
theorem dX1_nth_10 : decode cX1_nth 10 = .ok (.iaload, 1) := by decide +kernel
theorem dX1_nth_11 : decode cX1_nth 11 = .ok (.if_icmp .lt 5, 3) := by decide +kernel
theorem dX1_nth_14 : decode cX1_nth 14 = .ok (.iconst (-1), 1) := by decide +kernel
theorem dX1_nth_15 : decode cX1_nth 15 = .ok (.ireturn, 1) := by decide +kernel
theorem dX1_nth_16 : decode cX1_nth 16 = .ok (.iload_n 2, 1) := by decide +kernel
theorem dX1_nth_17 : decode cX1_nth 17 = .ok (.istore_n 3, 1) := by decide +kernel
theorem dX1_nth_18 : decode cX1_nth 18 = .ok (.iconst 0, 1) := by decide +kernel
theorem dX1_nth_19 : decode cX1_nth 19 = .ok (.istore 4, 2) := by decide +kernel
theorem dX1_nth_21 : decode cX1_nth 21 = .ok (.iload 4, 2) := by decide +kernel
theorem dX1_nth_23 : decode cX1_nth 23 = .ok (.aload_n 0, 1) := by decide +kernel
theorem dX1_nth_24 : decode cX1_nth 24 = .ok (.getfield 33, 3) := by decide +kernel
theorem dX1_nth_27 : decode cX1_nth 27 = .ok (.if_icmp .ge 30, 3) := by decide +kernel
theorem dX1_nth_30 : decode cX1_nth 30 = .ok (.aload_n 0, 1) := by decide +kernel
theorem dX1_nth_31 : decode cX1_nth 31 = .ok (.getfield 9, 3) := by decide +kernel
theorem dX1_nth_34 : decode cX1_nth 34 = .ok (.iload 4, 2) := by decide +kernel
theorem dX1_nth_36 : decode cX1_nth 36 = .ok (.iaload, 1) := by decide +kernel
theorem dX1_nth_37 : decode cX1_nth 37 = .ok (.iload_n 1, 1) := by decide +kernel
theorem dX1_nth_38 : decode cX1_nth 38 = .ok (.if_icmp .ne 13, 3) := by decide +kernel
theorem dX1_nth_41 : decode cX1_nth 41 = .ok (.iload_n 3, 1) := by decide +kernel
theorem dX1_nth_42 : decode cX1_nth 42 = .ok (.ifCond .ne 6, 3) := by decide +kernel
theorem dX1_nth_45 : decode cX1_nth 45 = .ok (.iload 4, 2) := by decide +kernel
theorem dX1_nth_47 : decode cX1_nth 47 = .ok (.ireturn, 1) := by decide +kernel
theorem dX1_nth_48 : decode cX1_nth 48 = .ok (.iinc 3 (-1), 3) := by decide +kernel
theorem dX1_nth_51 : decode cX1_nth 51 = .ok (.iinc 4 1, 3) := by decide +kernel
theorem dX1_nth_54 : decode cX1_nth 54 = .ok (.goto (-33), 3) := by decide +kernel
theorem dX1_nth_57 : decode cX1_nth 57 = .ok (.iconst (-1), 1) := by decide +kernel
theorem dX1_nth_58 : decode cX1_nth 58 = .ok (.ireturn, 1) := by decide +kernel
theorem dX1_overdue_0 : decode cX1_overdue 0 = .ok (.iconst 0, 1) := by decide +kernel
theorem dX1_overdue_1 : decode cX1_overdue 1 = .ok (.istore_n 2, 1) := by decide +kernel
theorem dX1_overdue_2 : decode cX1_overdue 2 = .ok (.iconst 0, 1) := by decide +kernel
theorem dX1_overdue_3 : decode cX1_overdue 3 = .ok (.istore_n 3, 1) := by decide +kernel
theorem dX1_overdue_4 : decode cX1_overdue 4 = .ok (.iload_n 3, 1) := by decide +kernel
theorem dX1_overdue_5 : decode cX1_overdue 5 = .ok (.aload_n 0, 1) := by decide +kernel
theorem dX1_overdue_6 : decode cX1_overdue 6 = .ok (.getfield 33, 3) := by decide +kernel
theorem dX1_overdue_9 : decode cX1_overdue 9 = .ok (.if_icmp .ge 22, 3) := by decide +kernel
theorem dX1_overdue_12 : decode cX1_overdue 12 = .ok (.aload_n 0, 1) := by decide +kernel
theorem dX1_overdue_13 : decode cX1_overdue 13 = .ok (.getfield 21, 3) := by decide +kernel
theorem dX1_overdue_16 : decode cX1_overdue 16 = .ok (.iload_n 3, 1) := by decide +kernel
theorem dX1_overdue_17 : decode cX1_overdue 17 = .ok (.iaload, 1) := by decide +kernel
theorem dX1_overdue_18 : decode cX1_overdue 18 = .ok (.iload_n 1, 1) := by decide +kernel
theorem dX1_overdue_19 : decode cX1_overdue 19 = .ok (.if_icmp .ge 6, 3) := by decide +kernel
theorem dX1_overdue_22 : decode cX1_overdue 22 = .ok (.iinc 2 1, 3) := by decide +kernel
theorem dX1_overdue_25 : decode cX1_overdue 25 = .ok (.iinc 3 1, 3) := by decide +kernel
theorem dX1_overdue_28 : decode cX1_overdue 28 = .ok (.goto (-24), 3) := by decide +kernel
theorem dX1_overdue_31 : decode cX1_overdue 31 = .ok (.iload_n 2, 1) := by decide +kernel
theorem dX1_overdue_32 : decode cX1_overdue 32 = .ok (.ireturn, 1) := by decide +kernel
theorem dX1_overdueTo_0 : decode cX1_overdueTo 0 = .ok (.iconst 0, 1) := by decide +kernel
theorem dX1_overdueTo_1 : decode cX1_overdueTo 1 = .ok (.istore_n 3, 1) := by decide +kernel
theorem dX1_overdueTo_2 : decode cX1_overdueTo 2 = .ok (.iconst 0, 1) := by decide +kernel
theorem dX1_overdueTo_3 : decode cX1_overdueTo 3 = .ok (.istore 4, 2) := by decide +kernel
theorem dX1_overdueTo_5 : decode cX1_overdueTo 5 = .ok (.iload 4, 2) := by decide +kernel
theorem dX1_overdueTo_7 : decode cX1_overdueTo 7 = .ok (.aload_n 0, 1) := by decide +kernel
theorem dX1_overdueTo_8 : decode cX1_overdueTo 8 = .ok (.getfield 33, 3) := by decide +kernel
theorem dX1_overdueTo_11 : decode cX1_overdueTo 11 = .ok (.if_icmp .ge 34, 3) := by decide +kernel
theorem dX1_overdueTo_14 : decode cX1_overdueTo 14 = .ok (.aload_n 0, 1) := by decide +kernel
theorem dX1_overdueTo_15 : decode cX1_overdueTo 15 = .ok (.getfield 15, 3) := by decide +kernel
theorem dX1_overdueTo_18 : decode cX1_overdueTo 18 = .ok (.iload 4, 2) := by decide +kernel
theorem dX1_overdueTo_20 : decode cX1_overdueTo 20 = .ok (.iaload, 1) := by decide +kernel
theorem dX1_overdueTo_21 : decode cX1_overdueTo 21 = .ok (.iload_n 1, 1) := by decide +kernel
theorem dX1_overdueTo_22 : decode cX1_overdueTo 22 = .ok (.if_icmp .ne 17, 3) := by decide +kernel
theorem dX1_overdueTo_25 : decode cX1_overdueTo 25 = .ok (.aload_n 0, 1) := by decide +kernel
theorem dX1_overdueTo_26 : decode cX1_overdueTo 26 = .ok (.getfield 21, 3) := by decide +kernel
theorem dX1_overdueTo_29 : decode cX1_overdueTo 29 = .ok (.iload 4, 2) := by decide +kernel
theorem dX1_overdueTo_31 : decode cX1_overdueTo 31 = .ok (.iaload, 1) := by decide +kernel
theorem dX1_overdueTo_32 : decode cX1_overdueTo 32 = .ok (.iload_n 2, 1) := by decide +kernel
theorem dX1_overdueTo_33 : decode cX1_overdueTo 33 = .ok (.if_icmp .ge 6, 3) := by decide +kernel
theorem dX1_overdueTo_36 : decode cX1_overdueTo 36 = .ok (.iinc 3 1, 3) := by decide +kernel
theorem dX1_overdueTo_39 : decode cX1_overdueTo 39 = .ok (.iinc 4 1, 3) := by decide +kernel
theorem dX1_overdueTo_42 : decode cX1_overdueTo 42 = .ok (.goto (-37), 3) := by decide +kernel
theorem dX1_overdueTo_45 : decode cX1_overdueTo 45 = .ok (.iload_n 3, 1) := by decide +kernel
theorem dX1_overdueTo_46 : decode cX1_overdueTo 46 = .ok (.ireturn, 1) := by decide +kernel
theorem dX2_isFull_0 : decode cX2_isFull 0 = .ok (.aload_n 0, 1) := by decide +kernel
theorem dX2_isFull_1 : decode cX2_isFull 1 = .ok (.getfield 24, 3) := by decide +kernel
theorem dX2_isFull_4 : decode cX2_isFull 4 = .ok (.sipush 600, 3) := by decide +kernel
theorem dX2_isFull_7 : decode cX2_isFull 7 = .ok (.if_icmp .lt 7, 3) := by decide +kernel
theorem dX2_isFull_10 : decode cX2_isFull 10 = .ok (.iconst 1, 1) := by decide +kernel
theorem dX2_isFull_11 : decode cX2_isFull 11 = .ok (.goto 4, 3) := by decide +kernel
theorem dX2_isFull_14 : decode cX2_isFull 14 = .ok (.iconst 0, 1) := by decide +kernel
theorem dX2_isFull_15 : decode cX2_isFull 15 = .ok (.ireturn, 1) := by decide +kernel
theorem dX2_add_0 : decode cX2_add 0 = .ok (.aload_n 0, 1) := by decide +kernel
theorem dX2_add_1 : decode cX2_add 1 = .ok (.getfield 24, 3) := by decide +kernel
theorem dX2_add_4 : decode cX2_add 4 = .ok (.sipush 600, 3) := by decide +kernel
theorem dX2_add_7 : decode cX2_add 7 = .ok (.if_icmp .ge 54, 3) := by decide +kernel
theorem dX2_add_10 : decode cX2_add 10 = .ok (.aload_n 0, 1) := by decide +kernel
theorem dX2_add_11 : decode cX2_add 11 = .ok (.getfield 9, 3) := by decide +kernel
theorem dX2_add_14 : decode cX2_add 14 = .ok (.aload_n 0, 1) := by decide +kernel
theorem dX2_add_15 : decode cX2_add 15 = .ok (.getfield 24, 3) := by decide +kernel
theorem dX2_add_18 : decode cX2_add 18 = .ok (.iload_n 1, 1) := by decide +kernel
theorem dX2_add_19 : decode cX2_add 19 = .ok (.iastore, 1) := by decide +kernel
theorem dX2_add_20 : decode cX2_add 20 = .ok (.aload_n 0, 1) := by decide +kernel
theorem dX2_add_21 : decode cX2_add 21 = .ok (.getfield 15, 3) := by decide +kernel
theorem dX2_add_24 : decode cX2_add 24 = .ok (.aload_n 0, 1) := by decide +kernel
theorem dX2_add_25 : decode cX2_add 25 = .ok (.getfield 24, 3) := by decide +kernel
theorem dX2_add_28 : decode cX2_add 28 = .ok (.iload_n 2, 1) := by decide +kernel
theorem dX2_add_29 : decode cX2_add 29 = .ok (.iastore, 1) := by decide +kernel
theorem dX2_add_30 : decode cX2_add 30 = .ok (.aload_n 0, 1) := by decide +kernel
theorem dX2_add_31 : decode cX2_add 31 = .ok (.getfield 18, 3) := by decide +kernel
theorem dX2_add_34 : decode cX2_add 34 = .ok (.aload_n 0, 1) := by decide +kernel
theorem dX2_add_35 : decode cX2_add 35 = .ok (.getfield 24, 3) := by decide +kernel
theorem dX2_add_38 : decode cX2_add 38 = .ok (.iload_n 3, 1) := by decide +kernel
theorem dX2_add_39 : decode cX2_add 39 = .ok (.iastore, 1) := by decide +kernel
theorem dX2_add_40 : decode cX2_add 40 = .ok (.aload_n 0, 1) := by decide +kernel
theorem dX2_add_41 : decode cX2_add 41 = .ok (.getfield 21, 3) := by decide +kernel
theorem dX2_add_44 : decode cX2_add 44 = .ok (.aload_n 0, 1) := by decide +kernel
theorem dX2_add_45 : decode cX2_add 45 = .ok (.getfield 24, 3) := by decide +kernel
theorem dX2_add_48 : decode cX2_add 48 = .ok (.iload 4, 2) := by decide +kernel
theorem dX2_add_50 : decode cX2_add 50 = .ok (.iastore, 1) := by decide +kernel
theorem dX2_add_51 : decode cX2_add 51 = .ok (.aload_n 0, 1) := by decide +kernel
theorem dX2_add_52 : decode cX2_add 52 = .ok (.dup, 1) := by decide +kernel
theorem dX2_add_53 : decode cX2_add 53 = .ok (.getfield 24, 3) := by decide +kernel
theorem dX2_add_56 : decode cX2_add 56 = .ok (.iconst 1, 1) := by decide +kernel
theorem dX2_add_57 : decode cX2_add 57 = .ok (.iadd, 1) := by decide +kernel
theorem dX2_add_58 : decode cX2_add 58 = .ok (.putfield 24, 3) := by decide +kernel
theorem dX2_add_61 : decode cX2_add 61 = .ok (.return_, 1) := by decide +kernel
theorem dX2_callsBy_0 : decode cX2_callsBy 0 = .ok (.iconst 0, 1) := by decide +kernel
theorem dX2_callsBy_1 : decode cX2_callsBy 1 = .ok (.istore_n 2, 1) := by decide +kernel
theorem dX2_callsBy_2 : decode cX2_callsBy 2 = .ok (.iconst 0, 1) := by decide +kernel
theorem dX2_callsBy_3 : decode cX2_callsBy 3 = .ok (.istore_n 3, 1) := by decide +kernel
theorem dX2_callsBy_4 : decode cX2_callsBy 4 = .ok (.iload_n 3, 1) := by decide +kernel
theorem dX2_callsBy_5 : decode cX2_callsBy 5 = .ok (.aload_n 0, 1) := by decide +kernel
theorem dX2_callsBy_6 : decode cX2_callsBy 6 = .ok (.getfield 24, 3) := by decide +kernel
theorem dX2_callsBy_9 : decode cX2_callsBy 9 = .ok (.if_icmp .ge 32, 3) := by decide +kernel
theorem dX2_callsBy_12 : decode cX2_callsBy 12 = .ok (.aload_n 0, 1) := by decide +kernel
theorem dX2_callsBy_13 : decode cX2_callsBy 13 = .ok (.getfield 18, 3) := by decide +kernel
theorem dX2_callsBy_16 : decode cX2_callsBy 16 = .ok (.iload_n 3, 1) := by decide +kernel
theorem dX2_callsBy_17 : decode cX2_callsBy 17 = .ok (.iaload, 1) := by decide +kernel
theorem dX2_callsBy_18 : decode cX2_callsBy 18 = .ok (.iconst 2, 1) := by decide +kernel
theorem dX2_callsBy_19 : decode cX2_callsBy 19 = .ok (.if_icmp .ne 16, 3) := by decide +kernel
theorem dX2_callsBy_22 : decode cX2_callsBy 22 = .ok (.aload_n 0, 1) := by decide +kernel
theorem dX2_callsBy_23 : decode cX2_callsBy 23 = .ok (.getfield 9, 3) := by decide +kernel
theorem dX2_callsBy_26 : decode cX2_callsBy 26 = .ok (.iload_n 3, 1) := by decide +kernel
theorem dX2_callsBy_27 : decode cX2_callsBy 27 = .ok (.iaload, 1) := by decide +kernel
theorem dX2_callsBy_28 : decode cX2_callsBy 28 = .ok (.iload_n 1, 1) := by decide +kernel
theorem dX2_callsBy_29 : decode cX2_callsBy 29 = .ok (.if_icmp .ne 6, 3) := by decide +kernel
theorem dX2_callsBy_32 : decode cX2_callsBy 32 = .ok (.iinc 2 1, 3) := by decide +kernel
theorem dX2_callsBy_35 : decode cX2_callsBy 35 = .ok (.iinc 3 1, 3) := by decide +kernel
theorem dX2_callsBy_38 : decode cX2_callsBy 38 = .ok (.goto (-34), 3) := by decide +kernel
theorem dX2_callsBy_41 : decode cX2_callsBy 41 = .ok (.iload_n 2, 1) := by decide +kernel
theorem dX2_callsBy_42 : decode cX2_callsBy 42 = .ok (.ireturn, 1) := by decide +kernel
theorem dX2_callsTo_0 : decode cX2_callsTo 0 = .ok (.iconst 0, 1) := by decide +kernel
theorem dX2_callsTo_1 : decode cX2_callsTo 1 = .ok (.istore_n 2, 1) := by decide +kernel
theorem dX2_callsTo_2 : decode cX2_callsTo 2 = .ok (.iconst 0, 1) := by decide +kernel
theorem dX2_callsTo_3 : decode cX2_callsTo 3 = .ok (.istore_n 3, 1) := by decide +kernel
theorem dX2_callsTo_4 : decode cX2_callsTo 4 = .ok (.iload_n 3, 1) := by decide +kernel
theorem dX2_callsTo_5 : decode cX2_callsTo 5 = .ok (.aload_n 0, 1) := by decide +kernel
theorem dX2_callsTo_6 : decode cX2_callsTo 6 = .ok (.getfield 24, 3) := by decide +kernel
theorem dX2_callsTo_9 : decode cX2_callsTo 9 = .ok (.if_icmp .ge 32, 3) := by decide +kernel
theorem dX2_callsTo_12 : decode cX2_callsTo 12 = .ok (.aload_n 0, 1) := by decide +kernel
theorem dX2_callsTo_13 : decode cX2_callsTo 13 = .ok (.getfield 18, 3) := by decide +kernel
theorem dX2_callsTo_16 : decode cX2_callsTo 16 = .ok (.iload_n 3, 1) := by decide +kernel
theorem dX2_callsTo_17 : decode cX2_callsTo 17 = .ok (.iaload, 1) := by decide +kernel
theorem dX2_callsTo_18 : decode cX2_callsTo 18 = .ok (.iconst 2, 1) := by decide +kernel
theorem dX2_callsTo_19 : decode cX2_callsTo 19 = .ok (.if_icmp .ne 16, 3) := by decide +kernel
theorem dX2_callsTo_22 : decode cX2_callsTo 22 = .ok (.aload_n 0, 1) := by decide +kernel
theorem dX2_callsTo_23 : decode cX2_callsTo 23 = .ok (.getfield 15, 3) := by decide +kernel
theorem dX2_callsTo_26 : decode cX2_callsTo 26 = .ok (.iload_n 3, 1) := by decide +kernel
theorem dX2_callsTo_27 : decode cX2_callsTo 27 = .ok (.iaload, 1) := by decide +kernel
theorem dX2_callsTo_28 : decode cX2_callsTo 28 = .ok (.iload_n 1, 1) := by decide +kernel
theorem dX2_callsTo_29 : decode cX2_callsTo 29 = .ok (.if_icmp .ne 6, 3) := by decide +kernel
theorem dX2_callsTo_32 : decode cX2_callsTo 32 = .ok (.iinc 2 1, 3) := by decide +kernel
theorem dX2_callsTo_35 : decode cX2_callsTo 35 = .ok (.iinc 3 1, 3) := by decide +kernel
theorem dX2_callsTo_38 : decode cX2_callsTo 38 = .ok (.goto (-34), 3) := by decide +kernel
theorem dX2_callsTo_41 : decode cX2_callsTo 41 = .ok (.iload_n 2, 1) := by decide +kernel
theorem dX2_callsTo_42 : decode cX2_callsTo 42 = .ok (.ireturn, 1) := by decide +kernel
theorem dX5_small_0 : decode cX5_small 0 = .ok (.iload_n 1, 1) := by decide +kernel
theorem dX5_small_1 : decode cX5_small 1 = .ok (.ifCond .lt 35, 3) := by decide +kernel
theorem dX5_small_4 : decode cX5_small 4 = .ok (.iload_n 1, 1) := by decide +kernel
theorem dX5_small_5 : decode cX5_small 5 = .ok (.aload_n 0, 1) := by decide +kernel
theorem dX5_small_6 : decode cX5_small 6 = .ok (.getfield 23, 3) := by decide +kernel
theorem dX5_small_9 : decode cX5_small 9 = .ok (.if_icmp .ge 27, 3) := by decide +kernel
theorem dX5_small_12 : decode cX5_small 12 = .ok (.aload_n 0, 1) := by decide +kernel
theorem dX5_small_13 : decode cX5_small 13 = .ok (.getfield 9, 3) := by decide +kernel
theorem dX5_small_16 : decode cX5_small 16 = .ok (.iload_n 1, 1) := by decide +kernel
theorem dX5_small_17 : decode cX5_small 17 = .ok (.laload, 1) := by decide +kernel
theorem dX5_small_18 : decode cX5_small 18 = .ok (.lconst 0, 1) := by decide +kernel
theorem dX5_small_19 : decode cX5_small 19 = .ok (.lcmp, 1) := by decide +kernel
theorem dX5_small_20 : decode cX5_small 20 = .ok (.ifCond .lt 16, 3) := by decide +kernel
theorem dX5_small_23 : decode cX5_small 23 = .ok (.aload_n 0, 1) := by decide +kernel
theorem dX5_small_24 : decode cX5_small 24 = .ok (.getfield 9, 3) := by decide +kernel
theorem dX5_small_27 : decode cX5_small 27 = .ok (.iload_n 1, 1) := by decide +kernel
theorem dX5_small_28 : decode cX5_small 28 = .ok (.laload, 1) := by decide +kernel
theorem dX5_small_29 : decode cX5_small 29 = .ok (.ldc2_w 32, 3) := by decide +kernel
theorem dX5_small_32 : decode cX5_small 32 = .ok (.lcmp, 1) := by decide +kernel
theorem dX5_small_33 : decode cX5_small 33 = .ok (.ifCond .lt 5, 3) := by decide +kernel
theorem dX5_small_36 : decode cX5_small 36 = .ok (.iconst (-1), 1) := by decide +kernel
theorem dX5_small_37 : decode cX5_small 37 = .ok (.ireturn, 1) := by decide +kernel
theorem dX5_small_38 : decode cX5_small 38 = .ok (.aload_n 0, 1) := by decide +kernel
theorem dX5_small_39 : decode cX5_small 39 = .ok (.getfield 9, 3) := by decide +kernel
theorem dX5_small_42 : decode cX5_small 42 = .ok (.iload_n 1, 1) := by decide +kernel
theorem dX5_small_43 : decode cX5_small 43 = .ok (.laload, 1) := by decide +kernel
theorem dX5_small_44 : decode cX5_small 44 = .ok (.l2i, 1) := by decide +kernel
theorem dX5_small_45 : decode cX5_small 45 = .ok (.ireturn, 1) := by decide +kernel
theorem dX5_hasRun_0 : decode cX5_hasRun 0 = .ok (.iload_n 1, 1) := by decide +kernel
theorem dX5_hasRun_1 : decode cX5_hasRun 1 = .ok (.ifCond .lt 29, 3) := by decide +kernel
theorem dX5_hasRun_4 : decode cX5_hasRun 4 = .ok (.iload_n 2, 1) := by decide +kernel
theorem dX5_hasRun_5 : decode cX5_hasRun 5 = .ok (.ifCond .lt 25, 3) := by decide +kernel
theorem dX5_hasRun_8 : decode cX5_hasRun 8 = .ok (.iload_n 2, 1) := by decide +kernel
theorem dX5_hasRun_9 : decode cX5_hasRun 9 = .ok (.aload_n 0, 1) := by decide +kernel
theorem dX5_hasRun_10 : decode cX5_hasRun 10 = .ok (.getfield 23, 3) := by decide +kernel
theorem dX5_hasRun_13 : decode cX5_hasRun 13 = .ok (.if_icmp .gt 17, 3) := by decide +kernel
theorem dX5_hasRun_16 : decode cX5_hasRun 16 = .ok (.iload_n 1, 1) := by decide +kernel
theorem dX5_hasRun_17 : decode cX5_hasRun 17 = .ok (.aload_n 0, 1) := by decide +kernel
theorem dX5_hasRun_18 : decode cX5_hasRun 18 = .ok (.getfield 23, 3) := by decide +kernel
theorem dX5_hasRun_21 : decode cX5_hasRun 21 = .ok (.iload_n 2, 1) := by decide +kernel
theorem dX5_hasRun_22 : decode cX5_hasRun 22 = .ok (.isub, 1) := by decide +kernel
theorem dX5_hasRun_23 : decode cX5_hasRun 23 = .ok (.if_icmp .gt 7, 3) := by decide +kernel
theorem dX5_hasRun_26 : decode cX5_hasRun 26 = .ok (.iconst 1, 1) := by decide +kernel
theorem dX5_hasRun_27 : decode cX5_hasRun 27 = .ok (.goto 4, 3) := by decide +kernel
theorem dX5_hasRun_30 : decode cX5_hasRun 30 = .ok (.iconst 0, 1) := by decide +kernel
theorem dX5_hasRun_31 : decode cX5_hasRun 31 = .ok (.ireturn, 1) := by decide +kernel
theorem dX7_has_0 : decode cX7_has 0 = .ok (.iload_n 1, 1) := by decide +kernel
theorem dX7_has_1 : decode cX7_has 1 = .ok (.ifCond .lt 15, 3) := by decide +kernel
theorem dX7_has_4 : decode cX7_has 4 = .ok (.iload_n 1, 1) := by decide +kernel
theorem dX7_has_5 : decode cX7_has 5 = .ok (.aload_n 0, 1) := by decide +kernel
theorem dX7_has_6 : decode cX7_has 6 = .ok (.getfield 43, 3) := by decide +kernel
theorem dX7_has_9 : decode cX7_has 9 = .ok (.if_icmp .ge 7, 3) := by decide +kernel
theorem dX7_has_12 : decode cX7_has 12 = .ok (.iconst 1, 1) := by decide +kernel
theorem dX7_has_13 : decode cX7_has 13 = .ok (.goto 4, 3) := by decide +kernel
theorem dX7_has_16 : decode cX7_has 16 = .ok (.iconst 0, 1) := by decide +kernel
theorem dX7_has_17 : decode cX7_has 17 = .ok (.ireturn, 1) := by decide +kernel
theorem dX7_hasPair_0 : decode cX7_hasPair 0 = .ok (.aload_n 0, 1) := by decide +kernel
theorem dX7_hasPair_1 : decode cX7_hasPair 1 = .ok (.iload_n 1, 1) := by decide +kernel
theorem dX7_hasPair_2 : decode cX7_hasPair 2 = .ok (.invokevirtual 61, 3) := by decide +kernel
theorem dX7_hasPair_5 : decode cX7_hasPair 5 = .ok (.ifCond .eq 20, 3) := by decide +kernel
theorem dX7_hasPair_8 : decode cX7_hasPair 8 = .ok (.aload_n 0, 1) := by decide +kernel
theorem dX7_hasPair_9 : decode cX7_hasPair 9 = .ok (.iload_n 2, 1) := by decide +kernel
theorem dX7_hasPair_10 : decode cX7_hasPair 10 = .ok (.invokevirtual 61, 3) := by decide +kernel
theorem dX7_hasPair_13 : decode cX7_hasPair 13 = .ok (.ifCond .eq 12, 3) := by decide +kernel
theorem dX7_hasPair_16 : decode cX7_hasPair 16 = .ok (.iload_n 1, 1) := by decide +kernel
theorem dX7_hasPair_17 : decode cX7_hasPair 17 = .ok (.iload_n 2, 1) := by decide +kernel
theorem dX7_hasPair_18 : decode cX7_hasPair 18 = .ok (.if_icmp .eq 7, 3) := by decide +kernel
theorem dX7_hasPair_21 : decode cX7_hasPair 21 = .ok (.iconst 1, 1) := by decide +kernel
theorem dX7_hasPair_22 : decode cX7_hasPair 22 = .ok (.goto 4, 3) := by decide +kernel
theorem dX7_hasPair_25 : decode cX7_hasPair 25 = .ok (.iconst 0, 1) := by decide +kernel
theorem dX7_hasPair_26 : decode cX7_hasPair 26 = .ok (.ireturn, 1) := by decide +kernel
theorem dX7_minutes_0 : decode cX7_minutes 0 = .ok (.aload_n 0, 1) := by decide +kernel
theorem dX7_minutes_1 : decode cX7_minutes 1 = .ok (.getfield 15, 3) := by decide +kernel
