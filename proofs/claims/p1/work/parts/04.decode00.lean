theorem dX0_init_0 : decode cX0_init 0 = .ok (.aload_n 0, 1) := by decide +kernel
theorem dX0_init_1 : decode cX0_init 1 = .ok (.invokespecial 3, 3) := by decide +kernel
theorem dX0_init_4 : decode cX0_init 4 = .ok (.aload_n 0, 1) := by decide +kernel
theorem dX0_init_5 : decode cX0_init 5 = .ok (.bipush 24, 2) := by decide +kernel
theorem dX0_init_7 : decode cX0_init 7 = .ok (.newarray .int, 2) := by decide +kernel
theorem dX0_init_9 : decode cX0_init 9 = .ok (.putfield 9, 3) := by decide +kernel
theorem dX0_init_12 : decode cX0_init 12 = .ok (.aload_n 0, 1) := by decide +kernel
theorem dX0_init_13 : decode cX0_init 13 = .ok (.bipush 24, 2) := by decide +kernel
theorem dX0_init_15 : decode cX0_init 15 = .ok (.newarray .int, 2) := by decide +kernel
theorem dX0_init_17 : decode cX0_init 17 = .ok (.putfield 15, 3) := by decide +kernel
theorem dX0_init_20 : decode cX0_init 20 = .ok (.aload_n 0, 1) := by decide +kernel
theorem dX0_init_21 : decode cX0_init 21 = .ok (.bipush 24, 2) := by decide +kernel
theorem dX0_init_23 : decode cX0_init 23 = .ok (.newarray .int, 2) := by decide +kernel
theorem dX0_init_25 : decode cX0_init 25 = .ok (.putfield 18, 3) := by decide +kernel
theorem dX0_init_28 : decode cX0_init 28 = .ok (.aload_n 0, 1) := by decide +kernel
theorem dX0_init_29 : decode cX0_init 29 = .ok (.bipush 24, 2) := by decide +kernel
theorem dX0_init_31 : decode cX0_init 31 = .ok (.newarray .int, 2) := by decide +kernel
theorem dX0_init_33 : decode cX0_init 33 = .ok (.putfield 21, 3) := by decide +kernel
theorem dX0_init_36 : decode cX0_init 36 = .ok (.aload_n 0, 1) := by decide +kernel
theorem dX0_init_37 : decode cX0_init 37 = .ok (.bipush 24, 2) := by decide +kernel
theorem dX0_init_39 : decode cX0_init 39 = .ok (.newarray .int, 2) := by decide +kernel
theorem dX0_init_41 : decode cX0_init 41 = .ok (.putfield 24, 3) := by decide +kernel
theorem dX0_init_44 : decode cX0_init 44 = .ok (.aload_n 0, 1) := by decide +kernel
theorem dX0_init_45 : decode cX0_init 45 = .ok (.sipush 700, 3) := by decide +kernel
theorem dX0_init_48 : decode cX0_init 48 = .ok (.newarray .int, 2) := by decide +kernel
theorem dX0_init_50 : decode cX0_init 50 = .ok (.putfield 27, 3) := by decide +kernel
theorem dX0_init_53 : decode cX0_init 53 = .ok (.aload_n 0, 1) := by decide +kernel
theorem dX0_init_54 : decode cX0_init 54 = .ok (.iconst 5, 1) := by decide +kernel
theorem dX0_init_55 : decode cX0_init 55 = .ok (.newarray .int, 2) := by decide +kernel
theorem dX0_init_57 : decode cX0_init 57 = .ok (.putfield 30, 3) := by decide +kernel
theorem dX0_init_60 : decode cX0_init 60 = .ok (.return_, 1) := by decide +kernel
theorem dX1_init_0 : decode cX1_init 0 = .ok (.aload_n 0, 1) := by decide +kernel
theorem dX1_init_1 : decode cX1_init 1 = .ok (.invokespecial 3, 3) := by decide +kernel
theorem dX1_init_4 : decode cX1_init 4 = .ok (.aload_n 0, 1) := by decide +kernel
theorem dX1_init_5 : decode cX1_init 5 = .ok (.sipush 600, 3) := by decide +kernel
theorem dX1_init_8 : decode cX1_init 8 = .ok (.newarray .int, 2) := by decide +kernel
theorem dX1_init_10 : decode cX1_init 10 = .ok (.putfield 9, 3) := by decide +kernel
theorem dX1_init_13 : decode cX1_init 13 = .ok (.aload_n 0, 1) := by decide +kernel
theorem dX1_init_14 : decode cX1_init 14 = .ok (.sipush 600, 3) := by decide +kernel
theorem dX1_init_17 : decode cX1_init 17 = .ok (.newarray .int, 2) := by decide +kernel
theorem dX1_init_19 : decode cX1_init 19 = .ok (.putfield 15, 3) := by decide +kernel
theorem dX1_init_22 : decode cX1_init 22 = .ok (.aload_n 0, 1) := by decide +kernel
theorem dX1_init_23 : decode cX1_init 23 = .ok (.sipush 600, 3) := by decide +kernel
theorem dX1_init_26 : decode cX1_init 26 = .ok (.newarray .int, 2) := by decide +kernel
theorem dX1_init_28 : decode cX1_init 28 = .ok (.putfield 18, 3) := by decide +kernel
theorem dX1_init_31 : decode cX1_init 31 = .ok (.aload_n 0, 1) := by decide +kernel
theorem dX1_init_32 : decode cX1_init 32 = .ok (.sipush 600, 3) := by decide +kernel
theorem dX1_init_35 : decode cX1_init 35 = .ok (.newarray .int, 2) := by decide +kernel
theorem dX1_init_37 : decode cX1_init 37 = .ok (.putfield 21, 3) := by decide +kernel
theorem dX1_init_40 : decode cX1_init 40 = .ok (.aload_n 0, 1) := by decide +kernel
theorem dX1_init_41 : decode cX1_init 41 = .ok (.sipush 600, 3) := by decide +kernel
theorem dX1_init_44 : decode cX1_init 44 = .ok (.newarray .int, 2) := by decide +kernel
theorem dX1_init_46 : decode cX1_init 46 = .ok (.putfield 24, 3) := by decide +kernel
theorem dX1_init_49 : decode cX1_init 49 = .ok (.aload_n 0, 1) := by decide +kernel
theorem dX1_init_50 : decode cX1_init 50 = .ok (.bipush 16, 2) := by decide +kernel
theorem dX1_init_52 : decode cX1_init 52 = .ok (.newarray .int, 2) := by decide +kernel
theorem dX1_init_54 : decode cX1_init 54 = .ok (.putfield 27, 3) := by decide +kernel
theorem dX1_init_57 : decode cX1_init 57 = .ok (.aload_n 0, 1) := by decide +kernel
theorem dX1_init_58 : decode cX1_init 58 = .ok (.sipush 256, 3) := by decide +kernel
theorem dX1_init_61 : decode cX1_init 61 = .ok (.newarray .int, 2) := by decide +kernel
theorem dX1_init_63 : decode cX1_init 63 = .ok (.putfield 30, 3) := by decide +kernel
theorem dX1_init_66 : decode cX1_init 66 = .ok (.return_, 1) := by decide +kernel
theorem dX1_overdue_0 : decode cX1_overdue 0 = .ok (.iconst 0, 1) := by decide +kernel
theorem dX1_overdue_1 : decode cX1_overdue 1 = .ok (.istore_n 2, 1) := by decide +kernel
theorem dX1_overdue_2 : decode cX1_overdue 2 = .ok (.iconst 0, 1) := by decide +kernel
theorem dX1_overdue_3 : decode cX1_overdue 3 = .ok (.istore_n 3, 1) := by decide +kernel
theorem dX1_overdue_4 : decode cX1_overdue 4 = .ok (.iload_n 3, 1) := by decide +kernel
theorem dX1_overdue_5 : decode cX1_overdue 5 = .ok (.aload_n 0, 1) := by decide +kernel
theorem dX1_overdue_6 : decode cX1_overdue 6 = .ok (.getfield 33, 3) := by decide +kernel
theorem dX1_overdue_9 : decode cX1_overdue 9 = .ok (.if_icmp .ge 22, 3) := by decide +kernel
theorem dX1_overdue_31 : decode cX1_overdue 31 = .ok (.iload_n 2, 1) := by decide +kernel
theorem dX1_overdue_32 : decode cX1_overdue 32 = .ok (.ireturn, 1) := by decide +kernel
theorem dX2_init_0 : decode cX2_init 0 = .ok (.aload_n 0, 1) := by decide +kernel
theorem dX2_init_1 : decode cX2_init 1 = .ok (.invokespecial 3, 3) := by decide +kernel
theorem dX2_init_4 : decode cX2_init 4 = .ok (.aload_n 0, 1) := by decide +kernel
theorem dX2_init_5 : decode cX2_init 5 = .ok (.sipush 600, 3) := by decide +kernel
theorem dX2_init_8 : decode cX2_init 8 = .ok (.newarray .int, 2) := by decide +kernel
theorem dX2_init_10 : decode cX2_init 10 = .ok (.putfield 9, 3) := by decide +kernel
theorem dX2_init_13 : decode cX2_init 13 = .ok (.aload_n 0, 1) := by decide +kernel
theorem dX2_init_14 : decode cX2_init 14 = .ok (.sipush 600, 3) := by decide +kernel
theorem dX2_init_17 : decode cX2_init 17 = .ok (.newarray .int, 2) := by decide +kernel
theorem dX2_init_19 : decode cX2_init 19 = .ok (.putfield 15, 3) := by decide +kernel
theorem dX2_init_22 : decode cX2_init 22 = .ok (.aload_n 0, 1) := by decide +kernel
theorem dX2_init_23 : decode cX2_init 23 = .ok (.sipush 600, 3) := by decide +kernel
theorem dX2_init_26 : decode cX2_init 26 = .ok (.newarray .int, 2) := by decide +kernel
theorem dX2_init_28 : decode cX2_init 28 = .ok (.putfield 18, 3) := by decide +kernel
theorem dX2_init_31 : decode cX2_init 31 = .ok (.aload_n 0, 1) := by decide +kernel
theorem dX2_init_32 : decode cX2_init 32 = .ok (.sipush 600, 3) := by decide +kernel
theorem dX2_init_35 : decode cX2_init 35 = .ok (.newarray .int, 2) := by decide +kernel
theorem dX2_init_37 : decode cX2_init 37 = .ok (.putfield 21, 3) := by decide +kernel
theorem dX2_init_40 : decode cX2_init 40 = .ok (.return_, 1) := by decide +kernel
theorem dX3_init_0 : decode cX3_init 0 = .ok (.aload_n 0, 1) := by decide +kernel
theorem dX3_init_1 : decode cX3_init 1 = .ok (.invokespecial 3, 3) := by decide +kernel
theorem dX3_init_4 : decode cX3_init 4 = .ok (.aload_n 0, 1) := by decide +kernel
theorem dX3_init_5 : decode cX3_init 5 = .ok (.new 9, 3) := by decide +kernel
theorem dX3_init_8 : decode cX3_init 8 = .ok (.dup, 1) := by decide +kernel
theorem dX3_init_9 : decode cX3_init 9 = .ok (.invokespecial 11, 3) := by decide +kernel
theorem dX3_init_12 : decode cX3_init 12 = .ok (.putfield 12, 3) := by decide +kernel
theorem dX3_init_15 : decode cX3_init 15 = .ok (.aload_n 0, 1) := by decide +kernel
theorem dX3_init_16 : decode cX3_init 16 = .ok (.new 18, 3) := by decide +kernel
theorem dX3_init_19 : decode cX3_init 19 = .ok (.dup, 1) := by decide +kernel
theorem dX3_init_20 : decode cX3_init 20 = .ok (.invokespecial 20, 3) := by decide +kernel
theorem dX3_init_23 : decode cX3_init 23 = .ok (.putfield 21, 3) := by decide +kernel
theorem dX3_init_26 : decode cX3_init 26 = .ok (.aload_n 0, 1) := by decide +kernel
theorem dX3_init_27 : decode cX3_init 27 = .ok (.iconst (-1), 1) := by decide +kernel
theorem dX3_init_28 : decode cX3_init 28 = .ok (.putfield 25, 3) := by decide +kernel
theorem dX3_init_31 : decode cX3_init 31 = .ok (.return_, 1) := by decide +kernel
theorem dX4_init_0 : decode cX4_init 0 = .ok (.aload_n 0, 1) := by decide +kernel
theorem dX4_init_1 : decode cX4_init 1 = .ok (.invokespecial 5, 3) := by decide +kernel
theorem dX4_init_4 : decode cX4_init 4 = .ok (.aload_n 0, 1) := by decide +kernel
theorem dX4_init_5 : decode cX4_init 5 = .ok (.bipush 10, 2) := by decide +kernel
theorem dX4_init_7 : decode cX4_init 7 = .ok (.newarray .int, 2) := by decide +kernel
theorem dX4_init_9 : decode cX4_init 9 = .ok (.putfield 11, 3) := by decide +kernel
theorem dX4_init_12 : decode cX4_init 12 = .ok (.aload_n 0, 1) := by decide +kernel
theorem dX4_init_13 : decode cX4_init 13 = .ok (.iconst (-1), 1) := by decide +kernel
theorem dX4_init_14 : decode cX4_init 14 = .ok (.putfield 15, 3) := by decide +kernel
theorem dX4_init_17 : decode cX4_init 17 = .ok (.aload_n 0, 1) := by decide +kernel
theorem dX4_init_18 : decode cX4_init 18 = .ok (.iconst (-1), 1) := by decide +kernel
theorem dX4_init_19 : decode cX4_init 19 = .ok (.putfield 19, 3) := by decide +kernel
theorem dX4_init_22 : decode cX4_init 22 = .ok (.aload_n 0, 1) := by decide +kernel
theorem dX4_init_23 : decode cX4_init 23 = .ok (.bipush 10, 2) := by decide +kernel
theorem dX4_init_25 : decode cX4_init 25 = .ok (.newarray .int, 2) := by decide +kernel
theorem dX4_init_27 : decode cX4_init 27 = .ok (.putfield 22, 3) := by decide +kernel
theorem dX4_init_30 : decode cX4_init 30 = .ok (.aload_n 0, 1) := by decide +kernel
theorem dX4_init_31 : decode cX4_init 31 = .ok (.bipush 10, 2) := by decide +kernel
theorem dX4_init_33 : decode cX4_init 33 = .ok (.newarray .int, 2) := by decide +kernel
theorem dX4_init_35 : decode cX4_init 35 = .ok (.putfield 25, 3) := by decide +kernel
theorem dX4_init_38 : decode cX4_init 38 = .ok (.aload_n 0, 1) := by decide +kernel
theorem dX4_init_39 : decode cX4_init 39 = .ok (.bipush 16, 2) := by decide +kernel
theorem dX4_init_41 : decode cX4_init 41 = .ok (.newarray .int, 2) := by decide +kernel
theorem dX4_init_43 : decode cX4_init 43 = .ok (.putfield 28, 3) := by decide +kernel
theorem dX4_init_46 : decode cX4_init 46 = .ok (.aload_n 0, 1) := by decide +kernel
theorem dX4_init_47 : decode cX4_init 47 = .ok (.bipush 16, 2) := by decide +kernel
theorem dX4_init_49 : decode cX4_init 49 = .ok (.newarray .int, 2) := by decide +kernel
theorem dX4_init_51 : decode cX4_init 51 = .ok (.putfield 31, 3) := by decide +kernel
theorem dX4_init_54 : decode cX4_init 54 = .ok (.aload_n 0, 1) := by decide +kernel
theorem dX4_init_55 : decode cX4_init 55 = .ok (.bipush 16, 2) := by decide +kernel
theorem dX4_init_57 : decode cX4_init 57 = .ok (.newarray .int, 2) := by decide +kernel
theorem dX4_init_59 : decode cX4_init 59 = .ok (.putfield 34, 3) := by decide +kernel
theorem dX4_init_62 : decode cX4_init 62 = .ok (.aload_n 0, 1) := by decide +kernel
theorem dX4_init_63 : decode cX4_init 63 = .ok (.sipush 256, 3) := by decide +kernel
theorem dX4_init_66 : decode cX4_init 66 = .ok (.newarray .int, 2) := by decide +kernel
theorem dX4_init_68 : decode cX4_init 68 = .ok (.putfield 37, 3) := by decide +kernel
theorem dX4_init_71 : decode cX4_init 71 = .ok (.aload_n 0, 1) := by decide +kernel
theorem dX4_init_72 : decode cX4_init 72 = .ok (.sipush 10240, 3) := by decide +kernel
theorem dX4_init_75 : decode cX4_init 75 = .ok (.newarray .int, 2) := by decide +kernel
theorem dX4_init_77 : decode cX4_init 77 = .ok (.putfield 40, 3) := by decide +kernel
theorem dX4_init_80 : decode cX4_init 80 = .ok (.aload_n 0, 1) := by decide +kernel
theorem dX4_init_81 : decode cX4_init 81 = .ok (.sipush 1024, 3) := by decide +kernel
theorem dX4_init_84 : decode cX4_init 84 = .ok (.newarray .int, 2) := by decide +kernel
theorem dX4_init_86 : decode cX4_init 86 = .ok (.putfield 43, 3) := by decide +kernel
theorem dX4_init_89 : decode cX4_init 89 = .ok (.aload_n 0, 1) := by decide +kernel
theorem dX4_init_90 : decode cX4_init 90 = .ok (.sipush 1024, 3) := by decide +kernel
theorem dX4_init_93 : decode cX4_init 93 = .ok (.newarray .int, 2) := by decide +kernel
theorem dX4_init_95 : decode cX4_init 95 = .ok (.putfield 46, 3) := by decide +kernel
theorem dX4_init_98 : decode cX4_init 98 = .ok (.return_, 1) := by decide +kernel
theorem dX5_init_0 : decode cX5_init 0 = .ok (.aload_n 0, 1) := by decide +kernel
theorem dX5_init_1 : decode cX5_init 1 = .ok (.invokespecial 3, 3) := by decide +kernel
theorem dX5_init_4 : decode cX5_init 4 = .ok (.aload_n 0, 1) := by decide +kernel
theorem dX5_init_5 : decode cX5_init 5 = .ok (.bipush 60, 2) := by decide +kernel
theorem dX5_init_7 : decode cX5_init 7 = .ok (.newarray .long, 2) := by decide +kernel
theorem dX5_init_9 : decode cX5_init 9 = .ok (.putfield 9, 3) := by decide +kernel
theorem dX5_init_12 : decode cX5_init 12 = .ok (.return_, 1) := by decide +kernel
theorem dX5_lay_0 : decode cX5_lay 0 = .ok (.aload_n 0, 1) := by decide +kernel
theorem dX5_lay_1 : decode cX5_lay 1 = .ok (.iconst 1, 1) := by decide +kernel
theorem dX5_lay_2 : decode cX5_lay 2 = .ok (.putfield 15, 3) := by decide +kernel
theorem dX5_lay_5 : decode cX5_lay 5 = .ok (.aload_n 0, 1) := by decide +kernel
theorem dX5_lay_6 : decode cX5_lay 6 = .ok (.iload_n 1, 1) := by decide +kernel
theorem dX5_lay_7 : decode cX5_lay 7 = .ok (.putfield 19, 3) := by decide +kernel
theorem dX5_lay_10 : decode cX5_lay 10 = .ok (.aload_n 0, 1) := by decide +kernel
theorem dX5_lay_11 : decode cX5_lay 11 = .ok (.iload_n 2, 1) := by decide +kernel
theorem dX5_lay_12 : decode cX5_lay 12 = .ok (.putfield 23, 3) := by decide +kernel
theorem dX5_lay_15 : decode cX5_lay 15 = .ok (.aload_n 0, 1) := by decide +kernel
theorem dX5_lay_16 : decode cX5_lay 16 = .ok (.getfield 9, 3) := by decide +kernel
theorem dX5_lay_19 : decode cX5_lay 19 = .ok (.lconst 0, 1) := by decide +kernel
theorem dX5_lay_20 : decode cX5_lay 20 = .ok (.invokestatic 26, 3) := by decide +kernel
theorem dX5_lay_23 : decode cX5_lay 23 = .ok (.return_, 1) := by decide +kernel
theorem dX6_init_0 : decode cX6_init 0 = .ok (.aload_n 0, 1) := by decide +kernel
theorem dX6_init_1 : decode cX6_init 1 = .ok (.invokespecial 3, 3) := by decide +kernel
theorem dX6_init_4 : decode cX6_init 4 = .ok (.aload_n 0, 1) := by decide +kernel
theorem dX6_init_5 : decode cX6_init 5 = .ok (.new 9, 3) := by decide +kernel
theorem dX6_init_8 : decode cX6_init 8 = .ok (.dup, 1) := by decide +kernel
theorem dX6_init_9 : decode cX6_init 9 = .ok (.invokespecial 11, 3) := by decide +kernel
theorem dX6_init_12 : decode cX6_init 12 = .ok (.putfield 12, 3) := by decide +kernel
theorem dX6_init_15 : decode cX6_init 15 = .ok (.aload_n 0, 1) := by decide +kernel
theorem dX6_init_16 : decode cX6_init 16 = .ok (.new 18, 3) := by decide +kernel
theorem dX6_init_19 : decode cX6_init 19 = .ok (.dup, 1) := by decide +kernel
theorem dX6_init_20 : decode cX6_init 20 = .ok (.invokespecial 20, 3) := by decide +kernel
theorem dX6_init_23 : decode cX6_init 23 = .ok (.putfield 21, 3) := by decide +kernel
theorem dX6_init_26 : decode cX6_init 26 = .ok (.aload_n 0, 1) := by decide +kernel
theorem dX6_init_27 : decode cX6_init 27 = .ok (.new 25, 3) := by decide +kernel
theorem dX6_init_30 : decode cX6_init 30 = .ok (.dup, 1) := by decide +kernel
theorem dX6_init_31 : decode cX6_init 31 = .ok (.invokespecial 27, 3) := by decide +kernel
theorem dX6_init_34 : decode cX6_init 34 = .ok (.putfield 28, 3) := by decide +kernel
theorem dX6_init_37 : decode cX6_init 37 = .ok (.aload_n 0, 1) := by decide +kernel
theorem dX6_init_38 : decode cX6_init 38 = .ok (.new 32, 3) := by decide +kernel
theorem dX6_init_41 : decode cX6_init 41 = .ok (.dup, 1) := by decide +kernel
theorem dX6_init_42 : decode cX6_init 42 = .ok (.invokespecial 34, 3) := by decide +kernel
theorem dX6_init_45 : decode cX6_init 45 = .ok (.putfield 35, 3) := by decide +kernel
theorem dX6_init_48 : decode cX6_init 48 = .ok (.aload_n 0, 1) := by decide +kernel
theorem dX6_init_49 : decode cX6_init 49 = .ok (.bipush 16, 2) := by decide +kernel
theorem dX6_init_51 : decode cX6_init 51 = .ok (.newarray .int, 2) := by decide +kernel
theorem dX6_init_53 : decode cX6_init 53 = .ok (.putfield 39, 3) := by decide +kernel
theorem dX6_init_56 : decode cX6_init 56 = .ok (.aload_n 0, 1) := by decide +kernel
theorem dX6_init_57 : decode cX6_init 57 = .ok (.bipush 16, 2) := by decide +kernel
theorem dX6_init_59 : decode cX6_init 59 = .ok (.newarray .int, 2) := by decide +kernel
theorem dX6_init_61 : decode cX6_init 61 = .ok (.putfield 43, 3) := by decide +kernel
theorem dX6_init_64 : decode cX6_init 64 = .ok (.return_, 1) := by decide +kernel
theorem dX6_followCalls_0 : decode cX6_followCalls 0 = .ok (.iconst 0, 1) := by decide +kernel
theorem dX6_followCalls_1 : decode cX6_followCalls 1 = .ok (.istore_n 1, 1) := by decide +kernel
theorem dX6_followCalls_2 : decode cX6_followCalls 2 = .ok (.iload_n 1, 1) := by decide +kernel
theorem dX6_followCalls_3 : decode cX6_followCalls 3 = .ok (.bipush 16, 2) := by decide +kernel
theorem dX6_followCalls_5 : decode cX6_followCalls 5 = .ok (.if_icmp .ge 18, 3) := by decide +kernel
theorem dX6_followCalls_8 : decode cX6_followCalls 8 = .ok (.aload_n 0, 1) := by decide +kernel
theorem dX6_followCalls_9 : decode cX6_followCalls 9 = .ok (.getfield 43, 3) := by decide +kernel
theorem dX6_followCalls_12 : decode cX6_followCalls 12 = .ok (.iload_n 1, 1) := by decide +kernel
theorem dX6_followCalls_13 : decode cX6_followCalls 13 = .ok (.iconst 1, 1) := by decide +kernel
theorem dX6_followCalls_14 : decode cX6_followCalls 14 = .ok (.iload_n 1, 1) := by decide +kernel
theorem dX6_followCalls_15 : decode cX6_followCalls 15 = .ok (.ishl, 1) := by decide +kernel
theorem dX6_followCalls_16 : decode cX6_followCalls 16 = .ok (.iastore, 1) := by decide +kernel
theorem dX6_followCalls_17 : decode cX6_followCalls 17 = .ok (.iinc 1 1, 3) := by decide +kernel
theorem dX6_followCalls_20 : decode cX6_followCalls 20 = .ok (.goto (-18), 3) := by decide +kernel
theorem dX6_followCalls_23 : decode cX6_followCalls 23 = .ok (.iconst 0, 1) := by decide +kernel
theorem dX6_followCalls_24 : decode cX6_followCalls 24 = .ok (.istore_n 1, 1) := by decide +kernel
theorem dX6_followCalls_25 : decode cX6_followCalls 25 = .ok (.iload_n 1, 1) := by decide +kernel
theorem dX6_followCalls_26 : decode cX6_followCalls 26 = .ok (.aload_n 0, 1) := by decide +kernel
theorem dX6_followCalls_27 : decode cX6_followCalls 27 = .ok (.getfield 35, 3) := by decide +kernel
theorem dX6_followCalls_30 : decode cX6_followCalls 30 = .ok (.getfield 56, 3) := by decide +kernel
theorem dX6_followCalls_33 : decode cX6_followCalls 33 = .ok (.if_icmp .ge 63, 3) := by decide +kernel
theorem dX6_followCalls_96 : decode cX6_followCalls 96 = .ok (.iconst 0, 1) := by decide +kernel
theorem dX6_followCalls_97 : decode cX6_followCalls 97 = .ok (.istore_n 1, 1) := by decide +kernel
theorem dX6_followCalls_98 : decode cX6_followCalls 98 = .ok (.iload_n 1, 1) := by decide +kernel
theorem dX6_followCalls_99 : decode cX6_followCalls 99 = .ok (.bipush 16, 2) := by decide +kernel
theorem dX6_followCalls_101 : decode cX6_followCalls 101 = .ok (.if_icmp .ge 52, 3) := by decide +kernel
theorem dX6_followCalls_104 : decode cX6_followCalls 104 = .ok (.iconst 0, 1) := by decide +kernel
theorem dX6_followCalls_105 : decode cX6_followCalls 105 = .ok (.istore_n 2, 1) := by decide +kernel
theorem dX6_followCalls_106 : decode cX6_followCalls 106 = .ok (.iload_n 2, 1) := by decide +kernel
theorem dX6_followCalls_107 : decode cX6_followCalls 107 = .ok (.bipush 16, 2) := by decide +kernel
theorem dX6_followCalls_109 : decode cX6_followCalls 109 = .ok (.if_icmp .ge 38, 3) := by decide +kernel
theorem dX6_followCalls_112 : decode cX6_followCalls 112 = .ok (.aload_n 0, 1) := by decide +kernel
theorem dX6_followCalls_113 : decode cX6_followCalls 113 = .ok (.getfield 43, 3) := by decide +kernel
theorem dX6_followCalls_116 : decode cX6_followCalls 116 = .ok (.iload_n 2, 1) := by decide +kernel
theorem dX6_followCalls_117 : decode cX6_followCalls 117 = .ok (.iaload, 1) := by decide +kernel
theorem dX6_followCalls_118 : decode cX6_followCalls 118 = .ok (.iload_n 1, 1) := by decide +kernel
theorem dX6_followCalls_119 : decode cX6_followCalls 119 = .ok (.ishr, 1) := by decide +kernel
theorem dX6_followCalls_120 : decode cX6_followCalls 120 = .ok (.iconst 1, 1) := by decide +kernel
theorem dX6_followCalls_121 : decode cX6_followCalls 121 = .ok (.iand, 1) := by decide +kernel
theorem dX6_followCalls_122 : decode cX6_followCalls 122 = .ok (.iconst 1, 1) := by decide +kernel
theorem dX6_followCalls_123 : decode cX6_followCalls 123 = .ok (.if_icmp .ne 18, 3) := by decide +kernel
theorem dX6_followCalls_126 : decode cX6_followCalls 126 = .ok (.aload_n 0, 1) := by decide +kernel
theorem dX6_followCalls_127 : decode cX6_followCalls 127 = .ok (.getfield 43, 3) := by decide +kernel
theorem dX6_followCalls_130 : decode cX6_followCalls 130 = .ok (.iload_n 2, 1) := by decide +kernel
theorem dX6_followCalls_131 : decode cX6_followCalls 131 = .ok (.dup2, 1) := by decide +kernel
theorem dX6_followCalls_132 : decode cX6_followCalls 132 = .ok (.iaload, 1) := by decide +kernel
theorem dX6_followCalls_133 : decode cX6_followCalls 133 = .ok (.aload_n 0, 1) := by decide +kernel
theorem dX6_followCalls_134 : decode cX6_followCalls 134 = .ok (.getfield 43, 3) := by decide +kernel
theorem dX6_followCalls_137 : decode cX6_followCalls 137 = .ok (.iload_n 1, 1) := by decide +kernel
theorem dX6_followCalls_138 : decode cX6_followCalls 138 = .ok (.iaload, 1) := by decide +kernel
theorem dX6_followCalls_139 : decode cX6_followCalls 139 = .ok (.ior, 1) := by decide +kernel
theorem dX6_followCalls_140 : decode cX6_followCalls 140 = .ok (.iastore, 1) := by decide +kernel
theorem dX6_followCalls_141 : decode cX6_followCalls 141 = .ok (.iinc 2 1, 3) := by decide +kernel
theorem dX6_followCalls_144 : decode cX6_followCalls 144 = .ok (.goto (-38), 3) := by decide +kernel
theorem dX6_followCalls_147 : decode cX6_followCalls 147 = .ok (.iinc 1 1, 3) := by decide +kernel
theorem dX6_followCalls_150 : decode cX6_followCalls 150 = .ok (.goto (-52), 3) := by decide +kernel
theorem dX6_followCalls_153 : decode cX6_followCalls 153 = .ok (.return_, 1) := by decide +kernel
theorem dX7_init_0 : decode cX7_init 0 = .ok (.aload_n 0, 1) := by decide +kernel
theorem dX7_init_1 : decode cX7_init 1 = .ok (.invokespecial 3, 3) := by decide +kernel
theorem dX7_init_4 : decode cX7_init 4 = .ok (.aload_n 0, 1) := by decide +kernel
theorem dX7_init_5 : decode cX7_init 5 = .ok (.iconst 3, 1) := by decide +kernel
theorem dX7_init_6 : decode cX7_init 6 = .ok (.putfield 11, 3) := by decide +kernel
theorem dX7_init_9 : decode cX7_init 9 = .ok (.aload_n 0, 1) := by decide +kernel
theorem dX7_init_10 : decode cX7_init 10 = .ok (.bipush 16, 2) := by decide +kernel
theorem dX7_init_12 : decode cX7_init 12 = .ok (.newarray .int, 2) := by decide +kernel
theorem dX7_init_14 : decode cX7_init 14 = .ok (.putfield 15, 3) := by decide +kernel
theorem dX7_init_17 : decode cX7_init 17 = .ok (.aload_n 0, 1) := by decide +kernel
theorem dX7_init_18 : decode cX7_init 18 = .ok (.bipush 16, 2) := by decide +kernel
theorem dX7_init_20 : decode cX7_init 20 = .ok (.newarray .int, 2) := by decide +kernel
theorem dX7_init_22 : decode cX7_init 22 = .ok (.putfield 19, 3) := by decide +kernel
theorem dX7_init_25 : decode cX7_init 25 = .ok (.aload_n 0, 1) := by decide +kernel
theorem dX7_init_26 : decode cX7_init 26 = .ok (.bipush 16, 2) := by decide +kernel
theorem dX7_init_28 : decode cX7_init 28 = .ok (.newarray .int, 2) := by decide +kernel
theorem dX7_init_30 : decode cX7_init 30 = .ok (.putfield 22, 3) := by decide +kernel
theorem dX7_init_33 : decode cX7_init 33 = .ok (.aload_n 0, 1) := by decide +kernel
theorem dX7_init_34 : decode cX7_init 34 = .ok (.bipush 16, 2) := by decide +kernel
theorem dX7_init_36 : decode cX7_init 36 = .ok (.newarray .int, 2) := by decide +kernel
theorem dX7_init_38 : decode cX7_init 38 = .ok (.putfield 25, 3) := by decide +kernel
theorem dX7_init_41 : decode cX7_init 41 = .ok (.aload_n 0, 1) := by decide +kernel
theorem dX7_init_42 : decode cX7_init 42 = .ok (.bipush 16, 2) := by decide +kernel
theorem dX7_init_44 : decode cX7_init 44 = .ok (.newarray .int, 2) := by decide +kernel
theorem dX7_init_46 : decode cX7_init 46 = .ok (.putfield 28, 3) := by decide +kernel
theorem dX7_init_49 : decode cX7_init 49 = .ok (.aload_n 0, 1) := by decide +kernel
theorem dX7_init_50 : decode cX7_init 50 = .ok (.bipush 16, 2) := by decide +kernel
theorem dX7_init_52 : decode cX7_init 52 = .ok (.newarray .int, 2) := by decide +kernel
theorem dX7_init_54 : decode cX7_init 54 = .ok (.putfield 31, 3) := by decide +kernel
theorem dX7_init_57 : decode cX7_init 57 = .ok (.aload_n 0, 1) := by decide +kernel
theorem dX7_init_58 : decode cX7_init 58 = .ok (.bipush 16, 2) := by decide +kernel
theorem dX7_init_60 : decode cX7_init 60 = .ok (.newarray .int, 2) := by decide +kernel
theorem dX7_init_62 : decode cX7_init 62 = .ok (.putfield 34, 3) := by decide +kernel
theorem dX7_init_65 : decode cX7_init 65 = .ok (.aload_n 0, 1) := by decide +kernel
theorem dX7_init_66 : decode cX7_init 66 = .ok (.bipush 16, 2) := by decide +kernel
theorem dX7_init_68 : decode cX7_init 68 = .ok (.newarray .int, 2) := by decide +kernel
theorem dX7_init_70 : decode cX7_init 70 = .ok (.putfield 37, 3) := by decide +kernel
theorem dX7_init_73 : decode cX7_init 73 = .ok (.aload_n 0, 1) := by decide +kernel
theorem dX7_init_74 : decode cX7_init 74 = .ok (.bipush 16, 2) := by decide +kernel
theorem dX7_init_76 : decode cX7_init 76 = .ok (.newarray .int, 2) := by decide +kernel
theorem dX7_init_78 : decode cX7_init 78 = .ok (.putfield 40, 3) := by decide +kernel
theorem dX7_init_81 : decode cX7_init 81 = .ok (.return_, 1) := by decide +kernel
theorem dX7_has_0 : decode cX7_has 0 = .ok (.iload_n 1, 1) := by decide +kernel
theorem dX7_has_1 : decode cX7_has 1 = .ok (.ifCond .lt 15, 3) := by decide +kernel
theorem dX7_has_4 : decode cX7_has 4 = .ok (.iload_n 1, 1) := by decide +kernel
theorem dX7_has_5 : decode cX7_has 5 = .ok (.aload_n 0, 1) := by decide +kernel
theorem dX7_has_6 : decode cX7_has 6 = .ok (.getfield 43, 3) := by decide +kernel
theorem dX7_has_9 : decode cX7_has 9 = .ok (.if_icmp .ge 7, 3) := by decide +kernel
theorem dX7_has_16 : decode cX7_has 16 = .ok (.iconst 0, 1) := by decide +kernel
theorem dX7_has_17 : decode cX7_has 17 = .ok (.ireturn, 1) := by decide +kernel
theorem dX7_hasPair_0 : decode cX7_hasPair 0 = .ok (.aload_n 0, 1) := by decide +kernel
theorem dX7_hasPair_1 : decode cX7_hasPair 1 = .ok (.iload_n 1, 1) := by decide +kernel
theorem dX7_hasPair_2 : decode cX7_hasPair 2 = .ok (.invokevirtual 61, 3) := by decide +kernel
theorem dX7_hasPair_5 : decode cX7_hasPair 5 = .ok (.ifCond .eq 20, 3) := by decide +kernel
theorem dX7_hasPair_25 : decode cX7_hasPair 25 = .ok (.iconst 0, 1) := by decide +kernel
theorem dX7_hasPair_26 : decode cX7_hasPair 26 = .ok (.ireturn, 1) := by decide +kernel
theorem dX8_init_0 : decode cX8_init 0 = .ok (.aload_n 0, 1) := by decide +kernel
theorem dX8_init_1 : decode cX8_init 1 = .ok (.invokespecial 5, 3) := by decide +kernel
theorem dX8_init_4 : decode cX8_init 4 = .ok (.aload_n 0, 1) := by decide +kernel
theorem dX8_init_5 : decode cX8_init 5 = .ok (.bipush 16, 2) := by decide +kernel
theorem dX8_init_7 : decode cX8_init 7 = .ok (.newarray .int, 2) := by decide +kernel
theorem dX8_init_9 : decode cX8_init 9 = .ok (.putfield 11, 3) := by decide +kernel
theorem dX8_init_12 : decode cX8_init 12 = .ok (.aload_n 0, 1) := by decide +kernel
theorem dX8_init_13 : decode cX8_init 13 = .ok (.iconst (-1), 1) := by decide +kernel
theorem dX8_init_14 : decode cX8_init 14 = .ok (.putfield 15, 3) := by decide +kernel
theorem dX8_init_17 : decode cX8_init 17 = .ok (.aload_n 0, 1) := by decide +kernel
theorem dX8_init_18 : decode cX8_init 18 = .ok (.iconst (-1), 1) := by decide +kernel
theorem dX8_init_19 : decode cX8_init 19 = .ok (.putfield 19, 3) := by decide +kernel
theorem dX8_init_22 : decode cX8_init 22 = .ok (.aload_n 0, 1) := by decide +kernel
theorem dX8_init_23 : decode cX8_init 23 = .ok (.bipush 13, 2) := by decide +kernel
theorem dX8_init_25 : decode cX8_init 25 = .ok (.newarray .int, 2) := by decide +kernel
theorem dX8_init_27 : decode cX8_init 27 = .ok (.putfield 22, 3) := by decide +kernel
theorem dX8_init_30 : decode cX8_init 30 = .ok (.aload_n 0, 1) := by decide +kernel
theorem dX8_init_31 : decode cX8_init 31 = .ok (.bipush 13, 2) := by decide +kernel
theorem dX8_init_33 : decode cX8_init 33 = .ok (.newarray .int, 2) := by decide +kernel
theorem dX8_init_35 : decode cX8_init 35 = .ok (.putfield 25, 3) := by decide +kernel
theorem dX8_init_38 : decode cX8_init 38 = .ok (.aload_n 0, 1) := by decide +kernel
theorem dX8_init_39 : decode cX8_init 39 = .ok (.bipush 13, 2) := by decide +kernel
theorem dX8_init_41 : decode cX8_init 41 = .ok (.newarray .int, 2) := by decide +kernel
theorem dX8_init_43 : decode cX8_init 43 = .ok (.putfield 28, 3) := by decide +kernel
theorem dX8_init_46 : decode cX8_init 46 = .ok (.aload_n 0, 1) := by decide +kernel
theorem dX8_init_47 : decode cX8_init 47 = .ok (.sipush 8192, 3) := by decide +kernel
theorem dX8_init_50 : decode cX8_init 50 = .ok (.newarray .int, 2) := by decide +kernel
theorem dX8_init_52 : decode cX8_init 52 = .ok (.putfield 31, 3) := by decide +kernel
theorem dX8_init_55 : decode cX8_init 55 = .ok (.aload_n 0, 1) := by decide +kernel
theorem dX8_init_56 : decode cX8_init 56 = .ok (.sipush 8192, 3) := by decide +kernel
theorem dX8_init_59 : decode cX8_init 59 = .ok (.newarray .int, 2) := by decide +kernel
theorem dX8_init_61 : decode cX8_init 61 = .ok (.putfield 34, 3) := by decide +kernel
theorem dX8_init_64 : decode cX8_init 64 = .ok (.return_, 1) := by decide +kernel
theorem dX9_init_0 : decode cX9_init 0 = .ok (.aload_n 0, 1) := by decide +kernel
theorem dX9_init_1 : decode cX9_init 1 = .ok (.invokespecial 1, 3) := by decide +kernel
theorem dX9_init_4 : decode cX9_init 4 = .ok (.aload_n 0, 1) := by decide +kernel
theorem dX9_init_5 : decode cX9_init 5 = .ok (.sipush 1400, 3) := by decide +kernel
theorem dX9_init_8 : decode cX9_init 8 = .ok (.newarray .byte, 2) := by decide +kernel
theorem dX9_init_10 : decode cX9_init 10 = .ok (.putfield 9, 3) := by decide +kernel
theorem dX9_init_13 : decode cX9_init 13 = .ok (.aload_n 0, 1) := by decide +kernel
theorem dX9_init_14 : decode cX9_init 14 = .ok (.new 13, 3) := by decide +kernel
theorem dX9_init_17 : decode cX9_init 17 = .ok (.dup, 1) := by decide +kernel
theorem dX9_init_18 : decode cX9_init 18 = .ok (.invokespecial 15, 3) := by decide +kernel
theorem dX9_init_21 : decode cX9_init 21 = .ok (.putfield 16, 3) := by decide +kernel
theorem dX9_init_24 : decode cX9_init 24 = .ok (.aload_n 0, 1) := by decide +kernel
theorem dX9_init_25 : decode cX9_init 25 = .ok (.new 20, 3) := by decide +kernel
theorem dX9_init_28 : decode cX9_init 28 = .ok (.dup, 1) := by decide +kernel
theorem dX9_init_29 : decode cX9_init 29 = .ok (.invokespecial 22, 3) := by decide +kernel
theorem dX9_init_32 : decode cX9_init 32 = .ok (.putfield 23, 3) := by decide +kernel
theorem dX9_init_35 : decode cX9_init 35 = .ok (.aload_n 0, 1) := by decide +kernel
theorem dX9_init_36 : decode cX9_init 36 = .ok (.iconst 3, 1) := by decide +kernel
theorem dX9_init_37 : decode cX9_init 37 = .ok (.anewarray 20, 3) := by decide +kernel
theorem dX9_init_40 : decode cX9_init 40 = .ok (.putfield 27, 3) := by decide +kernel
theorem dX9_init_43 : decode cX9_init 43 = .ok (.aload_n 0, 1) := by decide +kernel
theorem dX9_init_44 : decode cX9_init 44 = .ok (.iconst 4, 1) := by decide +kernel
theorem dX9_init_45 : decode cX9_init 45 = .ok (.anewarray 31, 3) := by decide +kernel
theorem dX9_init_48 : decode cX9_init 48 = .ok (.putfield 33, 3) := by decide +kernel
theorem dX9_init_51 : decode cX9_init 51 = .ok (.aload_n 0, 1) := by decide +kernel
theorem dX9_init_52 : decode cX9_init 52 = .ok (.new 37, 3) := by decide +kernel
theorem dX9_init_55 : decode cX9_init 55 = .ok (.dup, 1) := by decide +kernel
theorem dX9_init_56 : decode cX9_init 56 = .ok (.invokespecial 39, 3) := by decide +kernel
theorem dX9_init_59 : decode cX9_init 59 = .ok (.putfield 40, 3) := by decide +kernel
theorem dX9_init_62 : decode cX9_init 62 = .ok (.aload_n 0, 1) := by decide +kernel
theorem dX9_init_63 : decode cX9_init 63 = .ok (.new 44, 3) := by decide +kernel
theorem dX9_init_66 : decode cX9_init 66 = .ok (.dup, 1) := by decide +kernel
theorem dX9_init_67 : decode cX9_init 67 = .ok (.invokespecial 46, 3) := by decide +kernel
theorem dX9_init_70 : decode cX9_init 70 = .ok (.putfield 47, 3) := by decide +kernel
theorem dX9_init_73 : decode cX9_init 73 = .ok (.aload_n 0, 1) := by decide +kernel
theorem dX9_init_74 : decode cX9_init 74 = .ok (.new 51, 3) := by decide +kernel
theorem dX9_init_77 : decode cX9_init 77 = .ok (.dup, 1) := by decide +kernel
theorem dX9_init_78 : decode cX9_init 78 = .ok (.invokespecial 53, 3) := by decide +kernel
theorem dX9_init_81 : decode cX9_init 81 = .ok (.putfield 54, 3) := by decide +kernel
theorem dX9_init_84 : decode cX9_init 84 = .ok (.aload_n 0, 1) := by decide +kernel
theorem dX9_init_85 : decode cX9_init 85 = .ok (.bipush 16, 2) := by decide +kernel
theorem dX9_init_87 : decode cX9_init 87 = .ok (.newarray .int, 2) := by decide +kernel
theorem dX9_init_89 : decode cX9_init 89 = .ok (.putfield 58, 3) := by decide +kernel
theorem dX9_init_92 : decode cX9_init 92 = .ok (.iconst 0, 1) := by decide +kernel
theorem dX9_init_93 : decode cX9_init 93 = .ok (.istore_n 1, 1) := by decide +kernel
theorem dX9_init_94 : decode cX9_init 94 = .ok (.iload_n 1, 1) := by decide +kernel
