theorem dX4_lostBits_22 : decode cX4_lostBits 22 = .ok (.istore 5, 2) := by decide +kernel
theorem dX4_lostBits_24 : decode cX4_lostBits 24 = .ok (.iload 5, 2) := by decide +kernel
theorem dX4_lostBits_26 : decode cX4_lostBits 26 = .ok (.ifCond .lt 39, 3) := by decide +kernel
theorem dX4_lostBits_29 : decode cX4_lostBits 29 = .ok (.aload_n 0, 1) := by decide +kernel
theorem dX4_lostBits_30 : decode cX4_lostBits 30 = .ok (.aload_n 1, 1) := by decide +kernel
theorem dX4_lostBits_31 : decode cX4_lostBits 31 = .ok (.iload_n 2, 1) := by decide +kernel
theorem dX4_lostBits_32 : decode cX4_lostBits 32 = .ok (.aload_n 1, 1) := by decide +kernel
theorem dX4_lostBits_33 : decode cX4_lostBits 33 = .ok (.getfield 67, 3) := by decide +kernel
theorem dX4_lostBits_36 : decode cX4_lostBits 36 = .ok (.getfield 184, 3) := by decide +kernel
theorem dX4_lostBits_39 : decode cX4_lostBits 39 = .ok (.iload 5, 2) := by decide +kernel
theorem dX4_lostBits_41 : decode cX4_lostBits 41 = .ok (.iaload, 1) := by decide +kernel
theorem dX4_lostBits_42 : decode cX4_lostBits 42 = .ok (.aload_n 1, 1) := by decide +kernel
theorem dX4_lostBits_43 : decode cX4_lostBits 43 = .ok (.getfield 67, 3) := by decide +kernel
theorem dX4_lostBits_46 : decode cX4_lostBits 46 = .ok (.getfield 187, 3) := by decide +kernel
theorem dX4_lostBits_49 : decode cX4_lostBits 49 = .ok (.iload 5, 2) := by decide +kernel
theorem dX4_lostBits_51 : decode cX4_lostBits 51 = .ok (.iaload, 1) := by decide +kernel
theorem dX4_lostBits_52 : decode cX4_lostBits 52 = .ok (.invokevirtual 190, 3) := by decide +kernel
theorem dX4_lostBits_55 : decode cX4_lostBits 55 = .ok (.ifCond .ne 10, 3) := by decide +kernel
theorem dX4_lostBits_58 : decode cX4_lostBits 58 = .ok (.iload_n 3, 1) := by decide +kernel
theorem dX4_lostBits_59 : decode cX4_lostBits 59 = .ok (.iconst 1, 1) := by decide +kernel
theorem dX4_lostBits_60 : decode cX4_lostBits 60 = .ok (.iload 4, 2) := by decide +kernel
theorem dX4_lostBits_62 : decode cX4_lostBits 62 = .ok (.ishl, 1) := by decide +kernel
theorem dX4_lostBits_63 : decode cX4_lostBits 63 = .ok (.ior, 1) := by decide +kernel
theorem dX4_lostBits_64 : decode cX4_lostBits 64 = .ok (.istore_n 3, 1) := by decide +kernel
theorem dX4_lostBits_65 : decode cX4_lostBits 65 = .ok (.iinc 4 1, 3) := by decide +kernel
theorem dX4_lostBits_68 : decode cX4_lostBits 68 = .ok (.goto (-63), 3) := by decide +kernel
theorem dX4_lostBits_71 : decode cX4_lostBits 71 = .ok (.iload_n 3, 1) := by decide +kernel
theorem dX4_lostBits_72 : decode cX4_lostBits 72 = .ok (.ireturn, 1) := by decide +kernel
theorem dX4_canBeSeen_0 : decode cX4_canBeSeen 0 = .ok (.aload_n 0, 1) := by decide +kernel
theorem dX4_canBeSeen_1 : decode cX4_canBeSeen 1 = .ok (.aload_n 1, 1) := by decide +kernel
theorem dX4_canBeSeen_2 : decode cX4_canBeSeen 2 = .ok (.iload_n 2, 1) := by decide +kernel
theorem dX4_canBeSeen_3 : decode cX4_canBeSeen 3 = .ok (.iload_n 3, 1) := by decide +kernel
theorem dX4_canBeSeen_4 : decode cX4_canBeSeen 4 = .ok (.invokevirtual 101, 3) := by decide +kernel
theorem dX4_canBeSeen_7 : decode cX4_canBeSeen 7 = .ok (.aload_n 0, 1) := by decide +kernel
theorem dX4_canBeSeen_8 : decode cX4_canBeSeen 8 = .ok (.iload_n 3, 1) := by decide +kernel
theorem dX4_canBeSeen_9 : decode cX4_canBeSeen 9 = .ok (.aload_n 1, 1) := by decide +kernel
theorem dX4_canBeSeen_10 : decode cX4_canBeSeen 10 = .ok (.getfield 56, 3) := by decide +kernel
theorem dX4_canBeSeen_13 : decode cX4_canBeSeen 13 = .ok (.iload_n 2, 1) := by decide +kernel
theorem dX4_canBeSeen_14 : decode cX4_canBeSeen 14 = .ok (.iload_n 3, 1) := by decide +kernel
theorem dX4_canBeSeen_15 : decode cX4_canBeSeen 15 = .ok (.invokevirtual 105, 3) := by decide +kernel
theorem dX4_canBeSeen_18 : decode cX4_canBeSeen 18 = .ok (.invokevirtual 133, 3) := by decide +kernel
theorem dX4_canBeSeen_21 : decode cX4_canBeSeen 21 = .ok (.sipush 1000, 3) := by decide +kernel
theorem dX4_canBeSeen_24 : decode cX4_canBeSeen 24 = .ok (.if_icmp .lt 5, 3) := by decide +kernel
theorem dX4_canBeSeen_27 : decode cX4_canBeSeen 27 = .ok (.iconst 0, 1) := by decide +kernel
theorem dX4_canBeSeen_28 : decode cX4_canBeSeen 28 = .ok (.ireturn, 1) := by decide +kernel
theorem dX4_canBeSeen_29 : decode cX4_canBeSeen 29 = .ok (.aload_n 1, 1) := by decide +kernel
theorem dX4_canBeSeen_30 : decode cX4_canBeSeen 30 = .ok (.getfield 172, 3) := by decide +kernel
theorem dX4_canBeSeen_33 : decode cX4_canBeSeen 33 = .ok (.istore 5, 2) := by decide +kernel
theorem dX4_canBeSeen_35 : decode cX4_canBeSeen 35 = .ok (.iload 5, 2) := by decide +kernel
theorem dX4_canBeSeen_37 : decode cX4_canBeSeen 37 = .ok (.aload_n 1, 1) := by decide +kernel
theorem dX4_canBeSeen_38 : decode cX4_canBeSeen 38 = .ok (.getfield 172, 3) := by decide +kernel
theorem dX4_canBeSeen_41 : decode cX4_canBeSeen 41 = .ok (.bipush 7, 2) := by decide +kernel
theorem dX4_canBeSeen_43 : decode cX4_canBeSeen 43 = .ok (.iadd, 1) := by decide +kernel
theorem dX4_canBeSeen_44 : decode cX4_canBeSeen 44 = .ok (.if_icmp .ge 29, 3) := by decide +kernel
theorem dX4_canBeSeen_47 : decode cX4_canBeSeen 47 = .ok (.iload 5, 2) := by decide +kernel
theorem dX4_canBeSeen_49 : decode cX4_canBeSeen 49 = .ok (.iload 4, 2) := by decide +kernel
theorem dX4_canBeSeen_51 : decode cX4_canBeSeen 51 = .ok (.if_icmp .gt 22, 3) := by decide +kernel
theorem dX4_canBeSeen_54 : decode cX4_canBeSeen 54 = .ok (.aload_n 1, 1) := by decide +kernel
theorem dX4_canBeSeen_55 : decode cX4_canBeSeen 55 = .ok (.iload_n 2, 1) := by decide +kernel
theorem dX4_canBeSeen_56 : decode cX4_canBeSeen 56 = .ok (.iload_n 3, 1) := by decide +kernel
theorem dX4_canBeSeen_57 : decode cX4_canBeSeen 57 = .ok (.iload 5, 2) := by decide +kernel
theorem dX4_canBeSeen_59 : decode cX4_canBeSeen 59 = .ok (.invokestatic 120, 3) := by decide +kernel
theorem dX4_canBeSeen_62 : decode cX4_canBeSeen 62 = .ok (.ifCond .eq 5, 3) := by decide +kernel
theorem dX4_canBeSeen_65 : decode cX4_canBeSeen 65 = .ok (.iconst 1, 1) := by decide +kernel
theorem dX4_canBeSeen_66 : decode cX4_canBeSeen 66 = .ok (.ireturn, 1) := by decide +kernel
theorem dX4_canBeSeen_67 : decode cX4_canBeSeen 67 = .ok (.iinc 5 1, 3) := by decide +kernel
theorem dX4_canBeSeen_70 : decode cX4_canBeSeen 70 = .ok (.goto (-35), 3) := by decide +kernel
theorem dX4_canBeSeen_73 : decode cX4_canBeSeen 73 = .ok (.iconst 0, 1) := by decide +kernel
theorem dX4_canBeSeen_74 : decode cX4_canBeSeen 74 = .ok (.ireturn, 1) := by decide +kernel
theorem dX5_init_0 : decode cX5_init 0 = .ok (.aload_n 0, 1) := by decide +kernel
theorem dX5_init_1 : decode cX5_init 1 = .ok (.invokespecial 3, 3) := by decide +kernel
theorem dX5_init_4 : decode cX5_init 4 = .ok (.aload_n 0, 1) := by decide +kernel
theorem dX5_init_5 : decode cX5_init 5 = .ok (.bipush 60, 2) := by decide +kernel
theorem dX5_init_7 : decode cX5_init 7 = .ok (.newarray .long, 2) := by decide +kernel
theorem dX5_init_9 : decode cX5_init 9 = .ok (.putfield 9, 3) := by decide +kernel
theorem dX5_init_12 : decode cX5_init 12 = .ok (.return_, 1) := by decide +kernel
theorem dX5_lay_0 : decode cX5_lay 0 = .ok (.aload_n 0, 1) := by decide +kernel
theorem dX5_lay_1 : decode cX5_lay 1 = .ok (.iconst 1, 1) := by decide +kernel
theorem dX5_lay_2 : decode cX5_lay 2 = .ok (.putfield 15, 3) := by decide +kernel
theorem dX5_lay_5 : decode cX5_lay 5 = .ok (.aload_n 0, 1) := by decide +kernel
theorem dX5_lay_6 : decode cX5_lay 6 = .ok (.iload_n 1, 1) := by decide +kernel
theorem dX5_lay_7 : decode cX5_lay 7 = .ok (.putfield 19, 3) := by decide +kernel
theorem dX5_lay_10 : decode cX5_lay 10 = .ok (.aload_n 0, 1) := by decide +kernel
theorem dX5_lay_11 : decode cX5_lay 11 = .ok (.iload_n 2, 1) := by decide +kernel
theorem dX5_lay_12 : decode cX5_lay 12 = .ok (.putfield 23, 3) := by decide +kernel
theorem dX5_lay_15 : decode cX5_lay 15 = .ok (.aload_n 0, 1) := by decide +kernel
theorem dX5_lay_16 : decode cX5_lay 16 = .ok (.getfield 9, 3) := by decide +kernel
theorem dX5_lay_19 : decode cX5_lay 19 = .ok (.lconst 0, 1) := by decide +kernel
theorem dX5_lay_20 : decode cX5_lay 20 = .ok (.invokestatic 26, 3) := by decide +kernel
theorem dX5_lay_23 : decode cX5_lay 23 = .ok (.return_, 1) := by decide +kernel
theorem dX5_cut_0 : decode cX5_cut 0 = .ok (.aload_n 0, 1) := by decide +kernel
theorem dX5_cut_1 : decode cX5_cut 1 = .ok (.getfield 19, 3) := by decide +kernel
theorem dX5_cut_4 : decode cX5_cut 4 = .ok (.tableswitch 42 0 2 #[28, 33, 38], 28) := by decide +kernel
theorem dX5_cut_32 : decode cX5_cut 32 = .ok (.lload_n 1, 1) := by decide +kernel
theorem dX5_cut_33 : decode cX5_cut 33 = .ok (.l2i, 1) := by decide +kernel
theorem dX5_cut_34 : decode cX5_cut 34 = .ok (.i2b, 1) := by decide +kernel
theorem dX5_cut_35 : decode cX5_cut 35 = .ok (.i2l, 1) := by decide +kernel
theorem dX5_cut_36 : decode cX5_cut 36 = .ok (.lreturn, 1) := by decide +kernel
theorem dX5_cut_37 : decode cX5_cut 37 = .ok (.lload_n 1, 1) := by decide +kernel
theorem dX5_cut_38 : decode cX5_cut 38 = .ok (.l2i, 1) := by decide +kernel
theorem dX5_cut_39 : decode cX5_cut 39 = .ok (.i2s, 1) := by decide +kernel
theorem dX5_cut_40 : decode cX5_cut 40 = .ok (.i2l, 1) := by decide +kernel
theorem dX5_cut_41 : decode cX5_cut 41 = .ok (.lreturn, 1) := by decide +kernel
theorem dX5_cut_42 : decode cX5_cut 42 = .ok (.lload_n 1, 1) := by decide +kernel
theorem dX5_cut_43 : decode cX5_cut 43 = .ok (.l2i, 1) := by decide +kernel
theorem dX5_cut_44 : decode cX5_cut 44 = .ok (.i2l, 1) := by decide +kernel
theorem dX5_cut_45 : decode cX5_cut 45 = .ok (.lreturn, 1) := by decide +kernel
theorem dX5_cut_46 : decode cX5_cut 46 = .ok (.lload_n 1, 1) := by decide +kernel
theorem dX5_cut_47 : decode cX5_cut 47 = .ok (.lreturn, 1) := by decide +kernel
theorem dX5_small_0 : decode cX5_small 0 = .ok (.iload_n 1, 1) := by decide +kernel
theorem dX5_small_1 : decode cX5_small 1 = .ok (.ifCond .lt 35, 3) := by decide +kernel
theorem dX5_small_4 : decode cX5_small 4 = .ok (.iload_n 1, 1) := by decide +kernel
theorem dX5_small_5 : decode cX5_small 5 = .ok (.aload_n 0, 1) := by decide +kernel
theorem dX5_small_6 : decode cX5_small 6 = .ok (.getfield 23, 3) := by decide +kernel
theorem dX5_small_9 : decode cX5_small 9 = .ok (.if_icmp .ge 27, 3) := by decide +kernel
theorem dX5_small_12 : decode cX5_small 12 = .ok (.aload_n 0, 1) := by decide +kernel
theorem dX5_small_13 : decode cX5_small 13 = .ok (.getfield 9, 3) := by decide +kernel
theorem dX5_small_16 : decode cX5_small 16 = .ok (.iload_n 1, 1) := by decide +kernel
theorem dX5_small_17 : decode cX5_small 17 = .ok (.laload, 1) := by decide +kernel
theorem dX5_small_18 : decode cX5_small 18 = .ok (.lconst 0, 1) := by decide +kernel
theorem dX5_small_19 : decode cX5_small 19 = .ok (.lcmp, 1) := by decide +kernel
theorem dX5_small_20 : decode cX5_small 20 = .ok (.ifCond .lt 16, 3) := by decide +kernel
theorem dX5_small_23 : decode cX5_small 23 = .ok (.aload_n 0, 1) := by decide +kernel
theorem dX5_small_24 : decode cX5_small 24 = .ok (.getfield 9, 3) := by decide +kernel
theorem dX5_small_27 : decode cX5_small 27 = .ok (.iload_n 1, 1) := by decide +kernel
theorem dX5_small_28 : decode cX5_small 28 = .ok (.laload, 1) := by decide +kernel
theorem dX5_small_29 : decode cX5_small 29 = .ok (.ldc2_w 32, 3) := by decide +kernel
theorem dX5_small_32 : decode cX5_small 32 = .ok (.lcmp, 1) := by decide +kernel
theorem dX5_small_33 : decode cX5_small 33 = .ok (.ifCond .lt 5, 3) := by decide +kernel
theorem dX5_small_36 : decode cX5_small 36 = .ok (.iconst (-1), 1) := by decide +kernel
theorem dX5_small_37 : decode cX5_small 37 = .ok (.ireturn, 1) := by decide +kernel
theorem dX5_small_38 : decode cX5_small 38 = .ok (.aload_n 0, 1) := by decide +kernel
theorem dX5_small_39 : decode cX5_small 39 = .ok (.getfield 9, 3) := by decide +kernel
theorem dX5_small_42 : decode cX5_small 42 = .ok (.iload_n 1, 1) := by decide +kernel
theorem dX5_small_43 : decode cX5_small 43 = .ok (.laload, 1) := by decide +kernel
theorem dX5_small_44 : decode cX5_small 44 = .ok (.l2i, 1) := by decide +kernel
theorem dX5_small_45 : decode cX5_small 45 = .ok (.ireturn, 1) := by decide +kernel
theorem dX5_hasRun_0 : decode cX5_hasRun 0 = .ok (.iload_n 1, 1) := by decide +kernel
theorem dX5_hasRun_1 : decode cX5_hasRun 1 = .ok (.ifCond .lt 29, 3) := by decide +kernel
theorem dX5_hasRun_4 : decode cX5_hasRun 4 = .ok (.iload_n 2, 1) := by decide +kernel
theorem dX5_hasRun_5 : decode cX5_hasRun 5 = .ok (.ifCond .lt 25, 3) := by decide +kernel
theorem dX5_hasRun_8 : decode cX5_hasRun 8 = .ok (.iload_n 2, 1) := by decide +kernel
theorem dX5_hasRun_9 : decode cX5_hasRun 9 = .ok (.aload_n 0, 1) := by decide +kernel
theorem dX5_hasRun_10 : decode cX5_hasRun 10 = .ok (.getfield 23, 3) := by decide +kernel
theorem dX5_hasRun_13 : decode cX5_hasRun 13 = .ok (.if_icmp .gt 17, 3) := by decide +kernel
theorem dX5_hasRun_16 : decode cX5_hasRun 16 = .ok (.iload_n 1, 1) := by decide +kernel
theorem dX5_hasRun_17 : decode cX5_hasRun 17 = .ok (.aload_n 0, 1) := by decide +kernel
theorem dX5_hasRun_18 : decode cX5_hasRun 18 = .ok (.getfield 23, 3) := by decide +kernel
theorem dX5_hasRun_21 : decode cX5_hasRun 21 = .ok (.iload_n 2, 1) := by decide +kernel
theorem dX5_hasRun_22 : decode cX5_hasRun 22 = .ok (.isub, 1) := by decide +kernel
theorem dX5_hasRun_23 : decode cX5_hasRun 23 = .ok (.if_icmp .gt 7, 3) := by decide +kernel
theorem dX5_hasRun_26 : decode cX5_hasRun 26 = .ok (.iconst 1, 1) := by decide +kernel
theorem dX5_hasRun_27 : decode cX5_hasRun 27 = .ok (.goto 4, 3) := by decide +kernel
theorem dX5_hasRun_30 : decode cX5_hasRun 30 = .ok (.iconst 0, 1) := by decide +kernel
theorem dX5_hasRun_31 : decode cX5_hasRun 31 = .ok (.ireturn, 1) := by decide +kernel
theorem dX6_init_0 : decode cX6_init 0 = .ok (.aload_n 0, 1) := by decide +kernel
theorem dX6_init_1 : decode cX6_init 1 = .ok (.invokespecial 3, 3) := by decide +kernel
theorem dX6_init_4 : decode cX6_init 4 = .ok (.aload_n 0, 1) := by decide +kernel
theorem dX6_init_5 : decode cX6_init 5 = .ok (.new 9, 3) := by decide +kernel
theorem dX6_init_8 : decode cX6_init 8 = .ok (.dup, 1) := by decide +kernel
theorem dX6_init_9 : decode cX6_init 9 = .ok (.invokespecial 11, 3) := by decide +kernel
theorem dX6_init_12 : decode cX6_init 12 = .ok (.putfield 12, 3) := by decide +kernel
theorem dX6_init_15 : decode cX6_init 15 = .ok (.aload_n 0, 1) := by decide +kernel
theorem dX6_init_16 : decode cX6_init 16 = .ok (.new 18, 3) := by decide +kernel
theorem dX6_init_19 : decode cX6_init 19 = .ok (.dup, 1) := by decide +kernel
theorem dX6_init_20 : decode cX6_init 20 = .ok (.invokespecial 20, 3) := by decide +kernel
theorem dX6_init_23 : decode cX6_init 23 = .ok (.putfield 21, 3) := by decide +kernel
theorem dX6_init_26 : decode cX6_init 26 = .ok (.aload_n 0, 1) := by decide +kernel
theorem dX6_init_27 : decode cX6_init 27 = .ok (.new 25, 3) := by decide +kernel
theorem dX6_init_30 : decode cX6_init 30 = .ok (.dup, 1) := by decide +kernel
theorem dX6_init_31 : decode cX6_init 31 = .ok (.invokespecial 27, 3) := by decide +kernel
theorem dX6_init_34 : decode cX6_init 34 = .ok (.putfield 28, 3) := by decide +kernel
theorem dX6_init_37 : decode cX6_init 37 = .ok (.aload_n 0, 1) := by decide +kernel
theorem dX6_init_38 : decode cX6_init 38 = .ok (.new 32, 3) := by decide +kernel
theorem dX6_init_41 : decode cX6_init 41 = .ok (.dup, 1) := by decide +kernel
theorem dX6_init_42 : decode cX6_init 42 = .ok (.invokespecial 34, 3) := by decide +kernel
theorem dX6_init_45 : decode cX6_init 45 = .ok (.putfield 35, 3) := by decide +kernel
theorem dX6_init_48 : decode cX6_init 48 = .ok (.aload_n 0, 1) := by decide +kernel
theorem dX6_init_49 : decode cX6_init 49 = .ok (.bipush 16, 2) := by decide +kernel
theorem dX6_init_51 : decode cX6_init 51 = .ok (.newarray .int, 2) := by decide +kernel
theorem dX6_init_53 : decode cX6_init 53 = .ok (.putfield 39, 3) := by decide +kernel
theorem dX6_init_56 : decode cX6_init 56 = .ok (.aload_n 0, 1) := by decide +kernel
theorem dX6_init_57 : decode cX6_init 57 = .ok (.bipush 16, 2) := by decide +kernel
theorem dX6_init_59 : decode cX6_init 59 = .ok (.newarray .int, 2) := by decide +kernel
theorem dX6_init_61 : decode cX6_init 61 = .ok (.putfield 43, 3) := by decide +kernel
theorem dX6_init_64 : decode cX6_init 64 = .ok (.return_, 1) := by decide +kernel
theorem dX6_begin_0 : decode cX6_begin 0 = .ok (.aload_n 0, 1) := by decide +kernel
theorem dX6_begin_1 : decode cX6_begin 1 = .ok (.getfield 12, 3) := by decide +kernel
theorem dX6_begin_4 : decode cX6_begin 4 = .ok (.aload_n 1, 1) := by decide +kernel
theorem dX6_begin_5 : decode cX6_begin 5 = .ok (.invokevirtual 46, 3) := by decide +kernel
theorem dX6_begin_8 : decode cX6_begin 8 = .ok (.aload_n 0, 1) := by decide +kernel
theorem dX6_begin_9 : decode cX6_begin 9 = .ok (.getfield 21, 3) := by decide +kernel
theorem dX6_begin_12 : decode cX6_begin 12 = .ok (.aload_n 2, 1) := by decide +kernel
theorem dX6_begin_13 : decode cX6_begin 13 = .ok (.invokevirtual 50, 3) := by decide +kernel
theorem dX6_begin_16 : decode cX6_begin 16 = .ok (.aload_n 0, 1) := by decide +kernel
theorem dX6_begin_17 : decode cX6_begin 17 = .ok (.getfield 28, 3) := by decide +kernel
theorem dX6_begin_20 : decode cX6_begin 20 = .ok (.invokevirtual 53, 3) := by decide +kernel
theorem dX6_begin_23 : decode cX6_begin 23 = .ok (.aload_n 0, 1) := by decide +kernel
theorem dX6_begin_24 : decode cX6_begin 24 = .ok (.getfield 35, 3) := by decide +kernel
theorem dX6_begin_27 : decode cX6_begin 27 = .ok (.iconst 0, 1) := by decide +kernel
theorem dX6_begin_28 : decode cX6_begin 28 = .ok (.putfield 56, 3) := by decide +kernel
theorem dX6_begin_31 : decode cX6_begin 31 = .ok (.aload_n 0, 1) := by decide +kernel
theorem dX6_begin_32 : decode cX6_begin 32 = .ok (.getfield 12, 3) := by decide +kernel
theorem dX6_begin_35 : decode cX6_begin 35 = .ok (.getfield 60, 3) := by decide +kernel
theorem dX6_begin_38 : decode cX6_begin 38 = .ok (.iconst 0, 1) := by decide +kernel
theorem dX6_begin_39 : decode cX6_begin 39 = .ok (.aload_n 0, 1) := by decide +kernel
theorem dX6_begin_40 : decode cX6_begin 40 = .ok (.getfield 39, 3) := by decide +kernel
theorem dX6_begin_43 : decode cX6_begin 43 = .ok (.iconst 0, 1) := by decide +kernel
theorem dX6_begin_44 : decode cX6_begin 44 = .ok (.bipush 16, 2) := by decide +kernel
theorem dX6_begin_46 : decode cX6_begin 46 = .ok (.invokestatic 63, 3) := by decide +kernel
theorem dX6_begin_49 : decode cX6_begin 49 = .ok (.aload_n 0, 1) := by decide +kernel
theorem dX6_begin_50 : decode cX6_begin 50 = .ok (.iconst 0, 1) := by decide +kernel
theorem dX6_begin_51 : decode cX6_begin 51 = .ok (.putfield 69, 3) := by decide +kernel
theorem dX6_begin_54 : decode cX6_begin 54 = .ok (.aload_n 0, 1) := by decide +kernel
theorem dX6_begin_55 : decode cX6_begin 55 = .ok (.iconst 0, 1) := by decide +kernel
theorem dX6_begin_56 : decode cX6_begin 56 = .ok (.putfield 72, 3) := by decide +kernel
theorem dX6_begin_59 : decode cX6_begin 59 = .ok (.return_, 1) := by decide +kernel
theorem dX6_copy_0 : decode cX6_copy 0 = .ok (.aload_n 0, 1) := by decide +kernel
theorem dX6_copy_1 : decode cX6_copy 1 = .ok (.getfield 12, 3) := by decide +kernel
theorem dX6_copy_4 : decode cX6_copy 4 = .ok (.aload_n 1, 1) := by decide +kernel
theorem dX6_copy_5 : decode cX6_copy 5 = .ok (.getfield 12, 3) := by decide +kernel
theorem dX6_copy_8 : decode cX6_copy 8 = .ok (.invokevirtual 46, 3) := by decide +kernel
theorem dX6_copy_11 : decode cX6_copy 11 = .ok (.aload_n 0, 1) := by decide +kernel
theorem dX6_copy_12 : decode cX6_copy 12 = .ok (.getfield 21, 3) := by decide +kernel
theorem dX6_copy_15 : decode cX6_copy 15 = .ok (.aload_n 1, 1) := by decide +kernel
theorem dX6_copy_16 : decode cX6_copy 16 = .ok (.getfield 21, 3) := by decide +kernel
theorem dX6_copy_19 : decode cX6_copy 19 = .ok (.invokevirtual 50, 3) := by decide +kernel
theorem dX6_copy_22 : decode cX6_copy 22 = .ok (.aload_n 0, 1) := by decide +kernel
theorem dX6_copy_23 : decode cX6_copy 23 = .ok (.getfield 28, 3) := by decide +kernel
theorem dX6_copy_26 : decode cX6_copy 26 = .ok (.aload_n 1, 1) := by decide +kernel
theorem dX6_copy_27 : decode cX6_copy 27 = .ok (.getfield 28, 3) := by decide +kernel
theorem dX6_copy_30 : decode cX6_copy 30 = .ok (.invokevirtual 75, 3) := by decide +kernel
theorem dX6_copy_33 : decode cX6_copy 33 = .ok (.aload_n 0, 1) := by decide +kernel
theorem dX6_copy_34 : decode cX6_copy 34 = .ok (.getfield 35, 3) := by decide +kernel
theorem dX6_copy_37 : decode cX6_copy 37 = .ok (.aload_n 1, 1) := by decide +kernel
theorem dX6_copy_38 : decode cX6_copy 38 = .ok (.getfield 35, 3) := by decide +kernel
theorem dX6_copy_41 : decode cX6_copy 41 = .ok (.invokevirtual 78, 3) := by decide +kernel
theorem dX6_copy_44 : decode cX6_copy 44 = .ok (.aload_n 1, 1) := by decide +kernel
theorem dX6_copy_45 : decode cX6_copy 45 = .ok (.getfield 39, 3) := by decide +kernel
theorem dX6_copy_48 : decode cX6_copy 48 = .ok (.iconst 0, 1) := by decide +kernel
theorem dX6_copy_49 : decode cX6_copy 49 = .ok (.aload_n 0, 1) := by decide +kernel
theorem dX6_copy_50 : decode cX6_copy 50 = .ok (.getfield 39, 3) := by decide +kernel
theorem dX6_copy_53 : decode cX6_copy 53 = .ok (.iconst 0, 1) := by decide +kernel
theorem dX6_copy_54 : decode cX6_copy 54 = .ok (.bipush 16, 2) := by decide +kernel
theorem dX6_copy_56 : decode cX6_copy 56 = .ok (.invokestatic 63, 3) := by decide +kernel
theorem dX6_copy_59 : decode cX6_copy 59 = .ok (.aload_n 0, 1) := by decide +kernel
theorem dX6_copy_60 : decode cX6_copy 60 = .ok (.aload_n 1, 1) := by decide +kernel
theorem dX6_copy_61 : decode cX6_copy 61 = .ok (.getfield 69, 3) := by decide +kernel
theorem dX6_copy_64 : decode cX6_copy 64 = .ok (.putfield 69, 3) := by decide +kernel
theorem dX6_copy_67 : decode cX6_copy 67 = .ok (.aload_n 0, 1) := by decide +kernel
theorem dX6_copy_68 : decode cX6_copy 68 = .ok (.aload_n 1, 1) := by decide +kernel
theorem dX6_copy_69 : decode cX6_copy 69 = .ok (.getfield 72, 3) := by decide +kernel
theorem dX6_copy_72 : decode cX6_copy 72 = .ok (.putfield 72, 3) := by decide +kernel
theorem dX6_copy_75 : decode cX6_copy 75 = .ok (.return_, 1) := by decide +kernel
theorem dX6_knew_0 : decode cX6_knew 0 = .ok (.aload_n 0, 1) := by decide +kernel
theorem dX6_knew_1 : decode cX6_knew 1 = .ok (.getfield 39, 3) := by decide +kernel
theorem dX6_knew_4 : decode cX6_knew 4 = .ok (.iload_n 1, 1) := by decide +kernel
theorem dX6_knew_5 : decode cX6_knew 5 = .ok (.iaload, 1) := by decide +kernel
theorem dX6_knew_6 : decode cX6_knew 6 = .ok (.iload_n 2, 1) := by decide +kernel
theorem dX6_knew_7 : decode cX6_knew 7 = .ok (.ishr, 1) := by decide +kernel
theorem dX6_knew_8 : decode cX6_knew 8 = .ok (.iconst 1, 1) := by decide +kernel
theorem dX6_knew_9 : decode cX6_knew 9 = .ok (.iand, 1) := by decide +kernel
theorem dX6_knew_10 : decode cX6_knew 10 = .ok (.ireturn, 1) := by decide +kernel
theorem dX6_acquaint_0 : decode cX6_acquaint 0 = .ok (.aload_n 0, 1) := by decide +kernel
theorem dX6_acquaint_1 : decode cX6_acquaint 1 = .ok (.iload_n 1, 1) := by decide +kernel
theorem dX6_acquaint_2 : decode cX6_acquaint 2 = .ok (.dup2, 1) := by decide +kernel
theorem dX6_acquaint_3 : decode cX6_acquaint 3 = .ok (.iaload, 1) := by decide +kernel
theorem dX6_acquaint_4 : decode cX6_acquaint 4 = .ok (.iconst 1, 1) := by decide +kernel
theorem dX6_acquaint_5 : decode cX6_acquaint 5 = .ok (.iload_n 2, 1) := by decide +kernel
theorem dX6_acquaint_6 : decode cX6_acquaint 6 = .ok (.ishl, 1) := by decide +kernel
theorem dX6_acquaint_7 : decode cX6_acquaint 7 = .ok (.ior, 1) := by decide +kernel
theorem dX6_acquaint_8 : decode cX6_acquaint 8 = .ok (.iastore, 1) := by decide +kernel
theorem dX6_acquaint_9 : decode cX6_acquaint 9 = .ok (.aload_n 0, 1) := by decide +kernel
theorem dX6_acquaint_10 : decode cX6_acquaint 10 = .ok (.iload_n 2, 1) := by decide +kernel
theorem dX6_acquaint_11 : decode cX6_acquaint 11 = .ok (.dup2, 1) := by decide +kernel
theorem dX6_acquaint_12 : decode cX6_acquaint 12 = .ok (.iaload, 1) := by decide +kernel
theorem dX6_acquaint_13 : decode cX6_acquaint 13 = .ok (.iconst 1, 1) := by decide +kernel
theorem dX6_acquaint_14 : decode cX6_acquaint 14 = .ok (.iload_n 1, 1) := by decide +kernel
theorem dX6_acquaint_15 : decode cX6_acquaint 15 = .ok (.ishl, 1) := by decide +kernel
theorem dX6_acquaint_16 : decode cX6_acquaint 16 = .ok (.ior, 1) := by decide +kernel
theorem dX6_acquaint_17 : decode cX6_acquaint 17 = .ok (.iastore, 1) := by decide +kernel
theorem dX6_acquaint_18 : decode cX6_acquaint 18 = .ok (.return_, 1) := by decide +kernel
theorem dX6_barrier_0 : decode cX6_barrier 0 = .ok (.aload_n 0, 1) := by decide +kernel
theorem dX6_barrier_1 : decode cX6_barrier 1 = .ok (.getfield 12, 3) := by decide +kernel
theorem dX6_barrier_4 : decode cX6_barrier 4 = .ok (.iload_n 1, 1) := by decide +kernel
theorem dX6_barrier_5 : decode cX6_barrier 5 = .ok (.aload_n 0, 1) := by decide +kernel
theorem dX6_barrier_6 : decode cX6_barrier 6 = .ok (.getfield 69, 3) := by decide +kernel
theorem dX6_barrier_9 : decode cX6_barrier 9 = .ok (.invokevirtual 81, 3) := by decide +kernel
theorem dX6_barrier_12 : decode cX6_barrier 12 = .ok (.ifCond .eq 27, 3) := by decide +kernel
theorem dX6_barrier_15 : decode cX6_barrier 15 = .ok (.aload_n 0, 1) := by decide +kernel
theorem dX6_barrier_16 : decode cX6_barrier 16 = .ok (.getfield 12, 3) := by decide +kernel
theorem dX6_barrier_19 : decode cX6_barrier 19 = .ok (.iload_n 2, 1) := by decide +kernel
theorem dX6_barrier_20 : decode cX6_barrier 20 = .ok (.aload_n 0, 1) := by decide +kernel
theorem dX6_barrier_21 : decode cX6_barrier 21 = .ok (.getfield 69, 3) := by decide +kernel
theorem dX6_barrier_24 : decode cX6_barrier 24 = .ok (.invokevirtual 81, 3) := by decide +kernel
theorem dX6_barrier_27 : decode cX6_barrier 27 = .ok (.ifCond .eq 12, 3) := by decide +kernel
theorem dX6_barrier_30 : decode cX6_barrier 30 = .ok (.aload_n 0, 1) := by decide +kernel
theorem dX6_barrier_31 : decode cX6_barrier 31 = .ok (.iload_n 1, 1) := by decide +kernel
theorem dX6_barrier_32 : decode cX6_barrier 32 = .ok (.iload_n 2, 1) := by decide +kernel
theorem dX6_barrier_33 : decode cX6_barrier 33 = .ok (.invokevirtual 85, 3) := by decide +kernel
theorem dX6_barrier_36 : decode cX6_barrier 36 = .ok (.ifCond .ne 5, 3) := by decide +kernel
theorem dX6_barrier_39 : decode cX6_barrier 39 = .ok (.iconst 1, 1) := by decide +kernel
theorem dX6_barrier_40 : decode cX6_barrier 40 = .ok (.ireturn, 1) := by decide +kernel
theorem dX6_barrier_41 : decode cX6_barrier 41 = .ok (.iload_n 3, 1) := by decide +kernel
theorem dX6_barrier_42 : decode cX6_barrier 42 = .ok (.iconst 2, 1) := by decide +kernel
theorem dX6_barrier_43 : decode cX6_barrier 43 = .ok (.if_icmp .ge 5, 3) := by decide +kernel
theorem dX6_barrier_46 : decode cX6_barrier 46 = .ok (.iconst 0, 1) := by decide +kernel
theorem dX6_barrier_47 : decode cX6_barrier 47 = .ok (.ireturn, 1) := by decide +kernel
theorem dX6_barrier_48 : decode cX6_barrier 48 = .ok (.aload_n 0, 1) := by decide +kernel
theorem dX6_barrier_49 : decode cX6_barrier 49 = .ok (.getfield 69, 3) := by decide +kernel
theorem dX6_barrier_52 : decode cX6_barrier 52 = .ok (.bipush 7, 2) := by decide +kernel
theorem dX6_barrier_54 : decode cX6_barrier 54 = .ok (.irem, 1) := by decide +kernel
theorem dX6_barrier_55 : decode cX6_barrier 55 = .ok (.aload_n 0, 1) := by decide +kernel
theorem dX6_barrier_56 : decode cX6_barrier 56 = .ok (.getfield 12, 3) := by decide +kernel
theorem dX6_barrier_59 : decode cX6_barrier 59 = .ok (.getfield 88, 3) := by decide +kernel
theorem dX6_barrier_62 : decode cX6_barrier 62 = .ok (.iload_n 2, 1) := by decide +kernel
theorem dX6_barrier_63 : decode cX6_barrier 63 = .ok (.iaload, 1) := by decide +kernel
theorem dX6_barrier_64 : decode cX6_barrier 64 = .ok (.if_icmp .eq 5, 3) := by decide +kernel
theorem dX6_barrier_67 : decode cX6_barrier 67 = .ok (.iconst 2, 1) := by decide +kernel
theorem dX6_barrier_68 : decode cX6_barrier 68 = .ok (.ireturn, 1) := by decide +kernel
theorem dX6_barrier_69 : decode cX6_barrier 69 = .ok (.aload_n 0, 1) := by decide +kernel
theorem dX6_barrier_70 : decode cX6_barrier 70 = .ok (.getfield 12, 3) := by decide +kernel
theorem dX6_barrier_73 : decode cX6_barrier 73 = .ok (.iload_n 1, 1) := by decide +kernel
theorem dX6_barrier_74 : decode cX6_barrier 74 = .ok (.aload_n 0, 1) := by decide +kernel
theorem dX6_barrier_75 : decode cX6_barrier 75 = .ok (.getfield 69, 3) := by decide +kernel
theorem dX6_barrier_78 : decode cX6_barrier 78 = .ok (.invokevirtual 91, 3) := by decide +kernel
theorem dX6_barrier_81 : decode cX6_barrier 81 = .ok (.ifCond .eq 7, 3) := by decide +kernel
theorem dX6_barrier_84 : decode cX6_barrier 84 = .ok (.iconst 3, 1) := by decide +kernel
theorem dX6_barrier_85 : decode cX6_barrier 85 = .ok (.goto 4, 3) := by decide +kernel
theorem dX6_barrier_88 : decode cX6_barrier 88 = .ok (.iconst 0, 1) := by decide +kernel
theorem dX6_barrier_89 : decode cX6_barrier 89 = .ok (.ireturn, 1) := by decide +kernel
theorem dX6_isOpenTo_0 : decode cX6_isOpenTo 0 = .ok (.aload_n 0, 1) := by decide +kernel
theorem dX6_isOpenTo_1 : decode cX6_isOpenTo 1 = .ok (.iload_n 1, 1) := by decide +kernel
theorem dX6_isOpenTo_2 : decode cX6_isOpenTo 2 = .ok (.iload_n 2, 1) := by decide +kernel
theorem dX6_isOpenTo_3 : decode cX6_isOpenTo 3 = .ok (.invokevirtual 94, 3) := by decide +kernel
theorem dX6_isOpenTo_6 : decode cX6_isOpenTo 6 = .ok (.iconst 1, 1) := by decide +kernel
theorem dX6_isOpenTo_7 : decode cX6_isOpenTo 7 = .ok (.if_icmp .eq 33, 3) := by decide +kernel
theorem dX6_isOpenTo_10 : decode cX6_isOpenTo 10 = .ok (.aload_n 0, 1) := by decide +kernel
theorem dX6_isOpenTo_11 : decode cX6_isOpenTo 11 = .ok (.getfield 12, 3) := by decide +kernel
theorem dX6_isOpenTo_14 : decode cX6_isOpenTo 14 = .ok (.iload_n 2, 1) := by decide +kernel
theorem dX6_isOpenTo_15 : decode cX6_isOpenTo 15 = .ok (.aload_n 0, 1) := by decide +kernel
theorem dX6_isOpenTo_16 : decode cX6_isOpenTo 16 = .ok (.getfield 69, 3) := by decide +kernel
theorem dX6_isOpenTo_19 : decode cX6_isOpenTo 19 = .ok (.invokevirtual 98, 3) := by decide +kernel
theorem dX6_isOpenTo_22 : decode cX6_isOpenTo 22 = .ok (.ifCond .eq 20, 3) := by decide +kernel
theorem dX6_isOpenTo_25 : decode cX6_isOpenTo 25 = .ok (.aload_n 0, 1) := by decide +kernel
theorem dX6_isOpenTo_26 : decode cX6_isOpenTo 26 = .ok (.getfield 12, 3) := by decide +kernel
theorem dX6_isOpenTo_29 : decode cX6_isOpenTo 29 = .ok (.iload_n 1, 1) := by decide +kernel
theorem dX6_isOpenTo_30 : decode cX6_isOpenTo 30 = .ok (.aload_n 0, 1) := by decide +kernel
theorem dX6_isOpenTo_31 : decode cX6_isOpenTo 31 = .ok (.getfield 69, 3) := by decide +kernel
theorem dX6_isOpenTo_34 : decode cX6_isOpenTo 34 = .ok (.invokevirtual 98, 3) := by decide +kernel
theorem dX6_isOpenTo_37 : decode cX6_isOpenTo 37 = .ok (.ifCond .ne 5, 3) := by decide +kernel
theorem dX6_isOpenTo_40 : decode cX6_isOpenTo 40 = .ok (.iconst 1, 1) := by decide +kernel
theorem dX6_isOpenTo_41 : decode cX6_isOpenTo 41 = .ok (.ireturn, 1) := by decide +kernel
theorem dX6_isOpenTo_42 : decode cX6_isOpenTo 42 = .ok (.aload_n 0, 1) := by decide +kernel
theorem dX6_isOpenTo_43 : decode cX6_isOpenTo 43 = .ok (.getfield 39, 3) := by decide +kernel
theorem dX6_isOpenTo_46 : decode cX6_isOpenTo 46 = .ok (.iload_n 1, 1) := by decide +kernel
theorem dX6_isOpenTo_47 : decode cX6_isOpenTo 47 = .ok (.iaload, 1) := by decide +kernel
theorem dX6_isOpenTo_48 : decode cX6_isOpenTo 48 = .ok (.aload_n 0, 1) := by decide +kernel
theorem dX6_isOpenTo_49 : decode cX6_isOpenTo 49 = .ok (.getfield 39, 3) := by decide +kernel
theorem dX6_isOpenTo_52 : decode cX6_isOpenTo 52 = .ok (.iload_n 2, 1) := by decide +kernel
theorem dX6_isOpenTo_53 : decode cX6_isOpenTo 53 = .ok (.iaload, 1) := by decide +kernel
theorem dX6_isOpenTo_54 : decode cX6_isOpenTo 54 = .ok (.iand, 1) := by decide +kernel
theorem dX6_isOpenTo_55 : decode cX6_isOpenTo 55 = .ok (.invokestatic 101, 3) := by decide +kernel
theorem dX6_isOpenTo_58 : decode cX6_isOpenTo 58 = .ok (.aload_n 0, 1) := by decide +kernel
theorem dX6_isOpenTo_59 : decode cX6_isOpenTo 59 = .ok (.getfield 12, 3) := by decide +kernel
theorem dX6_isOpenTo_62 : decode cX6_isOpenTo 62 = .ok (.getfield 107, 3) := by decide +kernel
theorem dX6_isOpenTo_65 : decode cX6_isOpenTo 65 = .ok (.if_icmp .lt 7, 3) := by decide +kernel
theorem dX6_isOpenTo_68 : decode cX6_isOpenTo 68 = .ok (.iconst 1, 1) := by decide +kernel
theorem dX6_isOpenTo_69 : decode cX6_isOpenTo 69 = .ok (.goto 4, 3) := by decide +kernel
theorem dX6_isOpenTo_72 : decode cX6_isOpenTo 72 = .ok (.iconst 0, 1) := by decide +kernel
theorem dX6_isOpenTo_73 : decode cX6_isOpenTo 73 = .ok (.ireturn, 1) := by decide +kernel
theorem dX6_act_0 : decode cX6_act 0 = .ok (.aload_n 0, 1) := by decide +kernel
theorem dX6_act_1 : decode cX6_act 1 = .ok (.aload_n 0, 1) := by decide +kernel
theorem dX6_act_2 : decode cX6_act 2 = .ok (.getfield 28, 3) := by decide +kernel
theorem dX6_act_5 : decode cX6_act 5 = .ok (.aload_n 0, 1) := by decide +kernel
theorem dX6_act_6 : decode cX6_act 6 = .ok (.getfield 21, 3) := by decide +kernel
theorem dX6_act_9 : decode cX6_act 9 = .ok (.iload_n 1, 1) := by decide +kernel
theorem dX6_act_10 : decode cX6_act 10 = .ok (.iload_n 2, 1) := by decide +kernel
theorem dX6_act_11 : decode cX6_act 11 = .ok (.iload_n 3, 1) := by decide +kernel
theorem dX6_act_12 : decode cX6_act 12 = .ok (.aload_n 0, 1) := by decide +kernel
theorem dX6_act_13 : decode cX6_act 13 = .ok (.getfield 69, 3) := by decide +kernel
theorem dX6_act_16 : decode cX6_act 16 = .ok (.aload_n 0, 1) := by decide +kernel
theorem dX6_act_17 : decode cX6_act 17 = .ok (.iload_n 1, 1) := by decide +kernel
theorem dX6_act_18 : decode cX6_act 18 = .ok (.iload_n 2, 1) := by decide +kernel
theorem dX6_act_19 : decode cX6_act 19 = .ok (.invokevirtual 94, 3) := by decide +kernel
theorem dX6_act_22 : decode cX6_act 22 = .ok (.invokevirtual 110, 3) := by decide +kernel
theorem dX6_act_25 : decode cX6_act 25 = .ok (.istore 4, 2) := by decide +kernel
theorem dX6_act_27 : decode cX6_act 27 = .ok (.aload_n 0, 1) := by decide +kernel
theorem dX6_act_28 : decode cX6_act 28 = .ok (.dup, 1) := by decide +kernel
theorem dX6_act_29 : decode cX6_act 29 = .ok (.getfield 72, 3) := by decide +kernel
theorem dX6_act_32 : decode cX6_act 32 = .ok (.iload 4, 2) := by decide +kernel
theorem dX6_act_34 : decode cX6_act 34 = .ok (.iadd, 1) := by decide +kernel
theorem dX6_act_35 : decode cX6_act 35 = .ok (.putfield 72, 3) := by decide +kernel
theorem dX6_act_38 : decode cX6_act 38 = .ok (.aload_n 0, 1) := by decide +kernel
theorem dX6_act_39 : decode cX6_act 39 = .ok (.getfield 35, 3) := by decide +kernel
theorem dX6_act_42 : decode cX6_act 42 = .ok (.iload_n 1, 1) := by decide +kernel
theorem dX6_act_43 : decode cX6_act 43 = .ok (.iload_n 2, 1) := by decide +kernel
theorem dX6_act_44 : decode cX6_act 44 = .ok (.iload_n 3, 1) := by decide +kernel
theorem dX6_act_45 : decode cX6_act 45 = .ok (.aload_n 0, 1) := by decide +kernel
theorem dX6_act_46 : decode cX6_act 46 = .ok (.getfield 69, 3) := by decide +kernel
