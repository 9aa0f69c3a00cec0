theorem dX10_drop_104 : decode cX10_drop 104 = .ok (.istore_n 2, 1) := by decide +kernel
theorem dX10_drop_105 : decode cX10_drop 105 = .ok (.iinc 4 1, 3) := by decide +kernel
theorem dX10_drop_108 : decode cX10_drop 108 = .ok (.goto (-76), 3) := by decide +kernel
theorem dX10_drop_111 : decode cX10_drop 111 = .ok (.iload_n 2, 1) := by decide +kernel
theorem dX10_drop_112 : decode cX10_drop 112 = .ok (.ireturn, 1) := by decide +kernel
theorem dX10_tie_0 : decode cX10_tie 0 = .ok (.aload_n 0, 1) := by decide +kernel
theorem dX10_tie_1 : decode cX10_tie 1 = .ok (.iload_n 1, 1) := by decide +kernel
theorem dX10_tie_2 : decode cX10_tie 2 = .ok (.iload_n 2, 1) := by decide +kernel
theorem dX10_tie_3 : decode cX10_tie 3 = .ok (.invokevirtual 315, 3) := by decide +kernel
theorem dX10_tie_6 : decode cX10_tie 6 = .ok (.ifCond .ne 6, 3) := by decide +kernel
theorem dX10_tie_9 : decode cX10_tie 9 = .ok (.bipush (-2), 2) := by decide +kernel
theorem dX10_tie_11 : decode cX10_tie 11 = .ok (.ireturn, 1) := by decide +kernel
theorem dX10_tie_12 : decode cX10_tie 12 = .ok (.aload_n 0, 1) := by decide +kernel
theorem dX10_tie_13 : decode cX10_tie 13 = .ok (.iload_n 1, 1) := by decide +kernel
theorem dX10_tie_14 : decode cX10_tie 14 = .ok (.iload_n 2, 1) := by decide +kernel
theorem dX10_tie_15 : decode cX10_tie 15 = .ok (.invokevirtual 304, 3) := by decide +kernel
theorem dX10_tie_18 : decode cX10_tie 18 = .ok (.ifCond .ne 5, 3) := by decide +kernel
theorem dX10_tie_21 : decode cX10_tie 21 = .ok (.iconst (-1), 1) := by decide +kernel
theorem dX10_tie_22 : decode cX10_tie 22 = .ok (.ireturn, 1) := by decide +kernel
theorem dX10_tie_23 : decode cX10_tie 23 = .ok (.aload_n 0, 1) := by decide +kernel
theorem dX10_tie_24 : decode cX10_tie 24 = .ok (.iload_n 1, 1) := by decide +kernel
theorem dX10_tie_25 : decode cX10_tie 25 = .ok (.iload_n 1, 1) := by decide +kernel
theorem dX10_tie_26 : decode cX10_tie 26 = .ok (.iload_n 2, 1) := by decide +kernel
theorem dX10_tie_27 : decode cX10_tie 27 = .ok (.invokevirtual 456, 3) := by decide +kernel
theorem dX10_tie_30 : decode cX10_tie 30 = .ok (.iload_n 2, 1) := by decide +kernel
theorem dX10_tie_31 : decode cX10_tie 31 = .ok (.invokestatic 294, 3) := by decide +kernel
theorem dX10_tie_34 : decode cX10_tie 34 = .ok (.ifCond .eq 7, 3) := by decide +kernel
theorem dX10_tie_37 : decode cX10_tie 37 = .ok (.iconst 0, 1) := by decide +kernel
theorem dX10_tie_38 : decode cX10_tie 38 = .ok (.goto 4, 3) := by decide +kernel
theorem dX10_tie_41 : decode cX10_tie 41 = .ok (.iconst 1, 1) := by decide +kernel
theorem dX10_tie_42 : decode cX10_tie 42 = .ok (.ireturn, 1) := by decide +kernel
theorem dX10_callsAll_0 : decode cX10_callsAll 0 = .ok (.iconst 0, 1) := by decide +kernel
theorem dX10_callsAll_1 : decode cX10_callsAll 1 = .ok (.istore_n 1, 1) := by decide +kernel
theorem dX10_callsAll_2 : decode cX10_callsAll 2 = .ok (.iload_n 1, 1) := by decide +kernel
theorem dX10_callsAll_3 : decode cX10_callsAll 3 = .ok (.bipush 16, 2) := by decide +kernel
theorem dX10_callsAll_5 : decode cX10_callsAll 5 = .ok (.if_icmp .ge 16, 3) := by decide +kernel
theorem dX10_callsAll_8 : decode cX10_callsAll 8 = .ok (.aload_n 0, 1) := by decide +kernel
theorem dX10_callsAll_9 : decode cX10_callsAll 9 = .ok (.getfield 80, 3) := by decide +kernel
theorem dX10_callsAll_12 : decode cX10_callsAll 12 = .ok (.iload_n 1, 1) := by decide +kernel
theorem dX10_callsAll_13 : decode cX10_callsAll 13 = .ok (.iconst 0, 1) := by decide +kernel
theorem dX10_callsAll_14 : decode cX10_callsAll 14 = .ok (.iastore, 1) := by decide +kernel
theorem dX10_callsAll_15 : decode cX10_callsAll 15 = .ok (.iinc 1 1, 3) := by decide +kernel
theorem dX10_callsAll_18 : decode cX10_callsAll 18 = .ok (.goto (-16), 3) := by decide +kernel
theorem dX10_callsAll_21 : decode cX10_callsAll 21 = .ok (.iconst 0, 1) := by decide +kernel
theorem dX10_callsAll_22 : decode cX10_callsAll 22 = .ok (.istore_n 1, 1) := by decide +kernel
theorem dX10_callsAll_23 : decode cX10_callsAll 23 = .ok (.iload_n 1, 1) := by decide +kernel
theorem dX10_callsAll_24 : decode cX10_callsAll 24 = .ok (.aload_n 0, 1) := by decide +kernel
theorem dX10_callsAll_25 : decode cX10_callsAll 25 = .ok (.getfield 13, 3) := by decide +kernel
theorem dX10_callsAll_28 : decode cX10_callsAll 28 = .ok (.bipush 8, 2) := by decide +kernel
theorem dX10_callsAll_30 : decode cX10_callsAll 30 = .ok (.iaload, 1) := by decide +kernel
theorem dX10_callsAll_31 : decode cX10_callsAll 31 = .ok (.if_icmp .ge 72, 3) := by decide +kernel
theorem dX10_callsAll_34 : decode cX10_callsAll 34 = .ok (.aload_n 0, 1) := by decide +kernel
theorem dX10_callsAll_35 : decode cX10_callsAll 35 = .ok (.getfield 13, 3) := by decide +kernel
theorem dX10_callsAll_38 : decode cX10_callsAll 38 = .ok (.sipush 6680, 3) := by decide +kernel
theorem dX10_callsAll_41 : decode cX10_callsAll 41 = .ok (.iconst 4, 1) := by decide +kernel
theorem dX10_callsAll_42 : decode cX10_callsAll 42 = .ok (.iload_n 1, 1) := by decide +kernel
theorem dX10_callsAll_43 : decode cX10_callsAll 43 = .ok (.imul, 1) := by decide +kernel
theorem dX10_callsAll_44 : decode cX10_callsAll 44 = .ok (.iadd, 1) := by decide +kernel
theorem dX10_callsAll_45 : decode cX10_callsAll 45 = .ok (.iconst 2, 1) := by decide +kernel
theorem dX10_callsAll_46 : decode cX10_callsAll 46 = .ok (.iadd, 1) := by decide +kernel
theorem dX10_callsAll_47 : decode cX10_callsAll 47 = .ok (.iaload, 1) := by decide +kernel
theorem dX10_callsAll_48 : decode cX10_callsAll 48 = .ok (.i2l, 1) := by decide +kernel
theorem dX10_callsAll_49 : decode cX10_callsAll 49 = .ok (.ldc2_w 99, 3) := by decide +kernel
theorem dX10_callsAll_52 : decode cX10_callsAll 52 = .ok (.ldc2_w 313, 3) := by decide +kernel
theorem dX10_callsAll_55 : decode cX10_callsAll 55 = .ok (.invokestatic 101, 3) := by decide +kernel
theorem dX10_callsAll_58 : decode cX10_callsAll 58 = .ok (.ifCond .eq 39, 3) := by decide +kernel
theorem dX10_callsAll_61 : decode cX10_callsAll 61 = .ok (.aload_n 0, 1) := by decide +kernel
theorem dX10_callsAll_62 : decode cX10_callsAll 62 = .ok (.getfield 80, 3) := by decide +kernel
theorem dX10_callsAll_65 : decode cX10_callsAll 65 = .ok (.aload_n 0, 1) := by decide +kernel
theorem dX10_callsAll_66 : decode cX10_callsAll 66 = .ok (.getfield 13, 3) := by decide +kernel
theorem dX10_callsAll_69 : decode cX10_callsAll 69 = .ok (.sipush 6680, 3) := by decide +kernel
theorem dX10_callsAll_72 : decode cX10_callsAll 72 = .ok (.iconst 4, 1) := by decide +kernel
theorem dX10_callsAll_73 : decode cX10_callsAll 73 = .ok (.iload_n 1, 1) := by decide +kernel
theorem dX10_callsAll_74 : decode cX10_callsAll 74 = .ok (.imul, 1) := by decide +kernel
theorem dX10_callsAll_75 : decode cX10_callsAll 75 = .ok (.iadd, 1) := by decide +kernel
theorem dX10_callsAll_76 : decode cX10_callsAll 76 = .ok (.iaload, 1) := by decide +kernel
theorem dX10_callsAll_77 : decode cX10_callsAll 77 = .ok (.dup2, 1) := by decide +kernel
theorem dX10_callsAll_78 : decode cX10_callsAll 78 = .ok (.iaload, 1) := by decide +kernel
theorem dX10_callsAll_79 : decode cX10_callsAll 79 = .ok (.iconst 1, 1) := by decide +kernel
theorem dX10_callsAll_80 : decode cX10_callsAll 80 = .ok (.aload_n 0, 1) := by decide +kernel
theorem dX10_callsAll_81 : decode cX10_callsAll 81 = .ok (.getfield 13, 3) := by decide +kernel
theorem dX10_callsAll_84 : decode cX10_callsAll 84 = .ok (.sipush 6680, 3) := by decide +kernel
theorem dX10_callsAll_87 : decode cX10_callsAll 87 = .ok (.iconst 4, 1) := by decide +kernel
theorem dX10_callsAll_88 : decode cX10_callsAll 88 = .ok (.iload_n 1, 1) := by decide +kernel
theorem dX10_callsAll_89 : decode cX10_callsAll 89 = .ok (.imul, 1) := by decide +kernel
theorem dX10_callsAll_90 : decode cX10_callsAll 90 = .ok (.iadd, 1) := by decide +kernel
theorem dX10_callsAll_91 : decode cX10_callsAll 91 = .ok (.iconst 1, 1) := by decide +kernel
theorem dX10_callsAll_92 : decode cX10_callsAll 92 = .ok (.iadd, 1) := by decide +kernel
theorem dX10_callsAll_93 : decode cX10_callsAll 93 = .ok (.iaload, 1) := by decide +kernel
theorem dX10_callsAll_94 : decode cX10_callsAll 94 = .ok (.ishl, 1) := by decide +kernel
theorem dX10_callsAll_95 : decode cX10_callsAll 95 = .ok (.ior, 1) := by decide +kernel
theorem dX10_callsAll_96 : decode cX10_callsAll 96 = .ok (.iastore, 1) := by decide +kernel
theorem dX10_callsAll_97 : decode cX10_callsAll 97 = .ok (.iinc 1 1, 3) := by decide +kernel
theorem dX10_callsAll_100 : decode cX10_callsAll 100 = .ok (.goto (-77), 3) := by decide +kernel
theorem dX10_callsAll_103 : decode cX10_callsAll 103 = .ok (.return_, 1) := by decide +kernel
theorem dX10_ring_0 : decode cX10_ring 0 = .ok (.aload_n 0, 1) := by decide +kernel
theorem dX10_ring_1 : decode cX10_ring 1 = .ok (.iload_n 1, 1) := by decide +kernel
theorem dX10_ring_2 : decode cX10_ring 2 = .ok (.invokevirtual 105, 3) := by decide +kernel
theorem dX10_ring_5 : decode cX10_ring 5 = .ok (.ifCond .ne 6, 3) := by decide +kernel
theorem dX10_ring_8 : decode cX10_ring 8 = .ok (.bipush (-2), 2) := by decide +kernel
theorem dX10_ring_10 : decode cX10_ring 10 = .ok (.ireturn, 1) := by decide +kernel
theorem dX10_ring_11 : decode cX10_ring 11 = .ok (.aload_n 0, 1) := by decide +kernel
theorem dX10_ring_12 : decode cX10_ring 12 = .ok (.invokevirtual 462, 3) := by decide +kernel
theorem dX10_ring_15 : decode cX10_ring 15 = .ok (.aload_n 0, 1) := by decide +kernel
theorem dX10_ring_16 : decode cX10_ring 16 = .ok (.iload_n 1, 1) := by decide +kernel
theorem dX10_ring_17 : decode cX10_ring 17 = .ok (.invokevirtual 465, 3) := by decide +kernel
theorem dX10_ring_20 : decode cX10_ring 20 = .ok (.ireturn, 1) := by decide +kernel
theorem dX10_rings_0 : decode cX10_rings 0 = .ok (.aload_n 0, 1) := by decide +kernel
theorem dX10_rings_1 : decode cX10_rings 1 = .ok (.invokevirtual 462, 3) := by decide +kernel
theorem dX10_rings_4 : decode cX10_rings 4 = .ok (.iconst 0, 1) := by decide +kernel
theorem dX10_rings_5 : decode cX10_rings 5 = .ok (.istore_n 1, 1) := by decide +kernel
theorem dX10_rings_6 : decode cX10_rings 6 = .ok (.iconst 0, 1) := by decide +kernel
theorem dX10_rings_7 : decode cX10_rings 7 = .ok (.istore_n 2, 1) := by decide +kernel
theorem dX10_rings_8 : decode cX10_rings 8 = .ok (.iload_n 2, 1) := by decide +kernel
theorem dX10_rings_9 : decode cX10_rings 9 = .ok (.aload_n 0, 1) := by decide +kernel
theorem dX10_rings_10 : decode cX10_rings 10 = .ok (.getfield 13, 3) := by decide +kernel
theorem dX10_rings_13 : decode cX10_rings 13 = .ok (.iconst 0, 1) := by decide +kernel
theorem dX10_rings_14 : decode cX10_rings 14 = .ok (.iaload, 1) := by decide +kernel
theorem dX10_rings_15 : decode cX10_rings 15 = .ok (.if_icmp .ge 37, 3) := by decide +kernel
theorem dX10_rings_18 : decode cX10_rings 18 = .ok (.aload_n 0, 1) := by decide +kernel
theorem dX10_rings_19 : decode cX10_rings 19 = .ok (.iload_n 2, 1) := by decide +kernel
theorem dX10_rings_20 : decode cX10_rings 20 = .ok (.invokevirtual 465, 3) := by decide +kernel
theorem dX10_rings_23 : decode cX10_rings 23 = .ok (.istore_n 3, 1) := by decide +kernel
theorem dX10_rings_24 : decode cX10_rings 24 = .ok (.iload_n 1, 1) := by decide +kernel
theorem dX10_rings_25 : decode cX10_rings 25 = .ok (.iload_n 3, 1) := by decide +kernel
theorem dX10_rings_26 : decode cX10_rings 26 = .ok (.ifCond .eq 17, 3) := by decide +kernel
theorem dX10_rings_29 : decode cX10_rings 29 = .ok (.iload_n 3, 1) := by decide +kernel
theorem dX10_rings_30 : decode cX10_rings 30 = .ok (.iconst 1, 1) := by decide +kernel
theorem dX10_rings_31 : decode cX10_rings 31 = .ok (.iload_n 2, 1) := by decide +kernel
theorem dX10_rings_32 : decode cX10_rings 32 = .ok (.ishl, 1) := by decide +kernel
theorem dX10_rings_33 : decode cX10_rings 33 = .ok (.iconst 1, 1) := by decide +kernel
theorem dX10_rings_34 : decode cX10_rings 34 = .ok (.isub, 1) := by decide +kernel
theorem dX10_rings_35 : decode cX10_rings 35 = .ok (.iand, 1) := by decide +kernel
theorem dX10_rings_36 : decode cX10_rings 36 = .ok (.ifCond .ne 7, 3) := by decide +kernel
theorem dX10_rings_39 : decode cX10_rings 39 = .ok (.iconst 1, 1) := by decide +kernel
theorem dX10_rings_40 : decode cX10_rings 40 = .ok (.goto 4, 3) := by decide +kernel
theorem dX10_rings_43 : decode cX10_rings 43 = .ok (.iconst 0, 1) := by decide +kernel
theorem dX10_rings_44 : decode cX10_rings 44 = .ok (.iadd, 1) := by decide +kernel
theorem dX10_rings_45 : decode cX10_rings 45 = .ok (.istore_n 1, 1) := by decide +kernel
theorem dX10_rings_46 : decode cX10_rings 46 = .ok (.iinc 2 1, 3) := by decide +kernel
theorem dX10_rings_49 : decode cX10_rings 49 = .ok (.goto (-41), 3) := by decide +kernel
theorem dX10_rings_52 : decode cX10_rings 52 = .ok (.iload_n 1, 1) := by decide +kernel
theorem dX10_rings_53 : decode cX10_rings 53 = .ok (.ireturn, 1) := by decide +kernel
theorem dX10_house_0 : decode cX10_house 0 = .ok (.aload_n 0, 1) := by decide +kernel
theorem dX10_house_1 : decode cX10_house 1 = .ok (.iload_n 1, 1) := by decide +kernel
theorem dX10_house_2 : decode cX10_house 2 = .ok (.invokevirtual 105, 3) := by decide +kernel
theorem dX10_house_5 : decode cX10_house 5 = .ok (.ifCond .eq 15, 3) := by decide +kernel
theorem dX10_house_8 : decode cX10_house 8 = .ok (.iload_n 2, 1) := by decide +kernel
theorem dX10_house_9 : decode cX10_house 9 = .ok (.i2l, 1) := by decide +kernel
theorem dX10_house_10 : decode cX10_house 10 = .ok (.lconst 0, 1) := by decide +kernel
theorem dX10_house_11 : decode cX10_house 11 = .ok (.ldc2_w 468, 3) := by decide +kernel
theorem dX10_house_14 : decode cX10_house 14 = .ok (.invokestatic 101, 3) := by decide +kernel
theorem dX10_house_17 : decode cX10_house 17 = .ok (.ifCond .ne 7, 3) := by decide +kernel
theorem dX10_house_20 : decode cX10_house 20 = .ok (.ldc_w 470, 3) := by decide +kernel
theorem dX10_house_23 : decode cX10_house 23 = .ok (.ireturn, 1) := by decide +kernel
theorem dX10_house_24 : decode cX10_house 24 = .ok (.iload_n 2, 1) := by decide +kernel
theorem dX10_house_25 : decode cX10_house 25 = .ok (.bipush 7, 2) := by decide +kernel
theorem dX10_house_27 : decode cX10_house 27 = .ok (.if_icmp .ge 10, 3) := by decide +kernel
theorem dX10_house_30 : decode cX10_house 30 = .ok (.aload_n 0, 1) := by decide +kernel
theorem dX10_house_31 : decode cX10_house 31 = .ok (.iload_n 1, 1) := by decide +kernel
theorem dX10_house_32 : decode cX10_house 32 = .ok (.iload_n 2, 1) := by decide +kernel
theorem dX10_house_33 : decode cX10_house 33 = .ok (.invokevirtual 286, 3) := by decide +kernel
theorem dX10_house_36 : decode cX10_house 36 = .ok (.ireturn, 1) := by decide +kernel
theorem dX10_house_37 : decode cX10_house 37 = .ok (.iconst 0, 1) := by decide +kernel
theorem dX10_house_38 : decode cX10_house 38 = .ok (.istore_n 3, 1) := by decide +kernel
theorem dX10_house_39 : decode cX10_house 39 = .ok (.iconst 0, 1) := by decide +kernel
theorem dX10_house_40 : decode cX10_house 40 = .ok (.istore 4, 2) := by decide +kernel
theorem dX10_house_42 : decode cX10_house 42 = .ok (.iload 4, 2) := by decide +kernel
theorem dX10_house_44 : decode cX10_house 44 = .ok (.aload_n 0, 1) := by decide +kernel
theorem dX10_house_45 : decode cX10_house 45 = .ok (.getfield 13, 3) := by decide +kernel
theorem dX10_house_48 : decode cX10_house 48 = .ok (.bipush 8, 2) := by decide +kernel
theorem dX10_house_50 : decode cX10_house 50 = .ok (.iaload, 1) := by decide +kernel
theorem dX10_house_51 : decode cX10_house 51 = .ok (.if_icmp .ge 67, 3) := by decide +kernel
theorem dX10_house_54 : decode cX10_house 54 = .ok (.iload_n 3, 1) := by decide +kernel
theorem dX10_house_55 : decode cX10_house 55 = .ok (.aload_n 0, 1) := by decide +kernel
theorem dX10_house_56 : decode cX10_house 56 = .ok (.getfield 13, 3) := by decide +kernel
theorem dX10_house_59 : decode cX10_house 59 = .ok (.sipush 6680, 3) := by decide +kernel
theorem dX10_house_62 : decode cX10_house 62 = .ok (.iconst 4, 1) := by decide +kernel
theorem dX10_house_63 : decode cX10_house 63 = .ok (.iload 4, 2) := by decide +kernel
theorem dX10_house_65 : decode cX10_house 65 = .ok (.imul, 1) := by decide +kernel
theorem dX10_house_66 : decode cX10_house 66 = .ok (.iadd, 1) := by decide +kernel
theorem dX10_house_67 : decode cX10_house 67 = .ok (.iconst 2, 1) := by decide +kernel
theorem dX10_house_68 : decode cX10_house 68 = .ok (.iadd, 1) := by decide +kernel
theorem dX10_house_69 : decode cX10_house 69 = .ok (.iaload, 1) := by decide +kernel
theorem dX10_house_70 : decode cX10_house 70 = .ok (.i2l, 1) := by decide +kernel
theorem dX10_house_71 : decode cX10_house 71 = .ok (.ldc2_w 99, 3) := by decide +kernel
theorem dX10_house_74 : decode cX10_house 74 = .ok (.ldc2_w 313, 3) := by decide +kernel
theorem dX10_house_77 : decode cX10_house 77 = .ok (.invokestatic 101, 3) := by decide +kernel
theorem dX10_house_80 : decode cX10_house 80 = .ok (.ifCond .eq 29, 3) := by decide +kernel
theorem dX10_house_83 : decode cX10_house 83 = .ok (.aload_n 0, 1) := by decide +kernel
theorem dX10_house_84 : decode cX10_house 84 = .ok (.getfield 13, 3) := by decide +kernel
theorem dX10_house_87 : decode cX10_house 87 = .ok (.sipush 6680, 3) := by decide +kernel
theorem dX10_house_90 : decode cX10_house 90 = .ok (.iconst 4, 1) := by decide +kernel
theorem dX10_house_91 : decode cX10_house 91 = .ok (.iload 4, 2) := by decide +kernel
theorem dX10_house_93 : decode cX10_house 93 = .ok (.imul, 1) := by decide +kernel
theorem dX10_house_94 : decode cX10_house 94 = .ok (.iadd, 1) := by decide +kernel
theorem dX10_house_95 : decode cX10_house 95 = .ok (.iload_n 2, 1) := by decide +kernel
theorem dX10_house_96 : decode cX10_house 96 = .ok (.iadd, 1) := by decide +kernel
theorem dX10_house_97 : decode cX10_house 97 = .ok (.bipush 7, 2) := by decide +kernel
theorem dX10_house_99 : decode cX10_house 99 = .ok (.isub, 1) := by decide +kernel
theorem dX10_house_100 : decode cX10_house 100 = .ok (.iaload, 1) := by decide +kernel
theorem dX10_house_101 : decode cX10_house 101 = .ok (.iload_n 1, 1) := by decide +kernel
theorem dX10_house_102 : decode cX10_house 102 = .ok (.if_icmp .ne 7, 3) := by decide +kernel
theorem dX10_house_105 : decode cX10_house 105 = .ok (.iconst 1, 1) := by decide +kernel
theorem dX10_house_106 : decode cX10_house 106 = .ok (.goto 4, 3) := by decide +kernel
theorem dX10_house_109 : decode cX10_house 109 = .ok (.iconst 0, 1) := by decide +kernel
theorem dX10_house_110 : decode cX10_house 110 = .ok (.iadd, 1) := by decide +kernel
theorem dX10_house_111 : decode cX10_house 111 = .ok (.istore_n 3, 1) := by decide +kernel
theorem dX10_house_112 : decode cX10_house 112 = .ok (.iinc 4 1, 3) := by decide +kernel
theorem dX10_house_115 : decode cX10_house 115 = .ok (.goto (-73), 3) := by decide +kernel
theorem dX10_house_118 : decode cX10_house 118 = .ok (.iload_n 3, 1) := by decide +kernel
theorem dX10_house_119 : decode cX10_house 119 = .ok (.ireturn, 1) := by decide +kernel
theorem dX10_beside_0 : decode cX10_beside 0 = .ok (.iload_n 1, 1) := by decide +kernel
theorem dX10_beside_1 : decode cX10_beside 1 = .ok (.i2l, 1) := by decide +kernel
theorem dX10_beside_2 : decode cX10_beside 2 = .ok (.lconst 0, 1) := by decide +kernel
theorem dX10_beside_3 : decode cX10_beside 3 = .ok (.ldc2_w 99, 3) := by decide +kernel
theorem dX10_beside_6 : decode cX10_beside 6 = .ok (.invokestatic 101, 3) := by decide +kernel
theorem dX10_beside_9 : decode cX10_beside 9 = .ok (.ifCond .ne 6, 3) := by decide +kernel
theorem dX10_beside_12 : decode cX10_beside 12 = .ok (.bipush (-2), 2) := by decide +kernel
theorem dX10_beside_14 : decode cX10_beside 14 = .ok (.ireturn, 1) := by decide +kernel
theorem dX10_beside_15 : decode cX10_beside 15 = .ok (.aload_n 0, 1) := by decide +kernel
theorem dX10_beside_16 : decode cX10_beside 16 = .ok (.getfield 20, 3) := by decide +kernel
theorem dX10_beside_19 : decode cX10_beside 19 = .ok (.iload_n 1, 1) := by decide +kernel
theorem dX10_beside_20 : decode cX10_beside 20 = .ok (.baload, 1) := by decide +kernel
theorem dX10_beside_21 : decode cX10_beside 21 = .ok (.ifCond .ne 6, 3) := by decide +kernel
theorem dX10_beside_24 : decode cX10_beside 24 = .ok (.bipush (-6), 2) := by decide +kernel
theorem dX10_beside_26 : decode cX10_beside 26 = .ok (.ireturn, 1) := by decide +kernel
theorem dX10_beside_27 : decode cX10_beside 27 = .ok (.iconst 0, 1) := by decide +kernel
theorem dX10_beside_28 : decode cX10_beside 28 = .ok (.istore_n 2, 1) := by decide +kernel
theorem dX10_beside_29 : decode cX10_beside 29 = .ok (.iload_n 2, 1) := by decide +kernel
theorem dX10_beside_30 : decode cX10_beside 30 = .ok (.sipush 9080, 3) := by decide +kernel
theorem dX10_beside_33 : decode cX10_beside 33 = .ok (.if_icmp .ge 21, 3) := by decide +kernel
theorem dX10_beside_36 : decode cX10_beside 36 = .ok (.aload_n 0, 1) := by decide +kernel
theorem dX10_beside_37 : decode cX10_beside 37 = .ok (.getfield 83, 3) := by decide +kernel
theorem dX10_beside_40 : decode cX10_beside 40 = .ok (.iload_n 2, 1) := by decide +kernel
theorem dX10_beside_41 : decode cX10_beside 41 = .ok (.aload_n 0, 1) := by decide +kernel
theorem dX10_beside_42 : decode cX10_beside 42 = .ok (.getfield 13, 3) := by decide +kernel
theorem dX10_beside_45 : decode cX10_beside 45 = .ok (.iload_n 2, 1) := by decide +kernel
theorem dX10_beside_46 : decode cX10_beside 46 = .ok (.iaload, 1) := by decide +kernel
theorem dX10_beside_47 : decode cX10_beside 47 = .ok (.iastore, 1) := by decide +kernel
theorem dX10_beside_48 : decode cX10_beside 48 = .ok (.iinc 2 1, 3) := by decide +kernel
theorem dX10_beside_51 : decode cX10_beside 51 = .ok (.goto (-22), 3) := by decide +kernel
theorem dX10_beside_54 : decode cX10_beside 54 = .ok (.sipush 154, 3) := by decide +kernel
theorem dX10_beside_57 : decode cX10_beside 57 = .ok (.istore_n 2, 1) := by decide +kernel
theorem dX10_beside_58 : decode cX10_beside 58 = .ok (.iload_n 2, 1) := by decide +kernel
theorem dX10_beside_59 : decode cX10_beside 59 = .ok (.sipush 1864, 3) := by decide +kernel
theorem dX10_beside_62 : decode cX10_beside 62 = .ok (.if_icmp .ge 27, 3) := by decide +kernel
theorem dX10_beside_65 : decode cX10_beside 65 = .ok (.aload_n 0, 1) := by decide +kernel
theorem dX10_beside_66 : decode cX10_beside 66 = .ok (.getfield 13, 3) := by decide +kernel
theorem dX10_beside_69 : decode cX10_beside 69 = .ok (.iload_n 2, 1) := by decide +kernel
theorem dX10_beside_70 : decode cX10_beside 70 = .ok (.aload_n 0, 1) := by decide +kernel
theorem dX10_beside_71 : decode cX10_beside 71 = .ok (.getfield 17, 3) := by decide +kernel
theorem dX10_beside_74 : decode cX10_beside 74 = .ok (.sipush 9080, 3) := by decide +kernel
theorem dX10_beside_77 : decode cX10_beside 77 = .ok (.iload_n 1, 1) := by decide +kernel
theorem dX10_beside_78 : decode cX10_beside 78 = .ok (.imul, 1) := by decide +kernel
theorem dX10_beside_79 : decode cX10_beside 79 = .ok (.iload_n 2, 1) := by decide +kernel
theorem dX10_beside_80 : decode cX10_beside 80 = .ok (.iadd, 1) := by decide +kernel
theorem dX10_beside_81 : decode cX10_beside 81 = .ok (.iaload, 1) := by decide +kernel
theorem dX10_beside_82 : decode cX10_beside 82 = .ok (.iastore, 1) := by decide +kernel
theorem dX10_beside_83 : decode cX10_beside 83 = .ok (.iinc 2 1, 3) := by decide +kernel
theorem dX10_beside_86 : decode cX10_beside 86 = .ok (.goto (-28), 3) := by decide +kernel
theorem dX10_beside_89 : decode cX10_beside 89 = .ok (.iconst 1, 1) := by decide +kernel
theorem dX10_beside_90 : decode cX10_beside 90 = .ok (.istore_n 2, 1) := by decide +kernel
theorem dX10_beside_91 : decode cX10_beside 91 = .ok (.iload_n 2, 1) := by decide +kernel
theorem dX10_beside_92 : decode cX10_beside 92 = .ok (.iconst 3, 1) := by decide +kernel
theorem dX10_beside_93 : decode cX10_beside 93 = .ok (.if_icmp .gt 27, 3) := by decide +kernel
theorem dX10_beside_96 : decode cX10_beside 96 = .ok (.aload_n 0, 1) := by decide +kernel
theorem dX10_beside_97 : decode cX10_beside 97 = .ok (.getfield 13, 3) := by decide +kernel
theorem dX10_beside_100 : decode cX10_beside 100 = .ok (.iload_n 2, 1) := by decide +kernel
theorem dX10_beside_101 : decode cX10_beside 101 = .ok (.aload_n 0, 1) := by decide +kernel
theorem dX10_beside_102 : decode cX10_beside 102 = .ok (.getfield 17, 3) := by decide +kernel
theorem dX10_beside_105 : decode cX10_beside 105 = .ok (.sipush 9080, 3) := by decide +kernel
theorem dX10_beside_108 : decode cX10_beside 108 = .ok (.iload_n 1, 1) := by decide +kernel
theorem dX10_beside_109 : decode cX10_beside 109 = .ok (.imul, 1) := by decide +kernel
theorem dX10_beside_110 : decode cX10_beside 110 = .ok (.iload_n 2, 1) := by decide +kernel
theorem dX10_beside_111 : decode cX10_beside 111 = .ok (.iadd, 1) := by decide +kernel
theorem dX10_beside_112 : decode cX10_beside 112 = .ok (.iaload, 1) := by decide +kernel
theorem dX10_beside_113 : decode cX10_beside 113 = .ok (.iastore, 1) := by decide +kernel
theorem dX10_beside_114 : decode cX10_beside 114 = .ok (.iinc 2 1, 3) := by decide +kernel
theorem dX10_beside_117 : decode cX10_beside 117 = .ok (.goto (-26), 3) := by decide +kernel
theorem dX10_beside_120 : decode cX10_beside 120 = .ok (.iconst 0, 1) := by decide +kernel
theorem dX10_beside_121 : decode cX10_beside 121 = .ok (.istore_n 2, 1) := by decide +kernel
theorem dX10_beside_122 : decode cX10_beside 122 = .ok (.iload_n 2, 1) := by decide +kernel
theorem dX10_beside_123 : decode cX10_beside 123 = .ok (.bipush 16, 2) := by decide +kernel
theorem dX10_beside_125 : decode cX10_beside 125 = .ok (.if_icmp .ge 26, 3) := by decide +kernel
theorem dX10_beside_128 : decode cX10_beside 128 = .ok (.aload_n 0, 1) := by decide +kernel
theorem dX10_beside_129 : decode cX10_beside 129 = .ok (.getfield 13, 3) := by decide +kernel
theorem dX10_beside_132 : decode cX10_beside 132 = .ok (.sipush 1864, 3) := by decide +kernel
theorem dX10_beside_135 : decode cX10_beside 135 = .ok (.iload_n 2, 1) := by decide +kernel
theorem dX10_beside_136 : decode cX10_beside 136 = .ok (.iadd, 1) := by decide +kernel
theorem dX10_beside_137 : decode cX10_beside 137 = .ok (.aload_n 0, 1) := by decide +kernel
theorem dX10_beside_138 : decode cX10_beside 138 = .ok (.iload_n 2, 1) := by decide +kernel
theorem dX10_beside_139 : decode cX10_beside 139 = .ok (.bipush 8, 2) := by decide +kernel
theorem dX10_beside_141 : decode cX10_beside 141 = .ok (.invokevirtual 286, 3) := by decide +kernel
theorem dX10_beside_144 : decode cX10_beside 144 = .ok (.iastore, 1) := by decide +kernel
theorem dX10_beside_145 : decode cX10_beside 145 = .ok (.iinc 2 1, 3) := by decide +kernel
theorem dX10_beside_148 : decode cX10_beside 148 = .ok (.goto (-26), 3) := by decide +kernel
theorem dX10_beside_151 : decode cX10_beside 151 = .ok (.aload_n 0, 1) := by decide +kernel
theorem dX10_beside_152 : decode cX10_beside 152 = .ok (.getfield 13, 3) := by decide +kernel
theorem dX10_beside_155 : decode cX10_beside 155 = .ok (.bipush 7, 2) := by decide +kernel
theorem dX10_beside_157 : decode cX10_beside 157 = .ok (.iconst 0, 1) := by decide +kernel
theorem dX10_beside_158 : decode cX10_beside 158 = .ok (.iastore, 1) := by decide +kernel
theorem dX10_beside_159 : decode cX10_beside 159 = .ok (.iconst 0, 1) := by decide +kernel
theorem dX10_beside_160 : decode cX10_beside 160 = .ok (.istore_n 2, 1) := by decide +kernel
theorem dX10_beside_161 : decode cX10_beside 161 = .ok (.iload_n 2, 1) := by decide +kernel
theorem dX10_beside_162 : decode cX10_beside 162 = .ok (.aload_n 0, 1) := by decide +kernel
theorem dX10_beside_163 : decode cX10_beside 163 = .ok (.getfield 13, 3) := by decide +kernel
theorem dX10_beside_166 : decode cX10_beside 166 = .ok (.bipush 8, 2) := by decide +kernel
theorem dX10_beside_168 : decode cX10_beside 168 = .ok (.iaload, 1) := by decide +kernel
theorem dX10_beside_169 : decode cX10_beside 169 = .ok (.if_icmp .ge 53, 3) := by decide +kernel
theorem dX10_beside_172 : decode cX10_beside 172 = .ok (.sipush 6680, 3) := by decide +kernel
theorem dX10_beside_175 : decode cX10_beside 175 = .ok (.iconst 4, 1) := by decide +kernel
theorem dX10_beside_176 : decode cX10_beside 176 = .ok (.iload_n 2, 1) := by decide +kernel
theorem dX10_beside_177 : decode cX10_beside 177 = .ok (.imul, 1) := by decide +kernel
theorem dX10_beside_178 : decode cX10_beside 178 = .ok (.iadd, 1) := by decide +kernel
theorem dX10_beside_179 : decode cX10_beside 179 = .ok (.istore_n 3, 1) := by decide +kernel
theorem dX10_beside_180 : decode cX10_beside 180 = .ok (.aload_n 0, 1) := by decide +kernel
theorem dX10_beside_181 : decode cX10_beside 181 = .ok (.aload_n 0, 1) := by decide +kernel
theorem dX10_beside_182 : decode cX10_beside 182 = .ok (.getfield 13, 3) := by decide +kernel
theorem dX10_beside_185 : decode cX10_beside 185 = .ok (.iload_n 3, 1) := by decide +kernel
theorem dX10_beside_186 : decode cX10_beside 186 = .ok (.iaload, 1) := by decide +kernel
theorem dX10_beside_187 : decode cX10_beside 187 = .ok (.aload_n 0, 1) := by decide +kernel
theorem dX10_beside_188 : decode cX10_beside 188 = .ok (.getfield 13, 3) := by decide +kernel
theorem dX10_beside_191 : decode cX10_beside 191 = .ok (.iload_n 3, 1) := by decide +kernel
theorem dX10_beside_192 : decode cX10_beside 192 = .ok (.iconst 1, 1) := by decide +kernel
theorem dX10_beside_193 : decode cX10_beside 193 = .ok (.iadd, 1) := by decide +kernel
theorem dX10_beside_194 : decode cX10_beside 194 = .ok (.iaload, 1) := by decide +kernel
theorem dX10_beside_195 : decode cX10_beside 195 = .ok (.aload_n 0, 1) := by decide +kernel
theorem dX10_beside_196 : decode cX10_beside 196 = .ok (.getfield 13, 3) := by decide +kernel
theorem dX10_beside_199 : decode cX10_beside 199 = .ok (.iload_n 3, 1) := by decide +kernel
theorem dX10_beside_200 : decode cX10_beside 200 = .ok (.iconst 2, 1) := by decide +kernel
theorem dX10_beside_201 : decode cX10_beside 201 = .ok (.iadd, 1) := by decide +kernel
theorem dX10_beside_202 : decode cX10_beside 202 = .ok (.iaload, 1) := by decide +kernel
theorem dX10_beside_203 : decode cX10_beside 203 = .ok (.aload_n 0, 1) := by decide +kernel
theorem dX10_beside_204 : decode cX10_beside 204 = .ok (.getfield 13, 3) := by decide +kernel
theorem dX10_beside_207 : decode cX10_beside 207 = .ok (.iload_n 3, 1) := by decide +kernel
theorem dX10_beside_208 : decode cX10_beside 208 = .ok (.iconst 3, 1) := by decide +kernel
theorem dX10_beside_209 : decode cX10_beside 209 = .ok (.iadd, 1) := by decide +kernel
theorem dX10_beside_210 : decode cX10_beside 210 = .ok (.iaload, 1) := by decide +kernel
theorem dX10_beside_211 : decode cX10_beside 211 = .ok (.invokevirtual 364, 3) := by decide +kernel
theorem dX10_beside_214 : decode cX10_beside 214 = .ok (.istore 4, 2) := by decide +kernel
theorem dX10_beside_216 : decode cX10_beside 216 = .ok (.iinc 2 1, 3) := by decide +kernel
theorem dX10_beside_219 : decode cX10_beside 219 = .ok (.goto (-58), 3) := by decide +kernel
theorem dX10_beside_222 : decode cX10_beside 222 = .ok (.aload_n 0, 1) := by decide +kernel
theorem dX10_beside_223 : decode cX10_beside 223 = .ok (.getfield 13, 3) := by decide +kernel
theorem dX10_beside_226 : decode cX10_beside 226 = .ok (.bipush 7, 2) := by decide +kernel
theorem dX10_beside_228 : decode cX10_beside 228 = .ok (.iaload, 1) := by decide +kernel
theorem dX10_beside_229 : decode cX10_beside 229 = .ok (.istore_n 2, 1) := by decide +kernel
theorem dX10_beside_230 : decode cX10_beside 230 = .ok (.iconst 0, 1) := by decide +kernel
theorem dX10_beside_231 : decode cX10_beside 231 = .ok (.istore_n 3, 1) := by decide +kernel
theorem dX10_beside_232 : decode cX10_beside 232 = .ok (.iload_n 3, 1) := by decide +kernel
theorem dX10_beside_233 : decode cX10_beside 233 = .ok (.sipush 9080, 3) := by decide +kernel
theorem dX10_beside_236 : decode cX10_beside 236 = .ok (.if_icmp .ge 21, 3) := by decide +kernel
theorem dX10_beside_239 : decode cX10_beside 239 = .ok (.aload_n 0, 1) := by decide +kernel
theorem dX10_beside_240 : decode cX10_beside 240 = .ok (.getfield 13, 3) := by decide +kernel
theorem dX10_beside_243 : decode cX10_beside 243 = .ok (.iload_n 3, 1) := by decide +kernel
theorem dX10_beside_244 : decode cX10_beside 244 = .ok (.aload_n 0, 1) := by decide +kernel
theorem dX10_beside_245 : decode cX10_beside 245 = .ok (.getfield 83, 3) := by decide +kernel
theorem dX10_beside_248 : decode cX10_beside 248 = .ok (.iload_n 3, 1) := by decide +kernel
theorem dX10_beside_249 : decode cX10_beside 249 = .ok (.iaload, 1) := by decide +kernel
theorem dX10_beside_250 : decode cX10_beside 250 = .ok (.iastore, 1) := by decide +kernel
theorem dX10_beside_251 : decode cX10_beside 251 = .ok (.iinc 3 1, 3) := by decide +kernel
theorem dX10_beside_254 : decode cX10_beside 254 = .ok (.goto (-22), 3) := by decide +kernel
theorem dX10_beside_257 : decode cX10_beside 257 = .ok (.iload_n 2, 1) := by decide +kernel
theorem dX10_beside_258 : decode cX10_beside 258 = .ok (.ireturn, 1) := by decide +kernel
theorem dX10_count_0 : decode cX10_count 0 = .ok (.iconst 0, 1) := by decide +kernel
theorem dX10_count_1 : decode cX10_count 1 = .ok (.istore_n 2, 1) := by decide +kernel
theorem dX10_count_2 : decode cX10_count 2 = .ok (.iload_n 1, 1) := by decide +kernel
theorem dX10_count_3 : decode cX10_count 3 = .ok (.tableswitch 194 0 10 #[57, 64, 71, 76, 84, 126, 134, 142, 147, 154, 161], 57) := by decide +kernel
theorem dX10_count_60 : decode cX10_count 60 = .ok (.aload_n 0, 1) := by decide +kernel
theorem dX10_count_61 : decode cX10_count 61 = .ok (.getfield 13, 3) := by decide +kernel
theorem dX10_count_64 : decode cX10_count 64 = .ok (.iconst 0, 1) := by decide +kernel
theorem dX10_count_65 : decode cX10_count 65 = .ok (.iaload, 1) := by decide +kernel
theorem dX10_count_66 : decode cX10_count 66 = .ok (.ireturn, 1) := by decide +kernel
theorem dX10_count_67 : decode cX10_count 67 = .ok (.aload_n 0, 1) := by decide +kernel
theorem dX10_count_68 : decode cX10_count 68 = .ok (.getfield 13, 3) := by decide +kernel
theorem dX10_count_71 : decode cX10_count 71 = .ok (.iconst 1, 1) := by decide +kernel
theorem dX10_count_72 : decode cX10_count 72 = .ok (.iaload, 1) := by decide +kernel
theorem dX10_count_73 : decode cX10_count 73 = .ok (.ireturn, 1) := by decide +kernel
theorem dX10_count_74 : decode cX10_count 74 = .ok (.aload_n 0, 1) := by decide +kernel
theorem dX10_count_75 : decode cX10_count 75 = .ok (.invokevirtual 291, 3) := by decide +kernel
theorem dX10_count_78 : decode cX10_count 78 = .ok (.ireturn, 1) := by decide +kernel
theorem dX10_count_79 : decode cX10_count 79 = .ok (.aload_n 0, 1) := by decide +kernel
theorem dX10_count_80 : decode cX10_count 80 = .ok (.getfield 13, 3) := by decide +kernel
theorem dX10_count_83 : decode cX10_count 83 = .ok (.bipush 7, 2) := by decide +kernel
theorem dX10_count_85 : decode cX10_count 85 = .ok (.iaload, 1) := by decide +kernel
theorem dX10_count_86 : decode cX10_count 86 = .ok (.ireturn, 1) := by decide +kernel
theorem dX10_count_87 : decode cX10_count 87 = .ok (.iconst 0, 1) := by decide +kernel
theorem dX10_count_88 : decode cX10_count 88 = .ok (.istore_n 3, 1) := by decide +kernel
theorem dX10_count_89 : decode cX10_count 89 = .ok (.iload_n 3, 1) := by decide +kernel
theorem dX10_count_90 : decode cX10_count 90 = .ok (.aload_n 0, 1) := by decide +kernel
theorem dX10_count_91 : decode cX10_count 91 = .ok (.getfield 13, 3) := by decide +kernel
theorem dX10_count_94 : decode cX10_count 94 = .ok (.bipush 7, 2) := by decide +kernel
theorem dX10_count_96 : decode cX10_count 96 = .ok (.iaload, 1) := by decide +kernel
theorem dX10_count_97 : decode cX10_count 97 = .ok (.if_icmp .ge 30, 3) := by decide +kernel
theorem dX10_count_100 : decode cX10_count 100 = .ok (.iload_n 2, 1) := by decide +kernel
theorem dX10_count_101 : decode cX10_count 101 = .ok (.aload_n 0, 1) := by decide +kernel
theorem dX10_count_102 : decode cX10_count 102 = .ok (.iload_n 3, 1) := by decide +kernel
theorem dX10_count_103 : decode cX10_count 103 = .ok (.iconst 3, 1) := by decide +kernel
theorem dX10_count_104 : decode cX10_count 104 = .ok (.invokevirtual 325, 3) := by decide +kernel
theorem dX10_count_107 : decode cX10_count 107 = .ok (.aload_n 0, 1) := by decide +kernel
theorem dX10_count_108 : decode cX10_count 108 = .ok (.invokevirtual 291, 3) := by decide +kernel
theorem dX10_count_111 : decode cX10_count 111 = .ok (.if_icmp .ge 7, 3) := by decide +kernel
theorem dX10_count_114 : decode cX10_count 114 = .ok (.iconst 1, 1) := by decide +kernel
theorem dX10_count_115 : decode cX10_count 115 = .ok (.goto 4, 3) := by decide +kernel
theorem dX10_count_118 : decode cX10_count 118 = .ok (.iconst 0, 1) := by decide +kernel
theorem dX10_count_119 : decode cX10_count 119 = .ok (.iadd, 1) := by decide +kernel
theorem dX10_count_120 : decode cX10_count 120 = .ok (.istore_n 2, 1) := by decide +kernel
theorem dX10_count_121 : decode cX10_count 121 = .ok (.iinc 3 1, 3) := by decide +kernel
theorem dX10_count_124 : decode cX10_count 124 = .ok (.goto (-35), 3) := by decide +kernel
theorem dX10_count_127 : decode cX10_count 127 = .ok (.iload_n 2, 1) := by decide +kernel
theorem dX10_count_128 : decode cX10_count 128 = .ok (.ireturn, 1) := by decide +kernel
theorem dX10_count_129 : decode cX10_count 129 = .ok (.aload_n 0, 1) := by decide +kernel
theorem dX10_count_130 : decode cX10_count 130 = .ok (.getfield 13, 3) := by decide +kernel
theorem dX10_count_133 : decode cX10_count 133 = .ok (.bipush 8, 2) := by decide +kernel
theorem dX10_count_135 : decode cX10_count 135 = .ok (.iaload, 1) := by decide +kernel
theorem dX10_count_136 : decode cX10_count 136 = .ok (.ireturn, 1) := by decide +kernel
theorem dX10_count_137 : decode cX10_count 137 = .ok (.aload_n 0, 1) := by decide +kernel
theorem dX10_count_138 : decode cX10_count 138 = .ok (.getfield 13, 3) := by decide +kernel
theorem dX10_count_141 : decode cX10_count 141 = .ok (.bipush 9, 2) := by decide +kernel
theorem dX10_count_143 : decode cX10_count 143 = .ok (.iaload, 1) := by decide +kernel
theorem dX10_count_144 : decode cX10_count 144 = .ok (.ireturn, 1) := by decide +kernel
theorem dX10_count_145 : decode cX10_count 145 = .ok (.aload_n 0, 1) := by decide +kernel
theorem dX10_count_146 : decode cX10_count 146 = .ok (.getfield 109, 3) := by decide +kernel
theorem dX10_count_149 : decode cX10_count 149 = .ok (.ireturn, 1) := by decide +kernel
theorem dX10_count_150 : decode cX10_count 150 = .ok (.aload_n 0, 1) := by decide +kernel
theorem dX10_count_151 : decode cX10_count 151 = .ok (.getfield 13, 3) := by decide +kernel
theorem dX10_count_154 : decode cX10_count 154 = .ok (.iconst 5, 1) := by decide +kernel
theorem dX10_count_155 : decode cX10_count 155 = .ok (.iaload, 1) := by decide +kernel
theorem dX10_count_156 : decode cX10_count 156 = .ok (.ireturn, 1) := by decide +kernel
theorem dX10_count_157 : decode cX10_count 157 = .ok (.aload_n 0, 1) := by decide +kernel
theorem dX10_count_158 : decode cX10_count 158 = .ok (.getfield 13, 3) := by decide +kernel
theorem dX10_count_161 : decode cX10_count 161 = .ok (.iconst 4, 1) := by decide +kernel
theorem dX10_count_162 : decode cX10_count 162 = .ok (.iaload, 1) := by decide +kernel
theorem dX10_count_163 : decode cX10_count 163 = .ok (.ireturn, 1) := by decide +kernel
theorem dX10_count_164 : decode cX10_count 164 = .ok (.iconst 0, 1) := by decide +kernel
theorem dX10_count_165 : decode cX10_count 165 = .ok (.istore_n 3, 1) := by decide +kernel
theorem dX10_count_166 : decode cX10_count 166 = .ok (.iload_n 3, 1) := by decide +kernel
theorem dX10_count_167 : decode cX10_count 167 = .ok (.iconst 4, 1) := by decide +kernel
theorem dX10_count_168 : decode cX10_count 168 = .ok (.if_icmp .ge 27, 3) := by decide +kernel
theorem dX10_count_171 : decode cX10_count 171 = .ok (.iload_n 2, 1) := by decide +kernel
theorem dX10_count_172 : decode cX10_count 172 = .ok (.aload_n 0, 1) := by decide +kernel
theorem dX10_count_173 : decode cX10_count 173 = .ok (.getfield 86, 3) := by decide +kernel
theorem dX10_count_176 : decode cX10_count 176 = .ok (.iload_n 3, 1) := by decide +kernel
theorem dX10_count_177 : decode cX10_count 177 = .ok (.iaload, 1) := by decide +kernel
theorem dX10_count_178 : decode cX10_count 178 = .ok (.iconst (-1), 1) := by decide +kernel
theorem dX10_count_179 : decode cX10_count 179 = .ok (.if_icmp .ne 7, 3) := by decide +kernel
theorem dX10_count_182 : decode cX10_count 182 = .ok (.iconst 0, 1) := by decide +kernel
theorem dX10_count_183 : decode cX10_count 183 = .ok (.goto 4, 3) := by decide +kernel
theorem dX10_count_186 : decode cX10_count 186 = .ok (.iconst 1, 1) := by decide +kernel
theorem dX10_count_187 : decode cX10_count 187 = .ok (.iadd, 1) := by decide +kernel
theorem dX10_count_188 : decode cX10_count 188 = .ok (.istore_n 2, 1) := by decide +kernel
theorem dX10_count_189 : decode cX10_count 189 = .ok (.iinc 3 1, 3) := by decide +kernel
theorem dX10_count_192 : decode cX10_count 192 = .ok (.goto (-26), 3) := by decide +kernel
theorem dX10_count_195 : decode cX10_count 195 = .ok (.iload_n 2, 1) := by decide +kernel
theorem dX10_count_196 : decode cX10_count 196 = .ok (.ireturn, 1) := by decide +kernel
theorem dX10_count_197 : decode cX10_count 197 = .ok (.iconst (-1), 1) := by decide +kernel
theorem dX10_count_198 : decode cX10_count 198 = .ok (.ireturn, 1) := by decide +kernel
theorem dX10_isSlot_0 : decode cX10_isSlot 0 = .ok (.iload_n 0, 1) := by decide +kernel
theorem dX10_isSlot_1 : decode cX10_isSlot 1 = .ok (.i2l, 1) := by decide +kernel
theorem dX10_isSlot_2 : decode cX10_isSlot 2 = .ok (.lconst 0, 1) := by decide +kernel
theorem dX10_isSlot_3 : decode cX10_isSlot 3 = .ok (.ldc2_w 313, 3) := by decide +kernel
theorem dX10_isSlot_6 : decode cX10_isSlot 6 = .ok (.invokestatic 101, 3) := by decide +kernel
theorem dX10_isSlot_9 : decode cX10_isSlot 9 = .ok (.ireturn, 1) := by decide +kernel
theorem dX10_row_0 : decode cX10_row 0 = .ok (.iload_n 1, 1) := by decide +kernel
theorem dX10_row_1 : decode cX10_row 1 = .ok (.invokestatic 371, 3) := by decide +kernel
theorem dX10_row_4 : decode cX10_row 4 = .ok (.ifCond .eq 21, 3) := by decide +kernel
theorem dX10_row_7 : decode cX10_row 7 = .ok (.iload_n 2, 1) := by decide +kernel
theorem dX10_row_8 : decode cX10_row 8 = .ok (.i2l, 1) := by decide +kernel
theorem dX10_row_9 : decode cX10_row 9 = .ok (.lconst 0, 1) := by decide +kernel
theorem dX10_row_10 : decode cX10_row 10 = .ok (.ldc2_w 313, 3) := by decide +kernel
theorem dX10_row_13 : decode cX10_row 13 = .ok (.invokestatic 101, 3) := by decide +kernel
theorem dX10_row_16 : decode cX10_row 16 = .ok (.ifCond .eq 9, 3) := by decide +kernel
theorem dX10_row_19 : decode cX10_row 19 = .ok (.iload_n 3, 1) := by decide +kernel
theorem dX10_row_20 : decode cX10_row 20 = .ok (.bipush 60, 2) := by decide +kernel
theorem dX10_row_22 : decode cX10_row 22 = .ok (.if_icmp .le 6, 3) := by decide +kernel
theorem dX10_row_25 : decode cX10_row 25 = .ok (.bipush (-2), 2) := by decide +kernel
theorem dX10_row_27 : decode cX10_row 27 = .ok (.ireturn, 1) := by decide +kernel
theorem dX10_row_28 : decode cX10_row 28 = .ok (.iload_n 3, 1) := by decide +kernel
theorem dX10_row_29 : decode cX10_row 29 = .ok (.ifCond .ge 6, 3) := by decide +kernel
theorem dX10_row_32 : decode cX10_row 32 = .ok (.bipush (-3), 2) := by decide +kernel
theorem dX10_row_34 : decode cX10_row 34 = .ok (.ireturn, 1) := by decide +kernel
theorem dX10_row_35 : decode cX10_row 35 = .ok (.aload_n 0, 1) := by decide +kernel
theorem dX10_row_36 : decode cX10_row 36 = .ok (.getfield 86, 3) := by decide +kernel
theorem dX10_row_39 : decode cX10_row 39 = .ok (.iload_n 1, 1) := by decide +kernel
theorem dX10_row_40 : decode cX10_row 40 = .ok (.iload_n 3, 1) := by decide +kernel
theorem dX10_row_41 : decode cX10_row 41 = .ok (.iastore, 1) := by decide +kernel
theorem dX10_row_42 : decode cX10_row 42 = .ok (.aload_n 0, 1) := by decide +kernel
theorem dX10_row_43 : decode cX10_row 43 = .ok (.getfield 89, 3) := by decide +kernel
theorem dX10_row_46 : decode cX10_row 46 = .ok (.iload_n 1, 1) := by decide +kernel
theorem dX10_row_47 : decode cX10_row 47 = .ok (.iload_n 2, 1) := by decide +kernel
theorem dX10_row_48 : decode cX10_row 48 = .ok (.iastore, 1) := by decide +kernel
theorem dX10_row_49 : decode cX10_row 49 = .ok (.iconst 0, 1) := by decide +kernel
theorem dX10_row_50 : decode cX10_row 50 = .ok (.istore 4, 2) := by decide +kernel
theorem dX10_row_52 : decode cX10_row 52 = .ok (.iload 4, 2) := by decide +kernel
theorem dX10_row_54 : decode cX10_row 54 = .ok (.bipush 60, 2) := by decide +kernel
theorem dX10_row_56 : decode cX10_row 56 = .ok (.if_icmp .ge 22, 3) := by decide +kernel
theorem dX10_row_59 : decode cX10_row 59 = .ok (.aload_n 0, 1) := by decide +kernel
theorem dX10_row_60 : decode cX10_row 60 = .ok (.getfield 92, 3) := by decide +kernel
theorem dX10_row_63 : decode cX10_row 63 = .ok (.bipush 60, 2) := by decide +kernel
theorem dX10_row_65 : decode cX10_row 65 = .ok (.iload_n 1, 1) := by decide +kernel
theorem dX10_row_66 : decode cX10_row 66 = .ok (.imul, 1) := by decide +kernel
theorem dX10_row_67 : decode cX10_row 67 = .ok (.iload 4, 2) := by decide +kernel
theorem dX10_row_69 : decode cX10_row 69 = .ok (.iadd, 1) := by decide +kernel
theorem dX10_row_70 : decode cX10_row 70 = .ok (.lconst 0, 1) := by decide +kernel
theorem dX10_row_71 : decode cX10_row 71 = .ok (.lastore, 1) := by decide +kernel
theorem dX10_row_72 : decode cX10_row 72 = .ok (.iinc 4 1, 3) := by decide +kernel
theorem dX10_row_75 : decode cX10_row 75 = .ok (.goto (-23), 3) := by decide +kernel
theorem dX10_row_78 : decode cX10_row 78 = .ok (.iconst 0, 1) := by decide +kernel
theorem dX10_row_79 : decode cX10_row 79 = .ok (.ireturn, 1) := by decide +kernel
theorem dX10_write_0 : decode cX10_write 0 = .ok (.iload_n 1, 1) := by decide +kernel
theorem dX10_write_1 : decode cX10_write 1 = .ok (.invokestatic 371, 3) := by decide +kernel
theorem dX10_write_4 : decode cX10_write 4 = .ok (.ifCond .ne 6, 3) := by decide +kernel
theorem dX10_write_7 : decode cX10_write 7 = .ok (.bipush (-2), 2) := by decide +kernel
theorem dX10_write_9 : decode cX10_write 9 = .ok (.ireturn, 1) := by decide +kernel
theorem dX10_write_10 : decode cX10_write 10 = .ok (.aload_n 0, 1) := by decide +kernel
theorem dX10_write_11 : decode cX10_write 11 = .ok (.getfield 86, 3) := by decide +kernel
theorem dX10_write_14 : decode cX10_write 14 = .ok (.iload_n 1, 1) := by decide +kernel
theorem dX10_write_15 : decode cX10_write 15 = .ok (.iaload, 1) := by decide +kernel
theorem dX10_write_16 : decode cX10_write 16 = .ok (.iconst (-1), 1) := by decide +kernel
theorem dX10_write_17 : decode cX10_write 17 = .ok (.if_icmp .ne 6, 3) := by decide +kernel
theorem dX10_write_20 : decode cX10_write 20 = .ok (.bipush (-6), 2) := by decide +kernel
theorem dX10_write_22 : decode cX10_write 22 = .ok (.ireturn, 1) := by decide +kernel
theorem dX10_write_23 : decode cX10_write 23 = .ok (.iload_n 2, 1) := by decide +kernel
theorem dX10_write_24 : decode cX10_write 24 = .ok (.i2l, 1) := by decide +kernel
theorem dX10_write_25 : decode cX10_write 25 = .ok (.lconst 0, 1) := by decide +kernel
theorem dX10_write_26 : decode cX10_write 26 = .ok (.aload_n 0, 1) := by decide +kernel
theorem dX10_write_27 : decode cX10_write 27 = .ok (.getfield 86, 3) := by decide +kernel
theorem dX10_write_30 : decode cX10_write 30 = .ok (.iload_n 1, 1) := by decide +kernel
theorem dX10_write_31 : decode cX10_write 31 = .ok (.iaload, 1) := by decide +kernel
theorem dX10_write_32 : decode cX10_write 32 = .ok (.iconst 1, 1) := by decide +kernel
theorem dX10_write_33 : decode cX10_write 33 = .ok (.isub, 1) := by decide +kernel
theorem dX10_write_34 : decode cX10_write 34 = .ok (.i2l, 1) := by decide +kernel
theorem dX10_write_35 : decode cX10_write 35 = .ok (.invokestatic 101, 3) := by decide +kernel
theorem dX10_write_38 : decode cX10_write 38 = .ok (.ifCond .ne 6, 3) := by decide +kernel
theorem dX10_write_41 : decode cX10_write 41 = .ok (.bipush (-7), 2) := by decide +kernel
theorem dX10_write_43 : decode cX10_write 43 = .ok (.ireturn, 1) := by decide +kernel
theorem dX10_write_44 : decode cX10_write 44 = .ok (.aload_n 0, 1) := by decide +kernel
theorem dX10_write_45 : decode cX10_write 45 = .ok (.getfield 92, 3) := by decide +kernel
theorem dX10_write_48 : decode cX10_write 48 = .ok (.bipush 60, 2) := by decide +kernel
theorem dX10_write_50 : decode cX10_write 50 = .ok (.iload_n 1, 1) := by decide +kernel
theorem dX10_write_51 : decode cX10_write 51 = .ok (.imul, 1) := by decide +kernel
theorem dX10_write_52 : decode cX10_write 52 = .ok (.iload_n 2, 1) := by decide +kernel
theorem dX10_write_53 : decode cX10_write 53 = .ok (.iadd, 1) := by decide +kernel
theorem dX10_write_54 : decode cX10_write 54 = .ok (.lload_n 3, 1) := by decide +kernel
theorem dX10_write_55 : decode cX10_write 55 = .ok (.aload_n 0, 1) := by decide +kernel
theorem dX10_write_56 : decode cX10_write 56 = .ok (.getfield 89, 3) := by decide +kernel
theorem dX10_write_59 : decode cX10_write 59 = .ok (.iload_n 1, 1) := by decide +kernel
theorem dX10_write_60 : decode cX10_write 60 = .ok (.iaload, 1) := by decide +kernel
theorem dX10_write_61 : decode cX10_write 61 = .ok (.invokestatic 471, 3) := by decide +kernel
theorem dX10_write_64 : decode cX10_write 64 = .ok (.lastore, 1) := by decide +kernel
theorem dX10_write_65 : decode cX10_write 65 = .ok (.iconst 0, 1) := by decide +kernel
theorem dX10_write_66 : decode cX10_write 66 = .ok (.ireturn, 1) := by decide +kernel
theorem dX10_paste_0 : decode cX10_paste 0 = .ok (.iload_n 1, 1) := by decide +kernel
theorem dX10_paste_1 : decode cX10_paste 1 = .ok (.invokestatic 371, 3) := by decide +kernel
theorem dX10_paste_4 : decode cX10_paste 4 = .ok (.ifCond .eq 10, 3) := by decide +kernel
theorem dX10_paste_7 : decode cX10_paste 7 = .ok (.iload_n 3, 1) := by decide +kernel
theorem dX10_paste_8 : decode cX10_paste 8 = .ok (.invokestatic 371, 3) := by decide +kernel
theorem dX10_paste_11 : decode cX10_paste 11 = .ok (.ifCond .ne 6, 3) := by decide +kernel
theorem dX10_paste_14 : decode cX10_paste 14 = .ok (.bipush (-2), 2) := by decide +kernel
theorem dX10_paste_16 : decode cX10_paste 16 = .ok (.ireturn, 1) := by decide +kernel
theorem dX10_paste_17 : decode cX10_paste 17 = .ok (.aload_n 0, 1) := by decide +kernel
theorem dX10_paste_18 : decode cX10_paste 18 = .ok (.getfield 86, 3) := by decide +kernel
theorem dX10_paste_21 : decode cX10_paste 21 = .ok (.iload_n 1, 1) := by decide +kernel
theorem dX10_paste_22 : decode cX10_paste 22 = .ok (.iaload, 1) := by decide +kernel
theorem dX10_paste_23 : decode cX10_paste 23 = .ok (.iconst (-1), 1) := by decide +kernel
theorem dX10_paste_24 : decode cX10_paste 24 = .ok (.if_icmp .eq 13, 3) := by decide +kernel
theorem dX10_paste_27 : decode cX10_paste 27 = .ok (.aload_n 0, 1) := by decide +kernel
theorem dX10_paste_28 : decode cX10_paste 28 = .ok (.getfield 86, 3) := by decide +kernel
theorem dX10_paste_31 : decode cX10_paste 31 = .ok (.iload_n 3, 1) := by decide +kernel
theorem dX10_paste_32 : decode cX10_paste 32 = .ok (.iaload, 1) := by decide +kernel
theorem dX10_paste_33 : decode cX10_paste 33 = .ok (.iconst (-1), 1) := by decide +kernel
theorem dX10_paste_34 : decode cX10_paste 34 = .ok (.if_icmp .ne 6, 3) := by decide +kernel
theorem dX10_paste_37 : decode cX10_paste 37 = .ok (.bipush (-6), 2) := by decide +kernel
theorem dX10_paste_39 : decode cX10_paste 39 = .ok (.ireturn, 1) := by decide +kernel
theorem dX10_paste_40 : decode cX10_paste 40 = .ok (.aload_n 0, 1) := by decide +kernel
theorem dX10_paste_41 : decode cX10_paste 41 = .ok (.getfield 89, 3) := by decide +kernel
theorem dX10_paste_44 : decode cX10_paste 44 = .ok (.iload_n 1, 1) := by decide +kernel
theorem dX10_paste_45 : decode cX10_paste 45 = .ok (.iaload, 1) := by decide +kernel
theorem dX10_paste_46 : decode cX10_paste 46 = .ok (.aload_n 0, 1) := by decide +kernel
theorem dX10_paste_47 : decode cX10_paste 47 = .ok (.getfield 89, 3) := by decide +kernel
theorem dX10_paste_50 : decode cX10_paste 50 = .ok (.iload_n 3, 1) := by decide +kernel
theorem dX10_paste_51 : decode cX10_paste 51 = .ok (.iaload, 1) := by decide +kernel
theorem dX10_paste_52 : decode cX10_paste 52 = .ok (.if_icmp .eq 6, 3) := by decide +kernel
theorem dX10_paste_55 : decode cX10_paste 55 = .ok (.bipush (-8), 2) := by decide +kernel
theorem dX10_paste_57 : decode cX10_paste 57 = .ok (.ireturn, 1) := by decide +kernel
theorem dX10_paste_58 : decode cX10_paste 58 = .ok (.iload_n 2, 1) := by decide +kernel
theorem dX10_paste_59 : decode cX10_paste 59 = .ok (.ifCond .lt 48, 3) := by decide +kernel
theorem dX10_paste_62 : decode cX10_paste 62 = .ok (.iload 4, 2) := by decide +kernel
theorem dX10_paste_64 : decode cX10_paste 64 = .ok (.ifCond .lt 43, 3) := by decide +kernel
theorem dX10_paste_67 : decode cX10_paste 67 = .ok (.iload 5, 2) := by decide +kernel
theorem dX10_paste_69 : decode cX10_paste 69 = .ok (.ifCond .lt 38, 3) := by decide +kernel
theorem dX10_paste_72 : decode cX10_paste 72 = .ok (.iload_n 2, 1) := by decide +kernel
theorem dX10_paste_73 : decode cX10_paste 73 = .ok (.i2l, 1) := by decide +kernel
theorem dX10_paste_74 : decode cX10_paste 74 = .ok (.iload 5, 2) := by decide +kernel
theorem dX10_paste_76 : decode cX10_paste 76 = .ok (.i2l, 1) := by decide +kernel
theorem dX10_paste_77 : decode cX10_paste 77 = .ok (.ladd, 1) := by decide +kernel
theorem dX10_paste_78 : decode cX10_paste 78 = .ok (.aload_n 0, 1) := by decide +kernel
theorem dX10_paste_79 : decode cX10_paste 79 = .ok (.getfield 86, 3) := by decide +kernel
theorem dX10_paste_82 : decode cX10_paste 82 = .ok (.iload_n 1, 1) := by decide +kernel
theorem dX10_paste_83 : decode cX10_paste 83 = .ok (.iaload, 1) := by decide +kernel
theorem dX10_paste_84 : decode cX10_paste 84 = .ok (.i2l, 1) := by decide +kernel
theorem dX10_paste_85 : decode cX10_paste 85 = .ok (.lcmp, 1) := by decide +kernel
theorem dX10_paste_86 : decode cX10_paste 86 = .ok (.ifCond .gt 21, 3) := by decide +kernel
theorem dX10_paste_89 : decode cX10_paste 89 = .ok (.iload 4, 2) := by decide +kernel
theorem dX10_paste_91 : decode cX10_paste 91 = .ok (.i2l, 1) := by decide +kernel
theorem dX10_paste_92 : decode cX10_paste 92 = .ok (.iload 5, 2) := by decide +kernel
theorem dX10_paste_94 : decode cX10_paste 94 = .ok (.i2l, 1) := by decide +kernel
theorem dX10_paste_95 : decode cX10_paste 95 = .ok (.ladd, 1) := by decide +kernel
theorem dX10_paste_96 : decode cX10_paste 96 = .ok (.aload_n 0, 1) := by decide +kernel
theorem dX10_paste_97 : decode cX10_paste 97 = .ok (.getfield 86, 3) := by decide +kernel
theorem dX10_paste_100 : decode cX10_paste 100 = .ok (.iload_n 3, 1) := by decide +kernel
theorem dX10_paste_101 : decode cX10_paste 101 = .ok (.iaload, 1) := by decide +kernel
theorem dX10_paste_102 : decode cX10_paste 102 = .ok (.i2l, 1) := by decide +kernel
theorem dX10_paste_103 : decode cX10_paste 103 = .ok (.lcmp, 1) := by decide +kernel
theorem dX10_paste_104 : decode cX10_paste 104 = .ok (.ifCond .le 6, 3) := by decide +kernel
theorem dX10_paste_107 : decode cX10_paste 107 = .ok (.bipush (-7), 2) := by decide +kernel
theorem dX10_paste_109 : decode cX10_paste 109 = .ok (.ireturn, 1) := by decide +kernel
theorem dX10_paste_110 : decode cX10_paste 110 = .ok (.iconst 0, 1) := by decide +kernel
theorem dX10_paste_111 : decode cX10_paste 111 = .ok (.istore 6, 2) := by decide +kernel
theorem dX10_paste_113 : decode cX10_paste 113 = .ok (.iload 6, 2) := by decide +kernel
theorem dX10_paste_115 : decode cX10_paste 115 = .ok (.iload 5, 2) := by decide +kernel
theorem dX10_paste_117 : decode cX10_paste 117 = .ok (.if_icmp .ge 30, 3) := by decide +kernel
theorem dX10_paste_120 : decode cX10_paste 120 = .ok (.aload_n 0, 1) := by decide +kernel
theorem dX10_paste_121 : decode cX10_paste 121 = .ok (.getfield 96, 3) := by decide +kernel
theorem dX10_paste_124 : decode cX10_paste 124 = .ok (.iload 6, 2) := by decide +kernel
theorem dX10_paste_126 : decode cX10_paste 126 = .ok (.aload_n 0, 1) := by decide +kernel
theorem dX10_paste_127 : decode cX10_paste 127 = .ok (.getfield 92, 3) := by decide +kernel
theorem dX10_paste_130 : decode cX10_paste 130 = .ok (.bipush 60, 2) := by decide +kernel
theorem dX10_paste_132 : decode cX10_paste 132 = .ok (.iload_n 1, 1) := by decide +kernel
theorem dX10_paste_133 : decode cX10_paste 133 = .ok (.imul, 1) := by decide +kernel
theorem dX10_paste_134 : decode cX10_paste 134 = .ok (.iload_n 2, 1) := by decide +kernel
theorem dX10_paste_135 : decode cX10_paste 135 = .ok (.iadd, 1) := by decide +kernel
theorem dX10_paste_136 : decode cX10_paste 136 = .ok (.iload 6, 2) := by decide +kernel
theorem dX10_paste_138 : decode cX10_paste 138 = .ok (.iadd, 1) := by decide +kernel
theorem dX10_paste_139 : decode cX10_paste 139 = .ok (.laload, 1) := by decide +kernel
theorem dX10_paste_140 : decode cX10_paste 140 = .ok (.lastore, 1) := by decide +kernel
theorem dX10_paste_141 : decode cX10_paste 141 = .ok (.iinc 6 1, 3) := by decide +kernel
theorem dX10_paste_144 : decode cX10_paste 144 = .ok (.goto (-31), 3) := by decide +kernel
theorem dX10_paste_147 : decode cX10_paste 147 = .ok (.iconst 0, 1) := by decide +kernel
theorem dX10_paste_148 : decode cX10_paste 148 = .ok (.istore 6, 2) := by decide +kernel
theorem dX10_paste_150 : decode cX10_paste 150 = .ok (.iload 6, 2) := by decide +kernel
theorem dX10_paste_152 : decode cX10_paste 152 = .ok (.iload 5, 2) := by decide +kernel
theorem dX10_paste_154 : decode cX10_paste 154 = .ok (.if_icmp .ge 31, 3) := by decide +kernel
theorem dX10_paste_157 : decode cX10_paste 157 = .ok (.aload_n 0, 1) := by decide +kernel
theorem dX10_paste_158 : decode cX10_paste 158 = .ok (.getfield 92, 3) := by decide +kernel
theorem dX10_paste_161 : decode cX10_paste 161 = .ok (.bipush 60, 2) := by decide +kernel
theorem dX10_paste_163 : decode cX10_paste 163 = .ok (.iload_n 3, 1) := by decide +kernel
theorem dX10_paste_164 : decode cX10_paste 164 = .ok (.imul, 1) := by decide +kernel
theorem dX10_paste_165 : decode cX10_paste 165 = .ok (.iload 4, 2) := by decide +kernel
theorem dX10_paste_167 : decode cX10_paste 167 = .ok (.iadd, 1) := by decide +kernel
theorem dX10_paste_168 : decode cX10_paste 168 = .ok (.iload 6, 2) := by decide +kernel
theorem dX10_paste_170 : decode cX10_paste 170 = .ok (.iadd, 1) := by decide +kernel
theorem dX10_paste_171 : decode cX10_paste 171 = .ok (.aload_n 0, 1) := by decide +kernel
theorem dX10_paste_172 : decode cX10_paste 172 = .ok (.getfield 96, 3) := by decide +kernel
theorem dX10_paste_175 : decode cX10_paste 175 = .ok (.iload 6, 2) := by decide +kernel
theorem dX10_paste_177 : decode cX10_paste 177 = .ok (.laload, 1) := by decide +kernel
theorem dX10_paste_178 : decode cX10_paste 178 = .ok (.lastore, 1) := by decide +kernel
theorem dX10_paste_179 : decode cX10_paste 179 = .ok (.iinc 6 1, 3) := by decide +kernel
theorem dX10_paste_182 : decode cX10_paste 182 = .ok (.goto (-32), 3) := by decide +kernel
theorem dX10_paste_185 : decode cX10_paste 185 = .ok (.iconst 0, 1) := by decide +kernel
theorem dX10_paste_186 : decode cX10_paste 186 = .ok (.ireturn, 1) := by decide +kernel
theorem dJ7_fill_d0a16_0 : decode cJ7_fill_d0a16 0 = .ok (.iconst 0, 1) := by decide +kernel
theorem dJ7_fill_d0a16_1 : decode cJ7_fill_d0a16 1 = .ok (.istore_n 3, 1) := by decide +kernel
theorem dJ7_fill_d0a16_2 : decode cJ7_fill_d0a16 2 = .ok (.aload_n 0, 1) := by decide +kernel
theorem dJ7_fill_d0a16_3 : decode cJ7_fill_d0a16 3 = .ok (.arraylength, 1) := by decide +kernel
theorem dJ7_fill_d0a16_4 : decode cJ7_fill_d0a16 4 = .ok (.istore 4, 2) := by decide +kernel
theorem dJ7_fill_d0a16_6 : decode cJ7_fill_d0a16 6 = .ok (.iload_n 3, 1) := by decide +kernel
theorem dJ7_fill_d0a16_7 : decode cJ7_fill_d0a16 7 = .ok (.iload 4, 2) := by decide +kernel
theorem dJ7_fill_d0a16_9 : decode cJ7_fill_d0a16 9 = .ok (.if_icmp .ge 13, 3) := by decide +kernel
theorem dJ7_fill_d0a16_12 : decode cJ7_fill_d0a16 12 = .ok (.aload_n 0, 1) := by decide +kernel
theorem dJ7_fill_d0a16_13 : decode cJ7_fill_d0a16 13 = .ok (.iload_n 3, 1) := by decide +kernel
theorem dJ7_fill_d0a16_14 : decode cJ7_fill_d0a16 14 = .ok (.lload_n 1, 1) := by decide +kernel
theorem dJ7_fill_d0a16_15 : decode cJ7_fill_d0a16 15 = .ok (.lastore, 1) := by decide +kernel
theorem dJ7_fill_d0a16_16 : decode cJ7_fill_d0a16 16 = .ok (.iinc 3 1, 3) := by decide +kernel
theorem dJ7_fill_d0a16_19 : decode cJ7_fill_d0a16 19 = .ok (.goto (-13), 3) := by decide +kernel
theorem dJ7_fill_d0a16_22 : decode cJ7_fill_d0a16 22 = .ok (.return_, 1) := by decide +kernel
theorem dJ7_fill_53178_0 : decode cJ7_fill_53178 0 = .ok (.iconst 0, 1) := by decide +kernel
theorem dJ7_fill_53178_1 : decode cJ7_fill_53178 1 = .ok (.istore_n 2, 1) := by decide +kernel
theorem dJ7_fill_53178_2 : decode cJ7_fill_53178 2 = .ok (.aload_n 0, 1) := by decide +kernel
theorem dJ7_fill_53178_3 : decode cJ7_fill_53178 3 = .ok (.arraylength, 1) := by decide +kernel
theorem dJ7_fill_53178_4 : decode cJ7_fill_53178 4 = .ok (.istore_n 3, 1) := by decide +kernel
theorem dJ7_fill_53178_5 : decode cJ7_fill_53178 5 = .ok (.iload_n 2, 1) := by decide +kernel
theorem dJ7_fill_53178_6 : decode cJ7_fill_53178 6 = .ok (.iload_n 3, 1) := by decide +kernel
theorem dJ7_fill_53178_7 : decode cJ7_fill_53178 7 = .ok (.if_icmp .ge 13, 3) := by decide +kernel
theorem dJ7_fill_53178_10 : decode cJ7_fill_53178 10 = .ok (.aload_n 0, 1) := by decide +kernel
theorem dJ7_fill_53178_11 : decode cJ7_fill_53178 11 = .ok (.iload_n 2, 1) := by decide +kernel
theorem dJ7_fill_53178_12 : decode cJ7_fill_53178 12 = .ok (.iload_n 1, 1) := by decide +kernel
theorem dJ7_fill_53178_13 : decode cJ7_fill_53178 13 = .ok (.iastore, 1) := by decide +kernel
theorem dJ7_fill_53178_14 : decode cJ7_fill_53178 14 = .ok (.iinc 2 1, 3) := by decide +kernel
theorem dJ7_fill_53178_17 : decode cJ7_fill_53178 17 = .ok (.goto (-12), 3) := by decide +kernel
theorem dJ7_fill_53178_20 : decode cJ7_fill_53178 20 = .ok (.return_, 1) := by decide +kernel
theorem dL_law_0 : decode cL_law 0 = .ok (.new 7, 3) := by decide +kernel
theorem dL_law_3 : decode cL_law 3 = .ok (.dup, 1) := by decide +kernel
theorem dL_law_4 : decode cL_law 4 = .ok (.invokespecial 9, 3) := by decide +kernel
theorem dL_law_7 : decode cL_law 7 = .ok (.astore_n 1, 1) := by decide +kernel
theorem dL_law_8 : decode cL_law 8 = .ok (.new 10, 3) := by decide +kernel
theorem dL_law_11 : decode cL_law 11 = .ok (.dup, 1) := by decide +kernel
theorem dL_law_12 : decode cL_law 12 = .ok (.invokespecial 12, 3) := by decide +kernel
theorem dL_law_15 : decode cL_law 15 = .ok (.astore_n 2, 1) := by decide +kernel
theorem dL_law_16 : decode cL_law 16 = .ok (.iconst 0, 1) := by decide +kernel
theorem dL_law_17 : decode cL_law 17 = .ok (.istore_n 3, 1) := by decide +kernel
theorem dL_law_18 : decode cL_law 18 = .ok (.iload_n 3, 1) := by decide +kernel
theorem dL_law_19 : decode cL_law 19 = .ok (.aload_n 0, 1) := by decide +kernel
theorem dL_law_20 : decode cL_law 20 = .ok (.arraylength, 1) := by decide +kernel
theorem dL_law_21 : decode cL_law 21 = .ok (.bipush 6, 2) := by decide +kernel
theorem dL_law_23 : decode cL_law 23 = .ok (.isub, 1) := by decide +kernel
theorem dL_law_24 : decode cL_law 24 = .ok (.if_icmp .gt 1332, 3) := by decide +kernel
theorem dL_law_27 : decode cL_law 27 = .ok (.aload_n 0, 1) := by decide +kernel
theorem dL_law_28 : decode cL_law 28 = .ok (.iload_n 3, 1) := by decide +kernel
theorem dL_law_29 : decode cL_law 29 = .ok (.iaload, 1) := by decide +kernel
theorem dL_law_30 : decode cL_law 30 = .ok (.bipush 63, 2) := by decide +kernel
theorem dL_law_32 : decode cL_law 32 = .ok (.iand, 1) := by decide +kernel
theorem dL_law_33 : decode cL_law 33 = .ok (.tableswitch 1317 0 35 #[159, 222, 245, 258, 281, 304, 347, 390, 423, 446, 479, 502, 545, 568, 581, 624, 657, 700, 733, 776, 799, 822, 855, 898, 921, 944, 977, 990, 1013, 1046, 1069, 1092, 1115, 1138, 1181, 1254], 159) := by decide +kernel
theorem dL_law_192 : decode cL_law 192 = .ok (.aload_n 1, 1) := by decide +kernel
theorem dL_law_193 : decode cL_law 193 = .ok (.aload_n 0, 1) := by decide +kernel
theorem dL_law_194 : decode cL_law 194 = .ok (.iload_n 3, 1) := by decide +kernel
theorem dL_law_195 : decode cL_law 195 = .ok (.iconst 1, 1) := by decide +kernel
theorem dL_law_196 : decode cL_law 196 = .ok (.iadd, 1) := by decide +kernel
theorem dL_law_197 : decode cL_law 197 = .ok (.iaload, 1) := by decide +kernel
theorem dL_law_198 : decode cL_law 198 = .ok (.aload_n 0, 1) := by decide +kernel
theorem dL_law_199 : decode cL_law 199 = .ok (.iload_n 3, 1) := by decide +kernel
theorem dL_law_200 : decode cL_law 200 = .ok (.iconst 2, 1) := by decide +kernel
theorem dL_law_201 : decode cL_law 201 = .ok (.iadd, 1) := by decide +kernel
theorem dL_law_202 : decode cL_law 202 = .ok (.iaload, 1) := by decide +kernel
theorem dL_law_203 : decode cL_law 203 = .ok (.aload_n 0, 1) := by decide +kernel
theorem dL_law_204 : decode cL_law 204 = .ok (.iload_n 3, 1) := by decide +kernel
theorem dL_law_205 : decode cL_law 205 = .ok (.iconst 3, 1) := by decide +kernel
theorem dL_law_206 : decode cL_law 206 = .ok (.iadd, 1) := by decide +kernel
theorem dL_law_207 : decode cL_law 207 = .ok (.iaload, 1) := by decide +kernel
theorem dL_law_208 : decode cL_law 208 = .ok (.aload_n 0, 1) := by decide +kernel
theorem dL_law_209 : decode cL_law 209 = .ok (.iload_n 3, 1) := by decide +kernel
theorem dL_law_210 : decode cL_law 210 = .ok (.iconst 4, 1) := by decide +kernel
theorem dL_law_211 : decode cL_law 211 = .ok (.iadd, 1) := by decide +kernel
theorem dL_law_212 : decode cL_law 212 = .ok (.iaload, 1) := by decide +kernel
theorem dL_law_213 : decode cL_law 213 = .ok (.aload_n 0, 1) := by decide +kernel
theorem dL_law_214 : decode cL_law 214 = .ok (.iload_n 3, 1) := by decide +kernel
theorem dL_law_215 : decode cL_law 215 = .ok (.iconst 5, 1) := by decide +kernel
theorem dL_law_216 : decode cL_law 216 = .ok (.iadd, 1) := by decide +kernel
theorem dL_law_217 : decode cL_law 217 = .ok (.iaload, 1) := by decide +kernel
theorem dL_law_218 : decode cL_law 218 = .ok (.invokevirtual 13, 3) := by decide +kernel
theorem dL_law_221 : decode cL_law 221 = .ok (.aload_n 2, 1) := by decide +kernel
theorem dL_law_222 : decode cL_law 222 = .ok (.aload_n 0, 1) := by decide +kernel
theorem dL_law_223 : decode cL_law 223 = .ok (.iload_n 3, 1) := by decide +kernel
theorem dL_law_224 : decode cL_law 224 = .ok (.iconst 1, 1) := by decide +kernel
theorem dL_law_225 : decode cL_law 225 = .ok (.iadd, 1) := by decide +kernel
theorem dL_law_226 : decode cL_law 226 = .ok (.iaload, 1) := by decide +kernel
theorem dL_law_227 : decode cL_law 227 = .ok (.aload_n 0, 1) := by decide +kernel
theorem dL_law_228 : decode cL_law 228 = .ok (.iload_n 3, 1) := by decide +kernel
theorem dL_law_229 : decode cL_law 229 = .ok (.iconst 2, 1) := by decide +kernel
theorem dL_law_230 : decode cL_law 230 = .ok (.iadd, 1) := by decide +kernel
theorem dL_law_231 : decode cL_law 231 = .ok (.iaload, 1) := by decide +kernel
theorem dL_law_232 : decode cL_law 232 = .ok (.aload_n 0, 1) := by decide +kernel
theorem dL_law_233 : decode cL_law 233 = .ok (.iload_n 3, 1) := by decide +kernel
theorem dL_law_234 : decode cL_law 234 = .ok (.iconst 3, 1) := by decide +kernel
theorem dL_law_235 : decode cL_law 235 = .ok (.iadd, 1) := by decide +kernel
theorem dL_law_236 : decode cL_law 236 = .ok (.iaload, 1) := by decide +kernel
theorem dL_law_237 : decode cL_law 237 = .ok (.aload_n 0, 1) := by decide +kernel
theorem dL_law_238 : decode cL_law 238 = .ok (.iload_n 3, 1) := by decide +kernel
theorem dL_law_239 : decode cL_law 239 = .ok (.iconst 4, 1) := by decide +kernel
theorem dL_law_240 : decode cL_law 240 = .ok (.iadd, 1) := by decide +kernel
theorem dL_law_241 : decode cL_law 241 = .ok (.iaload, 1) := by decide +kernel
theorem dL_law_242 : decode cL_law 242 = .ok (.aload_n 0, 1) := by decide +kernel
theorem dL_law_243 : decode cL_law 243 = .ok (.iload_n 3, 1) := by decide +kernel
theorem dL_law_244 : decode cL_law 244 = .ok (.iconst 5, 1) := by decide +kernel
theorem dL_law_245 : decode cL_law 245 = .ok (.iadd, 1) := by decide +kernel
theorem dL_law_246 : decode cL_law 246 = .ok (.iaload, 1) := by decide +kernel
theorem dL_law_247 : decode cL_law 247 = .ok (.invokevirtual 17, 3) := by decide +kernel
theorem dL_law_250 : decode cL_law 250 = .ok (.if_icmp .eq 1100, 3) := by decide +kernel
theorem dL_law_253 : decode cL_law 253 = .ok (.iconst 0, 1) := by decide +kernel
theorem dL_law_254 : decode cL_law 254 = .ok (.ireturn, 1) := by decide +kernel
theorem dL_law_255 : decode cL_law 255 = .ok (.aload_n 1, 1) := by decide +kernel
theorem dL_law_256 : decode cL_law 256 = .ok (.aload_n 0, 1) := by decide +kernel
theorem dL_law_257 : decode cL_law 257 = .ok (.iload_n 3, 1) := by decide +kernel
theorem dL_law_258 : decode cL_law 258 = .ok (.iconst 1, 1) := by decide +kernel
theorem dL_law_259 : decode cL_law 259 = .ok (.iadd, 1) := by decide +kernel
theorem dL_law_260 : decode cL_law 260 = .ok (.iaload, 1) := by decide +kernel
theorem dL_law_261 : decode cL_law 261 = .ok (.invokevirtual 18, 3) := by decide +kernel
theorem dL_law_264 : decode cL_law 264 = .ok (.aload_n 2, 1) := by decide +kernel
theorem dL_law_265 : decode cL_law 265 = .ok (.aload_n 0, 1) := by decide +kernel
theorem dL_law_266 : decode cL_law 266 = .ok (.iload_n 3, 1) := by decide +kernel
theorem dL_law_267 : decode cL_law 267 = .ok (.iconst 1, 1) := by decide +kernel
theorem dL_law_268 : decode cL_law 268 = .ok (.iadd, 1) := by decide +kernel
theorem dL_law_269 : decode cL_law 269 = .ok (.iaload, 1) := by decide +kernel
theorem dL_law_270 : decode cL_law 270 = .ok (.invokevirtual 22, 3) := by decide +kernel
theorem dL_law_273 : decode cL_law 273 = .ok (.if_icmp .eq 1077, 3) := by decide +kernel
theorem dL_law_276 : decode cL_law 276 = .ok (.iconst 0, 1) := by decide +kernel
theorem dL_law_277 : decode cL_law 277 = .ok (.ireturn, 1) := by decide +kernel
theorem dL_law_278 : decode cL_law 278 = .ok (.aload_n 1, 1) := by decide +kernel
theorem dL_law_279 : decode cL_law 279 = .ok (.invokevirtual 23, 3) := by decide +kernel
theorem dL_law_282 : decode cL_law 282 = .ok (.aload_n 2, 1) := by decide +kernel
theorem dL_law_283 : decode cL_law 283 = .ok (.invokevirtual 27, 3) := by decide +kernel
theorem dL_law_286 : decode cL_law 286 = .ok (.if_icmp .eq 1064, 3) := by decide +kernel
theorem dL_law_289 : decode cL_law 289 = .ok (.iconst 0, 1) := by decide +kernel
theorem dL_law_290 : decode cL_law 290 = .ok (.ireturn, 1) := by decide +kernel
theorem dL_law_291 : decode cL_law 291 = .ok (.aload_n 1, 1) := by decide +kernel
theorem dL_law_292 : decode cL_law 292 = .ok (.aload_n 0, 1) := by decide +kernel
theorem dL_law_293 : decode cL_law 293 = .ok (.iload_n 3, 1) := by decide +kernel
theorem dL_law_294 : decode cL_law 294 = .ok (.iconst 1, 1) := by decide +kernel
theorem dL_law_295 : decode cL_law 295 = .ok (.iadd, 1) := by decide +kernel
theorem dL_law_296 : decode cL_law 296 = .ok (.iaload, 1) := by decide +kernel
theorem dL_law_297 : decode cL_law 297 = .ok (.invokevirtual 28, 3) := by decide +kernel
theorem dL_law_300 : decode cL_law 300 = .ok (.aload_n 2, 1) := by decide +kernel
theorem dL_law_301 : decode cL_law 301 = .ok (.aload_n 0, 1) := by decide +kernel
theorem dL_law_302 : decode cL_law 302 = .ok (.iload_n 3, 1) := by decide +kernel
theorem dL_law_303 : decode cL_law 303 = .ok (.iconst 1, 1) := by decide +kernel
theorem dL_law_304 : decode cL_law 304 = .ok (.iadd, 1) := by decide +kernel
theorem dL_law_305 : decode cL_law 305 = .ok (.iaload, 1) := by decide +kernel
theorem dL_law_306 : decode cL_law 306 = .ok (.invokevirtual 31, 3) := by decide +kernel
theorem dL_law_309 : decode cL_law 309 = .ok (.if_icmp .eq 1041, 3) := by decide +kernel
theorem dL_law_312 : decode cL_law 312 = .ok (.iconst 0, 1) := by decide +kernel
theorem dL_law_313 : decode cL_law 313 = .ok (.ireturn, 1) := by decide +kernel
theorem dL_law_314 : decode cL_law 314 = .ok (.aload_n 1, 1) := by decide +kernel
theorem dL_law_315 : decode cL_law 315 = .ok (.aload_n 0, 1) := by decide +kernel
theorem dL_law_316 : decode cL_law 316 = .ok (.iload_n 3, 1) := by decide +kernel
theorem dL_law_317 : decode cL_law 317 = .ok (.iconst 1, 1) := by decide +kernel
theorem dL_law_318 : decode cL_law 318 = .ok (.iadd, 1) := by decide +kernel
theorem dL_law_319 : decode cL_law 319 = .ok (.iaload, 1) := by decide +kernel
theorem dL_law_320 : decode cL_law 320 = .ok (.invokevirtual 32, 3) := by decide +kernel
theorem dL_law_323 : decode cL_law 323 = .ok (.aload_n 2, 1) := by decide +kernel
theorem dL_law_324 : decode cL_law 324 = .ok (.aload_n 0, 1) := by decide +kernel
theorem dL_law_325 : decode cL_law 325 = .ok (.iload_n 3, 1) := by decide +kernel
theorem dL_law_326 : decode cL_law 326 = .ok (.iconst 1, 1) := by decide +kernel
theorem dL_law_327 : decode cL_law 327 = .ok (.iadd, 1) := by decide +kernel
theorem dL_law_328 : decode cL_law 328 = .ok (.iaload, 1) := by decide +kernel
theorem dL_law_329 : decode cL_law 329 = .ok (.invokevirtual 35, 3) := by decide +kernel
theorem dL_law_332 : decode cL_law 332 = .ok (.if_icmp .eq 1018, 3) := by decide +kernel
theorem dL_law_335 : decode cL_law 335 = .ok (.iconst 0, 1) := by decide +kernel
theorem dL_law_336 : decode cL_law 336 = .ok (.ireturn, 1) := by decide +kernel
theorem dL_law_337 : decode cL_law 337 = .ok (.aload_n 1, 1) := by decide +kernel
theorem dL_law_338 : decode cL_law 338 = .ok (.aload_n 0, 1) := by decide +kernel
theorem dL_law_339 : decode cL_law 339 = .ok (.iload_n 3, 1) := by decide +kernel
theorem dL_law_340 : decode cL_law 340 = .ok (.iconst 1, 1) := by decide +kernel
theorem dL_law_341 : decode cL_law 341 = .ok (.iadd, 1) := by decide +kernel
theorem dL_law_342 : decode cL_law 342 = .ok (.iaload, 1) := by decide +kernel
theorem dL_law_343 : decode cL_law 343 = .ok (.aload_n 0, 1) := by decide +kernel
theorem dL_law_344 : decode cL_law 344 = .ok (.iload_n 3, 1) := by decide +kernel
theorem dL_law_345 : decode cL_law 345 = .ok (.iconst 2, 1) := by decide +kernel
theorem dL_law_346 : decode cL_law 346 = .ok (.iadd, 1) := by decide +kernel
theorem dL_law_347 : decode cL_law 347 = .ok (.iaload, 1) := by decide +kernel
theorem dL_law_348 : decode cL_law 348 = .ok (.aload_n 0, 1) := by decide +kernel
theorem dL_law_349 : decode cL_law 349 = .ok (.iload_n 3, 1) := by decide +kernel
theorem dL_law_350 : decode cL_law 350 = .ok (.iconst 3, 1) := by decide +kernel
theorem dL_law_351 : decode cL_law 351 = .ok (.iadd, 1) := by decide +kernel
theorem dL_law_352 : decode cL_law 352 = .ok (.iaload, 1) := by decide +kernel
theorem dL_law_353 : decode cL_law 353 = .ok (.invokevirtual 36, 3) := by decide +kernel
theorem dL_law_356 : decode cL_law 356 = .ok (.aload_n 2, 1) := by decide +kernel
theorem dL_law_357 : decode cL_law 357 = .ok (.aload_n 0, 1) := by decide +kernel
theorem dL_law_358 : decode cL_law 358 = .ok (.iload_n 3, 1) := by decide +kernel
theorem dL_law_359 : decode cL_law 359 = .ok (.iconst 1, 1) := by decide +kernel
theorem dL_law_360 : decode cL_law 360 = .ok (.iadd, 1) := by decide +kernel
theorem dL_law_361 : decode cL_law 361 = .ok (.iaload, 1) := by decide +kernel
theorem dL_law_362 : decode cL_law 362 = .ok (.aload_n 0, 1) := by decide +kernel
theorem dL_law_363 : decode cL_law 363 = .ok (.iload_n 3, 1) := by decide +kernel
theorem dL_law_364 : decode cL_law 364 = .ok (.iconst 2, 1) := by decide +kernel
theorem dL_law_365 : decode cL_law 365 = .ok (.iadd, 1) := by decide +kernel
theorem dL_law_366 : decode cL_law 366 = .ok (.iaload, 1) := by decide +kernel
theorem dL_law_367 : decode cL_law 367 = .ok (.aload_n 0, 1) := by decide +kernel
theorem dL_law_368 : decode cL_law 368 = .ok (.iload_n 3, 1) := by decide +kernel
theorem dL_law_369 : decode cL_law 369 = .ok (.iconst 3, 1) := by decide +kernel
theorem dL_law_370 : decode cL_law 370 = .ok (.iadd, 1) := by decide +kernel
theorem dL_law_371 : decode cL_law 371 = .ok (.iaload, 1) := by decide +kernel
theorem dL_law_372 : decode cL_law 372 = .ok (.invokevirtual 40, 3) := by decide +kernel
theorem dL_law_375 : decode cL_law 375 = .ok (.if_icmp .eq 975, 3) := by decide +kernel
theorem dL_law_378 : decode cL_law 378 = .ok (.iconst 0, 1) := by decide +kernel
theorem dL_law_379 : decode cL_law 379 = .ok (.ireturn, 1) := by decide +kernel
theorem dL_law_380 : decode cL_law 380 = .ok (.aload_n 1, 1) := by decide +kernel
theorem dL_law_381 : decode cL_law 381 = .ok (.aload_n 0, 1) := by decide +kernel
theorem dL_law_382 : decode cL_law 382 = .ok (.iload_n 3, 1) := by decide +kernel
theorem dL_law_383 : decode cL_law 383 = .ok (.iconst 1, 1) := by decide +kernel
theorem dL_law_384 : decode cL_law 384 = .ok (.iadd, 1) := by decide +kernel
theorem dL_law_385 : decode cL_law 385 = .ok (.iaload, 1) := by decide +kernel
theorem dL_law_386 : decode cL_law 386 = .ok (.aload_n 0, 1) := by decide +kernel
theorem dL_law_387 : decode cL_law 387 = .ok (.iload_n 3, 1) := by decide +kernel
theorem dL_law_388 : decode cL_law 388 = .ok (.iconst 2, 1) := by decide +kernel
theorem dL_law_389 : decode cL_law 389 = .ok (.iadd, 1) := by decide +kernel
theorem dL_law_390 : decode cL_law 390 = .ok (.iaload, 1) := by decide +kernel
theorem dL_law_391 : decode cL_law 391 = .ok (.aload_n 0, 1) := by decide +kernel
theorem dL_law_392 : decode cL_law 392 = .ok (.iload_n 3, 1) := by decide +kernel
theorem dL_law_393 : decode cL_law 393 = .ok (.iconst 3, 1) := by decide +kernel
theorem dL_law_394 : decode cL_law 394 = .ok (.iadd, 1) := by decide +kernel
theorem dL_law_395 : decode cL_law 395 = .ok (.iaload, 1) := by decide +kernel
theorem dL_law_396 : decode cL_law 396 = .ok (.invokevirtual 41, 3) := by decide +kernel
theorem dL_law_399 : decode cL_law 399 = .ok (.aload_n 2, 1) := by decide +kernel
theorem dL_law_400 : decode cL_law 400 = .ok (.aload_n 0, 1) := by decide +kernel
theorem dL_law_401 : decode cL_law 401 = .ok (.iload_n 3, 1) := by decide +kernel
theorem dL_law_402 : decode cL_law 402 = .ok (.iconst 1, 1) := by decide +kernel
theorem dL_law_403 : decode cL_law 403 = .ok (.iadd, 1) := by decide +kernel
theorem dL_law_404 : decode cL_law 404 = .ok (.iaload, 1) := by decide +kernel
theorem dL_law_405 : decode cL_law 405 = .ok (.aload_n 0, 1) := by decide +kernel
theorem dL_law_406 : decode cL_law 406 = .ok (.iload_n 3, 1) := by decide +kernel
theorem dL_law_407 : decode cL_law 407 = .ok (.iconst 2, 1) := by decide +kernel
theorem dL_law_408 : decode cL_law 408 = .ok (.iadd, 1) := by decide +kernel
theorem dL_law_409 : decode cL_law 409 = .ok (.iaload, 1) := by decide +kernel
theorem dL_law_410 : decode cL_law 410 = .ok (.aload_n 0, 1) := by decide +kernel
theorem dL_law_411 : decode cL_law 411 = .ok (.iload_n 3, 1) := by decide +kernel
theorem dL_law_412 : decode cL_law 412 = .ok (.iconst 3, 1) := by decide +kernel
theorem dL_law_413 : decode cL_law 413 = .ok (.iadd, 1) := by decide +kernel
theorem dL_law_414 : decode cL_law 414 = .ok (.iaload, 1) := by decide +kernel
theorem dL_law_415 : decode cL_law 415 = .ok (.invokevirtual 44, 3) := by decide +kernel
