theorem dX10_tie_12 : decode cX10_tie 12 = .ok (.aload_n 0, 1) := by decide +kernel
theorem dX10_tie_13 : decode cX10_tie 13 = .ok (.iload_n 1, 1) := by decide +kernel
theorem dX10_tie_14 : decode cX10_tie 14 = .ok (.iload_n 2, 1) := by decide +kernel
theorem dX10_tie_15 : decode cX10_tie 15 = .ok (.invokevirtual 304, 3) := by decide +kernel
theorem dX10_tie_18 : decode cX10_tie 18 = .ok (.ifCond .ne 5, 3) := by decide +kernel
theorem dX10_tie_21 : decode cX10_tie 21 = .ok (.iconst (-1), 1) := by decide +kernel
theorem dX10_tie_22 : decode cX10_tie 22 = .ok (.ireturn, 1) := by decide +kernel
theorem dX10_tie_23 : decode cX10_tie 23 = .ok (.aload_n 0, 1) := by decide +kernel
theorem dX10_tie_24 : decode cX10_tie 24 = .ok (.iload_n 1, 1) := by decide +kernel
theorem dX10_tie_25 : decode cX10_tie 25 = .ok (.iload_n 1, 1) := by decide +kernel
theorem dX10_tie_26 : decode cX10_tie 26 = .ok (.iload_n 2, 1) := by decide +kernel
theorem dX10_tie_27 : decode cX10_tie 27 = .ok (.invokevirtual 456, 3) := by decide +kernel
theorem dX10_tie_30 : decode cX10_tie 30 = .ok (.iload_n 2, 1) := by decide +kernel
theorem dX10_tie_31 : decode cX10_tie 31 = .ok (.invokestatic 294, 3) := by decide +kernel
theorem dX10_tie_34 : decode cX10_tie 34 = .ok (.ifCond .eq 7, 3) := by decide +kernel
theorem dX10_tie_37 : decode cX10_tie 37 = .ok (.iconst 0, 1) := by decide +kernel
theorem dX10_tie_38 : decode cX10_tie 38 = .ok (.goto 4, 3) := by decide +kernel
theorem dX10_tie_41 : decode cX10_tie 41 = .ok (.iconst 1, 1) := by decide +kernel
theorem dX10_tie_42 : decode cX10_tie 42 = .ok (.ireturn, 1) := by decide +kernel
theorem dX10_callsAll_0 : decode cX10_callsAll 0 = .ok (.iconst 0, 1) := by decide +kernel
theorem dX10_callsAll_1 : decode cX10_callsAll 1 = .ok (.istore_n 1, 1) := by decide +kernel
theorem dX10_callsAll_2 : decode cX10_callsAll 2 = .ok (.iload_n 1, 1) := by decide +kernel
theorem dX10_callsAll_3 : decode cX10_callsAll 3 = .ok (.bipush 16, 2) := by decide +kernel
theorem dX10_callsAll_5 : decode cX10_callsAll 5 = .ok (.if_icmp .ge 16, 3) := by decide +kernel
theorem dX10_callsAll_8 : decode cX10_callsAll 8 = .ok (.aload_n 0, 1) := by decide +kernel
theorem dX10_callsAll_9 : decode cX10_callsAll 9 = .ok (.getfield 80, 3) := by decide +kernel
theorem dX10_callsAll_12 : decode cX10_callsAll 12 = .ok (.iload_n 1, 1) := by decide +kernel
theorem dX10_callsAll_13 : decode cX10_callsAll 13 = .ok (.iconst 0, 1) := by decide +kernel
theorem dX10_callsAll_14 : decode cX10_callsAll 14 = .ok (.iastore, 1) := by decide +kernel
theorem dX10_callsAll_15 : decode cX10_callsAll 15 = .ok (.iinc 1 1, 3) := by decide +kernel
theorem dX10_callsAll_18 : decode cX10_callsAll 18 = .ok (.goto (-16), 3) := by decide +kernel
theorem dX10_callsAll_21 : decode cX10_callsAll 21 = .ok (.iconst 0, 1) := by decide +kernel
theorem dX10_callsAll_22 : decode cX10_callsAll 22 = .ok (.istore_n 1, 1) := by decide +kernel
theorem dX10_callsAll_23 : decode cX10_callsAll 23 = .ok (.iload_n 1, 1) := by decide +kernel
theorem dX10_callsAll_24 : decode cX10_callsAll 24 = .ok (.aload_n 0, 1) := by decide +kernel
theorem dX10_callsAll_25 : decode cX10_callsAll 25 = .ok (.getfield 13, 3) := by decide +kernel
theorem dX10_callsAll_28 : decode cX10_callsAll 28 = .ok (.bipush 8, 2) := by decide +kernel
theorem dX10_callsAll_30 : decode cX10_callsAll 30 = .ok (.iaload, 1) := by decide +kernel
theorem dX10_callsAll_31 : decode cX10_callsAll 31 = .ok (.if_icmp .ge 72, 3) := by decide +kernel
theorem dX10_callsAll_34 : decode cX10_callsAll 34 = .ok (.aload_n 0, 1) := by decide +kernel
theorem dX10_callsAll_35 : decode cX10_callsAll 35 = .ok (.getfield 13, 3) := by decide +kernel
theorem dX10_callsAll_38 : decode cX10_callsAll 38 = .ok (.sipush 6680, 3) := by decide +kernel
theorem dX10_callsAll_41 : decode cX10_callsAll 41 = .ok (.iconst 4, 1) := by decide +kernel
theorem dX10_callsAll_42 : decode cX10_callsAll 42 = .ok (.iload_n 1, 1) := by decide +kernel
theorem dX10_callsAll_43 : decode cX10_callsAll 43 = .ok (.imul, 1) := by decide +kernel
theorem dX10_callsAll_44 : decode cX10_callsAll 44 = .ok (.iadd, 1) := by decide +kernel
theorem dX10_callsAll_45 : decode cX10_callsAll 45 = .ok (.iconst 2, 1) := by decide +kernel
theorem dX10_callsAll_46 : decode cX10_callsAll 46 = .ok (.iadd, 1) := by decide +kernel
theorem dX10_callsAll_47 : decode cX10_callsAll 47 = .ok (.iaload, 1) := by decide +kernel
theorem dX10_callsAll_48 : decode cX10_callsAll 48 = .ok (.i2l, 1) := by decide +kernel
theorem dX10_callsAll_49 : decode cX10_callsAll 49 = .ok (.ldc2_w 99, 3) := by decide +kernel
theorem dX10_callsAll_52 : decode cX10_callsAll 52 = .ok (.ldc2_w 313, 3) := by decide +kernel
theorem dX10_callsAll_55 : decode cX10_callsAll 55 = .ok (.invokestatic 101, 3) := by decide +kernel
theorem dX10_callsAll_58 : decode cX10_callsAll 58 = .ok (.ifCond .eq 39, 3) := by decide +kernel
theorem dX10_callsAll_61 : decode cX10_callsAll 61 = .ok (.aload_n 0, 1) := by decide +kernel
theorem dX10_callsAll_62 : decode cX10_callsAll 62 = .ok (.getfield 80, 3) := by decide +kernel
theorem dX10_callsAll_65 : decode cX10_callsAll 65 = .ok (.aload_n 0, 1) := by decide +kernel
theorem dX10_callsAll_66 : decode cX10_callsAll 66 = .ok (.getfield 13, 3) := by decide +kernel
theorem dX10_callsAll_69 : decode cX10_callsAll 69 = .ok (.sipush 6680, 3) := by decide +kernel
theorem dX10_callsAll_72 : decode cX10_callsAll 72 = .ok (.iconst 4, 1) := by decide +kernel
theorem dX10_callsAll_73 : decode cX10_callsAll 73 = .ok (.iload_n 1, 1) := by decide +kernel
theorem dX10_callsAll_74 : decode cX10_callsAll 74 = .ok (.imul, 1) := by decide +kernel
theorem dX10_callsAll_75 : decode cX10_callsAll 75 = .ok (.iadd, 1) := by decide +kernel
theorem dX10_callsAll_76 : decode cX10_callsAll 76 = .ok (.iaload, 1) := by decide +kernel
theorem dX10_callsAll_77 : decode cX10_callsAll 77 = .ok (.dup2, 1) := by decide +kernel
theorem dX10_callsAll_78 : decode cX10_callsAll 78 = .ok (.iaload, 1) := by decide +kernel
theorem dX10_callsAll_79 : decode cX10_callsAll 79 = .ok (.iconst 1, 1) := by decide +kernel
theorem dX10_callsAll_80 : decode cX10_callsAll 80 = .ok (.aload_n 0, 1) := by decide +kernel
theorem dX10_callsAll_81 : decode cX10_callsAll 81 = .ok (.getfield 13, 3) := by decide +kernel
theorem dX10_callsAll_84 : decode cX10_callsAll 84 = .ok (.sipush 6680, 3) := by decide +kernel
theorem dX10_callsAll_87 : decode cX10_callsAll 87 = .ok (.iconst 4, 1) := by decide +kernel
theorem dX10_callsAll_88 : decode cX10_callsAll 88 = .ok (.iload_n 1, 1) := by decide +kernel
theorem dX10_callsAll_89 : decode cX10_callsAll 89 = .ok (.imul, 1) := by decide +kernel
theorem dX10_callsAll_90 : decode cX10_callsAll 90 = .ok (.iadd, 1) := by decide +kernel
theorem dX10_callsAll_91 : decode cX10_callsAll 91 = .ok (.iconst 1, 1) := by decide +kernel
theorem dX10_callsAll_92 : decode cX10_callsAll 92 = .ok (.iadd, 1) := by decide +kernel
theorem dX10_callsAll_93 : decode cX10_callsAll 93 = .ok (.iaload, 1) := by decide +kernel
theorem dX10_callsAll_94 : decode cX10_callsAll 94 = .ok (.ishl, 1) := by decide +kernel
theorem dX10_callsAll_95 : decode cX10_callsAll 95 = .ok (.ior, 1) := by decide +kernel
theorem dX10_callsAll_96 : decode cX10_callsAll 96 = .ok (.iastore, 1) := by decide +kernel
theorem dX10_callsAll_97 : decode cX10_callsAll 97 = .ok (.iinc 1 1, 3) := by decide +kernel
theorem dX10_callsAll_100 : decode cX10_callsAll 100 = .ok (.goto (-77), 3) := by decide +kernel
theorem dX10_callsAll_103 : decode cX10_callsAll 103 = .ok (.return_, 1) := by decide +kernel
theorem dX10_comesTo_0 : decode cX10_comesTo 0 = .ok (.iconst 1, 1) := by decide +kernel
theorem dX10_comesTo_1 : decode cX10_comesTo 1 = .ok (.iload_n 1, 1) := by decide +kernel
theorem dX10_comesTo_2 : decode cX10_comesTo 2 = .ok (.ishl, 1) := by decide +kernel
theorem dX10_comesTo_3 : decode cX10_comesTo 3 = .ok (.istore_n 2, 1) := by decide +kernel
theorem dX10_comesTo_4 : decode cX10_comesTo 4 = .ok (.iconst 0, 1) := by decide +kernel
theorem dX10_comesTo_5 : decode cX10_comesTo 5 = .ok (.istore_n 3, 1) := by decide +kernel
theorem dX10_comesTo_6 : decode cX10_comesTo 6 = .ok (.iload_n 3, 1) := by decide +kernel
theorem dX10_comesTo_7 : decode cX10_comesTo 7 = .ok (.iload_n 2, 1) := by decide +kernel
theorem dX10_comesTo_8 : decode cX10_comesTo 8 = .ok (.if_icmp .eq 43, 3) := by decide +kernel
theorem dX10_comesTo_11 : decode cX10_comesTo 11 = .ok (.iload_n 2, 1) := by decide +kernel
theorem dX10_comesTo_12 : decode cX10_comesTo 12 = .ok (.istore_n 3, 1) := by decide +kernel
theorem dX10_comesTo_13 : decode cX10_comesTo 13 = .ok (.iconst 0, 1) := by decide +kernel
theorem dX10_comesTo_14 : decode cX10_comesTo 14 = .ok (.istore 4, 2) := by decide +kernel
theorem dX10_comesTo_16 : decode cX10_comesTo 16 = .ok (.iload 4, 2) := by decide +kernel
theorem dX10_comesTo_18 : decode cX10_comesTo 18 = .ok (.bipush 16, 2) := by decide +kernel
theorem dX10_comesTo_20 : decode cX10_comesTo 20 = .ok (.if_icmp .ge 28, 3) := by decide +kernel
theorem dX10_comesTo_23 : decode cX10_comesTo 23 = .ok (.iload_n 3, 1) := by decide +kernel
theorem dX10_comesTo_24 : decode cX10_comesTo 24 = .ok (.iload 4, 2) := by decide +kernel
theorem dX10_comesTo_26 : decode cX10_comesTo 26 = .ok (.invokestatic 294, 3) := by decide +kernel
theorem dX10_comesTo_29 : decode cX10_comesTo 29 = .ok (.ifCond .eq 13, 3) := by decide +kernel
theorem dX10_comesTo_32 : decode cX10_comesTo 32 = .ok (.iload_n 2, 1) := by decide +kernel
theorem dX10_comesTo_33 : decode cX10_comesTo 33 = .ok (.aload_n 0, 1) := by decide +kernel
theorem dX10_comesTo_34 : decode cX10_comesTo 34 = .ok (.getfield 80, 3) := by decide +kernel
theorem dX10_comesTo_37 : decode cX10_comesTo 37 = .ok (.iload 4, 2) := by decide +kernel
theorem dX10_comesTo_39 : decode cX10_comesTo 39 = .ok (.iaload, 1) := by decide +kernel
theorem dX10_comesTo_40 : decode cX10_comesTo 40 = .ok (.ior, 1) := by decide +kernel
theorem dX10_comesTo_41 : decode cX10_comesTo 41 = .ok (.istore_n 2, 1) := by decide +kernel
theorem dX10_comesTo_42 : decode cX10_comesTo 42 = .ok (.iinc 4 1, 3) := by decide +kernel
theorem dX10_comesTo_45 : decode cX10_comesTo 45 = .ok (.goto (-29), 3) := by decide +kernel
theorem dX10_comesTo_48 : decode cX10_comesTo 48 = .ok (.goto (-42), 3) := by decide +kernel
theorem dX10_comesTo_51 : decode cX10_comesTo 51 = .ok (.iload_n 2, 1) := by decide +kernel
theorem dX10_comesTo_52 : decode cX10_comesTo 52 = .ok (.ireturn, 1) := by decide +kernel
theorem dX10_ringOf_0 : decode cX10_ringOf 0 = .ok (.aload_n 0, 1) := by decide +kernel
theorem dX10_ringOf_1 : decode cX10_ringOf 1 = .ok (.iload_n 1, 1) := by decide +kernel
theorem dX10_ringOf_2 : decode cX10_ringOf 2 = .ok (.invokevirtual 459, 3) := by decide +kernel
theorem dX10_ringOf_5 : decode cX10_ringOf 5 = .ok (.istore_n 2, 1) := by decide +kernel
theorem dX10_ringOf_6 : decode cX10_ringOf 6 = .ok (.iload_n 2, 1) := by decide +kernel
theorem dX10_ringOf_7 : decode cX10_ringOf 7 = .ok (.invokestatic 298, 3) := by decide +kernel
theorem dX10_ringOf_10 : decode cX10_ringOf 10 = .ok (.iconst 2, 1) := by decide +kernel
theorem dX10_ringOf_11 : decode cX10_ringOf 11 = .ok (.if_icmp .ge 5, 3) := by decide +kernel
theorem dX10_ringOf_14 : decode cX10_ringOf 14 = .ok (.iconst 0, 1) := by decide +kernel
theorem dX10_ringOf_15 : decode cX10_ringOf 15 = .ok (.ireturn, 1) := by decide +kernel
theorem dX10_ringOf_16 : decode cX10_ringOf 16 = .ok (.iconst 0, 1) := by decide +kernel
theorem dX10_ringOf_17 : decode cX10_ringOf 17 = .ok (.istore_n 3, 1) := by decide +kernel
theorem dX10_ringOf_18 : decode cX10_ringOf 18 = .ok (.iload_n 3, 1) := by decide +kernel
theorem dX10_ringOf_19 : decode cX10_ringOf 19 = .ok (.bipush 16, 2) := by decide +kernel
theorem dX10_ringOf_21 : decode cX10_ringOf 21 = .ok (.if_icmp .ge 28, 3) := by decide +kernel
theorem dX10_ringOf_24 : decode cX10_ringOf 24 = .ok (.iload_n 2, 1) := by decide +kernel
theorem dX10_ringOf_25 : decode cX10_ringOf 25 = .ok (.iload_n 3, 1) := by decide +kernel
theorem dX10_ringOf_26 : decode cX10_ringOf 26 = .ok (.invokestatic 294, 3) := by decide +kernel
theorem dX10_ringOf_29 : decode cX10_ringOf 29 = .ok (.ifCond .eq 14, 3) := by decide +kernel
theorem dX10_ringOf_32 : decode cX10_ringOf 32 = .ok (.aload_n 0, 1) := by decide +kernel
theorem dX10_ringOf_33 : decode cX10_ringOf 33 = .ok (.iload_n 3, 1) := by decide +kernel
theorem dX10_ringOf_34 : decode cX10_ringOf 34 = .ok (.invokevirtual 459, 3) := by decide +kernel
theorem dX10_ringOf_37 : decode cX10_ringOf 37 = .ok (.iload_n 2, 1) := by decide +kernel
theorem dX10_ringOf_38 : decode cX10_ringOf 38 = .ok (.if_icmp .eq 5, 3) := by decide +kernel
theorem dX10_ringOf_41 : decode cX10_ringOf 41 = .ok (.iconst 0, 1) := by decide +kernel
theorem dX10_ringOf_42 : decode cX10_ringOf 42 = .ok (.ireturn, 1) := by decide +kernel
theorem dX10_ringOf_43 : decode cX10_ringOf 43 = .ok (.iinc 3 1, 3) := by decide +kernel
theorem dX10_ringOf_46 : decode cX10_ringOf 46 = .ok (.goto (-28), 3) := by decide +kernel
theorem dX10_ringOf_49 : decode cX10_ringOf 49 = .ok (.iload_n 2, 1) := by decide +kernel
theorem dX10_ringOf_50 : decode cX10_ringOf 50 = .ok (.ireturn, 1) := by decide +kernel
theorem dX10_ring_0 : decode cX10_ring 0 = .ok (.aload_n 0, 1) := by decide +kernel
theorem dX10_ring_1 : decode cX10_ring 1 = .ok (.iload_n 1, 1) := by decide +kernel
theorem dX10_ring_2 : decode cX10_ring 2 = .ok (.invokevirtual 105, 3) := by decide +kernel
theorem dX10_ring_5 : decode cX10_ring 5 = .ok (.ifCond .ne 6, 3) := by decide +kernel
theorem dX10_ring_8 : decode cX10_ring 8 = .ok (.bipush (-2), 2) := by decide +kernel
theorem dX10_ring_10 : decode cX10_ring 10 = .ok (.ireturn, 1) := by decide +kernel
theorem dX10_ring_11 : decode cX10_ring 11 = .ok (.aload_n 0, 1) := by decide +kernel
theorem dX10_ring_12 : decode cX10_ring 12 = .ok (.invokevirtual 462, 3) := by decide +kernel
theorem dX10_ring_15 : decode cX10_ring 15 = .ok (.aload_n 0, 1) := by decide +kernel
theorem dX10_ring_16 : decode cX10_ring 16 = .ok (.iload_n 1, 1) := by decide +kernel
theorem dX10_ring_17 : decode cX10_ring 17 = .ok (.invokevirtual 465, 3) := by decide +kernel
theorem dX10_ring_20 : decode cX10_ring 20 = .ok (.ireturn, 1) := by decide +kernel
theorem dX10_rings_0 : decode cX10_rings 0 = .ok (.aload_n 0, 1) := by decide +kernel
theorem dX10_rings_1 : decode cX10_rings 1 = .ok (.invokevirtual 462, 3) := by decide +kernel
theorem dX10_rings_4 : decode cX10_rings 4 = .ok (.iconst 0, 1) := by decide +kernel
theorem dX10_rings_5 : decode cX10_rings 5 = .ok (.istore_n 1, 1) := by decide +kernel
theorem dX10_rings_6 : decode cX10_rings 6 = .ok (.iconst 0, 1) := by decide +kernel
theorem dX10_rings_7 : decode cX10_rings 7 = .ok (.istore_n 2, 1) := by decide +kernel
theorem dX10_rings_8 : decode cX10_rings 8 = .ok (.iload_n 2, 1) := by decide +kernel
theorem dX10_rings_9 : decode cX10_rings 9 = .ok (.aload_n 0, 1) := by decide +kernel
theorem dX10_rings_10 : decode cX10_rings 10 = .ok (.getfield 13, 3) := by decide +kernel
theorem dX10_rings_13 : decode cX10_rings 13 = .ok (.iconst 0, 1) := by decide +kernel
theorem dX10_rings_14 : decode cX10_rings 14 = .ok (.iaload, 1) := by decide +kernel
theorem dX10_rings_15 : decode cX10_rings 15 = .ok (.if_icmp .ge 37, 3) := by decide +kernel
theorem dX10_rings_18 : decode cX10_rings 18 = .ok (.aload_n 0, 1) := by decide +kernel
theorem dX10_rings_19 : decode cX10_rings 19 = .ok (.iload_n 2, 1) := by decide +kernel
theorem dX10_rings_20 : decode cX10_rings 20 = .ok (.invokevirtual 465, 3) := by decide +kernel
theorem dX10_rings_23 : decode cX10_rings 23 = .ok (.istore_n 3, 1) := by decide +kernel
theorem dX10_rings_24 : decode cX10_rings 24 = .ok (.iload_n 1, 1) := by decide +kernel
theorem dX10_rings_25 : decode cX10_rings 25 = .ok (.iload_n 3, 1) := by decide +kernel
theorem dX10_rings_26 : decode cX10_rings 26 = .ok (.ifCond .eq 17, 3) := by decide +kernel
theorem dX10_rings_29 : decode cX10_rings 29 = .ok (.iload_n 3, 1) := by decide +kernel
theorem dX10_rings_30 : decode cX10_rings 30 = .ok (.iconst 1, 1) := by decide +kernel
theorem dX10_rings_31 : decode cX10_rings 31 = .ok (.iload_n 2, 1) := by decide +kernel
theorem dX10_rings_32 : decode cX10_rings 32 = .ok (.ishl, 1) := by decide +kernel
theorem dX10_rings_33 : decode cX10_rings 33 = .ok (.iconst 1, 1) := by decide +kernel
theorem dX10_rings_34 : decode cX10_rings 34 = .ok (.isub, 1) := by decide +kernel
theorem dX10_rings_35 : decode cX10_rings 35 = .ok (.iand, 1) := by decide +kernel
theorem dX10_rings_36 : decode cX10_rings 36 = .ok (.ifCond .ne 7, 3) := by decide +kernel
theorem dX10_rings_39 : decode cX10_rings 39 = .ok (.iconst 1, 1) := by decide +kernel
theorem dX10_rings_40 : decode cX10_rings 40 = .ok (.goto 4, 3) := by decide +kernel
theorem dX10_rings_43 : decode cX10_rings 43 = .ok (.iconst 0, 1) := by decide +kernel
theorem dX10_rings_44 : decode cX10_rings 44 = .ok (.iadd, 1) := by decide +kernel
theorem dX10_rings_45 : decode cX10_rings 45 = .ok (.istore_n 1, 1) := by decide +kernel
theorem dX10_rings_46 : decode cX10_rings 46 = .ok (.iinc 2 1, 3) := by decide +kernel
theorem dX10_rings_49 : decode cX10_rings 49 = .ok (.goto (-41), 3) := by decide +kernel
theorem dX10_rings_52 : decode cX10_rings 52 = .ok (.iload_n 1, 1) := by decide +kernel
theorem dX10_rings_53 : decode cX10_rings 53 = .ok (.ireturn, 1) := by decide +kernel
theorem dX10_house_0 : decode cX10_house 0 = .ok (.aload_n 0, 1) := by decide +kernel
theorem dX10_house_1 : decode cX10_house 1 = .ok (.iload_n 1, 1) := by decide +kernel
theorem dX10_house_2 : decode cX10_house 2 = .ok (.invokevirtual 105, 3) := by decide +kernel
theorem dX10_house_5 : decode cX10_house 5 = .ok (.ifCond .eq 15, 3) := by decide +kernel
theorem dX10_house_8 : decode cX10_house 8 = .ok (.iload_n 2, 1) := by decide +kernel
theorem dX10_house_9 : decode cX10_house 9 = .ok (.i2l, 1) := by decide +kernel
theorem dX10_house_10 : decode cX10_house 10 = .ok (.lconst 0, 1) := by decide +kernel
theorem dX10_house_11 : decode cX10_house 11 = .ok (.ldc2_w 468, 3) := by decide +kernel
theorem dX10_house_14 : decode cX10_house 14 = .ok (.invokestatic 101, 3) := by decide +kernel
theorem dX10_house_17 : decode cX10_house 17 = .ok (.ifCond .ne 7, 3) := by decide +kernel
theorem dX10_house_20 : decode cX10_house 20 = .ok (.ldc_w 470, 3) := by decide +kernel
theorem dX10_house_23 : decode cX10_house 23 = .ok (.ireturn, 1) := by decide +kernel
theorem dX10_house_24 : decode cX10_house 24 = .ok (.iload_n 2, 1) := by decide +kernel
theorem dX10_house_25 : decode cX10_house 25 = .ok (.bipush 7, 2) := by decide +kernel
theorem dX10_house_27 : decode cX10_house 27 = .ok (.if_icmp .ge 10, 3) := by decide +kernel
theorem dX10_house_30 : decode cX10_house 30 = .ok (.aload_n 0, 1) := by decide +kernel
theorem dX10_house_31 : decode cX10_house 31 = .ok (.iload_n 1, 1) := by decide +kernel
theorem dX10_house_32 : decode cX10_house 32 = .ok (.iload_n 2, 1) := by decide +kernel
theorem dX10_house_33 : decode cX10_house 33 = .ok (.invokevirtual 286, 3) := by decide +kernel
theorem dX10_house_36 : decode cX10_house 36 = .ok (.ireturn, 1) := by decide +kernel
theorem dX10_house_37 : decode cX10_house 37 = .ok (.iconst 0, 1) := by decide +kernel
theorem dX10_house_38 : decode cX10_house 38 = .ok (.istore_n 3, 1) := by decide +kernel
theorem dX10_house_39 : decode cX10_house 39 = .ok (.iconst 0, 1) := by decide +kernel
theorem dX10_house_40 : decode cX10_house 40 = .ok (.istore 4, 2) := by decide +kernel
theorem dX10_house_42 : decode cX10_house 42 = .ok (.iload 4, 2) := by decide +kernel
theorem dX10_house_44 : decode cX10_house 44 = .ok (.aload_n 0, 1) := by decide +kernel
theorem dX10_house_45 : decode cX10_house 45 = .ok (.getfield 13, 3) := by decide +kernel
theorem dX10_house_48 : decode cX10_house 48 = .ok (.bipush 8, 2) := by decide +kernel
theorem dX10_house_50 : decode cX10_house 50 = .ok (.iaload, 1) := by decide +kernel
theorem dX10_house_51 : decode cX10_house 51 = .ok (.if_icmp .ge 67, 3) := by decide +kernel
theorem dX10_house_54 : decode cX10_house 54 = .ok (.iload_n 3, 1) := by decide +kernel
theorem dX10_house_55 : decode cX10_house 55 = .ok (.aload_n 0, 1) := by decide +kernel
theorem dX10_house_56 : decode cX10_house 56 = .ok (.getfield 13, 3) := by decide +kernel
theorem dX10_house_59 : decode cX10_house 59 = .ok (.sipush 6680, 3) := by decide +kernel
theorem dX10_house_62 : decode cX10_house 62 = .ok (.iconst 4, 1) := by decide +kernel
theorem dX10_house_63 : decode cX10_house 63 = .ok (.iload 4, 2) := by decide +kernel
theorem dX10_house_65 : decode cX10_house 65 = .ok (.imul, 1) := by decide +kernel
theorem dX10_house_66 : decode cX10_house 66 = .ok (.iadd, 1) := by decide +kernel
theorem dX10_house_67 : decode cX10_house 67 = .ok (.iconst 2, 1) := by decide +kernel
theorem dX10_house_68 : decode cX10_house 68 = .ok (.iadd, 1) := by decide +kernel
theorem dX10_house_69 : decode cX10_house 69 = .ok (.iaload, 1) := by decide +kernel
theorem dX10_house_70 : decode cX10_house 70 = .ok (.i2l, 1) := by decide +kernel
theorem dX10_house_71 : decode cX10_house 71 = .ok (.ldc2_w 99, 3) := by decide +kernel
theorem dX10_house_74 : decode cX10_house 74 = .ok (.ldc2_w 313, 3) := by decide +kernel
theorem dX10_house_77 : decode cX10_house 77 = .ok (.invokestatic 101, 3) := by decide +kernel
theorem dX10_house_80 : decode cX10_house 80 = .ok (.ifCond .eq 29, 3) := by decide +kernel
theorem dX10_house_83 : decode cX10_house 83 = .ok (.aload_n 0, 1) := by decide +kernel
theorem dX10_house_84 : decode cX10_house 84 = .ok (.getfield 13, 3) := by decide +kernel
theorem dX10_house_87 : decode cX10_house 87 = .ok (.sipush 6680, 3) := by decide +kernel
theorem dX10_house_90 : decode cX10_house 90 = .ok (.iconst 4, 1) := by decide +kernel
theorem dX10_house_91 : decode cX10_house 91 = .ok (.iload 4, 2) := by decide +kernel
theorem dX10_house_93 : decode cX10_house 93 = .ok (.imul, 1) := by decide +kernel
theorem dX10_house_94 : decode cX10_house 94 = .ok (.iadd, 1) := by decide +kernel
theorem dX10_house_95 : decode cX10_house 95 = .ok (.iload_n 2, 1) := by decide +kernel
theorem dX10_house_96 : decode cX10_house 96 = .ok (.iadd, 1) := by decide +kernel
theorem dX10_house_97 : decode cX10_house 97 = .ok (.bipush 7, 2) := by decide +kernel
theorem dX10_house_99 : decode cX10_house 99 = .ok (.isub, 1) := by decide +kernel
theorem dX10_house_100 : decode cX10_house 100 = .ok (.iaload, 1) := by decide +kernel
theorem dX10_house_101 : decode cX10_house 101 = .ok (.iload_n 1, 1) := by decide +kernel
theorem dX10_house_102 : decode cX10_house 102 = .ok (.if_icmp .ne 7, 3) := by decide +kernel
theorem dX10_house_105 : decode cX10_house 105 = .ok (.iconst 1, 1) := by decide +kernel
theorem dX10_house_106 : decode cX10_house 106 = .ok (.goto 4, 3) := by decide +kernel
theorem dX10_house_109 : decode cX10_house 109 = .ok (.iconst 0, 1) := by decide +kernel
theorem dX10_house_110 : decode cX10_house 110 = .ok (.iadd, 1) := by decide +kernel
theorem dX10_house_111 : decode cX10_house 111 = .ok (.istore_n 3, 1) := by decide +kernel
theorem dX10_house_112 : decode cX10_house 112 = .ok (.iinc 4 1, 3) := by decide +kernel
theorem dX10_house_115 : decode cX10_house 115 = .ok (.goto (-73), 3) := by decide +kernel
theorem dX10_house_118 : decode cX10_house 118 = .ok (.iload_n 3, 1) := by decide +kernel
theorem dX10_house_119 : decode cX10_house 119 = .ok (.ireturn, 1) := by decide +kernel
theorem dX10_beside_0 : decode cX10_beside 0 = .ok (.iload_n 1, 1) := by decide +kernel
theorem dX10_beside_1 : decode cX10_beside 1 = .ok (.i2l, 1) := by decide +kernel
theorem dX10_beside_2 : decode cX10_beside 2 = .ok (.lconst 0, 1) := by decide +kernel
theorem dX10_beside_3 : decode cX10_beside 3 = .ok (.ldc2_w 99, 3) := by decide +kernel
theorem dX10_beside_6 : decode cX10_beside 6 = .ok (.invokestatic 101, 3) := by decide +kernel
theorem dX10_beside_9 : decode cX10_beside 9 = .ok (.ifCond .ne 6, 3) := by decide +kernel
theorem dX10_beside_12 : decode cX10_beside 12 = .ok (.bipush (-2), 2) := by decide +kernel
theorem dX10_beside_14 : decode cX10_beside 14 = .ok (.ireturn, 1) := by decide +kernel
theorem dX10_beside_15 : decode cX10_beside 15 = .ok (.aload_n 0, 1) := by decide +kernel
theorem dX10_beside_16 : decode cX10_beside 16 = .ok (.getfield 20, 3) := by decide +kernel
theorem dX10_beside_19 : decode cX10_beside 19 = .ok (.iload_n 1, 1) := by decide +kernel
theorem dX10_beside_20 : decode cX10_beside 20 = .ok (.baload, 1) := by decide +kernel
theorem dX10_beside_21 : decode cX10_beside 21 = .ok (.ifCond .ne 6, 3) := by decide +kernel
theorem dX10_beside_24 : decode cX10_beside 24 = .ok (.bipush (-6), 2) := by decide +kernel
theorem dX10_beside_26 : decode cX10_beside 26 = .ok (.ireturn, 1) := by decide +kernel
theorem dX10_beside_27 : decode cX10_beside 27 = .ok (.iconst 0, 1) := by decide +kernel
theorem dX10_beside_28 : decode cX10_beside 28 = .ok (.istore_n 2, 1) := by decide +kernel
theorem dX10_beside_29 : decode cX10_beside 29 = .ok (.iload_n 2, 1) := by decide +kernel
theorem dX10_beside_30 : decode cX10_beside 30 = .ok (.sipush 9080, 3) := by decide +kernel
theorem dX10_beside_33 : decode cX10_beside 33 = .ok (.if_icmp .ge 21, 3) := by decide +kernel
theorem dX10_beside_36 : decode cX10_beside 36 = .ok (.aload_n 0, 1) := by decide +kernel
theorem dX10_beside_37 : decode cX10_beside 37 = .ok (.getfield 83, 3) := by decide +kernel
theorem dX10_beside_40 : decode cX10_beside 40 = .ok (.iload_n 2, 1) := by decide +kernel
theorem dX10_beside_41 : decode cX10_beside 41 = .ok (.aload_n 0, 1) := by decide +kernel
theorem dX10_beside_42 : decode cX10_beside 42 = .ok (.getfield 13, 3) := by decide +kernel
theorem dX10_beside_45 : decode cX10_beside 45 = .ok (.iload_n 2, 1) := by decide +kernel
theorem dX10_beside_46 : decode cX10_beside 46 = .ok (.iaload, 1) := by decide +kernel
theorem dX10_beside_47 : decode cX10_beside 47 = .ok (.iastore, 1) := by decide +kernel
theorem dX10_beside_48 : decode cX10_beside 48 = .ok (.iinc 2 1, 3) := by decide +kernel
theorem dX10_beside_51 : decode cX10_beside 51 = .ok (.goto (-22), 3) := by decide +kernel
theorem dX10_beside_54 : decode cX10_beside 54 = .ok (.sipush 154, 3) := by decide +kernel
theorem dX10_beside_57 : decode cX10_beside 57 = .ok (.istore_n 2, 1) := by decide +kernel
theorem dX10_beside_58 : decode cX10_beside 58 = .ok (.iload_n 2, 1) := by decide +kernel
theorem dX10_beside_59 : decode cX10_beside 59 = .ok (.sipush 1864, 3) := by decide +kernel
theorem dX10_beside_62 : decode cX10_beside 62 = .ok (.if_icmp .ge 27, 3) := by decide +kernel
theorem dX10_beside_65 : decode cX10_beside 65 = .ok (.aload_n 0, 1) := by decide +kernel
theorem dX10_beside_66 : decode cX10_beside 66 = .ok (.getfield 13, 3) := by decide +kernel
theorem dX10_beside_69 : decode cX10_beside 69 = .ok (.iload_n 2, 1) := by decide +kernel
theorem dX10_beside_70 : decode cX10_beside 70 = .ok (.aload_n 0, 1) := by decide +kernel
theorem dX10_beside_71 : decode cX10_beside 71 = .ok (.getfield 17, 3) := by decide +kernel
theorem dX10_beside_74 : decode cX10_beside 74 = .ok (.sipush 9080, 3) := by decide +kernel
theorem dX10_beside_77 : decode cX10_beside 77 = .ok (.iload_n 1, 1) := by decide +kernel
theorem dX10_beside_78 : decode cX10_beside 78 = .ok (.imul, 1) := by decide +kernel
theorem dX10_beside_79 : decode cX10_beside 79 = .ok (.iload_n 2, 1) := by decide +kernel
theorem dX10_beside_80 : decode cX10_beside 80 = .ok (.iadd, 1) := by decide +kernel
theorem dX10_beside_81 : decode cX10_beside 81 = .ok (.iaload, 1) := by decide +kernel
theorem dX10_beside_82 : decode cX10_beside 82 = .ok (.iastore, 1) := by decide +kernel
theorem dX10_beside_83 : decode cX10_beside 83 = .ok (.iinc 2 1, 3) := by decide +kernel
theorem dX10_beside_86 : decode cX10_beside 86 = .ok (.goto (-28), 3) := by decide +kernel
theorem dX10_beside_89 : decode cX10_beside 89 = .ok (.iconst 1, 1) := by decide +kernel
theorem dX10_beside_90 : decode cX10_beside 90 = .ok (.istore_n 2, 1) := by decide +kernel
theorem dX10_beside_91 : decode cX10_beside 91 = .ok (.iload_n 2, 1) := by decide +kernel
theorem dX10_beside_92 : decode cX10_beside 92 = .ok (.iconst 3, 1) := by decide +kernel
theorem dX10_beside_93 : decode cX10_beside 93 = .ok (.if_icmp .gt 27, 3) := by decide +kernel
theorem dX10_beside_96 : decode cX10_beside 96 = .ok (.aload_n 0, 1) := by decide +kernel
theorem dX10_beside_97 : decode cX10_beside 97 = .ok (.getfield 13, 3) := by decide +kernel
theorem dX10_beside_100 : decode cX10_beside 100 = .ok (.iload_n 2, 1) := by decide +kernel
theorem dX10_beside_101 : decode cX10_beside 101 = .ok (.aload_n 0, 1) := by decide +kernel
theorem dX10_beside_102 : decode cX10_beside 102 = .ok (.getfield 17, 3) := by decide +kernel
theorem dX10_beside_105 : decode cX10_beside 105 = .ok (.sipush 9080, 3) := by decide +kernel
theorem dX10_beside_108 : decode cX10_beside 108 = .ok (.iload_n 1, 1) := by decide +kernel
theorem dX10_beside_109 : decode cX10_beside 109 = .ok (.imul, 1) := by decide +kernel
theorem dX10_beside_110 : decode cX10_beside 110 = .ok (.iload_n 2, 1) := by decide +kernel
theorem dX10_beside_111 : decode cX10_beside 111 = .ok (.iadd, 1) := by decide +kernel
theorem dX10_beside_112 : decode cX10_beside 112 = .ok (.iaload, 1) := by decide +kernel
theorem dX10_beside_113 : decode cX10_beside 113 = .ok (.iastore, 1) := by decide +kernel
theorem dX10_beside_114 : decode cX10_beside 114 = .ok (.iinc 2 1, 3) := by decide +kernel
theorem dX10_beside_117 : decode cX10_beside 117 = .ok (.goto (-26), 3) := by decide +kernel
theorem dX10_beside_120 : decode cX10_beside 120 = .ok (.iconst 0, 1) := by decide +kernel
theorem dX10_beside_121 : decode cX10_beside 121 = .ok (.istore_n 2, 1) := by decide +kernel
theorem dX10_beside_122 : decode cX10_beside 122 = .ok (.iload_n 2, 1) := by decide +kernel
theorem dX10_beside_123 : decode cX10_beside 123 = .ok (.bipush 16, 2) := by decide +kernel
theorem dX10_beside_125 : decode cX10_beside 125 = .ok (.if_icmp .ge 26, 3) := by decide +kernel
theorem dX10_beside_128 : decode cX10_beside 128 = .ok (.aload_n 0, 1) := by decide +kernel
theorem dX10_beside_129 : decode cX10_beside 129 = .ok (.getfield 13, 3) := by decide +kernel
theorem dX10_beside_132 : decode cX10_beside 132 = .ok (.sipush 1864, 3) := by decide +kernel
theorem dX10_beside_135 : decode cX10_beside 135 = .ok (.iload_n 2, 1) := by decide +kernel
theorem dX10_beside_136 : decode cX10_beside 136 = .ok (.iadd, 1) := by decide +kernel
theorem dX10_beside_137 : decode cX10_beside 137 = .ok (.aload_n 0, 1) := by decide +kernel
theorem dX10_beside_138 : decode cX10_beside 138 = .ok (.iload_n 2, 1) := by decide +kernel
theorem dX10_beside_139 : decode cX10_beside 139 = .ok (.bipush 8, 2) := by decide +kernel
theorem dX10_beside_141 : decode cX10_beside 141 = .ok (.invokevirtual 286, 3) := by decide +kernel
theorem dX10_beside_144 : decode cX10_beside 144 = .ok (.iastore, 1) := by decide +kernel
theorem dX10_beside_145 : decode cX10_beside 145 = .ok (.iinc 2 1, 3) := by decide +kernel
theorem dX10_beside_148 : decode cX10_beside 148 = .ok (.goto (-26), 3) := by decide +kernel
theorem dX10_beside_151 : decode cX10_beside 151 = .ok (.aload_n 0, 1) := by decide +kernel
theorem dX10_beside_152 : decode cX10_beside 152 = .ok (.getfield 13, 3) := by decide +kernel
theorem dX10_beside_155 : decode cX10_beside 155 = .ok (.bipush 7, 2) := by decide +kernel
theorem dX10_beside_157 : decode cX10_beside 157 = .ok (.iconst 0, 1) := by decide +kernel
theorem dX10_beside_158 : decode cX10_beside 158 = .ok (.iastore, 1) := by decide +kernel
theorem dX10_beside_159 : decode cX10_beside 159 = .ok (.iconst 0, 1) := by decide +kernel
theorem dX10_beside_160 : decode cX10_beside 160 = .ok (.istore_n 2, 1) := by decide +kernel
theorem dX10_beside_161 : decode cX10_beside 161 = .ok (.iload_n 2, 1) := by decide +kernel
theorem dX10_beside_162 : decode cX10_beside 162 = .ok (.aload_n 0, 1) := by decide +kernel
theorem dX10_beside_163 : decode cX10_beside 163 = .ok (.getfield 13, 3) := by decide +kernel
theorem dX10_beside_166 : decode cX10_beside 166 = .ok (.bipush 8, 2) := by decide +kernel
theorem dX10_beside_168 : decode cX10_beside 168 = .ok (.iaload, 1) := by decide +kernel
theorem dX10_beside_169 : decode cX10_beside 169 = .ok (.if_icmp .ge 53, 3) := by decide +kernel
theorem dX10_beside_172 : decode cX10_beside 172 = .ok (.sipush 6680, 3) := by decide +kernel
theorem dX10_beside_175 : decode cX10_beside 175 = .ok (.iconst 4, 1) := by decide +kernel
theorem dX10_beside_176 : decode cX10_beside 176 = .ok (.iload_n 2, 1) := by decide +kernel
theorem dX10_beside_177 : decode cX10_beside 177 = .ok (.imul, 1) := by decide +kernel
theorem dX10_beside_178 : decode cX10_beside 178 = .ok (.iadd, 1) := by decide +kernel
theorem dX10_beside_179 : decode cX10_beside 179 = .ok (.istore_n 3, 1) := by decide +kernel
theorem dX10_beside_180 : decode cX10_beside 180 = .ok (.aload_n 0, 1) := by decide +kernel
theorem dX10_beside_181 : decode cX10_beside 181 = .ok (.aload_n 0, 1) := by decide +kernel
theorem dX10_beside_182 : decode cX10_beside 182 = .ok (.getfield 13, 3) := by decide +kernel
theorem dX10_beside_185 : decode cX10_beside 185 = .ok (.iload_n 3, 1) := by decide +kernel
theorem dX10_beside_186 : decode cX10_beside 186 = .ok (.iaload, 1) := by decide +kernel
theorem dX10_beside_187 : decode cX10_beside 187 = .ok (.aload_n 0, 1) := by decide +kernel
theorem dX10_beside_188 : decode cX10_beside 188 = .ok (.getfield 13, 3) := by decide +kernel
theorem dX10_beside_191 : decode cX10_beside 191 = .ok (.iload_n 3, 1) := by decide +kernel
theorem dX10_beside_192 : decode cX10_beside 192 = .ok (.iconst 1, 1) := by decide +kernel
theorem dX10_beside_193 : decode cX10_beside 193 = .ok (.iadd, 1) := by decide +kernel
theorem dX10_beside_194 : decode cX10_beside 194 = .ok (.iaload, 1) := by decide +kernel
theorem dX10_beside_195 : decode cX10_beside 195 = .ok (.aload_n 0, 1) := by decide +kernel
theorem dX10_beside_196 : decode cX10_beside 196 = .ok (.getfield 13, 3) := by decide +kernel
theorem dX10_beside_199 : decode cX10_beside 199 = .ok (.iload_n 3, 1) := by decide +kernel
theorem dX10_beside_200 : decode cX10_beside 200 = .ok (.iconst 2, 1) := by decide +kernel
theorem dX10_beside_201 : decode cX10_beside 201 = .ok (.iadd, 1) := by decide +kernel
theorem dX10_beside_202 : decode cX10_beside 202 = .ok (.iaload, 1) := by decide +kernel
theorem dX10_beside_203 : decode cX10_beside 203 = .ok (.aload_n 0, 1) := by decide +kernel
theorem dX10_beside_204 : decode cX10_beside 204 = .ok (.getfield 13, 3) := by decide +kernel
theorem dX10_beside_207 : decode cX10_beside 207 = .ok (.iload_n 3, 1) := by decide +kernel
theorem dX10_beside_208 : decode cX10_beside 208 = .ok (.iconst 3, 1) := by decide +kernel
theorem dX10_beside_209 : decode cX10_beside 209 = .ok (.iadd, 1) := by decide +kernel
theorem dX10_beside_210 : decode cX10_beside 210 = .ok (.iaload, 1) := by decide +kernel
theorem dX10_beside_211 : decode cX10_beside 211 = .ok (.invokevirtual 364, 3) := by decide +kernel
theorem dX10_beside_214 : decode cX10_beside 214 = .ok (.istore 4, 2) := by decide +kernel
theorem dX10_beside_216 : decode cX10_beside 216 = .ok (.iinc 2 1, 3) := by decide +kernel
theorem dX10_beside_219 : decode cX10_beside 219 = .ok (.goto (-58), 3) := by decide +kernel
theorem dX10_beside_222 : decode cX10_beside 222 = .ok (.aload_n 0, 1) := by decide +kernel
theorem dX10_beside_223 : decode cX10_beside 223 = .ok (.getfield 13, 3) := by decide +kernel
theorem dX10_beside_226 : decode cX10_beside 226 = .ok (.bipush 7, 2) := by decide +kernel
theorem dX10_beside_228 : decode cX10_beside 228 = .ok (.iaload, 1) := by decide +kernel
theorem dX10_beside_229 : decode cX10_beside 229 = .ok (.istore_n 2, 1) := by decide +kernel
theorem dX10_beside_230 : decode cX10_beside 230 = .ok (.iconst 0, 1) := by decide +kernel
theorem dX10_beside_231 : decode cX10_beside 231 = .ok (.istore_n 3, 1) := by decide +kernel
