theorem dX10_comes_24 : decode cX10_comes 24 = .ok (.getfield 13, 3) := by decide +kernel
theorem dX10_comes_27 : decode cX10_comes 27 = .ok (.iload 6, 2) := by decide +kernel
theorem dX10_comes_29 : decode cX10_comes 29 = .ok (.iconst 1, 1) := by decide +kernel
theorem dX10_comes_30 : decode cX10_comes 30 = .ok (.iadd, 1) := by decide +kernel
theorem dX10_comes_31 : decode cX10_comes 31 = .ok (.iload_n 2, 1) := by decide +kernel
theorem dX10_comes_32 : decode cX10_comes 32 = .ok (.iastore, 1) := by decide +kernel
theorem dX10_comes_33 : decode cX10_comes 33 = .ok (.aload_n 0, 1) := by decide +kernel
theorem dX10_comes_34 : decode cX10_comes 34 = .ok (.getfield 13, 3) := by decide +kernel
theorem dX10_comes_37 : decode cX10_comes 37 = .ok (.iload 6, 2) := by decide +kernel
theorem dX10_comes_39 : decode cX10_comes 39 = .ok (.iconst 2, 1) := by decide +kernel
theorem dX10_comes_40 : decode cX10_comes 40 = .ok (.iadd, 1) := by decide +kernel
theorem dX10_comes_41 : decode cX10_comes 41 = .ok (.iload_n 3, 1) := by decide +kernel
theorem dX10_comes_42 : decode cX10_comes 42 = .ok (.iastore, 1) := by decide +kernel
theorem dX10_comes_43 : decode cX10_comes 43 = .ok (.aload_n 0, 1) := by decide +kernel
theorem dX10_comes_44 : decode cX10_comes 44 = .ok (.getfield 13, 3) := by decide +kernel
theorem dX10_comes_47 : decode cX10_comes 47 = .ok (.iload 6, 2) := by decide +kernel
theorem dX10_comes_49 : decode cX10_comes 49 = .ok (.iconst 3, 1) := by decide +kernel
theorem dX10_comes_50 : decode cX10_comes 50 = .ok (.iadd, 1) := by decide +kernel
theorem dX10_comes_51 : decode cX10_comes 51 = .ok (.iload 4, 2) := by decide +kernel
theorem dX10_comes_53 : decode cX10_comes 53 = .ok (.iastore, 1) := by decide +kernel
theorem dX10_comes_54 : decode cX10_comes 54 = .ok (.aload_n 0, 1) := by decide +kernel
theorem dX10_comes_55 : decode cX10_comes 55 = .ok (.getfield 13, 3) := by decide +kernel
theorem dX10_comes_58 : decode cX10_comes 58 = .ok (.iload 6, 2) := by decide +kernel
theorem dX10_comes_60 : decode cX10_comes 60 = .ok (.iconst 4, 1) := by decide +kernel
theorem dX10_comes_61 : decode cX10_comes 61 = .ok (.iadd, 1) := by decide +kernel
theorem dX10_comes_62 : decode cX10_comes 62 = .ok (.iload 5, 2) := by decide +kernel
theorem dX10_comes_64 : decode cX10_comes 64 = .ok (.iastore, 1) := by decide +kernel
theorem dX10_comes_65 : decode cX10_comes 65 = .ok (.aload_n 0, 1) := by decide +kernel
theorem dX10_comes_66 : decode cX10_comes 66 = .ok (.getfield 13, 3) := by decide +kernel
theorem dX10_comes_69 : decode cX10_comes 69 = .ok (.bipush 7, 2) := by decide +kernel
theorem dX10_comes_71 : decode cX10_comes 71 = .ok (.dup2, 1) := by decide +kernel
theorem dX10_comes_72 : decode cX10_comes 72 = .ok (.iaload, 1) := by decide +kernel
theorem dX10_comes_73 : decode cX10_comes 73 = .ok (.iconst 1, 1) := by decide +kernel
theorem dX10_comes_74 : decode cX10_comes 74 = .ok (.iadd, 1) := by decide +kernel
theorem dX10_comes_75 : decode cX10_comes 75 = .ok (.iastore, 1) := by decide +kernel
theorem dX10_comes_76 : decode cX10_comes 76 = .ok (.return_, 1) := by decide +kernel
theorem dX10_meets_0 : decode cX10_meets 0 = .ok (.aload_n 0, 1) := by decide +kernel
theorem dX10_meets_1 : decode cX10_meets 1 = .ok (.getfield 13, 3) := by decide +kernel
theorem dX10_meets_4 : decode cX10_meets 4 = .ok (.sipush 1864, 3) := by decide +kernel
theorem dX10_meets_7 : decode cX10_meets 7 = .ok (.iload_n 1, 1) := by decide +kernel
theorem dX10_meets_8 : decode cX10_meets 8 = .ok (.iadd, 1) := by decide +kernel
theorem dX10_meets_9 : decode cX10_meets 9 = .ok (.dup2, 1) := by decide +kernel
theorem dX10_meets_10 : decode cX10_meets 10 = .ok (.iaload, 1) := by decide +kernel
theorem dX10_meets_11 : decode cX10_meets 11 = .ok (.iconst 1, 1) := by decide +kernel
theorem dX10_meets_12 : decode cX10_meets 12 = .ok (.iload_n 2, 1) := by decide +kernel
theorem dX10_meets_13 : decode cX10_meets 13 = .ok (.ishl, 1) := by decide +kernel
theorem dX10_meets_14 : decode cX10_meets 14 = .ok (.ior, 1) := by decide +kernel
theorem dX10_meets_15 : decode cX10_meets 15 = .ok (.iastore, 1) := by decide +kernel
theorem dX10_meets_16 : decode cX10_meets 16 = .ok (.aload_n 0, 1) := by decide +kernel
theorem dX10_meets_17 : decode cX10_meets 17 = .ok (.getfield 13, 3) := by decide +kernel
theorem dX10_meets_20 : decode cX10_meets 20 = .ok (.sipush 1864, 3) := by decide +kernel
theorem dX10_meets_23 : decode cX10_meets 23 = .ok (.iload_n 2, 1) := by decide +kernel
theorem dX10_meets_24 : decode cX10_meets 24 = .ok (.iadd, 1) := by decide +kernel
theorem dX10_meets_25 : decode cX10_meets 25 = .ok (.dup2, 1) := by decide +kernel
theorem dX10_meets_26 : decode cX10_meets 26 = .ok (.iaload, 1) := by decide +kernel
theorem dX10_meets_27 : decode cX10_meets 27 = .ok (.iconst 1, 1) := by decide +kernel
theorem dX10_meets_28 : decode cX10_meets 28 = .ok (.iload_n 1, 1) := by decide +kernel
theorem dX10_meets_29 : decode cX10_meets 29 = .ok (.ishl, 1) := by decide +kernel
theorem dX10_meets_30 : decode cX10_meets 30 = .ok (.ior, 1) := by decide +kernel
theorem dX10_meets_31 : decode cX10_meets 31 = .ok (.iastore, 1) := by decide +kernel
theorem dX10_meets_32 : decode cX10_meets 32 = .ok (.return_, 1) := by decide +kernel
theorem dX10_goes_0 : decode cX10_goes 0 = .ok (.iload_n 3, 1) := by decide +kernel
theorem dX10_goes_1 : decode cX10_goes 1 = .ok (.iconst 4, 1) := by decide +kernel
theorem dX10_goes_2 : decode cX10_goes 2 = .ok (.if_icmp .ne 11, 3) := by decide +kernel
theorem dX10_goes_5 : decode cX10_goes 5 = .ok (.aload_n 0, 1) := by decide +kernel
theorem dX10_goes_6 : decode cX10_goes 6 = .ok (.iload_n 1, 1) := by decide +kernel
theorem dX10_goes_7 : decode cX10_goes 7 = .ok (.iload_n 2, 1) := by decide +kernel
theorem dX10_goes_8 : decode cX10_goes 8 = .ok (.invokevirtual 345, 3) := by decide +kernel
theorem dX10_goes_11 : decode cX10_goes 11 = .ok (.iconst 0, 1) := by decide +kernel
theorem dX10_goes_12 : decode cX10_goes 12 = .ok (.ireturn, 1) := by decide +kernel
theorem dX10_goes_13 : decode cX10_goes 13 = .ok (.aload_n 0, 1) := by decide +kernel
theorem dX10_goes_14 : decode cX10_goes 14 = .ok (.iload_n 1, 1) := by decide +kernel
theorem dX10_goes_15 : decode cX10_goes 15 = .ok (.iload_n 2, 1) := by decide +kernel
theorem dX10_goes_16 : decode cX10_goes 16 = .ok (.iload_n 3, 1) := by decide +kernel
theorem dX10_goes_17 : decode cX10_goes 17 = .ok (.invokevirtual 349, 3) := by decide +kernel
theorem dX10_goes_20 : decode cX10_goes 20 = .ok (.istore 5, 2) := by decide +kernel
theorem dX10_goes_22 : decode cX10_goes 22 = .ok (.aload_n 0, 1) := by decide +kernel
theorem dX10_goes_23 : decode cX10_goes 23 = .ok (.iload_n 1, 1) := by decide +kernel
theorem dX10_goes_24 : decode cX10_goes 24 = .ok (.iload_n 2, 1) := by decide +kernel
theorem dX10_goes_25 : decode cX10_goes 25 = .ok (.iload_n 3, 1) := by decide +kernel
theorem dX10_goes_26 : decode cX10_goes 26 = .ok (.aload_n 0, 1) := by decide +kernel
theorem dX10_goes_27 : decode cX10_goes 27 = .ok (.iload_n 1, 1) := by decide +kernel
theorem dX10_goes_28 : decode cX10_goes 28 = .ok (.iload_n 2, 1) := by decide +kernel
theorem dX10_goes_29 : decode cX10_goes 29 = .ok (.invokevirtual 304, 3) := by decide +kernel
theorem dX10_goes_32 : decode cX10_goes 32 = .ok (.iload 4, 2) := by decide +kernel
theorem dX10_goes_34 : decode cX10_goes 34 = .ok (.invokevirtual 352, 3) := by decide +kernel
theorem dX10_goes_37 : decode cX10_goes 37 = .ok (.istore 6, 2) := by decide +kernel
theorem dX10_goes_39 : decode cX10_goes 39 = .ok (.iload 6, 2) := by decide +kernel
theorem dX10_goes_41 : decode cX10_goes 41 = .ok (.iconst (-1), 1) := by decide +kernel
theorem dX10_goes_42 : decode cX10_goes 42 = .ok (.if_icmp .eq 65, 3) := by decide +kernel
theorem dX10_goes_45 : decode cX10_goes 45 = .ok (.aload_n 0, 1) := by decide +kernel
theorem dX10_goes_46 : decode cX10_goes 46 = .ok (.getfield 13, 3) := by decide +kernel
theorem dX10_goes_49 : decode cX10_goes 49 = .ok (.sipush 154, 3) := by decide +kernel
theorem dX10_goes_52 : decode cX10_goes 52 = .ok (.iconst 5, 1) := by decide +kernel
theorem dX10_goes_53 : decode cX10_goes 53 = .ok (.iload 6, 2) := by decide +kernel
theorem dX10_goes_55 : decode cX10_goes 55 = .ok (.imul, 1) := by decide +kernel
theorem dX10_goes_56 : decode cX10_goes 56 = .ok (.iadd, 1) := by decide +kernel
theorem dX10_goes_57 : decode cX10_goes 57 = .ok (.iconst 1, 1) := by decide +kernel
theorem dX10_goes_58 : decode cX10_goes 58 = .ok (.iadd, 1) := by decide +kernel
theorem dX10_goes_59 : decode cX10_goes 59 = .ok (.iaload, 1) := by decide +kernel
theorem dX10_goes_60 : decode cX10_goes 60 = .ok (.istore 7, 2) := by decide +kernel
theorem dX10_goes_62 : decode cX10_goes 62 = .ok (.aload_n 0, 1) := by decide +kernel
theorem dX10_goes_63 : decode cX10_goes 63 = .ok (.iload_n 2, 1) := by decide +kernel
theorem dX10_goes_64 : decode cX10_goes 64 = .ok (.iload_n 1, 1) := by decide +kernel
theorem dX10_goes_65 : decode cX10_goes 65 = .ok (.iload 7, 2) := by decide +kernel
theorem dX10_goes_67 : decode cX10_goes 67 = .ok (.invokevirtual 356, 3) := by decide +kernel
theorem dX10_goes_70 : decode cX10_goes 70 = .ok (.ifCond .ne 37, 3) := by decide +kernel
theorem dX10_goes_73 : decode cX10_goes 73 = .ok (.aload_n 0, 1) := by decide +kernel
theorem dX10_goes_74 : decode cX10_goes 74 = .ok (.iload_n 2, 1) := by decide +kernel
theorem dX10_goes_75 : decode cX10_goes 75 = .ok (.iload_n 1, 1) := by decide +kernel
theorem dX10_goes_76 : decode cX10_goes 76 = .ok (.iload 7, 2) := by decide +kernel
theorem dX10_goes_78 : decode cX10_goes 78 = .ok (.sipush 399, 3) := by decide +kernel
theorem dX10_goes_81 : decode cX10_goes 81 = .ok (.iload 4, 2) := by decide +kernel
theorem dX10_goes_83 : decode cX10_goes 83 = .ok (.aload_n 0, 1) := by decide +kernel
theorem dX10_goes_84 : decode cX10_goes 84 = .ok (.getfield 13, 3) := by decide +kernel
theorem dX10_goes_87 : decode cX10_goes 87 = .ok (.sipush 154, 3) := by decide +kernel
theorem dX10_goes_90 : decode cX10_goes 90 = .ok (.iconst 5, 1) := by decide +kernel
theorem dX10_goes_91 : decode cX10_goes 91 = .ok (.iload 6, 2) := by decide +kernel
theorem dX10_goes_93 : decode cX10_goes 93 = .ok (.imul, 1) := by decide +kernel
theorem dX10_goes_94 : decode cX10_goes 94 = .ok (.iadd, 1) := by decide +kernel
theorem dX10_goes_95 : decode cX10_goes 95 = .ok (.iconst 2, 1) := by decide +kernel
theorem dX10_goes_96 : decode cX10_goes 96 = .ok (.iadd, 1) := by decide +kernel
theorem dX10_goes_97 : decode cX10_goes 97 = .ok (.iaload, 1) := by decide +kernel
theorem dX10_goes_98 : decode cX10_goes 98 = .ok (.iadd, 1) := by decide +kernel
theorem dX10_goes_99 : decode cX10_goes 99 = .ok (.invokestatic 139, 3) := by decide +kernel
theorem dX10_goes_102 : decode cX10_goes 102 = .ok (.iload 4, 2) := by decide +kernel
theorem dX10_goes_104 : decode cX10_goes 104 = .ok (.invokevirtual 360, 3) := by decide +kernel
theorem dX10_goes_107 : decode cX10_goes 107 = .ok (.iload_n 3, 1) := by decide +kernel
theorem dX10_goes_108 : decode cX10_goes 108 = .ok (.iconst 2, 1) := by decide +kernel
theorem dX10_goes_109 : decode cX10_goes 109 = .ok (.if_icmp .lt 9, 3) := by decide +kernel
theorem dX10_goes_112 : decode cX10_goes 112 = .ok (.aload_n 0, 1) := by decide +kernel
theorem dX10_goes_113 : decode cX10_goes 113 = .ok (.iload_n 1, 1) := by decide +kernel
theorem dX10_goes_114 : decode cX10_goes 114 = .ok (.iload_n 2, 1) := by decide +kernel
theorem dX10_goes_115 : decode cX10_goes 115 = .ok (.invokevirtual 345, 3) := by decide +kernel
theorem dX10_goes_118 : decode cX10_goes 118 = .ok (.iload 5, 2) := by decide +kernel
theorem dX10_goes_120 : decode cX10_goes 120 = .ok (.ireturn, 1) := by decide +kernel
theorem dX10_notes_0 : decode cX10_notes 0 = .ok (.sipush 6680, 3) := by decide +kernel
theorem dX10_notes_3 : decode cX10_notes 3 = .ok (.iconst 4, 1) := by decide +kernel
theorem dX10_notes_4 : decode cX10_notes 4 = .ok (.aload_n 0, 1) := by decide +kernel
theorem dX10_notes_5 : decode cX10_notes 5 = .ok (.getfield 13, 3) := by decide +kernel
theorem dX10_notes_8 : decode cX10_notes 8 = .ok (.bipush 8, 2) := by decide +kernel
theorem dX10_notes_10 : decode cX10_notes 10 = .ok (.iaload, 1) := by decide +kernel
theorem dX10_notes_11 : decode cX10_notes 11 = .ok (.imul, 1) := by decide +kernel
theorem dX10_notes_12 : decode cX10_notes 12 = .ok (.iadd, 1) := by decide +kernel
theorem dX10_notes_13 : decode cX10_notes 13 = .ok (.istore 4, 2) := by decide +kernel
theorem dX10_notes_15 : decode cX10_notes 15 = .ok (.aload_n 0, 1) := by decide +kernel
theorem dX10_notes_16 : decode cX10_notes 16 = .ok (.getfield 13, 3) := by decide +kernel
theorem dX10_notes_19 : decode cX10_notes 19 = .ok (.iload 4, 2) := by decide +kernel
theorem dX10_notes_21 : decode cX10_notes 21 = .ok (.iload_n 1, 1) := by decide +kernel
theorem dX10_notes_22 : decode cX10_notes 22 = .ok (.iastore, 1) := by decide +kernel
theorem dX10_notes_23 : decode cX10_notes 23 = .ok (.aload_n 0, 1) := by decide +kernel
theorem dX10_notes_24 : decode cX10_notes 24 = .ok (.getfield 13, 3) := by decide +kernel
theorem dX10_notes_27 : decode cX10_notes 27 = .ok (.iload 4, 2) := by decide +kernel
theorem dX10_notes_29 : decode cX10_notes 29 = .ok (.iconst 1, 1) := by decide +kernel
theorem dX10_notes_30 : decode cX10_notes 30 = .ok (.iadd, 1) := by decide +kernel
theorem dX10_notes_31 : decode cX10_notes 31 = .ok (.iload_n 2, 1) := by decide +kernel
theorem dX10_notes_32 : decode cX10_notes 32 = .ok (.iastore, 1) := by decide +kernel
theorem dX10_notes_33 : decode cX10_notes 33 = .ok (.aload_n 0, 1) := by decide +kernel
theorem dX10_notes_34 : decode cX10_notes 34 = .ok (.getfield 13, 3) := by decide +kernel
theorem dX10_notes_37 : decode cX10_notes 37 = .ok (.iload 4, 2) := by decide +kernel
theorem dX10_notes_39 : decode cX10_notes 39 = .ok (.iconst 2, 1) := by decide +kernel
theorem dX10_notes_40 : decode cX10_notes 40 = .ok (.iadd, 1) := by decide +kernel
theorem dX10_notes_41 : decode cX10_notes 41 = .ok (.iload_n 3, 1) := by decide +kernel
theorem dX10_notes_42 : decode cX10_notes 42 = .ok (.iastore, 1) := by decide +kernel
theorem dX10_notes_43 : decode cX10_notes 43 = .ok (.aload_n 0, 1) := by decide +kernel
theorem dX10_notes_44 : decode cX10_notes 44 = .ok (.getfield 13, 3) := by decide +kernel
theorem dX10_notes_47 : decode cX10_notes 47 = .ok (.iload 4, 2) := by decide +kernel
theorem dX10_notes_49 : decode cX10_notes 49 = .ok (.iconst 3, 1) := by decide +kernel
theorem dX10_notes_50 : decode cX10_notes 50 = .ok (.iadd, 1) := by decide +kernel
theorem dX10_notes_51 : decode cX10_notes 51 = .ok (.aload_n 0, 1) := by decide +kernel
theorem dX10_notes_52 : decode cX10_notes 52 = .ok (.invokevirtual 291, 3) := by decide +kernel
theorem dX10_notes_55 : decode cX10_notes 55 = .ok (.iastore, 1) := by decide +kernel
theorem dX10_notes_56 : decode cX10_notes 56 = .ok (.aload_n 0, 1) := by decide +kernel
theorem dX10_notes_57 : decode cX10_notes 57 = .ok (.getfield 13, 3) := by decide +kernel
theorem dX10_notes_60 : decode cX10_notes 60 = .ok (.bipush 8, 2) := by decide +kernel
theorem dX10_notes_62 : decode cX10_notes 62 = .ok (.dup2, 1) := by decide +kernel
theorem dX10_notes_63 : decode cX10_notes 63 = .ok (.iaload, 1) := by decide +kernel
theorem dX10_notes_64 : decode cX10_notes 64 = .ok (.iconst 1, 1) := by decide +kernel
theorem dX10_notes_65 : decode cX10_notes 65 = .ok (.iadd, 1) := by decide +kernel
theorem dX10_notes_66 : decode cX10_notes 66 = .ok (.iastore, 1) := by decide +kernel
theorem dX10_notes_67 : decode cX10_notes 67 = .ok (.aload_n 0, 1) := by decide +kernel
theorem dX10_notes_68 : decode cX10_notes 68 = .ok (.iload_n 1, 1) := by decide +kernel
theorem dX10_notes_69 : decode cX10_notes 69 = .ok (.iload_n 2, 1) := by decide +kernel
theorem dX10_notes_70 : decode cX10_notes 70 = .ok (.iload_n 3, 1) := by decide +kernel
theorem dX10_notes_71 : decode cX10_notes 71 = .ok (.aload_n 0, 1) := by decide +kernel
theorem dX10_notes_72 : decode cX10_notes 72 = .ok (.invokevirtual 291, 3) := by decide +kernel
theorem dX10_notes_75 : decode cX10_notes 75 = .ok (.invokevirtual 364, 3) := by decide +kernel
theorem dX10_notes_78 : decode cX10_notes 78 = .ok (.istore 5, 2) := by decide +kernel
theorem dX10_notes_80 : decode cX10_notes 80 = .ok (.aload_n 0, 1) := by decide +kernel
theorem dX10_notes_81 : decode cX10_notes 81 = .ok (.getfield 13, 3) := by decide +kernel
theorem dX10_notes_84 : decode cX10_notes 84 = .ok (.bipush 9, 2) := by decide +kernel
theorem dX10_notes_86 : decode cX10_notes 86 = .ok (.dup2, 1) := by decide +kernel
theorem dX10_notes_87 : decode cX10_notes 87 = .ok (.iaload, 1) := by decide +kernel
theorem dX10_notes_88 : decode cX10_notes 88 = .ok (.iload 5, 2) := by decide +kernel
theorem dX10_notes_90 : decode cX10_notes 90 = .ok (.iadd, 1) := by decide +kernel
theorem dX10_notes_91 : decode cX10_notes 91 = .ok (.iastore, 1) := by decide +kernel
theorem dX10_notes_92 : decode cX10_notes 92 = .ok (.iload 5, 2) := by decide +kernel
theorem dX10_notes_94 : decode cX10_notes 94 = .ok (.ireturn, 1) := by decide +kernel
theorem dX10_does_0 : decode cX10_does 0 = .ok (.aload_n 0, 1) := by decide +kernel
theorem dX10_does_1 : decode cX10_does 1 = .ok (.iload_n 1, 1) := by decide +kernel
theorem dX10_does_2 : decode cX10_does 2 = .ok (.iload_n 2, 1) := by decide +kernel
theorem dX10_does_3 : decode cX10_does 3 = .ok (.invokevirtual 315, 3) := by decide +kernel
theorem dX10_does_6 : decode cX10_does 6 = .ok (.ifCond .eq 10, 3) := by decide +kernel
theorem dX10_does_9 : decode cX10_does 9 = .ok (.iload_n 3, 1) := by decide +kernel
theorem dX10_does_10 : decode cX10_does 10 = .ok (.invokestatic 318, 3) := by decide +kernel
theorem dX10_does_13 : decode cX10_does 13 = .ok (.ifCond .ne 6, 3) := by decide +kernel
theorem dX10_does_16 : decode cX10_does 16 = .ok (.bipush (-2), 2) := by decide +kernel
theorem dX10_does_18 : decode cX10_does 18 = .ok (.ireturn, 1) := by decide +kernel
theorem dX10_does_19 : decode cX10_does 19 = .ok (.aload_n 0, 1) := by decide +kernel
theorem dX10_does_20 : decode cX10_does 20 = .ok (.iload_n 1, 1) := by decide +kernel
theorem dX10_does_21 : decode cX10_does 21 = .ok (.iload_n 2, 1) := by decide +kernel
theorem dX10_does_22 : decode cX10_does 22 = .ok (.iload_n 3, 1) := by decide +kernel
theorem dX10_does_23 : decode cX10_does 23 = .ok (.invokevirtual 321, 3) := by decide +kernel
theorem dX10_does_26 : decode cX10_does 26 = .ok (.ifCond .eq 6, 3) := by decide +kernel
theorem dX10_does_29 : decode cX10_does 29 = .ok (.bipush (-5), 2) := by decide +kernel
theorem dX10_does_31 : decode cX10_does 31 = .ok (.ireturn, 1) := by decide +kernel
theorem dX10_does_32 : decode cX10_does 32 = .ok (.aload_n 0, 1) := by decide +kernel
theorem dX10_does_33 : decode cX10_does 33 = .ok (.getfield 13, 3) := by decide +kernel
theorem dX10_does_36 : decode cX10_does 36 = .ok (.bipush 8, 2) := by decide +kernel
theorem dX10_does_38 : decode cX10_does 38 = .ok (.iaload, 1) := by decide +kernel
theorem dX10_does_39 : decode cX10_does 39 = .ok (.sipush 600, 3) := by decide +kernel
theorem dX10_does_42 : decode cX10_does 42 = .ok (.if_icmp .ne 6, 3) := by decide +kernel
theorem dX10_does_45 : decode cX10_does 45 = .ok (.bipush (-3), 2) := by decide +kernel
theorem dX10_does_47 : decode cX10_does 47 = .ok (.ireturn, 1) := by decide +kernel
theorem dX10_does_48 : decode cX10_does 48 = .ok (.aload_n 0, 1) := by decide +kernel
theorem dX10_does_49 : decode cX10_does 49 = .ok (.iload_n 1, 1) := by decide +kernel
theorem dX10_does_50 : decode cX10_does 50 = .ok (.iload_n 2, 1) := by decide +kernel
theorem dX10_does_51 : decode cX10_does 51 = .ok (.iload_n 3, 1) := by decide +kernel
theorem dX10_does_52 : decode cX10_does 52 = .ok (.invokevirtual 368, 3) := by decide +kernel
theorem dX10_does_55 : decode cX10_does 55 = .ok (.ireturn, 1) := by decide +kernel
theorem dX10_meet_0 : decode cX10_meet 0 = .ok (.aload_n 0, 1) := by decide +kernel
theorem dX10_meet_1 : decode cX10_meet 1 = .ok (.iload_n 1, 1) := by decide +kernel
theorem dX10_meet_2 : decode cX10_meet 2 = .ok (.iload_n 2, 1) := by decide +kernel
theorem dX10_meet_3 : decode cX10_meet 3 = .ok (.invokevirtual 315, 3) := by decide +kernel
theorem dX10_meet_6 : decode cX10_meet 6 = .ok (.ifCond .ne 6, 3) := by decide +kernel
theorem dX10_meet_9 : decode cX10_meet 9 = .ok (.bipush (-2), 2) := by decide +kernel
theorem dX10_meet_11 : decode cX10_meet 11 = .ok (.ireturn, 1) := by decide +kernel
theorem dX10_meet_12 : decode cX10_meet 12 = .ok (.aload_n 0, 1) := by decide +kernel
theorem dX10_meet_13 : decode cX10_meet 13 = .ok (.getfield 13, 3) := by decide +kernel
theorem dX10_meet_16 : decode cX10_meet 16 = .ok (.bipush 8, 2) := by decide +kernel
theorem dX10_meet_18 : decode cX10_meet 18 = .ok (.iaload, 1) := by decide +kernel
theorem dX10_meet_19 : decode cX10_meet 19 = .ok (.sipush 600, 3) := by decide +kernel
theorem dX10_meet_22 : decode cX10_meet 22 = .ok (.if_icmp .ne 6, 3) := by decide +kernel
theorem dX10_meet_25 : decode cX10_meet 25 = .ok (.bipush (-3), 2) := by decide +kernel
theorem dX10_meet_27 : decode cX10_meet 27 = .ok (.ireturn, 1) := by decide +kernel
theorem dX10_meet_28 : decode cX10_meet 28 = .ok (.aload_n 0, 1) := by decide +kernel
theorem dX10_meet_29 : decode cX10_meet 29 = .ok (.iload_n 1, 1) := by decide +kernel
theorem dX10_meet_30 : decode cX10_meet 30 = .ok (.iload_n 2, 1) := by decide +kernel
theorem dX10_meet_31 : decode cX10_meet 31 = .ok (.invokevirtual 304, 3) := by decide +kernel
theorem dX10_meet_34 : decode cX10_meet 34 = .ok (.ifCond .eq 7, 3) := by decide +kernel
theorem dX10_meet_37 : decode cX10_meet 37 = .ok (.iconst 0, 1) := by decide +kernel
theorem dX10_meet_38 : decode cX10_meet 38 = .ok (.goto 4, 3) := by decide +kernel
theorem dX10_meet_41 : decode cX10_meet 41 = .ok (.iconst 1, 1) := by decide +kernel
theorem dX10_meet_42 : decode cX10_meet 42 = .ok (.istore_n 3, 1) := by decide +kernel
theorem dX10_meet_43 : decode cX10_meet 43 = .ok (.aload_n 0, 1) := by decide +kernel
theorem dX10_meet_44 : decode cX10_meet 44 = .ok (.iload_n 1, 1) := by decide +kernel
theorem dX10_meet_45 : decode cX10_meet 45 = .ok (.iload_n 2, 1) := by decide +kernel
theorem dX10_meet_46 : decode cX10_meet 46 = .ok (.iconst 4, 1) := by decide +kernel
theorem dX10_meet_47 : decode cX10_meet 47 = .ok (.invokevirtual 368, 3) := by decide +kernel
theorem dX10_meet_50 : decode cX10_meet 50 = .ok (.pop, 1) := by decide +kernel
theorem dX10_meet_51 : decode cX10_meet 51 = .ok (.iload_n 3, 1) := by decide +kernel
theorem dX10_meet_52 : decode cX10_meet 52 = .ok (.ireturn, 1) := by decide +kernel
theorem dX10_done_0 : decode cX10_done 0 = .ok (.iload_n 1, 1) := by decide +kernel
theorem dX10_done_1 : decode cX10_done 1 = .ok (.invokestatic 371, 3) := by decide +kernel
theorem dX10_done_4 : decode cX10_done 4 = .ok (.ifCond .ne 6, 3) := by decide +kernel
theorem dX10_done_7 : decode cX10_done 7 = .ok (.bipush (-2), 2) := by decide +kernel
theorem dX10_done_9 : decode cX10_done 9 = .ok (.ireturn, 1) := by decide +kernel
theorem dX10_done_10 : decode cX10_done 10 = .ok (.aload_n 0, 1) := by decide +kernel
theorem dX10_done_11 : decode cX10_done 11 = .ok (.getfield 86, 3) := by decide +kernel
theorem dX10_done_14 : decode cX10_done 14 = .ok (.iload_n 1, 1) := by decide +kernel
theorem dX10_done_15 : decode cX10_done 15 = .ok (.iaload, 1) := by decide +kernel
theorem dX10_done_16 : decode cX10_done 16 = .ok (.iconst (-1), 1) := by decide +kernel
theorem dX10_done_17 : decode cX10_done 17 = .ok (.if_icmp .ne 6, 3) := by decide +kernel
theorem dX10_done_20 : decode cX10_done 20 = .ok (.bipush (-6), 2) := by decide +kernel
theorem dX10_done_22 : decode cX10_done 22 = .ok (.ireturn, 1) := by decide +kernel
theorem dX10_done_23 : decode cX10_done 23 = .ok (.iconst 0, 1) := by decide +kernel
theorem dX10_done_24 : decode cX10_done 24 = .ok (.istore_n 2, 1) := by decide +kernel
theorem dX10_done_25 : decode cX10_done 25 = .ok (.iconst 0, 1) := by decide +kernel
theorem dX10_done_26 : decode cX10_done 26 = .ok (.istore_n 3, 1) := by decide +kernel
theorem dX10_done_27 : decode cX10_done 27 = .ok (.iload_n 3, 1) := by decide +kernel
theorem dX10_done_28 : decode cX10_done 28 = .ok (.iconst 2, 1) := by decide +kernel
theorem dX10_done_29 : decode cX10_done 29 = .ok (.iadd, 1) := by decide +kernel
theorem dX10_done_30 : decode cX10_done 30 = .ok (.aload_n 0, 1) := by decide +kernel
theorem dX10_done_31 : decode cX10_done 31 = .ok (.getfield 86, 3) := by decide +kernel
theorem dX10_done_34 : decode cX10_done 34 = .ok (.iload_n 1, 1) := by decide +kernel
theorem dX10_done_35 : decode cX10_done 35 = .ok (.iaload, 1) := by decide +kernel
theorem dX10_done_36 : decode cX10_done 36 = .ok (.if_icmp .ge 141, 3) := by decide +kernel
theorem dX10_done_39 : decode cX10_done 39 = .ok (.aload_n 0, 1) := by decide +kernel
theorem dX10_done_40 : decode cX10_done 40 = .ok (.getfield 92, 3) := by decide +kernel
theorem dX10_done_43 : decode cX10_done 43 = .ok (.bipush 60, 2) := by decide +kernel
theorem dX10_done_45 : decode cX10_done 45 = .ok (.iload_n 1, 1) := by decide +kernel
theorem dX10_done_46 : decode cX10_done 46 = .ok (.imul, 1) := by decide +kernel
theorem dX10_done_47 : decode cX10_done 47 = .ok (.iload_n 3, 1) := by decide +kernel
theorem dX10_done_48 : decode cX10_done 48 = .ok (.iadd, 1) := by decide +kernel
theorem dX10_done_49 : decode cX10_done 49 = .ok (.laload, 1) := by decide +kernel
theorem dX10_done_50 : decode cX10_done 50 = .ok (.lstore 4, 2) := by decide +kernel
theorem dX10_done_52 : decode cX10_done 52 = .ok (.aload_n 0, 1) := by decide +kernel
theorem dX10_done_53 : decode cX10_done 53 = .ok (.getfield 92, 3) := by decide +kernel
theorem dX10_done_56 : decode cX10_done 56 = .ok (.bipush 60, 2) := by decide +kernel
theorem dX10_done_58 : decode cX10_done 58 = .ok (.iload_n 1, 1) := by decide +kernel
theorem dX10_done_59 : decode cX10_done 59 = .ok (.imul, 1) := by decide +kernel
theorem dX10_done_60 : decode cX10_done 60 = .ok (.iload_n 3, 1) := by decide +kernel
theorem dX10_done_61 : decode cX10_done 61 = .ok (.iadd, 1) := by decide +kernel
theorem dX10_done_62 : decode cX10_done 62 = .ok (.iconst 1, 1) := by decide +kernel
theorem dX10_done_63 : decode cX10_done 63 = .ok (.iadd, 1) := by decide +kernel
theorem dX10_done_64 : decode cX10_done 64 = .ok (.laload, 1) := by decide +kernel
theorem dX10_done_65 : decode cX10_done 65 = .ok (.lstore 6, 2) := by decide +kernel
theorem dX10_done_67 : decode cX10_done 67 = .ok (.aload_n 0, 1) := by decide +kernel
theorem dX10_done_68 : decode cX10_done 68 = .ok (.getfield 92, 3) := by decide +kernel
theorem dX10_done_71 : decode cX10_done 71 = .ok (.bipush 60, 2) := by decide +kernel
theorem dX10_done_73 : decode cX10_done 73 = .ok (.iload_n 1, 1) := by decide +kernel
theorem dX10_done_74 : decode cX10_done 74 = .ok (.imul, 1) := by decide +kernel
theorem dX10_done_75 : decode cX10_done 75 = .ok (.iload_n 3, 1) := by decide +kernel
theorem dX10_done_76 : decode cX10_done 76 = .ok (.iadd, 1) := by decide +kernel
theorem dX10_done_77 : decode cX10_done 77 = .ok (.iconst 2, 1) := by decide +kernel
theorem dX10_done_78 : decode cX10_done 78 = .ok (.iadd, 1) := by decide +kernel
theorem dX10_done_79 : decode cX10_done 79 = .ok (.laload, 1) := by decide +kernel
theorem dX10_done_80 : decode cX10_done 80 = .ok (.lstore 8, 2) := by decide +kernel
theorem dX10_done_82 : decode cX10_done 82 = .ok (.lload 4, 2) := by decide +kernel
theorem dX10_done_84 : decode cX10_done 84 = .ok (.lconst 0, 1) := by decide +kernel
theorem dX10_done_85 : decode cX10_done 85 = .ok (.ldc2_w 374, 3) := by decide +kernel
theorem dX10_done_88 : decode cX10_done 88 = .ok (.invokestatic 101, 3) := by decide +kernel
theorem dX10_done_91 : decode cX10_done 91 = .ok (.ifCond .eq 80, 3) := by decide +kernel
theorem dX10_done_94 : decode cX10_done 94 = .ok (.lload 6, 2) := by decide +kernel
theorem dX10_done_96 : decode cX10_done 96 = .ok (.lconst 0, 1) := by decide +kernel
theorem dX10_done_97 : decode cX10_done 97 = .ok (.ldc2_w 374, 3) := by decide +kernel
theorem dX10_done_100 : decode cX10_done 100 = .ok (.invokestatic 101, 3) := by decide +kernel
theorem dX10_done_103 : decode cX10_done 103 = .ok (.ifCond .eq 68, 3) := by decide +kernel
theorem dX10_done_106 : decode cX10_done 106 = .ok (.lload 8, 2) := by decide +kernel
theorem dX10_done_108 : decode cX10_done 108 = .ok (.lconst 0, 1) := by decide +kernel
theorem dX10_done_109 : decode cX10_done 109 = .ok (.ldc2_w 376, 3) := by decide +kernel
theorem dX10_done_112 : decode cX10_done 112 = .ok (.invokestatic 101, 3) := by decide +kernel
theorem dX10_done_115 : decode cX10_done 115 = .ok (.ifCond .ne 6, 3) := by decide +kernel
theorem dX10_done_118 : decode cX10_done 118 = .ok (.goto 53, 3) := by decide +kernel
theorem dX10_done_121 : decode cX10_done 121 = .ok (.lload 8, 2) := by decide +kernel
theorem dX10_done_123 : decode cX10_done 123 = .ok (.ldc2_w 376, 3) := by decide +kernel
theorem dX10_done_126 : decode cX10_done 126 = .ok (.lcmp, 1) := by decide +kernel
theorem dX10_done_127 : decode cX10_done 127 = .ok (.ifCond .ne 16, 3) := by decide +kernel
theorem dX10_done_130 : decode cX10_done 130 = .ok (.aload_n 0, 1) := by decide +kernel
theorem dX10_done_131 : decode cX10_done 131 = .ok (.lload 4, 2) := by decide +kernel
theorem dX10_done_133 : decode cX10_done 133 = .ok (.l2i, 1) := by decide +kernel
theorem dX10_done_134 : decode cX10_done 134 = .ok (.lload 6, 2) := by decide +kernel
theorem dX10_done_136 : decode cX10_done 136 = .ok (.l2i, 1) := by decide +kernel
theorem dX10_done_137 : decode cX10_done 137 = .ok (.invokevirtual 378, 3) := by decide +kernel
theorem dX10_done_140 : decode cX10_done 140 = .ok (.goto 16, 3) := by decide +kernel
theorem dX10_done_143 : decode cX10_done 143 = .ok (.aload_n 0, 1) := by decide +kernel
theorem dX10_done_144 : decode cX10_done 144 = .ok (.lload 4, 2) := by decide +kernel
theorem dX10_done_146 : decode cX10_done 146 = .ok (.l2i, 1) := by decide +kernel
theorem dX10_done_147 : decode cX10_done 147 = .ok (.lload 6, 2) := by decide +kernel
theorem dX10_done_149 : decode cX10_done 149 = .ok (.l2i, 1) := by decide +kernel
theorem dX10_done_150 : decode cX10_done 150 = .ok (.lload 8, 2) := by decide +kernel
theorem dX10_done_152 : decode cX10_done 152 = .ok (.l2i, 1) := by decide +kernel
theorem dX10_done_153 : decode cX10_done 153 = .ok (.invokevirtual 381, 3) := by decide +kernel
theorem dX10_done_156 : decode cX10_done 156 = .ok (.istore 10, 2) := by decide +kernel
theorem dX10_done_158 : decode cX10_done 158 = .ok (.iload_n 2, 1) := by decide +kernel
theorem dX10_done_159 : decode cX10_done 159 = .ok (.iload 10, 2) := by decide +kernel
theorem dX10_done_161 : decode cX10_done 161 = .ok (.ifCond .lt 7, 3) := by decide +kernel
theorem dX10_done_164 : decode cX10_done 164 = .ok (.iconst 1, 1) := by decide +kernel
theorem dX10_done_165 : decode cX10_done 165 = .ok (.goto 4, 3) := by decide +kernel
theorem dX10_done_168 : decode cX10_done 168 = .ok (.iconst 0, 1) := by decide +kernel
theorem dX10_done_169 : decode cX10_done 169 = .ok (.iadd, 1) := by decide +kernel
theorem dX10_done_170 : decode cX10_done 170 = .ok (.istore_n 2, 1) := by decide +kernel
theorem dX10_done_171 : decode cX10_done 171 = .ok (.iinc 3 3, 3) := by decide +kernel
theorem dX10_done_174 : decode cX10_done 174 = .ok (.goto (-147), 3) := by decide +kernel
theorem dX10_done_177 : decode cX10_done 177 = .ok (.iload_n 2, 1) := by decide +kernel
theorem dX10_done_178 : decode cX10_done 178 = .ok (.ireturn, 1) := by decide +kernel
theorem dX10_debts_0 : decode cX10_debts 0 = .ok (.aload_n 0, 1) := by decide +kernel
theorem dX10_debts_1 : decode cX10_debts 1 = .ok (.iload_n 1, 1) := by decide +kernel
theorem dX10_debts_2 : decode cX10_debts 2 = .ok (.invokevirtual 105, 3) := by decide +kernel
theorem dX10_debts_5 : decode cX10_debts 5 = .ok (.ifCond .eq 11, 3) := by decide +kernel
theorem dX10_debts_8 : decode cX10_debts 8 = .ok (.aload_n 0, 1) := by decide +kernel
theorem dX10_debts_9 : decode cX10_debts 9 = .ok (.iload_n 1, 1) := by decide +kernel
theorem dX10_debts_10 : decode cX10_debts 10 = .ok (.invokevirtual 339, 3) := by decide +kernel
theorem dX10_debts_13 : decode cX10_debts 13 = .ok (.goto 5, 3) := by decide +kernel
theorem dX10_debts_16 : decode cX10_debts 16 = .ok (.bipush (-2), 2) := by decide +kernel
theorem dX10_debts_18 : decode cX10_debts 18 = .ok (.ireturn, 1) := by decide +kernel
theorem dX10_placeOf_0 : decode cX10_placeOf 0 = .ok (.iconst 0, 1) := by decide +kernel
theorem dX10_placeOf_1 : decode cX10_placeOf 1 = .ok (.istore_n 3, 1) := by decide +kernel
theorem dX10_placeOf_2 : decode cX10_placeOf 2 = .ok (.iconst 0, 1) := by decide +kernel
theorem dX10_placeOf_3 : decode cX10_placeOf 3 = .ok (.istore 4, 2) := by decide +kernel
theorem dX10_placeOf_5 : decode cX10_placeOf 5 = .ok (.iload 4, 2) := by decide +kernel
theorem dX10_placeOf_7 : decode cX10_placeOf 7 = .ok (.aload_n 0, 1) := by decide +kernel
theorem dX10_placeOf_8 : decode cX10_placeOf 8 = .ok (.getfield 13, 3) := by decide +kernel
theorem dX10_placeOf_11 : decode cX10_placeOf 11 = .ok (.bipush 7, 2) := by decide +kernel
theorem dX10_placeOf_13 : decode cX10_placeOf 13 = .ok (.iaload, 1) := by decide +kernel
theorem dX10_placeOf_14 : decode cX10_placeOf 14 = .ok (.if_icmp .ge 34, 3) := by decide +kernel
theorem dX10_placeOf_17 : decode cX10_placeOf 17 = .ok (.aload_n 0, 1) := by decide +kernel
theorem dX10_placeOf_18 : decode cX10_placeOf 18 = .ok (.iload 4, 2) := by decide +kernel
theorem dX10_placeOf_20 : decode cX10_placeOf 20 = .ok (.iconst 0, 1) := by decide +kernel
theorem dX10_placeOf_21 : decode cX10_placeOf 21 = .ok (.invokevirtual 325, 3) := by decide +kernel
theorem dX10_placeOf_24 : decode cX10_placeOf 24 = .ok (.iload_n 1, 1) := by decide +kernel
theorem dX10_placeOf_25 : decode cX10_placeOf 25 = .ok (.if_icmp .eq 6, 3) := by decide +kernel
theorem dX10_placeOf_28 : decode cX10_placeOf 28 = .ok (.goto 14, 3) := by decide +kernel
theorem dX10_placeOf_31 : decode cX10_placeOf 31 = .ok (.iload_n 3, 1) := by decide +kernel
theorem dX10_placeOf_32 : decode cX10_placeOf 32 = .ok (.iload_n 2, 1) := by decide +kernel
theorem dX10_placeOf_33 : decode cX10_placeOf 33 = .ok (.if_icmp .ne 6, 3) := by decide +kernel
theorem dX10_placeOf_36 : decode cX10_placeOf 36 = .ok (.iload 4, 2) := by decide +kernel
theorem dX10_placeOf_38 : decode cX10_placeOf 38 = .ok (.ireturn, 1) := by decide +kernel
theorem dX10_placeOf_39 : decode cX10_placeOf 39 = .ok (.iinc 3 1, 3) := by decide +kernel
theorem dX10_placeOf_42 : decode cX10_placeOf 42 = .ok (.iinc 4 1, 3) := by decide +kernel
