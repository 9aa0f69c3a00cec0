theorem dX8_everyoneToKnow_27 : decode cX8_everyoneToKnow 27 = .ok (.getfield 68, 3) := by decide +kernel
theorem dX8_everyoneToKnow_30 : decode cX8_everyoneToKnow 30 = .ok (.if_icmp .ge 75, 3) := by decide +kernel
theorem dX8_everyoneToKnow_33 : decode cX8_everyoneToKnow 33 = .ok (.iload 5, 2) := by decide +kernel
theorem dX8_everyoneToKnow_35 : decode cX8_everyoneToKnow 35 = .ok (.iload_n 1, 1) := by decide +kernel
theorem dX8_everyoneToKnow_36 : decode cX8_everyoneToKnow 36 = .ok (.if_icmp .eq 23, 3) := by decide +kernel
theorem dX8_everyoneToKnow_39 : decode cX8_everyoneToKnow 39 = .ok (.aload_n 0, 1) := by decide +kernel
theorem dX8_everyoneToKnow_40 : decode cX8_everyoneToKnow 40 = .ok (.getfield 64, 3) := by decide +kernel
theorem dX8_everyoneToKnow_43 : decode cX8_everyoneToKnow 43 = .ok (.iload 5, 2) := by decide +kernel
theorem dX8_everyoneToKnow_45 : decode cX8_everyoneToKnow 45 = .ok (.aload_n 0, 1) := by decide +kernel
theorem dX8_everyoneToKnow_46 : decode cX8_everyoneToKnow 46 = .ok (.getfield 73, 3) := by decide +kernel
theorem dX8_everyoneToKnow_49 : decode cX8_everyoneToKnow 49 = .ok (.invokevirtual 76, 3) := by decide +kernel
theorem dX8_everyoneToKnow_52 : decode cX8_everyoneToKnow 52 = .ok (.ifCond .eq 7, 3) := by decide +kernel
theorem dX8_everyoneToKnow_55 : decode cX8_everyoneToKnow 55 = .ok (.iconst 1, 1) := by decide +kernel
theorem dX8_everyoneToKnow_56 : decode cX8_everyoneToKnow 56 = .ok (.goto 4, 3) := by decide +kernel
theorem dX8_everyoneToKnow_59 : decode cX8_everyoneToKnow 59 = .ok (.iconst 0, 1) := by decide +kernel
theorem dX8_everyoneToKnow_60 : decode cX8_everyoneToKnow 60 = .ok (.istore 6, 2) := by decide +kernel
theorem dX8_everyoneToKnow_62 : decode cX8_everyoneToKnow 62 = .ok (.iload 6, 2) := by decide +kernel
theorem dX8_everyoneToKnow_64 : decode cX8_everyoneToKnow 64 = .ok (.ifCond .eq 35, 3) := by decide +kernel
theorem dX8_everyoneToKnow_67 : decode cX8_everyoneToKnow 67 = .ok (.aload_n 0, 1) := by decide +kernel
theorem dX8_everyoneToKnow_68 : decode cX8_everyoneToKnow 68 = .ok (.getfield 54, 3) := by decide +kernel
theorem dX8_everyoneToKnow_71 : decode cX8_everyoneToKnow 71 = .ok (.iload 5, 2) := by decide +kernel
theorem dX8_everyoneToKnow_73 : decode cX8_everyoneToKnow 73 = .ok (.iaload, 1) := by decide +kernel
theorem dX8_everyoneToKnow_74 : decode cX8_everyoneToKnow 74 = .ok (.iload 4, 2) := by decide +kernel
theorem dX8_everyoneToKnow_76 : decode cX8_everyoneToKnow 76 = .ok (.iand, 1) := by decide +kernel
theorem dX8_everyoneToKnow_77 : decode cX8_everyoneToKnow 77 = .ok (.invokestatic 80, 3) := by decide +kernel
theorem dX8_everyoneToKnow_80 : decode cX8_everyoneToKnow 80 = .ok (.aload_n 0, 1) := by decide +kernel
theorem dX8_everyoneToKnow_81 : decode cX8_everyoneToKnow 81 = .ok (.getfield 64, 3) := by decide +kernel
theorem dX8_everyoneToKnow_84 : decode cX8_everyoneToKnow 84 = .ok (.getfield 86, 3) := by decide +kernel
theorem dX8_everyoneToKnow_87 : decode cX8_everyoneToKnow 87 = .ok (.if_icmp .lt 12, 3) := by decide +kernel
theorem dX8_everyoneToKnow_90 : decode cX8_everyoneToKnow 90 = .ok (.iload 4, 2) := by decide +kernel
theorem dX8_everyoneToKnow_92 : decode cX8_everyoneToKnow 92 = .ok (.iconst 1, 1) := by decide +kernel
theorem dX8_everyoneToKnow_93 : decode cX8_everyoneToKnow 93 = .ok (.iload 5, 2) := by decide +kernel
theorem dX8_everyoneToKnow_95 : decode cX8_everyoneToKnow 95 = .ok (.ishl, 1) := by decide +kernel
theorem dX8_everyoneToKnow_96 : decode cX8_everyoneToKnow 96 = .ok (.ior, 1) := by decide +kernel
theorem dX8_everyoneToKnow_97 : decode cX8_everyoneToKnow 97 = .ok (.istore 4, 2) := by decide +kernel
theorem dX8_everyoneToKnow_99 : decode cX8_everyoneToKnow 99 = .ok (.iinc 5 1, 3) := by decide +kernel
theorem dX8_everyoneToKnow_102 : decode cX8_everyoneToKnow 102 = .ok (.goto (-81), 3) := by decide +kernel
theorem dX8_everyoneToKnow_105 : decode cX8_everyoneToKnow 105 = .ok (.iload 4, 2) := by decide +kernel
theorem dX8_everyoneToKnow_107 : decode cX8_everyoneToKnow 107 = .ok (.iload_n 2, 1) := by decide +kernel
theorem dX8_everyoneToKnow_108 : decode cX8_everyoneToKnow 108 = .ok (.if_icmp .ne 5, 3) := by decide +kernel
theorem dX8_everyoneToKnow_111 : decode cX8_everyoneToKnow 111 = .ok (.iload_n 2, 1) := by decide +kernel
theorem dX8_everyoneToKnow_112 : decode cX8_everyoneToKnow 112 = .ok (.ireturn, 1) := by decide +kernel
theorem dX8_everyoneToKnow_113 : decode cX8_everyoneToKnow 113 = .ok (.iload 4, 2) := by decide +kernel
theorem dX8_everyoneToKnow_115 : decode cX8_everyoneToKnow 115 = .ok (.istore_n 2, 1) := by decide +kernel
theorem dX8_everyoneToKnow_116 : decode cX8_everyoneToKnow 116 = .ok (.iinc 3 1, 3) := by decide +kernel
theorem dX8_everyoneToKnow_119 : decode cX8_everyoneToKnow 119 = .ok (.goto (-110), 3) := by decide +kernel
theorem dX8_everyoneToKnow_122 : decode cX8_everyoneToKnow 122 = .ok (.iload_n 2, 1) := by decide +kernel
theorem dX8_everyoneToKnow_123 : decode cX8_everyoneToKnow 123 = .ok (.ireturn, 1) := by decide +kernel
theorem dX8_gather_0 : decode cX8_gather 0 = .ok (.aload_n 0, 1) := by decide +kernel
theorem dX8_gather_1 : decode cX8_gather 1 = .ok (.iconst 0, 1) := by decide +kernel
theorem dX8_gather_2 : decode cX8_gather 2 = .ok (.putfield 89, 3) := by decide +kernel
theorem dX8_gather_5 : decode cX8_gather 5 = .ok (.iconst 0, 1) := by decide +kernel
theorem dX8_gather_6 : decode cX8_gather 6 = .ok (.istore 4, 2) := by decide +kernel
theorem dX8_gather_8 : decode cX8_gather 8 = .ok (.iload 4, 2) := by decide +kernel
theorem dX8_gather_10 : decode cX8_gather 10 = .ok (.aload_n 1, 1) := by decide +kernel
theorem dX8_gather_11 : decode cX8_gather 11 = .ok (.getfield 64, 3) := by decide +kernel
theorem dX8_gather_14 : decode cX8_gather 14 = .ok (.getfield 68, 3) := by decide +kernel
theorem dX8_gather_17 : decode cX8_gather 17 = .ok (.if_icmp .ge 75, 3) := by decide +kernel
theorem dX8_gather_20 : decode cX8_gather 20 = .ok (.aload_n 0, 1) := by decide +kernel
theorem dX8_gather_21 : decode cX8_gather 21 = .ok (.getfield 89, 3) := by decide +kernel
theorem dX8_gather_24 : decode cX8_gather 24 = .ok (.bipush 13, 2) := by decide +kernel
theorem dX8_gather_26 : decode cX8_gather 26 = .ok (.if_icmp .ge 66, 3) := by decide +kernel
theorem dX8_gather_29 : decode cX8_gather 29 = .ok (.iload_n 3, 1) := by decide +kernel
theorem dX8_gather_30 : decode cX8_gather 30 = .ok (.iload 4, 2) := by decide +kernel
theorem dX8_gather_32 : decode cX8_gather 32 = .ok (.ishr, 1) := by decide +kernel
theorem dX8_gather_33 : decode cX8_gather 33 = .ok (.iconst 1, 1) := by decide +kernel
theorem dX8_gather_34 : decode cX8_gather 34 = .ok (.iand, 1) := by decide +kernel
theorem dX8_gather_35 : decode cX8_gather 35 = .ok (.iconst 1, 1) := by decide +kernel
theorem dX8_gather_36 : decode cX8_gather 36 = .ok (.if_icmp .ne 50, 3) := by decide +kernel
theorem dX8_gather_39 : decode cX8_gather 39 = .ok (.aload_n 0, 1) := by decide +kernel
theorem dX8_gather_40 : decode cX8_gather 40 = .ok (.getfield 22, 3) := by decide +kernel
theorem dX8_gather_43 : decode cX8_gather 43 = .ok (.aload_n 0, 1) := by decide +kernel
theorem dX8_gather_44 : decode cX8_gather 44 = .ok (.getfield 89, 3) := by decide +kernel
theorem dX8_gather_47 : decode cX8_gather 47 = .ok (.iload 4, 2) := by decide +kernel
theorem dX8_gather_49 : decode cX8_gather 49 = .ok (.iastore, 1) := by decide +kernel
theorem dX8_gather_50 : decode cX8_gather 50 = .ok (.aload_n 0, 1) := by decide +kernel
theorem dX8_gather_51 : decode cX8_gather 51 = .ok (.getfield 25, 3) := by decide +kernel
theorem dX8_gather_54 : decode cX8_gather 54 = .ok (.aload_n 0, 1) := by decide +kernel
theorem dX8_gather_55 : decode cX8_gather 55 = .ok (.getfield 89, 3) := by decide +kernel
theorem dX8_gather_58 : decode cX8_gather 58 = .ok (.aload_n 1, 1) := by decide +kernel
theorem dX8_gather_59 : decode cX8_gather 59 = .ok (.getfield 54, 3) := by decide +kernel
theorem dX8_gather_62 : decode cX8_gather 62 = .ok (.iload 4, 2) := by decide +kernel
theorem dX8_gather_64 : decode cX8_gather 64 = .ok (.iaload, 1) := by decide +kernel
theorem dX8_gather_65 : decode cX8_gather 65 = .ok (.aload_n 1, 1) := by decide +kernel
theorem dX8_gather_66 : decode cX8_gather 66 = .ok (.getfield 54, 3) := by decide +kernel
theorem dX8_gather_69 : decode cX8_gather 69 = .ok (.iload_n 2, 1) := by decide +kernel
theorem dX8_gather_70 : decode cX8_gather 70 = .ok (.iaload, 1) := by decide +kernel
theorem dX8_gather_71 : decode cX8_gather 71 = .ok (.iand, 1) := by decide +kernel
theorem dX8_gather_72 : decode cX8_gather 72 = .ok (.invokestatic 80, 3) := by decide +kernel
theorem dX8_gather_75 : decode cX8_gather 75 = .ok (.iastore, 1) := by decide +kernel
theorem dX8_gather_76 : decode cX8_gather 76 = .ok (.aload_n 0, 1) := by decide +kernel
theorem dX8_gather_77 : decode cX8_gather 77 = .ok (.dup, 1) := by decide +kernel
theorem dX8_gather_78 : decode cX8_gather 78 = .ok (.getfield 89, 3) := by decide +kernel
theorem dX8_gather_81 : decode cX8_gather 81 = .ok (.iconst 1, 1) := by decide +kernel
theorem dX8_gather_82 : decode cX8_gather 82 = .ok (.iadd, 1) := by decide +kernel
theorem dX8_gather_83 : decode cX8_gather 83 = .ok (.putfield 89, 3) := by decide +kernel
theorem dX8_gather_86 : decode cX8_gather 86 = .ok (.iinc 4 1, 3) := by decide +kernel
theorem dX8_gather_89 : decode cX8_gather 89 = .ok (.goto (-81), 3) := by decide +kernel
theorem dX8_gather_92 : decode cX8_gather 92 = .ok (.iconst 0, 1) := by decide +kernel
theorem dX8_gather_93 : decode cX8_gather 93 = .ok (.istore 4, 2) := by decide +kernel
theorem dX8_gather_95 : decode cX8_gather 95 = .ok (.iload 4, 2) := by decide +kernel
theorem dX8_gather_97 : decode cX8_gather 97 = .ok (.aload_n 0, 1) := by decide +kernel
theorem dX8_gather_98 : decode cX8_gather 98 = .ok (.getfield 89, 3) := by decide +kernel
theorem dX8_gather_101 : decode cX8_gather 101 = .ok (.if_icmp .ge 28, 3) := by decide +kernel
theorem dX8_gather_104 : decode cX8_gather 104 = .ok (.aload_n 0, 1) := by decide +kernel
theorem dX8_gather_105 : decode cX8_gather 105 = .ok (.getfield 28, 3) := by decide +kernel
theorem dX8_gather_108 : decode cX8_gather 108 = .ok (.iload 4, 2) := by decide +kernel
theorem dX8_gather_110 : decode cX8_gather 110 = .ok (.aload_n 0, 1) := by decide +kernel
theorem dX8_gather_111 : decode cX8_gather 111 = .ok (.aload_n 1, 1) := by decide +kernel
theorem dX8_gather_112 : decode cX8_gather 112 = .ok (.aload_n 0, 1) := by decide +kernel
theorem dX8_gather_113 : decode cX8_gather 113 = .ok (.getfield 22, 3) := by decide +kernel
theorem dX8_gather_116 : decode cX8_gather 116 = .ok (.iload 4, 2) := by decide +kernel
theorem dX8_gather_118 : decode cX8_gather 118 = .ok (.iaload, 1) := by decide +kernel
theorem dX8_gather_119 : decode cX8_gather 119 = .ok (.invokevirtual 92, 3) := by decide +kernel
theorem dX8_gather_122 : decode cX8_gather 122 = .ok (.iastore, 1) := by decide +kernel
theorem dX8_gather_123 : decode cX8_gather 123 = .ok (.iinc 4 1, 3) := by decide +kernel
theorem dX8_gather_126 : decode cX8_gather 126 = .ok (.goto (-31), 3) := by decide +kernel
theorem dX8_gather_129 : decode cX8_gather 129 = .ok (.return_, 1) := by decide +kernel
theorem dX8_linksOf_0 : decode cX8_linksOf 0 = .ok (.iconst 0, 1) := by decide +kernel
theorem dX8_linksOf_1 : decode cX8_linksOf 1 = .ok (.istore_n 3, 1) := by decide +kernel
theorem dX8_linksOf_2 : decode cX8_linksOf 2 = .ok (.iconst 0, 1) := by decide +kernel
theorem dX8_linksOf_3 : decode cX8_linksOf 3 = .ok (.istore 4, 2) := by decide +kernel
theorem dX8_linksOf_5 : decode cX8_linksOf 5 = .ok (.iload 4, 2) := by decide +kernel
theorem dX8_linksOf_7 : decode cX8_linksOf 7 = .ok (.aload_n 0, 1) := by decide +kernel
theorem dX8_linksOf_8 : decode cX8_linksOf 8 = .ok (.getfield 89, 3) := by decide +kernel
theorem dX8_linksOf_11 : decode cX8_linksOf 11 = .ok (.if_icmp .ge 32, 3) := by decide +kernel
theorem dX8_linksOf_14 : decode cX8_linksOf 14 = .ok (.aload_n 1, 1) := by decide +kernel
theorem dX8_linksOf_15 : decode cX8_linksOf 15 = .ok (.aload_n 0, 1) := by decide +kernel
theorem dX8_linksOf_16 : decode cX8_linksOf 16 = .ok (.getfield 22, 3) := by decide +kernel
theorem dX8_linksOf_19 : decode cX8_linksOf 19 = .ok (.iload 4, 2) := by decide +kernel
theorem dX8_linksOf_21 : decode cX8_linksOf 21 = .ok (.iaload, 1) := by decide +kernel
theorem dX8_linksOf_22 : decode cX8_linksOf 22 = .ok (.iload_n 2, 1) := by decide +kernel
theorem dX8_linksOf_23 : decode cX8_linksOf 23 = .ok (.invokevirtual 44, 3) := by decide +kernel
theorem dX8_linksOf_26 : decode cX8_linksOf 26 = .ok (.iconst 1, 1) := by decide +kernel
theorem dX8_linksOf_27 : decode cX8_linksOf 27 = .ok (.if_icmp .ne 10, 3) := by decide +kernel
theorem dX8_linksOf_30 : decode cX8_linksOf 30 = .ok (.iload_n 3, 1) := by decide +kernel
theorem dX8_linksOf_31 : decode cX8_linksOf 31 = .ok (.iconst 1, 1) := by decide +kernel
theorem dX8_linksOf_32 : decode cX8_linksOf 32 = .ok (.iload 4, 2) := by decide +kernel
theorem dX8_linksOf_34 : decode cX8_linksOf 34 = .ok (.ishl, 1) := by decide +kernel
theorem dX8_linksOf_35 : decode cX8_linksOf 35 = .ok (.ior, 1) := by decide +kernel
theorem dX8_linksOf_36 : decode cX8_linksOf 36 = .ok (.istore_n 3, 1) := by decide +kernel
theorem dX8_linksOf_37 : decode cX8_linksOf 37 = .ok (.iinc 4 1, 3) := by decide +kernel
theorem dX8_linksOf_40 : decode cX8_linksOf 40 = .ok (.goto (-35), 3) := by decide +kernel
theorem dX8_linksOf_43 : decode cX8_linksOf 43 = .ok (.iload_n 3, 1) := by decide +kernel
theorem dX8_linksOf_44 : decode cX8_linksOf 44 = .ok (.ireturn, 1) := by decide +kernel
theorem dX8_search_0 : decode cX8_search 0 = .ok (.aload_n 1, 1) := by decide +kernel
theorem dX8_search_1 : decode cX8_search 1 = .ok (.getfield 64, 3) := by decide +kernel
theorem dX8_search_4 : decode cX8_search 4 = .ok (.getfield 86, 3) := by decide +kernel
theorem dX8_search_7 : decode cX8_search 7 = .ok (.istore 4, 2) := by decide +kernel
theorem dX8_search_9 : decode cX8_search 9 = .ok (.aload_n 1, 1) := by decide +kernel
theorem dX8_search_10 : decode cX8_search 10 = .ok (.getfield 54, 3) := by decide +kernel
theorem dX8_search_13 : decode cX8_search 13 = .ok (.iload_n 3, 1) := by decide +kernel
theorem dX8_search_14 : decode cX8_search 14 = .ok (.iaload, 1) := by decide +kernel
theorem dX8_search_15 : decode cX8_search 15 = .ok (.aload_n 1, 1) := by decide +kernel
theorem dX8_search_16 : decode cX8_search 16 = .ok (.getfield 54, 3) := by decide +kernel
theorem dX8_search_19 : decode cX8_search 19 = .ok (.iload_n 2, 1) := by decide +kernel
theorem dX8_search_20 : decode cX8_search 20 = .ok (.iaload, 1) := by decide +kernel
theorem dX8_search_21 : decode cX8_search 21 = .ok (.iand, 1) := by decide +kernel
theorem dX8_search_22 : decode cX8_search 22 = .ok (.invokestatic 80, 3) := by decide +kernel
theorem dX8_search_25 : decode cX8_search 25 = .ok (.istore 5, 2) := by decide +kernel
theorem dX8_search_27 : decode cX8_search 27 = .ok (.aload_n 0, 1) := by decide +kernel
theorem dX8_search_28 : decode cX8_search 28 = .ok (.aload_n 1, 1) := by decide +kernel
theorem dX8_search_29 : decode cX8_search 29 = .ok (.iload_n 3, 1) := by decide +kernel
theorem dX8_search_30 : decode cX8_search 30 = .ok (.invokevirtual 92, 3) := by decide +kernel
theorem dX8_search_33 : decode cX8_search 33 = .ok (.istore 6, 2) := by decide +kernel
theorem dX8_search_35 : decode cX8_search 35 = .ok (.iconst 0, 1) := by decide +kernel
theorem dX8_search_36 : decode cX8_search 36 = .ok (.istore 7, 2) := by decide +kernel
theorem dX8_search_38 : decode cX8_search 38 = .ok (.iload 7, 2) := by decide +kernel
theorem dX8_search_40 : decode cX8_search 40 = .ok (.iconst 1, 1) := by decide +kernel
theorem dX8_search_41 : decode cX8_search 41 = .ok (.aload_n 0, 1) := by decide +kernel
theorem dX8_search_42 : decode cX8_search 42 = .ok (.getfield 89, 3) := by decide +kernel
theorem dX8_search_45 : decode cX8_search 45 = .ok (.ishl, 1) := by decide +kernel
theorem dX8_search_46 : decode cX8_search 46 = .ok (.if_icmp .ge 17, 3) := by decide +kernel
theorem dX8_search_49 : decode cX8_search 49 = .ok (.aload_n 0, 1) := by decide +kernel
theorem dX8_search_50 : decode cX8_search 50 = .ok (.getfield 34, 3) := by decide +kernel
theorem dX8_search_53 : decode cX8_search 53 = .ok (.iload 7, 2) := by decide +kernel
theorem dX8_search_55 : decode cX8_search 55 = .ok (.iconst 0, 1) := by decide +kernel
theorem dX8_search_56 : decode cX8_search 56 = .ok (.iastore, 1) := by decide +kernel
theorem dX8_search_57 : decode cX8_search 57 = .ok (.iinc 7 1, 3) := by decide +kernel
theorem dX8_search_60 : decode cX8_search 60 = .ok (.goto (-22), 3) := by decide +kernel
theorem dX8_search_63 : decode cX8_search 63 = .ok (.aload_n 0, 1) := by decide +kernel
theorem dX8_search_64 : decode cX8_search 64 = .ok (.getfield 31, 3) := by decide +kernel
theorem dX8_search_67 : decode cX8_search 67 = .ok (.iconst 0, 1) := by decide +kernel
theorem dX8_search_68 : decode cX8_search 68 = .ok (.iconst 0, 1) := by decide +kernel
theorem dX8_search_69 : decode cX8_search 69 = .ok (.iastore, 1) := by decide +kernel
theorem dX8_search_70 : decode cX8_search 70 = .ok (.iconst 1, 1) := by decide +kernel
theorem dX8_search_71 : decode cX8_search 71 = .ok (.istore 7, 2) := by decide +kernel
theorem dX8_search_73 : decode cX8_search 73 = .ok (.iconst 0, 1) := by decide +kernel
theorem dX8_search_74 : decode cX8_search 74 = .ok (.istore 8, 2) := by decide +kernel
theorem dX8_search_76 : decode cX8_search 76 = .ok (.iload 8, 2) := by decide +kernel
theorem dX8_search_78 : decode cX8_search 78 = .ok (.iload 7, 2) := by decide +kernel
theorem dX8_search_80 : decode cX8_search 80 = .ok (.if_icmp .ge 163, 3) := by decide +kernel
theorem dX8_search_83 : decode cX8_search 83 = .ok (.iload 8, 2) := by decide +kernel
theorem dX8_search_85 : decode cX8_search 85 = .ok (.sipush 8192, 3) := by decide +kernel
theorem dX8_search_88 : decode cX8_search 88 = .ok (.if_icmp .ge 155, 3) := by decide +kernel
theorem dX8_search_91 : decode cX8_search 91 = .ok (.aload_n 0, 1) := by decide +kernel
theorem dX8_search_92 : decode cX8_search 92 = .ok (.getfield 31, 3) := by decide +kernel
theorem dX8_search_95 : decode cX8_search 95 = .ok (.iload 8, 2) := by decide +kernel
theorem dX8_search_97 : decode cX8_search 97 = .ok (.iaload, 1) := by decide +kernel
theorem dX8_search_98 : decode cX8_search 98 = .ok (.istore 9, 2) := by decide +kernel
theorem dX8_search_100 : decode cX8_search 100 = .ok (.iload 5, 2) := by decide +kernel
theorem dX8_search_102 : decode cX8_search 102 = .ok (.iload 6, 2) := by decide +kernel
theorem dX8_search_104 : decode cX8_search 104 = .ok (.iload 9, 2) := by decide +kernel
theorem dX8_search_106 : decode cX8_search 106 = .ok (.iand, 1) := by decide +kernel
theorem dX8_search_107 : decode cX8_search 107 = .ok (.invokestatic 80, 3) := by decide +kernel
theorem dX8_search_110 : decode cX8_search 110 = .ok (.iadd, 1) := by decide +kernel
theorem dX8_search_111 : decode cX8_search 111 = .ok (.iload 4, 2) := by decide +kernel
theorem dX8_search_113 : decode cX8_search 113 = .ok (.if_icmp .lt 11, 3) := by decide +kernel
theorem dX8_search_116 : decode cX8_search 116 = .ok (.aload_n 0, 1) := by decide +kernel
theorem dX8_search_117 : decode cX8_search 117 = .ok (.iload 9, 2) := by decide +kernel
theorem dX8_search_119 : decode cX8_search 119 = .ok (.iload_n 3, 1) := by decide +kernel
theorem dX8_search_120 : decode cX8_search 120 = .ok (.invokevirtual 95, 3) := by decide +kernel
theorem dX8_search_123 : decode cX8_search 123 = .ok (.return_, 1) := by decide +kernel
theorem dX8_search_124 : decode cX8_search 124 = .ok (.iconst 0, 1) := by decide +kernel
theorem dX8_search_125 : decode cX8_search 125 = .ok (.istore 10, 2) := by decide +kernel
theorem dX8_search_127 : decode cX8_search 127 = .ok (.iload 10, 2) := by decide +kernel
theorem dX8_search_129 : decode cX8_search 129 = .ok (.aload_n 0, 1) := by decide +kernel
theorem dX8_search_130 : decode cX8_search 130 = .ok (.getfield 89, 3) := by decide +kernel
theorem dX8_search_133 : decode cX8_search 133 = .ok (.if_icmp .ge 104, 3) := by decide +kernel
theorem dX8_search_136 : decode cX8_search 136 = .ok (.iload 9, 2) := by decide +kernel
theorem dX8_search_138 : decode cX8_search 138 = .ok (.iconst 1, 1) := by decide +kernel
theorem dX8_search_139 : decode cX8_search 139 = .ok (.iload 10, 2) := by decide +kernel
theorem dX8_search_141 : decode cX8_search 141 = .ok (.ishl, 1) := by decide +kernel
theorem dX8_search_142 : decode cX8_search 142 = .ok (.ior, 1) := by decide +kernel
theorem dX8_search_143 : decode cX8_search 143 = .ok (.istore 11, 2) := by decide +kernel
theorem dX8_search_145 : decode cX8_search 145 = .ok (.iload 11, 2) := by decide +kernel
theorem dX8_search_147 : decode cX8_search 147 = .ok (.iload 9, 2) := by decide +kernel
theorem dX8_search_149 : decode cX8_search 149 = .ok (.if_icmp .eq 17, 3) := by decide +kernel
theorem dX8_search_152 : decode cX8_search 152 = .ok (.aload_n 0, 1) := by decide +kernel
theorem dX8_search_153 : decode cX8_search 153 = .ok (.getfield 34, 3) := by decide +kernel
theorem dX8_search_156 : decode cX8_search 156 = .ok (.iload 11, 2) := by decide +kernel
theorem dX8_search_158 : decode cX8_search 158 = .ok (.iaload, 1) := by decide +kernel
theorem dX8_search_159 : decode cX8_search 159 = .ok (.ifCond .ne 7, 3) := by decide +kernel
theorem dX8_search_162 : decode cX8_search 162 = .ok (.iconst 1, 1) := by decide +kernel
theorem dX8_search_163 : decode cX8_search 163 = .ok (.goto 4, 3) := by decide +kernel
theorem dX8_search_166 : decode cX8_search 166 = .ok (.iconst 0, 1) := by decide +kernel
theorem dX8_search_167 : decode cX8_search 167 = .ok (.istore 12, 2) := by decide +kernel
theorem dX8_search_169 : decode cX8_search 169 = .ok (.iload 12, 2) := by decide +kernel
theorem dX8_search_171 : decode cX8_search 171 = .ok (.ifCond .eq 60, 3) := by decide +kernel
theorem dX8_search_174 : decode cX8_search 174 = .ok (.iload 7, 2) := by decide +kernel
theorem dX8_search_176 : decode cX8_search 176 = .ok (.sipush 8192, 3) := by decide +kernel
theorem dX8_search_179 : decode cX8_search 179 = .ok (.if_icmp .ge 52, 3) := by decide +kernel
theorem dX8_search_182 : decode cX8_search 182 = .ok (.aload_n 0, 1) := by decide +kernel
theorem dX8_search_183 : decode cX8_search 183 = .ok (.getfield 25, 3) := by decide +kernel
theorem dX8_search_186 : decode cX8_search 186 = .ok (.iload 10, 2) := by decide +kernel
theorem dX8_search_188 : decode cX8_search 188 = .ok (.iaload, 1) := by decide +kernel
theorem dX8_search_189 : decode cX8_search 189 = .ok (.aload_n 0, 1) := by decide +kernel
theorem dX8_search_190 : decode cX8_search 190 = .ok (.getfield 28, 3) := by decide +kernel
theorem dX8_search_193 : decode cX8_search 193 = .ok (.iload 10, 2) := by decide +kernel
theorem dX8_search_195 : decode cX8_search 195 = .ok (.iaload, 1) := by decide +kernel
theorem dX8_search_196 : decode cX8_search 196 = .ok (.iload 9, 2) := by decide +kernel
theorem dX8_search_198 : decode cX8_search 198 = .ok (.iand, 1) := by decide +kernel
theorem dX8_search_199 : decode cX8_search 199 = .ok (.invokestatic 80, 3) := by decide +kernel
theorem dX8_search_202 : decode cX8_search 202 = .ok (.iadd, 1) := by decide +kernel
theorem dX8_search_203 : decode cX8_search 203 = .ok (.iload 4, 2) := by decide +kernel
theorem dX8_search_205 : decode cX8_search 205 = .ok (.if_icmp .lt 26, 3) := by decide +kernel
theorem dX8_search_208 : decode cX8_search 208 = .ok (.aload_n 0, 1) := by decide +kernel
theorem dX8_search_209 : decode cX8_search 209 = .ok (.getfield 34, 3) := by decide +kernel
theorem dX8_search_212 : decode cX8_search 212 = .ok (.iload 11, 2) := by decide +kernel
theorem dX8_search_214 : decode cX8_search 214 = .ok (.iload 10, 2) := by decide +kernel
theorem dX8_search_216 : decode cX8_search 216 = .ok (.iconst 1, 1) := by decide +kernel
theorem dX8_search_217 : decode cX8_search 217 = .ok (.iadd, 1) := by decide +kernel
theorem dX8_search_218 : decode cX8_search 218 = .ok (.iastore, 1) := by decide +kernel
theorem dX8_search_219 : decode cX8_search 219 = .ok (.aload_n 0, 1) := by decide +kernel
theorem dX8_search_220 : decode cX8_search 220 = .ok (.getfield 31, 3) := by decide +kernel
theorem dX8_search_223 : decode cX8_search 223 = .ok (.iload 7, 2) := by decide +kernel
theorem dX8_search_225 : decode cX8_search 225 = .ok (.iload 11, 2) := by decide +kernel
theorem dX8_search_227 : decode cX8_search 227 = .ok (.iastore, 1) := by decide +kernel
theorem dX8_search_228 : decode cX8_search 228 = .ok (.iinc 7 1, 3) := by decide +kernel
theorem dX8_search_231 : decode cX8_search 231 = .ok (.iinc 10 1, 3) := by decide +kernel
theorem dX8_search_234 : decode cX8_search 234 = .ok (.goto (-107), 3) := by decide +kernel
theorem dX8_search_237 : decode cX8_search 237 = .ok (.iinc 8 1, 3) := by decide +kernel
theorem dX8_search_240 : decode cX8_search 240 = .ok (.goto (-164), 3) := by decide +kernel
theorem dX8_search_243 : decode cX8_search 243 = .ok (.return_, 1) := by decide +kernel
theorem dX8_tell_0 : decode cX8_tell 0 = .ok (.aload_n 0, 1) := by decide +kernel
theorem dX8_tell_1 : decode cX8_tell 1 = .ok (.iload_n 1, 1) := by decide +kernel
theorem dX8_tell_2 : decode cX8_tell 2 = .ok (.invokestatic 80, 3) := by decide +kernel
theorem dX8_tell_5 : decode cX8_tell 5 = .ok (.iconst 1, 1) := by decide +kernel
theorem dX8_tell_6 : decode cX8_tell 6 = .ok (.iadd, 1) := by decide +kernel
theorem dX8_tell_7 : decode cX8_tell 7 = .ok (.putfield 41, 3) := by decide +kernel
theorem dX8_tell_10 : decode cX8_tell 10 = .ok (.aload_n 0, 1) := by decide +kernel
theorem dX8_tell_11 : decode cX8_tell 11 = .ok (.getfield 11, 3) := by decide +kernel
theorem dX8_tell_14 : decode cX8_tell 14 = .ok (.aload_n 0, 1) := by decide +kernel
theorem dX8_tell_15 : decode cX8_tell 15 = .ok (.getfield 41, 3) := by decide +kernel
theorem dX8_tell_18 : decode cX8_tell 18 = .ok (.iconst 1, 1) := by decide +kernel
theorem dX8_tell_19 : decode cX8_tell 19 = .ok (.isub, 1) := by decide +kernel
theorem dX8_tell_20 : decode cX8_tell 20 = .ok (.iload_n 2, 1) := by decide +kernel
theorem dX8_tell_21 : decode cX8_tell 21 = .ok (.iastore, 1) := by decide +kernel
theorem dX8_tell_22 : decode cX8_tell 22 = .ok (.iload_n 1, 1) := by decide +kernel
theorem dX8_tell_23 : decode cX8_tell 23 = .ok (.istore_n 3, 1) := by decide +kernel
theorem dX8_tell_24 : decode cX8_tell 24 = .ok (.aload_n 0, 1) := by decide +kernel
theorem dX8_tell_25 : decode cX8_tell 25 = .ok (.getfield 41, 3) := by decide +kernel
theorem dX8_tell_28 : decode cX8_tell 28 = .ok (.iconst 2, 1) := by decide +kernel
theorem dX8_tell_29 : decode cX8_tell 29 = .ok (.isub, 1) := by decide +kernel
theorem dX8_tell_30 : decode cX8_tell 30 = .ok (.istore 4, 2) := by decide +kernel
theorem dX8_tell_32 : decode cX8_tell 32 = .ok (.iload 4, 2) := by decide +kernel
theorem dX8_tell_34 : decode cX8_tell 34 = .ok (.ifCond .lt 50, 3) := by decide +kernel
theorem dX8_tell_37 : decode cX8_tell 37 = .ok (.iload_n 3, 1) := by decide +kernel
theorem dX8_tell_38 : decode cX8_tell 38 = .ok (.ifCond .eq 46, 3) := by decide +kernel
theorem dX8_tell_41 : decode cX8_tell 41 = .ok (.aload_n 0, 1) := by decide +kernel
theorem dX8_tell_42 : decode cX8_tell 42 = .ok (.getfield 34, 3) := by decide +kernel
theorem dX8_tell_45 : decode cX8_tell 45 = .ok (.iload_n 3, 1) := by decide +kernel
theorem dX8_tell_46 : decode cX8_tell 46 = .ok (.iaload, 1) := by decide +kernel
theorem dX8_tell_47 : decode cX8_tell 47 = .ok (.iconst 1, 1) := by decide +kernel
theorem dX8_tell_48 : decode cX8_tell 48 = .ok (.isub, 1) := by decide +kernel
theorem dX8_tell_49 : decode cX8_tell 49 = .ok (.istore 5, 2) := by decide +kernel
theorem dX8_tell_51 : decode cX8_tell 51 = .ok (.iload 5, 2) := by decide +kernel
theorem dX8_tell_53 : decode cX8_tell 53 = .ok (.ifCond .ge 4, 3) := by decide +kernel
theorem dX8_tell_56 : decode cX8_tell 56 = .ok (.return_, 1) := by decide +kernel
theorem dX8_tell_57 : decode cX8_tell 57 = .ok (.aload_n 0, 1) := by decide +kernel
theorem dX8_tell_58 : decode cX8_tell 58 = .ok (.getfield 11, 3) := by decide +kernel
theorem dX8_tell_61 : decode cX8_tell 61 = .ok (.iload 4, 2) := by decide +kernel
theorem dX8_tell_63 : decode cX8_tell 63 = .ok (.aload_n 0, 1) := by decide +kernel
theorem dX8_tell_64 : decode cX8_tell 64 = .ok (.getfield 22, 3) := by decide +kernel
theorem dX8_tell_67 : decode cX8_tell 67 = .ok (.iload 5, 2) := by decide +kernel
theorem dX8_tell_69 : decode cX8_tell 69 = .ok (.iaload, 1) := by decide +kernel
theorem dX8_tell_70 : decode cX8_tell 70 = .ok (.iastore, 1) := by decide +kernel
theorem dX8_tell_71 : decode cX8_tell 71 = .ok (.iload_n 3, 1) := by decide +kernel
theorem dX8_tell_72 : decode cX8_tell 72 = .ok (.iconst 1, 1) := by decide +kernel
theorem dX8_tell_73 : decode cX8_tell 73 = .ok (.iload 5, 2) := by decide +kernel
theorem dX8_tell_75 : decode cX8_tell 75 = .ok (.ishl, 1) := by decide +kernel
theorem dX8_tell_76 : decode cX8_tell 76 = .ok (.ixor, 1) := by decide +kernel
theorem dX8_tell_77 : decode cX8_tell 77 = .ok (.istore_n 3, 1) := by decide +kernel
theorem dX8_tell_78 : decode cX8_tell 78 = .ok (.iinc 4 (-1), 3) := by decide +kernel
theorem dX8_tell_81 : decode cX8_tell 81 = .ok (.goto (-49), 3) := by decide +kernel
theorem dX8_tell_84 : decode cX8_tell 84 = .ok (.return_, 1) := by decide +kernel
theorem dX9_init_0 : decode cX9_init 0 = .ok (.aload_n 0, 1) := by decide +kernel
theorem dX9_init_1 : decode cX9_init 1 = .ok (.invokespecial 1, 3) := by decide +kernel
theorem dX9_init_4 : decode cX9_init 4 = .ok (.aload_n 0, 1) := by decide +kernel
theorem dX9_init_5 : decode cX9_init 5 = .ok (.sipush 1400, 3) := by decide +kernel
theorem dX9_init_8 : decode cX9_init 8 = .ok (.newarray .byte, 2) := by decide +kernel
theorem dX9_init_10 : decode cX9_init 10 = .ok (.putfield 9, 3) := by decide +kernel
theorem dX9_init_13 : decode cX9_init 13 = .ok (.aload_n 0, 1) := by decide +kernel
theorem dX9_init_14 : decode cX9_init 14 = .ok (.new 13, 3) := by decide +kernel
theorem dX9_init_17 : decode cX9_init 17 = .ok (.dup, 1) := by decide +kernel
theorem dX9_init_18 : decode cX9_init 18 = .ok (.invokespecial 15, 3) := by decide +kernel
theorem dX9_init_21 : decode cX9_init 21 = .ok (.putfield 16, 3) := by decide +kernel
theorem dX9_init_24 : decode cX9_init 24 = .ok (.aload_n 0, 1) := by decide +kernel
theorem dX9_init_25 : decode cX9_init 25 = .ok (.new 20, 3) := by decide +kernel
theorem dX9_init_28 : decode cX9_init 28 = .ok (.dup, 1) := by decide +kernel
theorem dX9_init_29 : decode cX9_init 29 = .ok (.invokespecial 22, 3) := by decide +kernel
theorem dX9_init_32 : decode cX9_init 32 = .ok (.putfield 23, 3) := by decide +kernel
theorem dX9_init_35 : decode cX9_init 35 = .ok (.aload_n 0, 1) := by decide +kernel
theorem dX9_init_36 : decode cX9_init 36 = .ok (.iconst 3, 1) := by decide +kernel
theorem dX9_init_37 : decode cX9_init 37 = .ok (.anewarray 20, 3) := by decide +kernel
theorem dX9_init_40 : decode cX9_init 40 = .ok (.putfield 27, 3) := by decide +kernel
theorem dX9_init_43 : decode cX9_init 43 = .ok (.aload_n 0, 1) := by decide +kernel
theorem dX9_init_44 : decode cX9_init 44 = .ok (.iconst 4, 1) := by decide +kernel
theorem dX9_init_45 : decode cX9_init 45 = .ok (.anewarray 31, 3) := by decide +kernel
theorem dX9_init_48 : decode cX9_init 48 = .ok (.putfield 33, 3) := by decide +kernel
theorem dX9_init_51 : decode cX9_init 51 = .ok (.aload_n 0, 1) := by decide +kernel
theorem dX9_init_52 : decode cX9_init 52 = .ok (.new 37, 3) := by decide +kernel
theorem dX9_init_55 : decode cX9_init 55 = .ok (.dup, 1) := by decide +kernel
theorem dX9_init_56 : decode cX9_init 56 = .ok (.invokespecial 39, 3) := by decide +kernel
theorem dX9_init_59 : decode cX9_init 59 = .ok (.putfield 40, 3) := by decide +kernel
theorem dX9_init_62 : decode cX9_init 62 = .ok (.aload_n 0, 1) := by decide +kernel
theorem dX9_init_63 : decode cX9_init 63 = .ok (.new 44, 3) := by decide +kernel
theorem dX9_init_66 : decode cX9_init 66 = .ok (.dup, 1) := by decide +kernel
theorem dX9_init_67 : decode cX9_init 67 = .ok (.invokespecial 46, 3) := by decide +kernel
theorem dX9_init_70 : decode cX9_init 70 = .ok (.putfield 47, 3) := by decide +kernel
theorem dX9_init_73 : decode cX9_init 73 = .ok (.aload_n 0, 1) := by decide +kernel
theorem dX9_init_74 : decode cX9_init 74 = .ok (.new 51, 3) := by decide +kernel
theorem dX9_init_77 : decode cX9_init 77 = .ok (.dup, 1) := by decide +kernel
theorem dX9_init_78 : decode cX9_init 78 = .ok (.invokespecial 53, 3) := by decide +kernel
theorem dX9_init_81 : decode cX9_init 81 = .ok (.putfield 54, 3) := by decide +kernel
theorem dX9_init_84 : decode cX9_init 84 = .ok (.aload_n 0, 1) := by decide +kernel
theorem dX9_init_85 : decode cX9_init 85 = .ok (.bipush 16, 2) := by decide +kernel
theorem dX9_init_87 : decode cX9_init 87 = .ok (.newarray .int, 2) := by decide +kernel
theorem dX9_init_89 : decode cX9_init 89 = .ok (.putfield 58, 3) := by decide +kernel
theorem dX9_init_92 : decode cX9_init 92 = .ok (.iconst 0, 1) := by decide +kernel
theorem dX9_init_93 : decode cX9_init 93 = .ok (.istore_n 1, 1) := by decide +kernel
theorem dX9_init_94 : decode cX9_init 94 = .ok (.iload_n 1, 1) := by decide +kernel
theorem dX9_init_95 : decode cX9_init 95 = .ok (.iconst 4, 1) := by decide +kernel
theorem dX9_init_96 : decode cX9_init 96 = .ok (.if_icmp .ge 22, 3) := by decide +kernel
theorem dX9_init_99 : decode cX9_init 99 = .ok (.aload_n 0, 1) := by decide +kernel
theorem dX9_init_100 : decode cX9_init 100 = .ok (.getfield 33, 3) := by decide +kernel
theorem dX9_init_103 : decode cX9_init 103 = .ok (.iload_n 1, 1) := by decide +kernel
theorem dX9_init_104 : decode cX9_init 104 = .ok (.new 31, 3) := by decide +kernel
theorem dX9_init_107 : decode cX9_init 107 = .ok (.dup, 1) := by decide +kernel
theorem dX9_init_108 : decode cX9_init 108 = .ok (.invokespecial 62, 3) := by decide +kernel
theorem dX9_init_111 : decode cX9_init 111 = .ok (.aastore, 1) := by decide +kernel
theorem dX9_init_112 : decode cX9_init 112 = .ok (.iinc 1 1, 3) := by decide +kernel
theorem dX9_init_115 : decode cX9_init 115 = .ok (.goto (-21), 3) := by decide +kernel
theorem dX9_init_118 : decode cX9_init 118 = .ok (.return_, 1) := by decide +kernel
theorem dX9_feed_0 : decode cX9_feed 0 = .ok (.aload_n 0, 1) := by decide +kernel
theorem dX9_feed_1 : decode cX9_feed 1 = .ok (.getfield 63, 3) := by decide +kernel
theorem dX9_feed_4 : decode cX9_feed 4 = .ok (.bipush 20, 2) := by decide +kernel
theorem dX9_feed_6 : decode cX9_feed 6 = .ok (.iadd, 1) := by decide +kernel
theorem dX9_feed_7 : decode cX9_feed 7 = .ok (.sipush 1400, 3) := by decide +kernel
theorem dX9_feed_10 : decode cX9_feed 10 = .ok (.if_icmp .le 5, 3) := by decide +kernel
theorem dX9_feed_13 : decode cX9_feed 13 = .ok (.iconst (-1), 1) := by decide +kernel
theorem dX9_feed_14 : decode cX9_feed 14 = .ok (.ireturn, 1) := by decide +kernel
theorem dX9_feed_15 : decode cX9_feed 15 = .ok (.aload_n 0, 1) := by decide +kernel
theorem dX9_feed_16 : decode cX9_feed 16 = .ok (.iload_n 1, 1) := by decide +kernel
theorem dX9_feed_17 : decode cX9_feed 17 = .ok (.invokevirtual 67, 3) := by decide +kernel
theorem dX9_feed_20 : decode cX9_feed 20 = .ok (.aload_n 0, 1) := by decide +kernel
theorem dX9_feed_21 : decode cX9_feed 21 = .ok (.iload_n 2, 1) := by decide +kernel
theorem dX9_feed_22 : decode cX9_feed 22 = .ok (.invokevirtual 67, 3) := by decide +kernel
theorem dX9_feed_25 : decode cX9_feed 25 = .ok (.aload_n 0, 1) := by decide +kernel
theorem dX9_feed_26 : decode cX9_feed 26 = .ok (.iload_n 3, 1) := by decide +kernel
