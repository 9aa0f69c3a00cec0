theorem dX7_minutes_26 : decode cX7_minutes 26 = .ok (.iload_n 2, 1) := by decide +kernel
theorem dX7_minutes_27 : decode cX7_minutes 27 = .ok (.iaload, 1) := by decide +kernel
theorem dX7_minutes_28 : decode cX7_minutes 28 = .ok (.isub, 1) := by decide +kernel
theorem dX7_minutes_29 : decode cX7_minutes 29 = .ok (.invokestatic 65, 3) := by decide +kernel
theorem dX7_minutes_32 : decode cX7_minutes 32 = .ok (.iadd, 1) := by decide +kernel
theorem dX7_minutes_33 : decode cX7_minutes 33 = .ok (.ireturn, 1) := by decide +kernel
theorem dX7_isThere_0 : decode cX7_isThere 0 = .ok (.iload_n 2, 1) := by decide +kernel
theorem dX7_isThere_1 : decode cX7_isThere 1 = .ok (.aload_n 0, 1) := by decide +kernel
theorem dX7_isThere_2 : decode cX7_isThere 2 = .ok (.getfield 34, 3) := by decide +kernel
theorem dX7_isThere_5 : decode cX7_isThere 5 = .ok (.iload_n 1, 1) := by decide +kernel
theorem dX7_isThere_6 : decode cX7_isThere 6 = .ok (.iaload, 1) := by decide +kernel
theorem dX7_isThere_7 : decode cX7_isThere 7 = .ok (.if_icmp .lt 7, 3) := by decide +kernel
theorem dX7_isThere_10 : decode cX7_isThere 10 = .ok (.iconst 1, 1) := by decide +kernel
theorem dX7_isThere_11 : decode cX7_isThere 11 = .ok (.goto 4, 3) := by decide +kernel
theorem dX7_isThere_14 : decode cX7_isThere 14 = .ok (.iconst 0, 1) := by decide +kernel
theorem dX7_isThere_15 : decode cX7_isThere 15 = .ok (.ireturn, 1) := by decide +kernel
theorem dX7_isNew_0 : decode cX7_isNew 0 = .ok (.iload_n 2, 1) := by decide +kernel
theorem dX7_isNew_1 : decode cX7_isNew 1 = .ok (.aload_n 0, 1) := by decide +kernel
theorem dX7_isNew_2 : decode cX7_isNew 2 = .ok (.getfield 34, 3) := by decide +kernel
theorem dX7_isNew_5 : decode cX7_isNew 5 = .ok (.iload_n 1, 1) := by decide +kernel
theorem dX7_isNew_6 : decode cX7_isNew 6 = .ok (.iaload, 1) := by decide +kernel
theorem dX7_isNew_7 : decode cX7_isNew 7 = .ok (.if_icmp .lt 22, 3) := by decide +kernel
theorem dX7_isNew_10 : decode cX7_isNew 10 = .ok (.iload_n 2, 1) := by decide +kernel
theorem dX7_isNew_11 : decode cX7_isNew 11 = .ok (.aload_n 0, 1) := by decide +kernel
theorem dX7_isNew_12 : decode cX7_isNew 12 = .ok (.getfield 34, 3) := by decide +kernel
theorem dX7_isNew_15 : decode cX7_isNew 15 = .ok (.iload_n 1, 1) := by decide +kernel
theorem dX7_isNew_16 : decode cX7_isNew 16 = .ok (.iaload, 1) := by decide +kernel
theorem dX7_isNew_17 : decode cX7_isNew 17 = .ok (.isub, 1) := by decide +kernel
theorem dX7_isNew_18 : decode cX7_isNew 18 = .ok (.aload_n 0, 1) := by decide +kernel
theorem dX7_isNew_19 : decode cX7_isNew 19 = .ok (.getfield 46, 3) := by decide +kernel
theorem dX7_isNew_22 : decode cX7_isNew 22 = .ok (.if_icmp .gt 7, 3) := by decide +kernel
theorem dX7_isNew_25 : decode cX7_isNew 25 = .ok (.iconst 1, 1) := by decide +kernel
theorem dX7_isNew_26 : decode cX7_isNew 26 = .ok (.goto 4, 3) := by decide +kernel
theorem dX7_isNew_29 : decode cX7_isNew 29 = .ok (.iconst 0, 1) := by decide +kernel
theorem dX7_isNew_30 : decode cX7_isNew 30 = .ok (.ireturn, 1) := by decide +kernel
theorem dX7_waits_0 : decode cX7_waits 0 = .ok (.aload_n 0, 1) := by decide +kernel
theorem dX7_waits_1 : decode cX7_waits 1 = .ok (.getfield 37, 3) := by decide +kernel
theorem dX7_waits_4 : decode cX7_waits 4 = .ok (.iload_n 1, 1) := by decide +kernel
theorem dX7_waits_5 : decode cX7_waits 5 = .ok (.iaload, 1) := by decide +kernel
theorem dX7_waits_6 : decode cX7_waits 6 = .ok (.ifCond .le 24, 3) := by decide +kernel
theorem dX7_waits_9 : decode cX7_waits 9 = .ok (.iload_n 2, 1) := by decide +kernel
theorem dX7_waits_10 : decode cX7_waits 10 = .ok (.aload_n 0, 1) := by decide +kernel
theorem dX7_waits_11 : decode cX7_waits 11 = .ok (.getfield 34, 3) := by decide +kernel
theorem dX7_waits_14 : decode cX7_waits 14 = .ok (.iload_n 1, 1) := by decide +kernel
theorem dX7_waits_15 : decode cX7_waits 15 = .ok (.iaload, 1) := by decide +kernel
theorem dX7_waits_16 : decode cX7_waits 16 = .ok (.isub, 1) := by decide +kernel
theorem dX7_waits_17 : decode cX7_waits 17 = .ok (.aload_n 0, 1) := by decide +kernel
theorem dX7_waits_18 : decode cX7_waits 18 = .ok (.getfield 37, 3) := by decide +kernel
theorem dX7_waits_21 : decode cX7_waits 21 = .ok (.iload_n 1, 1) := by decide +kernel
theorem dX7_waits_22 : decode cX7_waits 22 = .ok (.iaload, 1) := by decide +kernel
theorem dX7_waits_23 : decode cX7_waits 23 = .ok (.if_icmp .gt 7, 3) := by decide +kernel
theorem dX7_waits_26 : decode cX7_waits 26 = .ok (.iconst 1, 1) := by decide +kernel
theorem dX7_waits_27 : decode cX7_waits 27 = .ok (.goto 4, 3) := by decide +kernel
theorem dX7_waits_30 : decode cX7_waits 30 = .ok (.iconst 0, 1) := by decide +kernel
theorem dX7_waits_31 : decode cX7_waits 31 = .ok (.ireturn, 1) := by decide +kernel
theorem dX8_seek_0 : decode cX8_seek 0 = .ok (.aload_n 0, 1) := by decide +kernel
theorem dX8_seek_1 : decode cX8_seek 1 = .ok (.getfield 37, 3) := by decide +kernel
theorem dX8_seek_4 : decode cX8_seek 4 = .ok (.ifCond .eq 20, 3) := by decide +kernel
theorem dX8_seek_7 : decode cX8_seek 7 = .ok (.aload_n 0, 1) := by decide +kernel
theorem dX8_seek_8 : decode cX8_seek 8 = .ok (.getfield 15, 3) := by decide +kernel
theorem dX8_seek_11 : decode cX8_seek 11 = .ok (.iload_n 2, 1) := by decide +kernel
theorem dX8_seek_12 : decode cX8_seek 12 = .ok (.if_icmp .ne 12, 3) := by decide +kernel
theorem dX8_seek_15 : decode cX8_seek 15 = .ok (.aload_n 0, 1) := by decide +kernel
theorem dX8_seek_16 : decode cX8_seek 16 = .ok (.getfield 19, 3) := by decide +kernel
theorem dX8_seek_19 : decode cX8_seek 19 = .ok (.iload_n 3, 1) := by decide +kernel
theorem dX8_seek_20 : decode cX8_seek 20 = .ok (.if_icmp .ne 4, 3) := by decide +kernel
theorem dX8_seek_23 : decode cX8_seek 23 = .ok (.return_, 1) := by decide +kernel
theorem dX8_seek_24 : decode cX8_seek 24 = .ok (.aload_n 0, 1) := by decide +kernel
theorem dX8_seek_25 : decode cX8_seek 25 = .ok (.iconst 1, 1) := by decide +kernel
theorem dX8_seek_26 : decode cX8_seek 26 = .ok (.putfield 37, 3) := by decide +kernel
theorem dX8_seek_29 : decode cX8_seek 29 = .ok (.aload_n 0, 1) := by decide +kernel
theorem dX8_seek_30 : decode cX8_seek 30 = .ok (.iload_n 2, 1) := by decide +kernel
theorem dX8_seek_31 : decode cX8_seek 31 = .ok (.putfield 15, 3) := by decide +kernel
theorem dX8_seek_34 : decode cX8_seek 34 = .ok (.aload_n 0, 1) := by decide +kernel
theorem dX8_seek_35 : decode cX8_seek 35 = .ok (.iload_n 3, 1) := by decide +kernel
theorem dX8_seek_36 : decode cX8_seek 36 = .ok (.putfield 19, 3) := by decide +kernel
theorem dX8_seek_39 : decode cX8_seek 39 = .ok (.aload_n 0, 1) := by decide +kernel
theorem dX8_seek_40 : decode cX8_seek 40 = .ok (.iconst (-1), 1) := by decide +kernel
theorem dX8_seek_41 : decode cX8_seek 41 = .ok (.putfield 41, 3) := by decide +kernel
theorem dX8_seek_44 : decode cX8_seek 44 = .ok (.aload_n 1, 1) := by decide +kernel
theorem dX8_seek_45 : decode cX8_seek 45 = .ok (.iload_n 2, 1) := by decide +kernel
theorem dX8_seek_46 : decode cX8_seek 46 = .ok (.iload_n 3, 1) := by decide +kernel
theorem dX8_seek_47 : decode cX8_seek 47 = .ok (.invokevirtual 44, 3) := by decide +kernel
theorem dX8_seek_50 : decode cX8_seek 50 = .ok (.iconst 1, 1) := by decide +kernel
theorem dX8_seek_51 : decode cX8_seek 51 = .ok (.if_icmp .ne 9, 3) := by decide +kernel
theorem dX8_seek_54 : decode cX8_seek 54 = .ok (.aload_n 0, 1) := by decide +kernel
theorem dX8_seek_55 : decode cX8_seek 55 = .ok (.iconst 0, 1) := by decide +kernel
theorem dX8_seek_56 : decode cX8_seek 56 = .ok (.putfield 41, 3) := by decide +kernel
theorem dX8_seek_59 : decode cX8_seek 59 = .ok (.return_, 1) := by decide +kernel
theorem dX8_seek_60 : decode cX8_seek 60 = .ok (.aload_n 1, 1) := by decide +kernel
theorem dX8_seek_61 : decode cX8_seek 61 = .ok (.iload_n 2, 1) := by decide +kernel
theorem dX8_seek_62 : decode cX8_seek 62 = .ok (.invokestatic 50, 3) := by decide +kernel
theorem dX8_seek_65 : decode cX8_seek 65 = .ok (.istore 4, 2) := by decide +kernel
theorem dX8_seek_67 : decode cX8_seek 67 = .ok (.iload 4, 2) := by decide +kernel
theorem dX8_seek_69 : decode cX8_seek 69 = .ok (.iload_n 3, 1) := by decide +kernel
theorem dX8_seek_70 : decode cX8_seek 70 = .ok (.ishr, 1) := by decide +kernel
theorem dX8_seek_71 : decode cX8_seek 71 = .ok (.iconst 1, 1) := by decide +kernel
theorem dX8_seek_72 : decode cX8_seek 72 = .ok (.iand, 1) := by decide +kernel
theorem dX8_seek_73 : decode cX8_seek 73 = .ok (.ifCond .ne 4, 3) := by decide +kernel
theorem dX8_seek_76 : decode cX8_seek 76 = .ok (.return_, 1) := by decide +kernel
theorem dX8_seek_77 : decode cX8_seek 77 = .ok (.aload_n 0, 1) := by decide +kernel
theorem dX8_seek_78 : decode cX8_seek 78 = .ok (.aload_n 1, 1) := by decide +kernel
theorem dX8_seek_79 : decode cX8_seek 79 = .ok (.iload_n 2, 1) := by decide +kernel
theorem dX8_seek_80 : decode cX8_seek 80 = .ok (.iload 4, 2) := by decide +kernel
theorem dX8_seek_82 : decode cX8_seek 82 = .ok (.iconst 1, 1) := by decide +kernel
theorem dX8_seek_83 : decode cX8_seek 83 = .ok (.iload_n 3, 1) := by decide +kernel
theorem dX8_seek_84 : decode cX8_seek 84 = .ok (.ishl, 1) := by decide +kernel
theorem dX8_seek_85 : decode cX8_seek 85 = .ok (.iconst (-1), 1) := by decide +kernel
theorem dX8_seek_86 : decode cX8_seek 86 = .ok (.ixor, 1) := by decide +kernel
theorem dX8_seek_87 : decode cX8_seek 87 = .ok (.iand, 1) := by decide +kernel
theorem dX8_seek_88 : decode cX8_seek 88 = .ok (.aload_n 1, 1) := by decide +kernel
theorem dX8_seek_89 : decode cX8_seek 89 = .ok (.getfield 54, 3) := by decide +kernel
theorem dX8_seek_92 : decode cX8_seek 92 = .ok (.iload_n 2, 1) := by decide +kernel
theorem dX8_seek_93 : decode cX8_seek 93 = .ok (.iaload, 1) := by decide +kernel
theorem dX8_seek_94 : decode cX8_seek 94 = .ok (.iconst (-1), 1) := by decide +kernel
theorem dX8_seek_95 : decode cX8_seek 95 = .ok (.ixor, 1) := by decide +kernel
theorem dX8_seek_96 : decode cX8_seek 96 = .ok (.iand, 1) := by decide +kernel
theorem dX8_seek_97 : decode cX8_seek 97 = .ok (.invokevirtual 57, 3) := by decide +kernel
theorem dX8_seek_100 : decode cX8_seek 100 = .ok (.aload_n 0, 1) := by decide +kernel
theorem dX8_seek_101 : decode cX8_seek 101 = .ok (.aload_n 1, 1) := by decide +kernel
theorem dX8_seek_102 : decode cX8_seek 102 = .ok (.iload_n 2, 1) := by decide +kernel
theorem dX8_seek_103 : decode cX8_seek 103 = .ok (.iload_n 3, 1) := by decide +kernel
theorem dX8_seek_104 : decode cX8_seek 104 = .ok (.invokevirtual 61, 3) := by decide +kernel
theorem dX8_seek_107 : decode cX8_seek 107 = .ok (.return_, 1) := by decide +kernel
theorem dX8_everyoneToKnow_0 : decode cX8_everyoneToKnow 0 = .ok (.aload_n 0, 1) := by decide +kernel
theorem dX8_everyoneToKnow_1 : decode cX8_everyoneToKnow 1 = .ok (.getfield 54, 3) := by decide +kernel
theorem dX8_everyoneToKnow_4 : decode cX8_everyoneToKnow 4 = .ok (.iload_n 1, 1) := by decide +kernel
theorem dX8_everyoneToKnow_5 : decode cX8_everyoneToKnow 5 = .ok (.iaload, 1) := by decide +kernel
theorem dX8_everyoneToKnow_6 : decode cX8_everyoneToKnow 6 = .ok (.istore_n 2, 1) := by decide +kernel
theorem dX8_everyoneToKnow_7 : decode cX8_everyoneToKnow 7 = .ok (.iconst 0, 1) := by decide +kernel
theorem dX8_everyoneToKnow_8 : decode cX8_everyoneToKnow 8 = .ok (.istore_n 3, 1) := by decide +kernel
theorem dX8_everyoneToKnow_9 : decode cX8_everyoneToKnow 9 = .ok (.iload_n 3, 1) := by decide +kernel
theorem dX8_everyoneToKnow_10 : decode cX8_everyoneToKnow 10 = .ok (.bipush 16, 2) := by decide +kernel
theorem dX8_everyoneToKnow_12 : decode cX8_everyoneToKnow 12 = .ok (.if_icmp .ge 110, 3) := by decide +kernel
theorem dX8_everyoneToKnow_15 : decode cX8_everyoneToKnow 15 = .ok (.iload_n 2, 1) := by decide +kernel
theorem dX8_everyoneToKnow_16 : decode cX8_everyoneToKnow 16 = .ok (.istore 4, 2) := by decide +kernel
theorem dX8_everyoneToKnow_18 : decode cX8_everyoneToKnow 18 = .ok (.iconst 0, 1) := by decide +kernel
theorem dX8_everyoneToKnow_19 : decode cX8_everyoneToKnow 19 = .ok (.istore 5, 2) := by decide +kernel
theorem dX8_everyoneToKnow_21 : decode cX8_everyoneToKnow 21 = .ok (.iload 5, 2) := by decide +kernel
theorem dX8_everyoneToKnow_23 : decode cX8_everyoneToKnow 23 = .ok (.aload_n 0, 1) := by decide +kernel
theorem dX8_everyoneToKnow_24 : decode cX8_everyoneToKnow 24 = .ok (.getfield 64, 3) := by decide +kernel
theorem dX8_everyoneToKnow_27 : decode cX8_everyoneToKnow 27 = .ok (.getfield 68, 3) := by decide +kernel
theorem dX8_everyoneToKnow_30 : decode cX8_everyoneToKnow 30 = .ok (.if_icmp .ge 75, 3) := by decide +kernel
theorem dX8_everyoneToKnow_33 : decode cX8_everyoneToKnow 33 = .ok (.iload 5, 2) := by decide +kernel
theorem dX8_everyoneToKnow_35 : decode cX8_everyoneToKnow 35 = .ok (.iload_n 1, 1) := by decide +kernel
theorem dX8_everyoneToKnow_36 : decode cX8_everyoneToKnow 36 = .ok (.if_icmp .eq 23, 3) := by decide +kernel
theorem dX8_everyoneToKnow_39 : decode cX8_everyoneToKnow 39 = .ok (.aload_n 0, 1) := by decide +kernel
theorem dX8_everyoneToKnow_40 : decode cX8_everyoneToKnow 40 = .ok (.getfield 64, 3) := by decide +kernel
theorem dX8_everyoneToKnow_43 : decode cX8_everyoneToKnow 43 = .ok (.iload 5, 2) := by decide +kernel
theorem dX8_everyoneToKnow_45 : decode cX8_everyoneToKnow 45 = .ok (.aload_n 0, 1) := by decide +kernel
theorem dX8_everyoneToKnow_46 : decode cX8_everyoneToKnow 46 = .ok (.getfield 73, 3) := by decide +kernel
theorem dX8_everyoneToKnow_49 : decode cX8_everyoneToKnow 49 = .ok (.invokevirtual 76, 3) := by decide +kernel
theorem dX8_everyoneToKnow_52 : decode cX8_everyoneToKnow 52 = .ok (.ifCond .eq 7, 3) := by decide +kernel
theorem dX8_everyoneToKnow_55 : decode cX8_everyoneToKnow 55 = .ok (.iconst 1, 1) := by decide +kernel
theorem dX8_everyoneToKnow_56 : decode cX8_everyoneToKnow 56 = .ok (.goto 4, 3) := by decide +kernel
theorem dX8_everyoneToKnow_59 : decode cX8_everyoneToKnow 59 = .ok (.iconst 0, 1) := by decide +kernel
theorem dX8_everyoneToKnow_60 : decode cX8_everyoneToKnow 60 = .ok (.istore 6, 2) := by decide +kernel
theorem dX8_everyoneToKnow_62 : decode cX8_everyoneToKnow 62 = .ok (.iload 6, 2) := by decide +kernel
theorem dX8_everyoneToKnow_64 : decode cX8_everyoneToKnow 64 = .ok (.ifCond .eq 35, 3) := by decide +kernel
theorem dX8_everyoneToKnow_67 : decode cX8_everyoneToKnow 67 = .ok (.aload_n 0, 1) := by decide +kernel
theorem dX8_everyoneToKnow_68 : decode cX8_everyoneToKnow 68 = .ok (.getfield 54, 3) := by decide +kernel
theorem dX8_everyoneToKnow_71 : decode cX8_everyoneToKnow 71 = .ok (.iload 5, 2) := by decide +kernel
theorem dX8_everyoneToKnow_73 : decode cX8_everyoneToKnow 73 = .ok (.iaload, 1) := by decide +kernel
theorem dX8_everyoneToKnow_74 : decode cX8_everyoneToKnow 74 = .ok (.iload 4, 2) := by decide +kernel
theorem dX8_everyoneToKnow_76 : decode cX8_everyoneToKnow 76 = .ok (.iand, 1) := by decide +kernel
theorem dX8_everyoneToKnow_77 : decode cX8_everyoneToKnow 77 = .ok (.invokestatic 80, 3) := by decide +kernel
theorem dX8_everyoneToKnow_80 : decode cX8_everyoneToKnow 80 = .ok (.aload_n 0, 1) := by decide +kernel
theorem dX8_everyoneToKnow_81 : decode cX8_everyoneToKnow 81 = .ok (.getfield 64, 3) := by decide +kernel
theorem dX8_everyoneToKnow_84 : decode cX8_everyoneToKnow 84 = .ok (.getfield 86, 3) := by decide +kernel
theorem dX8_everyoneToKnow_87 : decode cX8_everyoneToKnow 87 = .ok (.if_icmp .lt 12, 3) := by decide +kernel
theorem dX8_everyoneToKnow_90 : decode cX8_everyoneToKnow 90 = .ok (.iload 4, 2) := by decide +kernel
theorem dX8_everyoneToKnow_92 : decode cX8_everyoneToKnow 92 = .ok (.iconst 1, 1) := by decide +kernel
theorem dX8_everyoneToKnow_93 : decode cX8_everyoneToKnow 93 = .ok (.iload 5, 2) := by decide +kernel
theorem dX8_everyoneToKnow_95 : decode cX8_everyoneToKnow 95 = .ok (.ishl, 1) := by decide +kernel
theorem dX8_everyoneToKnow_96 : decode cX8_everyoneToKnow 96 = .ok (.ior, 1) := by decide +kernel
theorem dX8_everyoneToKnow_97 : decode cX8_everyoneToKnow 97 = .ok (.istore 4, 2) := by decide +kernel
theorem dX8_everyoneToKnow_99 : decode cX8_everyoneToKnow 99 = .ok (.iinc 5 1, 3) := by decide +kernel
theorem dX8_everyoneToKnow_102 : decode cX8_everyoneToKnow 102 = .ok (.goto (-81), 3) := by decide +kernel
theorem dX8_everyoneToKnow_105 : decode cX8_everyoneToKnow 105 = .ok (.iload 4, 2) := by decide +kernel
theorem dX8_everyoneToKnow_107 : decode cX8_everyoneToKnow 107 = .ok (.iload_n 2, 1) := by decide +kernel
theorem dX8_everyoneToKnow_108 : decode cX8_everyoneToKnow 108 = .ok (.if_icmp .ne 5, 3) := by decide +kernel
theorem dX8_everyoneToKnow_111 : decode cX8_everyoneToKnow 111 = .ok (.iload_n 2, 1) := by decide +kernel
theorem dX8_everyoneToKnow_112 : decode cX8_everyoneToKnow 112 = .ok (.ireturn, 1) := by decide +kernel
theorem dX8_everyoneToKnow_113 : decode cX8_everyoneToKnow 113 = .ok (.iload 4, 2) := by decide +kernel
theorem dX8_everyoneToKnow_115 : decode cX8_everyoneToKnow 115 = .ok (.istore_n 2, 1) := by decide +kernel
theorem dX8_everyoneToKnow_116 : decode cX8_everyoneToKnow 116 = .ok (.iinc 3 1, 3) := by decide +kernel
theorem dX8_everyoneToKnow_119 : decode cX8_everyoneToKnow 119 = .ok (.goto (-110), 3) := by decide +kernel
theorem dX8_everyoneToKnow_122 : decode cX8_everyoneToKnow 122 = .ok (.iload_n 2, 1) := by decide +kernel
theorem dX8_everyoneToKnow_123 : decode cX8_everyoneToKnow 123 = .ok (.ireturn, 1) := by decide +kernel
theorem dX8_gather_0 : decode cX8_gather 0 = .ok (.aload_n 0, 1) := by decide +kernel
theorem dX8_gather_1 : decode cX8_gather 1 = .ok (.iconst 0, 1) := by decide +kernel
theorem dX8_gather_2 : decode cX8_gather 2 = .ok (.putfield 89, 3) := by decide +kernel
theorem dX8_gather_5 : decode cX8_gather 5 = .ok (.iconst 0, 1) := by decide +kernel
theorem dX8_gather_6 : decode cX8_gather 6 = .ok (.istore 4, 2) := by decide +kernel
theorem dX8_gather_8 : decode cX8_gather 8 = .ok (.iload 4, 2) := by decide +kernel
theorem dX8_gather_10 : decode cX8_gather 10 = .ok (.aload_n 1, 1) := by decide +kernel
theorem dX8_gather_11 : decode cX8_gather 11 = .ok (.getfield 64, 3) := by decide +kernel
theorem dX8_gather_14 : decode cX8_gather 14 = .ok (.getfield 68, 3) := by decide +kernel
theorem dX8_gather_17 : decode cX8_gather 17 = .ok (.if_icmp .ge 75, 3) := by decide +kernel
theorem dX8_gather_20 : decode cX8_gather 20 = .ok (.aload_n 0, 1) := by decide +kernel
theorem dX8_gather_21 : decode cX8_gather 21 = .ok (.getfield 89, 3) := by decide +kernel
theorem dX8_gather_24 : decode cX8_gather 24 = .ok (.bipush 13, 2) := by decide +kernel
theorem dX8_gather_26 : decode cX8_gather 26 = .ok (.if_icmp .ge 66, 3) := by decide +kernel
theorem dX8_gather_29 : decode cX8_gather 29 = .ok (.iload_n 3, 1) := by decide +kernel
theorem dX8_gather_30 : decode cX8_gather 30 = .ok (.iload 4, 2) := by decide +kernel
theorem dX8_gather_32 : decode cX8_gather 32 = .ok (.ishr, 1) := by decide +kernel
theorem dX8_gather_33 : decode cX8_gather 33 = .ok (.iconst 1, 1) := by decide +kernel
theorem dX8_gather_34 : decode cX8_gather 34 = .ok (.iand, 1) := by decide +kernel
theorem dX8_gather_35 : decode cX8_gather 35 = .ok (.iconst 1, 1) := by decide +kernel
theorem dX8_gather_36 : decode cX8_gather 36 = .ok (.if_icmp .ne 50, 3) := by decide +kernel
theorem dX8_gather_39 : decode cX8_gather 39 = .ok (.aload_n 0, 1) := by decide +kernel
theorem dX8_gather_40 : decode cX8_gather 40 = .ok (.getfield 22, 3) := by decide +kernel
theorem dX8_gather_43 : decode cX8_gather 43 = .ok (.aload_n 0, 1) := by decide +kernel
theorem dX8_gather_44 : decode cX8_gather 44 = .ok (.getfield 89, 3) := by decide +kernel
theorem dX8_gather_47 : decode cX8_gather 47 = .ok (.iload 4, 2) := by decide +kernel
theorem dX8_gather_49 : decode cX8_gather 49 = .ok (.iastore, 1) := by decide +kernel
theorem dX8_gather_50 : decode cX8_gather 50 = .ok (.aload_n 0, 1) := by decide +kernel
theorem dX8_gather_51 : decode cX8_gather 51 = .ok (.getfield 25, 3) := by decide +kernel
theorem dX8_gather_54 : decode cX8_gather 54 = .ok (.aload_n 0, 1) := by decide +kernel
theorem dX8_gather_55 : decode cX8_gather 55 = .ok (.getfield 89, 3) := by decide +kernel
theorem dX8_gather_58 : decode cX8_gather 58 = .ok (.aload_n 1, 1) := by decide +kernel
theorem dX8_gather_59 : decode cX8_gather 59 = .ok (.getfield 54, 3) := by decide +kernel
theorem dX8_gather_62 : decode cX8_gather 62 = .ok (.iload 4, 2) := by decide +kernel
theorem dX8_gather_64 : decode cX8_gather 64 = .ok (.iaload, 1) := by decide +kernel
theorem dX8_gather_65 : decode cX8_gather 65 = .ok (.aload_n 1, 1) := by decide +kernel
theorem dX8_gather_66 : decode cX8_gather 66 = .ok (.getfield 54, 3) := by decide +kernel
theorem dX8_gather_69 : decode cX8_gather 69 = .ok (.iload_n 2, 1) := by decide +kernel
theorem dX8_gather_70 : decode cX8_gather 70 = .ok (.iaload, 1) := by decide +kernel
theorem dX8_gather_71 : decode cX8_gather 71 = .ok (.iand, 1) := by decide +kernel
theorem dX8_gather_72 : decode cX8_gather 72 = .ok (.invokestatic 80, 3) := by decide +kernel
theorem dX8_gather_75 : decode cX8_gather 75 = .ok (.iastore, 1) := by decide +kernel
theorem dX8_gather_76 : decode cX8_gather 76 = .ok (.aload_n 0, 1) := by decide +kernel
theorem dX8_gather_77 : decode cX8_gather 77 = .ok (.dup, 1) := by decide +kernel
theorem dX8_gather_78 : decode cX8_gather 78 = .ok (.getfield 89, 3) := by decide +kernel
theorem dX8_gather_81 : decode cX8_gather 81 = .ok (.iconst 1, 1) := by decide +kernel
theorem dX8_gather_82 : decode cX8_gather 82 = .ok (.iadd, 1) := by decide +kernel
theorem dX8_gather_83 : decode cX8_gather 83 = .ok (.putfield 89, 3) := by decide +kernel
theorem dX8_gather_86 : decode cX8_gather 86 = .ok (.iinc 4 1, 3) := by decide +kernel
theorem dX8_gather_89 : decode cX8_gather 89 = .ok (.goto (-81), 3) := by decide +kernel
theorem dX8_gather_92 : decode cX8_gather 92 = .ok (.iconst 0, 1) := by decide +kernel
theorem dX8_gather_93 : decode cX8_gather 93 = .ok (.istore 4, 2) := by decide +kernel
theorem dX8_gather_95 : decode cX8_gather 95 = .ok (.iload 4, 2) := by decide +kernel
theorem dX8_gather_97 : decode cX8_gather 97 = .ok (.aload_n 0, 1) := by decide +kernel
theorem dX8_gather_98 : decode cX8_gather 98 = .ok (.getfield 89, 3) := by decide +kernel
theorem dX8_gather_101 : decode cX8_gather 101 = .ok (.if_icmp .ge 28, 3) := by decide +kernel
theorem dX8_gather_104 : decode cX8_gather 104 = .ok (.aload_n 0, 1) := by decide +kernel
theorem dX8_gather_105 : decode cX8_gather 105 = .ok (.getfield 28, 3) := by decide +kernel
theorem dX8_gather_108 : decode cX8_gather 108 = .ok (.iload 4, 2) := by decide +kernel
theorem dX8_gather_110 : decode cX8_gather 110 = .ok (.aload_n 0, 1) := by decide +kernel
theorem dX8_gather_111 : decode cX8_gather 111 = .ok (.aload_n 1, 1) := by decide +kernel
theorem dX8_gather_112 : decode cX8_gather 112 = .ok (.aload_n 0, 1) := by decide +kernel
theorem dX8_gather_113 : decode cX8_gather 113 = .ok (.getfield 22, 3) := by decide +kernel
theorem dX8_gather_116 : decode cX8_gather 116 = .ok (.iload 4, 2) := by decide +kernel
theorem dX8_gather_118 : decode cX8_gather 118 = .ok (.iaload, 1) := by decide +kernel
theorem dX8_gather_119 : decode cX8_gather 119 = .ok (.invokevirtual 92, 3) := by decide +kernel
theorem dX8_gather_122 : decode cX8_gather 122 = .ok (.iastore, 1) := by decide +kernel
theorem dX8_gather_123 : decode cX8_gather 123 = .ok (.iinc 4 1, 3) := by decide +kernel
theorem dX8_gather_126 : decode cX8_gather 126 = .ok (.goto (-31), 3) := by decide +kernel
theorem dX8_gather_129 : decode cX8_gather 129 = .ok (.return_, 1) := by decide +kernel
theorem dX8_linksOf_0 : decode cX8_linksOf 0 = .ok (.iconst 0, 1) := by decide +kernel
theorem dX8_linksOf_1 : decode cX8_linksOf 1 = .ok (.istore_n 3, 1) := by decide +kernel
theorem dX8_linksOf_2 : decode cX8_linksOf 2 = .ok (.iconst 0, 1) := by decide +kernel
theorem dX8_linksOf_3 : decode cX8_linksOf 3 = .ok (.istore 4, 2) := by decide +kernel
theorem dX8_linksOf_5 : decode cX8_linksOf 5 = .ok (.iload 4, 2) := by decide +kernel
theorem dX8_linksOf_7 : decode cX8_linksOf 7 = .ok (.aload_n 0, 1) := by decide +kernel
theorem dX8_linksOf_8 : decode cX8_linksOf 8 = .ok (.getfield 89, 3) := by decide +kernel
theorem dX8_linksOf_11 : decode cX8_linksOf 11 = .ok (.if_icmp .ge 32, 3) := by decide +kernel
theorem dX8_linksOf_14 : decode cX8_linksOf 14 = .ok (.aload_n 1, 1) := by decide +kernel
theorem dX8_linksOf_15 : decode cX8_linksOf 15 = .ok (.aload_n 0, 1) := by decide +kernel
theorem dX8_linksOf_16 : decode cX8_linksOf 16 = .ok (.getfield 22, 3) := by decide +kernel
theorem dX8_linksOf_19 : decode cX8_linksOf 19 = .ok (.iload 4, 2) := by decide +kernel
theorem dX8_linksOf_21 : decode cX8_linksOf 21 = .ok (.iaload, 1) := by decide +kernel
theorem dX8_linksOf_22 : decode cX8_linksOf 22 = .ok (.iload_n 2, 1) := by decide +kernel
theorem dX8_linksOf_23 : decode cX8_linksOf 23 = .ok (.invokevirtual 44, 3) := by decide +kernel
theorem dX8_linksOf_26 : decode cX8_linksOf 26 = .ok (.iconst 1, 1) := by decide +kernel
theorem dX8_linksOf_27 : decode cX8_linksOf 27 = .ok (.if_icmp .ne 10, 3) := by decide +kernel
theorem dX8_linksOf_30 : decode cX8_linksOf 30 = .ok (.iload_n 3, 1) := by decide +kernel
theorem dX8_linksOf_31 : decode cX8_linksOf 31 = .ok (.iconst 1, 1) := by decide +kernel
theorem dX8_linksOf_32 : decode cX8_linksOf 32 = .ok (.iload 4, 2) := by decide +kernel
theorem dX8_linksOf_34 : decode cX8_linksOf 34 = .ok (.ishl, 1) := by decide +kernel
theorem dX8_linksOf_35 : decode cX8_linksOf 35 = .ok (.ior, 1) := by decide +kernel
theorem dX8_linksOf_36 : decode cX8_linksOf 36 = .ok (.istore_n 3, 1) := by decide +kernel
theorem dX8_linksOf_37 : decode cX8_linksOf 37 = .ok (.iinc 4 1, 3) := by decide +kernel
theorem dX8_linksOf_40 : decode cX8_linksOf 40 = .ok (.goto (-35), 3) := by decide +kernel
theorem dX8_linksOf_43 : decode cX8_linksOf 43 = .ok (.iload_n 3, 1) := by decide +kernel
theorem dX8_linksOf_44 : decode cX8_linksOf 44 = .ok (.ireturn, 1) := by decide +kernel
theorem dX8_search_0 : decode cX8_search 0 = .ok (.aload_n 1, 1) := by decide +kernel
theorem dX8_search_1 : decode cX8_search 1 = .ok (.getfield 64, 3) := by decide +kernel
theorem dX8_search_4 : decode cX8_search 4 = .ok (.getfield 86, 3) := by decide +kernel
theorem dX8_search_7 : decode cX8_search 7 = .ok (.istore 4, 2) := by decide +kernel
theorem dX8_search_9 : decode cX8_search 9 = .ok (.aload_n 1, 1) := by decide +kernel
theorem dX8_search_10 : decode cX8_search 10 = .ok (.getfield 54, 3) := by decide +kernel
theorem dX8_search_13 : decode cX8_search 13 = .ok (.iload_n 3, 1) := by decide +kernel
theorem dX8_search_14 : decode cX8_search 14 = .ok (.iaload, 1) := by decide +kernel
theorem dX8_search_15 : decode cX8_search 15 = .ok (.aload_n 1, 1) := by decide +kernel
theorem dX8_search_16 : decode cX8_search 16 = .ok (.getfield 54, 3) := by decide +kernel
theorem dX8_search_19 : decode cX8_search 19 = .ok (.iload_n 2, 1) := by decide +kernel
theorem dX8_search_20 : decode cX8_search 20 = .ok (.iaload, 1) := by decide +kernel
theorem dX8_search_21 : decode cX8_search 21 = .ok (.iand, 1) := by decide +kernel
theorem dX8_search_22 : decode cX8_search 22 = .ok (.invokestatic 80, 3) := by decide +kernel
theorem dX8_search_25 : decode cX8_search 25 = .ok (.istore 5, 2) := by decide +kernel
theorem dX8_search_27 : decode cX8_search 27 = .ok (.aload_n 0, 1) := by decide +kernel
theorem dX8_search_28 : decode cX8_search 28 = .ok (.aload_n 1, 1) := by decide +kernel
theorem dX8_search_29 : decode cX8_search 29 = .ok (.iload_n 3, 1) := by decide +kernel
theorem dX8_search_30 : decode cX8_search 30 = .ok (.invokevirtual 92, 3) := by decide +kernel
theorem dX8_search_33 : decode cX8_search 33 = .ok (.istore 6, 2) := by decide +kernel
theorem dX8_search_35 : decode cX8_search 35 = .ok (.iconst 0, 1) := by decide +kernel
theorem dX8_search_36 : decode cX8_search 36 = .ok (.istore 7, 2) := by decide +kernel
theorem dX8_search_38 : decode cX8_search 38 = .ok (.iload 7, 2) := by decide +kernel
theorem dX8_search_40 : decode cX8_search 40 = .ok (.iconst 1, 1) := by decide +kernel
theorem dX8_search_41 : decode cX8_search 41 = .ok (.aload_n 0, 1) := by decide +kernel
theorem dX8_search_42 : decode cX8_search 42 = .ok (.getfield 89, 3) := by decide +kernel
theorem dX8_search_45 : decode cX8_search 45 = .ok (.ishl, 1) := by decide +kernel
theorem dX8_search_46 : decode cX8_search 46 = .ok (.if_icmp .ge 17, 3) := by decide +kernel
theorem dX8_search_49 : decode cX8_search 49 = .ok (.aload_n 0, 1) := by decide +kernel
theorem dX8_search_50 : decode cX8_search 50 = .ok (.getfield 34, 3) := by decide +kernel
theorem dX8_search_53 : decode cX8_search 53 = .ok (.iload 7, 2) := by decide +kernel
theorem dX8_search_55 : decode cX8_search 55 = .ok (.iconst 0, 1) := by decide +kernel
theorem dX8_search_56 : decode cX8_search 56 = .ok (.iastore, 1) := by decide +kernel
theorem dX8_search_57 : decode cX8_search 57 = .ok (.iinc 7 1, 3) := by decide +kernel
theorem dX8_search_60 : decode cX8_search 60 = .ok (.goto (-22), 3) := by decide +kernel
theorem dX8_search_63 : decode cX8_search 63 = .ok (.aload_n 0, 1) := by decide +kernel
theorem dX8_search_64 : decode cX8_search 64 = .ok (.getfield 31, 3) := by decide +kernel
theorem dX8_search_67 : decode cX8_search 67 = .ok (.iconst 0, 1) := by decide +kernel
theorem dX8_search_68 : decode cX8_search 68 = .ok (.iconst 0, 1) := by decide +kernel
theorem dX8_search_69 : decode cX8_search 69 = .ok (.iastore, 1) := by decide +kernel
theorem dX8_search_70 : decode cX8_search 70 = .ok (.iconst 1, 1) := by decide +kernel
theorem dX8_search_71 : decode cX8_search 71 = .ok (.istore 7, 2) := by decide +kernel
theorem dX8_search_73 : decode cX8_search 73 = .ok (.iconst 0, 1) := by decide +kernel
theorem dX8_search_74 : decode cX8_search 74 = .ok (.istore 8, 2) := by decide +kernel
theorem dX8_search_76 : decode cX8_search 76 = .ok (.iload 8, 2) := by decide +kernel
theorem dX8_search_78 : decode cX8_search 78 = .ok (.iload 7, 2) := by decide +kernel
theorem dX8_search_80 : decode cX8_search 80 = .ok (.if_icmp .ge 163, 3) := by decide +kernel
theorem dX8_search_83 : decode cX8_search 83 = .ok (.iload 8, 2) := by decide +kernel
theorem dX8_search_85 : decode cX8_search 85 = .ok (.sipush 8192, 3) := by decide +kernel
theorem dX8_search_88 : decode cX8_search 88 = .ok (.if_icmp .ge 155, 3) := by decide +kernel
theorem dX8_search_91 : decode cX8_search 91 = .ok (.aload_n 0, 1) := by decide +kernel
theorem dX8_search_92 : decode cX8_search 92 = .ok (.getfield 31, 3) := by decide +kernel
theorem dX8_search_95 : decode cX8_search 95 = .ok (.iload 8, 2) := by decide +kernel
theorem dX8_search_97 : decode cX8_search 97 = .ok (.iaload, 1) := by decide +kernel
theorem dX8_search_98 : decode cX8_search 98 = .ok (.istore 9, 2) := by decide +kernel
theorem dX8_search_100 : decode cX8_search 100 = .ok (.iload 5, 2) := by decide +kernel
theorem dX8_search_102 : decode cX8_search 102 = .ok (.iload 6, 2) := by decide +kernel
theorem dX8_search_104 : decode cX8_search 104 = .ok (.iload 9, 2) := by decide +kernel
theorem dX8_search_106 : decode cX8_search 106 = .ok (.iand, 1) := by decide +kernel
theorem dX8_search_107 : decode cX8_search 107 = .ok (.invokestatic 80, 3) := by decide +kernel
theorem dX8_search_110 : decode cX8_search 110 = .ok (.iadd, 1) := by decide +kernel
theorem dX8_search_111 : decode cX8_search 111 = .ok (.iload 4, 2) := by decide +kernel
theorem dX8_search_113 : decode cX8_search 113 = .ok (.if_icmp .lt 11, 3) := by decide +kernel
theorem dX8_search_116 : decode cX8_search 116 = .ok (.aload_n 0, 1) := by decide +kernel
theorem dX8_search_117 : decode cX8_search 117 = .ok (.iload 9, 2) := by decide +kernel
theorem dX8_search_119 : decode cX8_search 119 = .ok (.iload_n 3, 1) := by decide +kernel
theorem dX8_search_120 : decode cX8_search 120 = .ok (.invokevirtual 95, 3) := by decide +kernel
theorem dX8_search_123 : decode cX8_search 123 = .ok (.return_, 1) := by decide +kernel
theorem dX8_search_124 : decode cX8_search 124 = .ok (.iconst 0, 1) := by decide +kernel
theorem dX8_search_125 : decode cX8_search 125 = .ok (.istore 10, 2) := by decide +kernel
theorem dX8_search_127 : decode cX8_search 127 = .ok (.iload 10, 2) := by decide +kernel
theorem dX8_search_129 : decode cX8_search 129 = .ok (.aload_n 0, 1) := by decide +kernel
theorem dX8_search_130 : decode cX8_search 130 = .ok (.getfield 89, 3) := by decide +kernel
theorem dX8_search_133 : decode cX8_search 133 = .ok (.if_icmp .ge 104, 3) := by decide +kernel
theorem dX8_search_136 : decode cX8_search 136 = .ok (.iload 9, 2) := by decide +kernel
theorem dX8_search_138 : decode cX8_search 138 = .ok (.iconst 1, 1) := by decide +kernel
theorem dX8_search_139 : decode cX8_search 139 = .ok (.iload 10, 2) := by decide +kernel
theorem dX8_search_141 : decode cX8_search 141 = .ok (.ishl, 1) := by decide +kernel
theorem dX8_search_142 : decode cX8_search 142 = .ok (.ior, 1) := by decide +kernel
theorem dX8_search_143 : decode cX8_search 143 = .ok (.istore 11, 2) := by decide +kernel
theorem dX8_search_145 : decode cX8_search 145 = .ok (.iload 11, 2) := by decide +kernel
theorem dX8_search_147 : decode cX8_search 147 = .ok (.iload 9, 2) := by decide +kernel
theorem dX8_search_149 : decode cX8_search 149 = .ok (.if_icmp .eq 17, 3) := by decide +kernel
theorem dX8_search_152 : decode cX8_search 152 = .ok (.aload_n 0, 1) := by decide +kernel
theorem dX8_search_153 : decode cX8_search 153 = .ok (.getfield 34, 3) := by decide +kernel
theorem dX8_search_156 : decode cX8_search 156 = .ok (.iload 11, 2) := by decide +kernel
theorem dX8_search_158 : decode cX8_search 158 = .ok (.iaload, 1) := by decide +kernel
theorem dX8_search_159 : decode cX8_search 159 = .ok (.ifCond .ne 7, 3) := by decide +kernel
theorem dX8_search_162 : decode cX8_search 162 = .ok (.iconst 1, 1) := by decide +kernel
theorem dX8_search_163 : decode cX8_search 163 = .ok (.goto 4, 3) := by decide +kernel
theorem dX8_search_166 : decode cX8_search 166 = .ok (.iconst 0, 1) := by decide +kernel
theorem dX8_search_167 : decode cX8_search 167 = .ok (.istore 12, 2) := by decide +kernel
theorem dX8_search_169 : decode cX8_search 169 = .ok (.iload 12, 2) := by decide +kernel
theorem dX8_search_171 : decode cX8_search 171 = .ok (.ifCond .eq 60, 3) := by decide +kernel
theorem dX8_search_174 : decode cX8_search 174 = .ok (.iload 7, 2) := by decide +kernel
theorem dX8_search_176 : decode cX8_search 176 = .ok (.sipush 8192, 3) := by decide +kernel
theorem dX8_search_179 : decode cX8_search 179 = .ok (.if_icmp .ge 52, 3) := by decide +kernel
theorem dX8_search_182 : decode cX8_search 182 = .ok (.aload_n 0, 1) := by decide +kernel
theorem dX8_search_183 : decode cX8_search 183 = .ok (.getfield 25, 3) := by decide +kernel
theorem dX8_search_186 : decode cX8_search 186 = .ok (.iload 10, 2) := by decide +kernel
theorem dX8_search_188 : decode cX8_search 188 = .ok (.iaload, 1) := by decide +kernel
theorem dX8_search_189 : decode cX8_search 189 = .ok (.aload_n 0, 1) := by decide +kernel
theorem dX8_search_190 : decode cX8_search 190 = .ok (.getfield 28, 3) := by decide +kernel
theorem dX8_search_193 : decode cX8_search 193 = .ok (.iload 10, 2) := by decide +kernel
theorem dX8_search_195 : decode cX8_search 195 = .ok (.iaload, 1) := by decide +kernel
theorem dX8_search_196 : decode cX8_search 196 = .ok (.iload 9, 2) := by decide +kernel
theorem dX8_search_198 : decode cX8_search 198 = .ok (.iand, 1) := by decide +kernel
theorem dX8_search_199 : decode cX8_search 199 = .ok (.invokestatic 80, 3) := by decide +kernel
theorem dX8_search_202 : decode cX8_search 202 = .ok (.iadd, 1) := by decide +kernel
theorem dX8_search_203 : decode cX8_search 203 = .ok (.iload 4, 2) := by decide +kernel
theorem dX8_search_205 : decode cX8_search 205 = .ok (.if_icmp .lt 26, 3) := by decide +kernel
theorem dX8_search_208 : decode cX8_search 208 = .ok (.aload_n 0, 1) := by decide +kernel
theorem dX8_search_209 : decode cX8_search 209 = .ok (.getfield 34, 3) := by decide +kernel
theorem dX8_search_212 : decode cX8_search 212 = .ok (.iload 11, 2) := by decide +kernel
