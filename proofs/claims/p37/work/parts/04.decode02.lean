theorem dX8_everyoneToKnow_27 : decode cX8_everyoneToKnow 27 = .ok (.getfield 68, 3) := dk_180 (a := 0) (b := 68) (by decide +kernel) rfl
theorem dX8_everyoneToKnow_30 : decode cX8_everyoneToKnow 30 = .ok (.if_icmp .ge 75, 3) := dk_162 (a := 0) (b := 75) (by decide +kernel) (by decide +kernel)
theorem dX8_everyoneToKnow_33 : decode cX8_everyoneToKnow 33 = .ok (.iload 5, 2) := dk_21 (a := 5) (by decide +kernel)
theorem dX8_everyoneToKnow_35 : decode cX8_everyoneToKnow 35 = .ok (.iload_n 1, 1) := dk_27 (by decide +kernel)
theorem dX8_everyoneToKnow_36 : decode cX8_everyoneToKnow 36 = .ok (.if_icmp .eq 23, 3) := dk_159 (a := 0) (b := 23) (by decide +kernel) (by decide +kernel)
theorem dX8_everyoneToKnow_39 : decode cX8_everyoneToKnow 39 = .ok (.aload_n 0, 1) := dk_42 (by decide +kernel)
theorem dX8_everyoneToKnow_40 : decode cX8_everyoneToKnow 40 = .ok (.getfield 64, 3) := dk_180 (a := 0) (b := 64) (by decide +kernel) rfl
theorem dX8_everyoneToKnow_43 : decode cX8_everyoneToKnow 43 = .ok (.iload 5, 2) := dk_21 (a := 5) (by decide +kernel)
theorem dX8_everyoneToKnow_45 : decode cX8_everyoneToKnow 45 = .ok (.aload_n 0, 1) := dk_42 (by decide +kernel)
theorem dX8_everyoneToKnow_46 : decode cX8_everyoneToKnow 46 = .ok (.getfield 73, 3) := dk_180 (a := 0) (b := 73) (by decide +kernel) rfl
theorem dX8_everyoneToKnow_49 : decode cX8_everyoneToKnow 49 = .ok (.invokevirtual 76, 3) := dk_182 (a := 0) (b := 76) (by decide +kernel) rfl
theorem dX8_everyoneToKnow_52 : decode cX8_everyoneToKnow 52 = .ok (.ifCond .eq 7, 3) := dk_153 (a := 0) (b := 7) (by decide +kernel) (by decide +kernel)
theorem dX8_everyoneToKnow_55 : decode cX8_everyoneToKnow 55 = .ok (.iconst 1, 1) := dk_4 (by decide +kernel)
theorem dX8_everyoneToKnow_56 : decode cX8_everyoneToKnow 56 = .ok (.goto 4, 3) := dk_167 (a := 0) (b := 4) (by decide +kernel) (by decide +kernel)
theorem dX8_everyoneToKnow_59 : decode cX8_everyoneToKnow 59 = .ok (.iconst 0, 1) := dk_3 (by decide +kernel)
theorem dX8_everyoneToKnow_60 : decode cX8_everyoneToKnow 60 = .ok (.istore 6, 2) := dk_54 (a := 6) (by decide +kernel)
theorem dX8_everyoneToKnow_62 : decode cX8_everyoneToKnow 62 = .ok (.iload 6, 2) := dk_21 (a := 6) (by decide +kernel)
theorem dX8_everyoneToKnow_64 : decode cX8_everyoneToKnow 64 = .ok (.ifCond .eq 35, 3) := dk_153 (a := 0) (b := 35) (by decide +kernel) (by decide +kernel)
theorem dX8_everyoneToKnow_67 : decode cX8_everyoneToKnow 67 = .ok (.aload_n 0, 1) := dk_42 (by decide +kernel)
theorem dX8_everyoneToKnow_68 : decode cX8_everyoneToKnow 68 = .ok (.getfield 54, 3) := dk_180 (a := 0) (b := 54) (by decide +kernel) rfl
theorem dX8_everyoneToKnow_71 : decode cX8_everyoneToKnow 71 = .ok (.iload 5, 2) := dk_21 (a := 5) (by decide +kernel)
theorem dX8_everyoneToKnow_73 : decode cX8_everyoneToKnow 73 = .ok (.iaload, 1) := dk_46 (by decide +kernel)
theorem dX8_everyoneToKnow_74 : decode cX8_everyoneToKnow 74 = .ok (.iload 4, 2) := dk_21 (a := 4) (by decide +kernel)
theorem dX8_everyoneToKnow_76 : decode cX8_everyoneToKnow 76 = .ok (.iand, 1) := dk_126 (by decide +kernel)
theorem dX8_everyoneToKnow_77 : decode cX8_everyoneToKnow 77 = .ok (.invokestatic 80, 3) := dk_184 (a := 0) (b := 80) (by decide +kernel) rfl
theorem dX8_everyoneToKnow_80 : decode cX8_everyoneToKnow 80 = .ok (.aload_n 0, 1) := dk_42 (by decide +kernel)
theorem dX8_everyoneToKnow_81 : decode cX8_everyoneToKnow 81 = .ok (.getfield 64, 3) := dk_180 (a := 0) (b := 64) (by decide +kernel) rfl
theorem dX8_everyoneToKnow_84 : decode cX8_everyoneToKnow 84 = .ok (.getfield 86, 3) := dk_180 (a := 0) (b := 86) (by decide +kernel) rfl
theorem dX8_everyoneToKnow_87 : decode cX8_everyoneToKnow 87 = .ok (.if_icmp .lt 12, 3) := dk_161 (a := 0) (b := 12) (by decide +kernel) (by decide +kernel)
theorem dX8_everyoneToKnow_90 : decode cX8_everyoneToKnow 90 = .ok (.iload 4, 2) := dk_21 (a := 4) (by decide +kernel)
theorem dX8_everyoneToKnow_92 : decode cX8_everyoneToKnow 92 = .ok (.iconst 1, 1) := dk_4 (by decide +kernel)
theorem dX8_everyoneToKnow_93 : decode cX8_everyoneToKnow 93 = .ok (.iload 5, 2) := dk_21 (a := 5) (by decide +kernel)
theorem dX8_everyoneToKnow_95 : decode cX8_everyoneToKnow 95 = .ok (.ishl, 1) := dk_120 (by decide +kernel)
theorem dX8_everyoneToKnow_96 : decode cX8_everyoneToKnow 96 = .ok (.ior, 1) := dk_128 (by decide +kernel)
theorem dX8_everyoneToKnow_97 : decode cX8_everyoneToKnow 97 = .ok (.istore 4, 2) := dk_54 (a := 4) (by decide +kernel)
theorem dX8_everyoneToKnow_99 : decode cX8_everyoneToKnow 99 = .ok (.iinc 5 1, 3) := dk_132 (a := 5) (b := 1) (by decide +kernel) (by decide +kernel)
theorem dX8_everyoneToKnow_102 : decode cX8_everyoneToKnow 102 = .ok (.goto (-81), 3) := dk_167 (a := 255) (b := 175) (by decide +kernel) (by decide +kernel)
theorem dX8_everyoneToKnow_105 : decode cX8_everyoneToKnow 105 = .ok (.iload 4, 2) := dk_21 (a := 4) (by decide +kernel)
theorem dX8_everyoneToKnow_107 : decode cX8_everyoneToKnow 107 = .ok (.iload_n 2, 1) := dk_28 (by decide +kernel)
theorem dX8_everyoneToKnow_108 : decode cX8_everyoneToKnow 108 = .ok (.if_icmp .ne 5, 3) := dk_160 (a := 0) (b := 5) (by decide +kernel) (by decide +kernel)
theorem dX8_everyoneToKnow_111 : decode cX8_everyoneToKnow 111 = .ok (.iload_n 2, 1) := dk_28 (by decide +kernel)
theorem dX8_everyoneToKnow_112 : decode cX8_everyoneToKnow 112 = .ok (.ireturn, 1) := dk_172 (by decide +kernel)
theorem dX8_everyoneToKnow_113 : decode cX8_everyoneToKnow 113 = .ok (.iload 4, 2) := dk_21 (a := 4) (by decide +kernel)
theorem dX8_everyoneToKnow_115 : decode cX8_everyoneToKnow 115 = .ok (.istore_n 2, 1) := dk_61 (by decide +kernel)
theorem dX8_everyoneToKnow_116 : decode cX8_everyoneToKnow 116 = .ok (.iinc 3 1, 3) := dk_132 (a := 3) (b := 1) (by decide +kernel) (by decide +kernel)
theorem dX8_everyoneToKnow_119 : decode cX8_everyoneToKnow 119 = .ok (.goto (-110), 3) := dk_167 (a := 255) (b := 146) (by decide +kernel) (by decide +kernel)
theorem dX8_everyoneToKnow_122 : decode cX8_everyoneToKnow 122 = .ok (.iload_n 2, 1) := dk_28 (by decide +kernel)
theorem dX8_everyoneToKnow_123 : decode cX8_everyoneToKnow 123 = .ok (.ireturn, 1) := dk_172 (by decide +kernel)
theorem dX8_gather_0 : decode cX8_gather 0 = .ok (.aload_n 0, 1) := dk_42 (by decide +kernel)
theorem dX8_gather_1 : decode cX8_gather 1 = .ok (.iconst 0, 1) := dk_3 (by decide +kernel)
theorem dX8_gather_2 : decode cX8_gather 2 = .ok (.putfield 89, 3) := dk_181 (a := 0) (b := 89) (by decide +kernel) rfl
theorem dX8_gather_5 : decode cX8_gather 5 = .ok (.iconst 0, 1) := dk_3 (by decide +kernel)
theorem dX8_gather_6 : decode cX8_gather 6 = .ok (.istore 4, 2) := dk_54 (a := 4) (by decide +kernel)
theorem dX8_gather_8 : decode cX8_gather 8 = .ok (.iload 4, 2) := dk_21 (a := 4) (by decide +kernel)
theorem dX8_gather_10 : decode cX8_gather 10 = .ok (.aload_n 1, 1) := dk_43 (by decide +kernel)
theorem dX8_gather_11 : decode cX8_gather 11 = .ok (.getfield 64, 3) := dk_180 (a := 0) (b := 64) (by decide +kernel) rfl
theorem dX8_gather_14 : decode cX8_gather 14 = .ok (.getfield 68, 3) := dk_180 (a := 0) (b := 68) (by decide +kernel) rfl
theorem dX8_gather_17 : decode cX8_gather 17 = .ok (.if_icmp .ge 75, 3) := dk_162 (a := 0) (b := 75) (by decide +kernel) (by decide +kernel)
theorem dX8_gather_20 : decode cX8_gather 20 = .ok (.aload_n 0, 1) := dk_42 (by decide +kernel)
theorem dX8_gather_21 : decode cX8_gather 21 = .ok (.getfield 89, 3) := dk_180 (a := 0) (b := 89) (by decide +kernel) rfl
theorem dX8_gather_24 : decode cX8_gather 24 = .ok (.bipush 13, 2) := dk_16 (a := 13) (by decide +kernel) (by decide +kernel)
theorem dX8_gather_26 : decode cX8_gather 26 = .ok (.if_icmp .ge 66, 3) := dk_162 (a := 0) (b := 66) (by decide +kernel) (by decide +kernel)
theorem dX8_gather_29 : decode cX8_gather 29 = .ok (.iload_n 3, 1) := dk_29 (by decide +kernel)
theorem dX8_gather_30 : decode cX8_gather 30 = .ok (.iload 4, 2) := dk_21 (a := 4) (by decide +kernel)
theorem dX8_gather_32 : decode cX8_gather 32 = .ok (.ishr, 1) := dk_122 (by decide +kernel)
theorem dX8_gather_33 : decode cX8_gather 33 = .ok (.iconst 1, 1) := dk_4 (by decide +kernel)
theorem dX8_gather_34 : decode cX8_gather 34 = .ok (.iand, 1) := dk_126 (by decide +kernel)
theorem dX8_gather_35 : decode cX8_gather 35 = .ok (.iconst 1, 1) := dk_4 (by decide +kernel)
theorem dX8_gather_36 : decode cX8_gather 36 = .ok (.if_icmp .ne 50, 3) := dk_160 (a := 0) (b := 50) (by decide +kernel) (by decide +kernel)
theorem dX8_gather_39 : decode cX8_gather 39 = .ok (.aload_n 0, 1) := dk_42 (by decide +kernel)
theorem dX8_gather_40 : decode cX8_gather 40 = .ok (.getfield 22, 3) := dk_180 (a := 0) (b := 22) (by decide +kernel) rfl
theorem dX8_gather_43 : decode cX8_gather 43 = .ok (.aload_n 0, 1) := dk_42 (by decide +kernel)
theorem dX8_gather_44 : decode cX8_gather 44 = .ok (.getfield 89, 3) := dk_180 (a := 0) (b := 89) (by decide +kernel) rfl
theorem dX8_gather_47 : decode cX8_gather 47 = .ok (.iload 4, 2) := dk_21 (a := 4) (by decide +kernel)
theorem dX8_gather_49 : decode cX8_gather 49 = .ok (.iastore, 1) := dk_79 (by decide +kernel)
theorem dX8_gather_50 : decode cX8_gather 50 = .ok (.aload_n 0, 1) := dk_42 (by decide +kernel)
theorem dX8_gather_51 : decode cX8_gather 51 = .ok (.getfield 25, 3) := dk_180 (a := 0) (b := 25) (by decide +kernel) rfl
theorem dX8_gather_54 : decode cX8_gather 54 = .ok (.aload_n 0, 1) := dk_42 (by decide +kernel)
theorem dX8_gather_55 : decode cX8_gather 55 = .ok (.getfield 89, 3) := dk_180 (a := 0) (b := 89) (by decide +kernel) rfl
theorem dX8_gather_58 : decode cX8_gather 58 = .ok (.aload_n 1, 1) := dk_43 (by decide +kernel)
theorem dX8_gather_59 : decode cX8_gather 59 = .ok (.getfield 54, 3) := dk_180 (a := 0) (b := 54) (by decide +kernel) rfl
theorem dX8_gather_62 : decode cX8_gather 62 = .ok (.iload 4, 2) := dk_21 (a := 4) (by decide +kernel)
theorem dX8_gather_64 : decode cX8_gather 64 = .ok (.iaload, 1) := dk_46 (by decide +kernel)
theorem dX8_gather_65 : decode cX8_gather 65 = .ok (.aload_n 1, 1) := dk_43 (by decide +kernel)
theorem dX8_gather_66 : decode cX8_gather 66 = .ok (.getfield 54, 3) := dk_180 (a := 0) (b := 54) (by decide +kernel) rfl
theorem dX8_gather_69 : decode cX8_gather 69 = .ok (.iload_n 2, 1) := dk_28 (by decide +kernel)
theorem dX8_gather_70 : decode cX8_gather 70 = .ok (.iaload, 1) := dk_46 (by decide +kernel)
theorem dX8_gather_71 : decode cX8_gather 71 = .ok (.iand, 1) := dk_126 (by decide +kernel)
theorem dX8_gather_72 : decode cX8_gather 72 = .ok (.invokestatic 80, 3) := dk_184 (a := 0) (b := 80) (by decide +kernel) rfl
theorem dX8_gather_75 : decode cX8_gather 75 = .ok (.iastore, 1) := dk_79 (by decide +kernel)
theorem dX8_gather_76 : decode cX8_gather 76 = .ok (.aload_n 0, 1) := dk_42 (by decide +kernel)
theorem dX8_gather_77 : decode cX8_gather 77 = .ok (.dup, 1) := dk_89 (by decide +kernel)
theorem dX8_gather_78 : decode cX8_gather 78 = .ok (.getfield 89, 3) := dk_180 (a := 0) (b := 89) (by decide +kernel) rfl
theorem dX8_gather_81 : decode cX8_gather 81 = .ok (.iconst 1, 1) := dk_4 (by decide +kernel)
theorem dX8_gather_82 : decode cX8_gather 82 = .ok (.iadd, 1) := dk_96 (by decide +kernel)
theorem dX8_gather_83 : decode cX8_gather 83 = .ok (.putfield 89, 3) := dk_181 (a := 0) (b := 89) (by decide +kernel) rfl
theorem dX8_gather_86 : decode cX8_gather 86 = .ok (.iinc 4 1, 3) := dk_132 (a := 4) (b := 1) (by decide +kernel) (by decide +kernel)
theorem dX8_gather_89 : decode cX8_gather 89 = .ok (.goto (-81), 3) := dk_167 (a := 255) (b := 175) (by decide +kernel) (by decide +kernel)
theorem dX8_gather_92 : decode cX8_gather 92 = .ok (.iconst 0, 1) := dk_3 (by decide +kernel)
theorem dX8_gather_93 : decode cX8_gather 93 = .ok (.istore 4, 2) := dk_54 (a := 4) (by decide +kernel)
theorem dX8_gather_95 : decode cX8_gather 95 = .ok (.iload 4, 2) := dk_21 (a := 4) (by decide +kernel)
theorem dX8_gather_97 : decode cX8_gather 97 = .ok (.aload_n 0, 1) := dk_42 (by decide +kernel)
theorem dX8_gather_98 : decode cX8_gather 98 = .ok (.getfield 89, 3) := dk_180 (a := 0) (b := 89) (by decide +kernel) rfl
theorem dX8_gather_101 : decode cX8_gather 101 = .ok (.if_icmp .ge 28, 3) := dk_162 (a := 0) (b := 28) (by decide +kernel) (by decide +kernel)
theorem dX8_gather_104 : decode cX8_gather 104 = .ok (.aload_n 0, 1) := dk_42 (by decide +kernel)
theorem dX8_gather_105 : decode cX8_gather 105 = .ok (.getfield 28, 3) := dk_180 (a := 0) (b := 28) (by decide +kernel) rfl
theorem dX8_gather_108 : decode cX8_gather 108 = .ok (.iload 4, 2) := dk_21 (a := 4) (by decide +kernel)
theorem dX8_gather_110 : decode cX8_gather 110 = .ok (.aload_n 0, 1) := dk_42 (by decide +kernel)
theorem dX8_gather_111 : decode cX8_gather 111 = .ok (.aload_n 1, 1) := dk_43 (by decide +kernel)
theorem dX8_gather_112 : decode cX8_gather 112 = .ok (.aload_n 0, 1) := dk_42 (by decide +kernel)
theorem dX8_gather_113 : decode cX8_gather 113 = .ok (.getfield 22, 3) := dk_180 (a := 0) (b := 22) (by decide +kernel) rfl
theorem dX8_gather_116 : decode cX8_gather 116 = .ok (.iload 4, 2) := dk_21 (a := 4) (by decide +kernel)
theorem dX8_gather_118 : decode cX8_gather 118 = .ok (.iaload, 1) := dk_46 (by decide +kernel)
theorem dX8_gather_119 : decode cX8_gather 119 = .ok (.invokevirtual 92, 3) := dk_182 (a := 0) (b := 92) (by decide +kernel) rfl
theorem dX8_gather_122 : decode cX8_gather 122 = .ok (.iastore, 1) := dk_79 (by decide +kernel)
theorem dX8_gather_123 : decode cX8_gather 123 = .ok (.iinc 4 1, 3) := dk_132 (a := 4) (b := 1) (by decide +kernel) (by decide +kernel)
theorem dX8_gather_126 : decode cX8_gather 126 = .ok (.goto (-31), 3) := dk_167 (a := 255) (b := 225) (by decide +kernel) (by decide +kernel)
theorem dX8_gather_129 : decode cX8_gather 129 = .ok (.return_, 1) := dk_177 (by decide +kernel)
theorem dX8_linksOf_0 : decode cX8_linksOf 0 = .ok (.iconst 0, 1) := dk_3 (by decide +kernel)
theorem dX8_linksOf_1 : decode cX8_linksOf 1 = .ok (.istore_n 3, 1) := dk_62 (by decide +kernel)
theorem dX8_linksOf_2 : decode cX8_linksOf 2 = .ok (.iconst 0, 1) := dk_3 (by decide +kernel)
theorem dX8_linksOf_3 : decode cX8_linksOf 3 = .ok (.istore 4, 2) := dk_54 (a := 4) (by decide +kernel)
theorem dX8_linksOf_5 : decode cX8_linksOf 5 = .ok (.iload 4, 2) := dk_21 (a := 4) (by decide +kernel)
theorem dX8_linksOf_7 : decode cX8_linksOf 7 = .ok (.aload_n 0, 1) := dk_42 (by decide +kernel)
theorem dX8_linksOf_8 : decode cX8_linksOf 8 = .ok (.getfield 89, 3) := dk_180 (a := 0) (b := 89) (by decide +kernel) rfl
theorem dX8_linksOf_11 : decode cX8_linksOf 11 = .ok (.if_icmp .ge 32, 3) := dk_162 (a := 0) (b := 32) (by decide +kernel) (by decide +kernel)
theorem dX8_linksOf_14 : decode cX8_linksOf 14 = .ok (.aload_n 1, 1) := dk_43 (by decide +kernel)
theorem dX8_linksOf_15 : decode cX8_linksOf 15 = .ok (.aload_n 0, 1) := dk_42 (by decide +kernel)
theorem dX8_linksOf_16 : decode cX8_linksOf 16 = .ok (.getfield 22, 3) := dk_180 (a := 0) (b := 22) (by decide +kernel) rfl
theorem dX8_linksOf_19 : decode cX8_linksOf 19 = .ok (.iload 4, 2) := dk_21 (a := 4) (by decide +kernel)
theorem dX8_linksOf_21 : decode cX8_linksOf 21 = .ok (.iaload, 1) := dk_46 (by decide +kernel)
theorem dX8_linksOf_22 : decode cX8_linksOf 22 = .ok (.iload_n 2, 1) := dk_28 (by decide +kernel)
theorem dX8_linksOf_23 : decode cX8_linksOf 23 = .ok (.invokevirtual 44, 3) := dk_182 (a := 0) (b := 44) (by decide +kernel) rfl
theorem dX8_linksOf_26 : decode cX8_linksOf 26 = .ok (.iconst 1, 1) := dk_4 (by decide +kernel)
theorem dX8_linksOf_27 : decode cX8_linksOf 27 = .ok (.if_icmp .ne 10, 3) := dk_160 (a := 0) (b := 10) (by decide +kernel) (by decide +kernel)
theorem dX8_linksOf_30 : decode cX8_linksOf 30 = .ok (.iload_n 3, 1) := dk_29 (by decide +kernel)
theorem dX8_linksOf_31 : decode cX8_linksOf 31 = .ok (.iconst 1, 1) := dk_4 (by decide +kernel)
theorem dX8_linksOf_32 : decode cX8_linksOf 32 = .ok (.iload 4, 2) := dk_21 (a := 4) (by decide +kernel)
theorem dX8_linksOf_34 : decode cX8_linksOf 34 = .ok (.ishl, 1) := dk_120 (by decide +kernel)
theorem dX8_linksOf_35 : decode cX8_linksOf 35 = .ok (.ior, 1) := dk_128 (by decide +kernel)
theorem dX8_linksOf_36 : decode cX8_linksOf 36 = .ok (.istore_n 3, 1) := dk_62 (by decide +kernel)
theorem dX8_linksOf_37 : decode cX8_linksOf 37 = .ok (.iinc 4 1, 3) := dk_132 (a := 4) (b := 1) (by decide +kernel) (by decide +kernel)
theorem dX8_linksOf_40 : decode cX8_linksOf 40 = .ok (.goto (-35), 3) := dk_167 (a := 255) (b := 221) (by decide +kernel) (by decide +kernel)
theorem dX8_linksOf_43 : decode cX8_linksOf 43 = .ok (.iload_n 3, 1) := dk_29 (by decide +kernel)
theorem dX8_linksOf_44 : decode cX8_linksOf 44 = .ok (.ireturn, 1) := dk_172 (by decide +kernel)
theorem dX8_search_0 : decode cX8_search 0 = .ok (.aload_n 1, 1) := dk_43 (by decide +kernel)
theorem dX8_search_1 : decode cX8_search 1 = .ok (.getfield 64, 3) := dk_180 (a := 0) (b := 64) (by decide +kernel) rfl
theorem dX8_search_4 : decode cX8_search 4 = .ok (.getfield 86, 3) := dk_180 (a := 0) (b := 86) (by decide +kernel) rfl
theorem dX8_search_7 : decode cX8_search 7 = .ok (.istore 4, 2) := dk_54 (a := 4) (by decide +kernel)
theorem dX8_search_9 : decode cX8_search 9 = .ok (.aload_n 1, 1) := dk_43 (by decide +kernel)
theorem dX8_search_10 : decode cX8_search 10 = .ok (.getfield 54, 3) := dk_180 (a := 0) (b := 54) (by decide +kernel) rfl
theorem dX8_search_13 : decode cX8_search 13 = .ok (.iload_n 3, 1) := dk_29 (by decide +kernel)
theorem dX8_search_14 : decode cX8_search 14 = .ok (.iaload, 1) := dk_46 (by decide +kernel)
theorem dX8_search_15 : decode cX8_search 15 = .ok (.aload_n 1, 1) := dk_43 (by decide +kernel)
theorem dX8_search_16 : decode cX8_search 16 = .ok (.getfield 54, 3) := dk_180 (a := 0) (b := 54) (by decide +kernel) rfl
theorem dX8_search_19 : decode cX8_search 19 = .ok (.iload_n 2, 1) := dk_28 (by decide +kernel)
theorem dX8_search_20 : decode cX8_search 20 = .ok (.iaload, 1) := dk_46 (by decide +kernel)
theorem dX8_search_21 : decode cX8_search 21 = .ok (.iand, 1) := dk_126 (by decide +kernel)
theorem dX8_search_22 : decode cX8_search 22 = .ok (.invokestatic 80, 3) := dk_184 (a := 0) (b := 80) (by decide +kernel) rfl
theorem dX8_search_25 : decode cX8_search 25 = .ok (.istore 5, 2) := dk_54 (a := 5) (by decide +kernel)
theorem dX8_search_27 : decode cX8_search 27 = .ok (.aload_n 0, 1) := dk_42 (by decide +kernel)
theorem dX8_search_28 : decode cX8_search 28 = .ok (.aload_n 1, 1) := dk_43 (by decide +kernel)
theorem dX8_search_29 : decode cX8_search 29 = .ok (.iload_n 3, 1) := dk_29 (by decide +kernel)
theorem dX8_search_30 : decode cX8_search 30 = .ok (.invokevirtual 92, 3) := dk_182 (a := 0) (b := 92) (by decide +kernel) rfl
theorem dX8_search_33 : decode cX8_search 33 = .ok (.istore 6, 2) := dk_54 (a := 6) (by decide +kernel)
theorem dX8_search_35 : decode cX8_search 35 = .ok (.iconst 0, 1) := dk_3 (by decide +kernel)
theorem dX8_search_36 : decode cX8_search 36 = .ok (.istore 7, 2) := dk_54 (a := 7) (by decide +kernel)
theorem dX8_search_38 : decode cX8_search 38 = .ok (.iload 7, 2) := dk_21 (a := 7) (by decide +kernel)
theorem dX8_search_40 : decode cX8_search 40 = .ok (.iconst 1, 1) := dk_4 (by decide +kernel)
theorem dX8_search_41 : decode cX8_search 41 = .ok (.aload_n 0, 1) := dk_42 (by decide +kernel)
theorem dX8_search_42 : decode cX8_search 42 = .ok (.getfield 89, 3) := dk_180 (a := 0) (b := 89) (by decide +kernel) rfl
theorem dX8_search_45 : decode cX8_search 45 = .ok (.ishl, 1) := dk_120 (by decide +kernel)
theorem dX8_search_46 : decode cX8_search 46 = .ok (.if_icmp .ge 17, 3) := dk_162 (a := 0) (b := 17) (by decide +kernel) (by decide +kernel)
theorem dX8_search_49 : decode cX8_search 49 = .ok (.aload_n 0, 1) := dk_42 (by decide +kernel)
theorem dX8_search_50 : decode cX8_search 50 = .ok (.getfield 34, 3) := dk_180 (a := 0) (b := 34) (by decide +kernel) rfl
theorem dX8_search_53 : decode cX8_search 53 = .ok (.iload 7, 2) := dk_21 (a := 7) (by decide +kernel)
theorem dX8_search_55 : decode cX8_search 55 = .ok (.iconst 0, 1) := dk_3 (by decide +kernel)
theorem dX8_search_56 : decode cX8_search 56 = .ok (.iastore, 1) := dk_79 (by decide +kernel)
theorem dX8_search_57 : decode cX8_search 57 = .ok (.iinc 7 1, 3) := dk_132 (a := 7) (b := 1) (by decide +kernel) (by decide +kernel)
theorem dX8_search_60 : decode cX8_search 60 = .ok (.goto (-22), 3) := dk_167 (a := 255) (b := 234) (by decide +kernel) (by decide +kernel)
theorem dX8_search_63 : decode cX8_search 63 = .ok (.aload_n 0, 1) := dk_42 (by decide +kernel)
theorem dX8_search_64 : decode cX8_search 64 = .ok (.getfield 31, 3) := dk_180 (a := 0) (b := 31) (by decide +kernel) rfl
theorem dX8_search_67 : decode cX8_search 67 = .ok (.iconst 0, 1) := dk_3 (by decide +kernel)
theorem dX8_search_68 : decode cX8_search 68 = .ok (.iconst 0, 1) := dk_3 (by decide +kernel)
theorem dX8_search_69 : decode cX8_search 69 = .ok (.iastore, 1) := dk_79 (by decide +kernel)
theorem dX8_search_70 : decode cX8_search 70 = .ok (.iconst 1, 1) := dk_4 (by decide +kernel)
theorem dX8_search_71 : decode cX8_search 71 = .ok (.istore 7, 2) := dk_54 (a := 7) (by decide +kernel)
theorem dX8_search_73 : decode cX8_search 73 = .ok (.iconst 0, 1) := dk_3 (by decide +kernel)
theorem dX8_search_74 : decode cX8_search 74 = .ok (.istore 8, 2) := dk_54 (a := 8) (by decide +kernel)
theorem dX8_search_76 : decode cX8_search 76 = .ok (.iload 8, 2) := dk_21 (a := 8) (by decide +kernel)
theorem dX8_search_78 : decode cX8_search 78 = .ok (.iload 7, 2) := dk_21 (a := 7) (by decide +kernel)
theorem dX8_search_80 : decode cX8_search 80 = .ok (.if_icmp .ge 163, 3) := dk_162 (a := 0) (b := 163) (by decide +kernel) (by decide +kernel)
theorem dX8_search_83 : decode cX8_search 83 = .ok (.iload 8, 2) := dk_21 (a := 8) (by decide +kernel)
theorem dX8_search_85 : decode cX8_search 85 = .ok (.sipush 8192, 3) := dk_17 (a := 32) (b := 0) (by decide +kernel) (by decide +kernel)
theorem dX8_search_88 : decode cX8_search 88 = .ok (.if_icmp .ge 155, 3) := dk_162 (a := 0) (b := 155) (by decide +kernel) (by decide +kernel)
theorem dX8_search_91 : decode cX8_search 91 = .ok (.aload_n 0, 1) := dk_42 (by decide +kernel)
theorem dX8_search_92 : decode cX8_search 92 = .ok (.getfield 31, 3) := dk_180 (a := 0) (b := 31) (by decide +kernel) rfl
theorem dX8_search_95 : decode cX8_search 95 = .ok (.iload 8, 2) := dk_21 (a := 8) (by decide +kernel)
theorem dX8_search_97 : decode cX8_search 97 = .ok (.iaload, 1) := dk_46 (by decide +kernel)
theorem dX8_search_98 : decode cX8_search 98 = .ok (.istore 9, 2) := dk_54 (a := 9) (by decide +kernel)
theorem dX8_search_100 : decode cX8_search 100 = .ok (.iload 5, 2) := dk_21 (a := 5) (by decide +kernel)
theorem dX8_search_102 : decode cX8_search 102 = .ok (.iload 6, 2) := dk_21 (a := 6) (by decide +kernel)
theorem dX8_search_104 : decode cX8_search 104 = .ok (.iload 9, 2) := dk_21 (a := 9) (by decide +kernel)
theorem dX8_search_106 : decode cX8_search 106 = .ok (.iand, 1) := dk_126 (by decide +kernel)
theorem dX8_search_107 : decode cX8_search 107 = .ok (.invokestatic 80, 3) := dk_184 (a := 0) (b := 80) (by decide +kernel) rfl
theorem dX8_search_110 : decode cX8_search 110 = .ok (.iadd, 1) := dk_96 (by decide +kernel)
theorem dX8_search_111 : decode cX8_search 111 = .ok (.iload 4, 2) := dk_21 (a := 4) (by decide +kernel)
theorem dX8_search_113 : decode cX8_search 113 = .ok (.if_icmp .lt 11, 3) := dk_161 (a := 0) (b := 11) (by decide +kernel) (by decide +kernel)
theorem dX8_search_116 : decode cX8_search 116 = .ok (.aload_n 0, 1) := dk_42 (by decide +kernel)
theorem dX8_search_117 : decode cX8_search 117 = .ok (.iload 9, 2) := dk_21 (a := 9) (by decide +kernel)
theorem dX8_search_119 : decode cX8_search 119 = .ok (.iload_n 3, 1) := dk_29 (by decide +kernel)
theorem dX8_search_120 : decode cX8_search 120 = .ok (.invokevirtual 95, 3) := dk_182 (a := 0) (b := 95) (by decide +kernel) rfl
theorem dX8_search_123 : decode cX8_search 123 = .ok (.return_, 1) := dk_177 (by decide +kernel)
theorem dX8_search_124 : decode cX8_search 124 = .ok (.iconst 0, 1) := dk_3 (by decide +kernel)
theorem dX8_search_125 : decode cX8_search 125 = .ok (.istore 10, 2) := dk_54 (a := 10) (by decide +kernel)
theorem dX8_search_127 : decode cX8_search 127 = .ok (.iload 10, 2) := dk_21 (a := 10) (by decide +kernel)
theorem dX8_search_129 : decode cX8_search 129 = .ok (.aload_n 0, 1) := dk_42 (by decide +kernel)
theorem dX8_search_130 : decode cX8_search 130 = .ok (.getfield 89, 3) := dk_180 (a := 0) (b := 89) (by decide +kernel) rfl
theorem dX8_search_133 : decode cX8_search 133 = .ok (.if_icmp .ge 104, 3) := dk_162 (a := 0) (b := 104) (by decide +kernel) (by decide +kernel)
theorem dX8_search_136 : decode cX8_search 136 = .ok (.iload 9, 2) := dk_21 (a := 9) (by decide +kernel)
theorem dX8_search_138 : decode cX8_search 138 = .ok (.iconst 1, 1) := dk_4 (by decide +kernel)
theorem dX8_search_139 : decode cX8_search 139 = .ok (.iload 10, 2) := dk_21 (a := 10) (by decide +kernel)
theorem dX8_search_141 : decode cX8_search 141 = .ok (.ishl, 1) := dk_120 (by decide +kernel)
theorem dX8_search_142 : decode cX8_search 142 = .ok (.ior, 1) := dk_128 (by decide +kernel)
theorem dX8_search_143 : decode cX8_search 143 = .ok (.istore 11, 2) := dk_54 (a := 11) (by decide +kernel)
theorem dX8_search_145 : decode cX8_search 145 = .ok (.iload 11, 2) := dk_21 (a := 11) (by decide +kernel)
theorem dX8_search_147 : decode cX8_search 147 = .ok (.iload 9, 2) := dk_21 (a := 9) (by decide +kernel)
theorem dX8_search_149 : decode cX8_search 149 = .ok (.if_icmp .eq 17, 3) := dk_159 (a := 0) (b := 17) (by decide +kernel) (by decide +kernel)
theorem dX8_search_152 : decode cX8_search 152 = .ok (.aload_n 0, 1) := dk_42 (by decide +kernel)
theorem dX8_search_153 : decode cX8_search 153 = .ok (.getfield 34, 3) := dk_180 (a := 0) (b := 34) (by decide +kernel) rfl
theorem dX8_search_156 : decode cX8_search 156 = .ok (.iload 11, 2) := dk_21 (a := 11) (by decide +kernel)
theorem dX8_search_158 : decode cX8_search 158 = .ok (.iaload, 1) := dk_46 (by decide +kernel)
theorem dX8_search_159 : decode cX8_search 159 = .ok (.ifCond .ne 7, 3) := dk_154 (a := 0) (b := 7) (by decide +kernel) (by decide +kernel)
theorem dX8_search_162 : decode cX8_search 162 = .ok (.iconst 1, 1) := dk_4 (by decide +kernel)
theorem dX8_search_163 : decode cX8_search 163 = .ok (.goto 4, 3) := dk_167 (a := 0) (b := 4) (by decide +kernel) (by decide +kernel)
theorem dX8_search_166 : decode cX8_search 166 = .ok (.iconst 0, 1) := dk_3 (by decide +kernel)
theorem dX8_search_167 : decode cX8_search 167 = .ok (.istore 12, 2) := dk_54 (a := 12) (by decide +kernel)
theorem dX8_search_169 : decode cX8_search 169 = .ok (.iload 12, 2) := dk_21 (a := 12) (by decide +kernel)
theorem dX8_search_171 : decode cX8_search 171 = .ok (.ifCond .eq 60, 3) := dk_153 (a := 0) (b := 60) (by decide +kernel) (by decide +kernel)
theorem dX8_search_174 : decode cX8_search 174 = .ok (.iload 7, 2) := dk_21 (a := 7) (by decide +kernel)
theorem dX8_search_176 : decode cX8_search 176 = .ok (.sipush 8192, 3) := dk_17 (a := 32) (b := 0) (by decide +kernel) (by decide +kernel)
theorem dX8_search_179 : decode cX8_search 179 = .ok (.if_icmp .ge 52, 3) := dk_162 (a := 0) (b := 52) (by decide +kernel) (by decide +kernel)
theorem dX8_search_182 : decode cX8_search 182 = .ok (.aload_n 0, 1) := dk_42 (by decide +kernel)
theorem dX8_search_183 : decode cX8_search 183 = .ok (.getfield 25, 3) := dk_180 (a := 0) (b := 25) (by decide +kernel) rfl
theorem dX8_search_186 : decode cX8_search 186 = .ok (.iload 10, 2) := dk_21 (a := 10) (by decide +kernel)
theorem dX8_search_188 : decode cX8_search 188 = .ok (.iaload, 1) := dk_46 (by decide +kernel)
theorem dX8_search_189 : decode cX8_search 189 = .ok (.aload_n 0, 1) := dk_42 (by decide +kernel)
theorem dX8_search_190 : decode cX8_search 190 = .ok (.getfield 28, 3) := dk_180 (a := 0) (b := 28) (by decide +kernel) rfl
theorem dX8_search_193 : decode cX8_search 193 = .ok (.iload 10, 2) := dk_21 (a := 10) (by decide +kernel)
theorem dX8_search_195 : decode cX8_search 195 = .ok (.iaload, 1) := dk_46 (by decide +kernel)
theorem dX8_search_196 : decode cX8_search 196 = .ok (.iload 9, 2) := dk_21 (a := 9) (by decide +kernel)
theorem dX8_search_198 : decode cX8_search 198 = .ok (.iand, 1) := dk_126 (by decide +kernel)
theorem dX8_search_199 : decode cX8_search 199 = .ok (.invokestatic 80, 3) := dk_184 (a := 0) (b := 80) (by decide +kernel) rfl
theorem dX8_search_202 : decode cX8_search 202 = .ok (.iadd, 1) := dk_96 (by decide +kernel)
theorem dX8_search_203 : decode cX8_search 203 = .ok (.iload 4, 2) := dk_21 (a := 4) (by decide +kernel)
theorem dX8_search_205 : decode cX8_search 205 = .ok (.if_icmp .lt 26, 3) := dk_161 (a := 0) (b := 26) (by decide +kernel) (by decide +kernel)
theorem dX8_search_208 : decode cX8_search 208 = .ok (.aload_n 0, 1) := dk_42 (by decide +kernel)
theorem dX8_search_209 : decode cX8_search 209 = .ok (.getfield 34, 3) := dk_180 (a := 0) (b := 34) (by decide +kernel) rfl
theorem dX8_search_212 : decode cX8_search 212 = .ok (.iload 11, 2) := dk_21 (a := 11) (by decide +kernel)
theorem dX8_search_214 : decode cX8_search 214 = .ok (.iload 10, 2) := dk_21 (a := 10) (by decide +kernel)
theorem dX8_search_216 : decode cX8_search 216 = .ok (.iconst 1, 1) := dk_4 (by decide +kernel)
theorem dX8_search_217 : decode cX8_search 217 = .ok (.iadd, 1) := dk_96 (by decide +kernel)
theorem dX8_search_218 : decode cX8_search 218 = .ok (.iastore, 1) := dk_79 (by decide +kernel)
theorem dX8_search_219 : decode cX8_search 219 = .ok (.aload_n 0, 1) := dk_42 (by decide +kernel)
theorem dX8_search_220 : decode cX8_search 220 = .ok (.getfield 31, 3) := dk_180 (a := 0) (b := 31) (by decide +kernel) rfl
theorem dX8_search_223 : decode cX8_search 223 = .ok (.iload 7, 2) := dk_21 (a := 7) (by decide +kernel)
theorem dX8_search_225 : decode cX8_search 225 = .ok (.iload 11, 2) := dk_21 (a := 11) (by decide +kernel)
theorem dX8_search_227 : decode cX8_search 227 = .ok (.iastore, 1) := dk_79 (by decide +kernel)
theorem dX8_search_228 : decode cX8_search 228 = .ok (.iinc 7 1, 3) := dk_132 (a := 7) (b := 1) (by decide +kernel) (by decide +kernel)
theorem dX8_search_231 : decode cX8_search 231 = .ok (.iinc 10 1, 3) := dk_132 (a := 10) (b := 1) (by decide +kernel) (by decide +kernel)
theorem dX8_search_234 : decode cX8_search 234 = .ok (.goto (-107), 3) := dk_167 (a := 255) (b := 149) (by decide +kernel) (by decide +kernel)
theorem dX8_search_237 : decode cX8_search 237 = .ok (.iinc 8 1, 3) := dk_132 (a := 8) (b := 1) (by decide +kernel) (by decide +kernel)
theorem dX8_search_240 : decode cX8_search 240 = .ok (.goto (-164), 3) := dk_167 (a := 255) (b := 92) (by decide +kernel) (by decide +kernel)
theorem dX8_search_243 : decode cX8_search 243 = .ok (.return_, 1) := dk_177 (by decide +kernel)
theorem dX8_tell_0 : decode cX8_tell 0 = .ok (.aload_n 0, 1) := dk_42 (by decide +kernel)
theorem dX8_tell_1 : decode cX8_tell 1 = .ok (.iload_n 1, 1) := dk_27 (by decide +kernel)
theorem dX8_tell_2 : decode cX8_tell 2 = .ok (.invokestatic 80, 3) := dk_184 (a := 0) (b := 80) (by decide +kernel) rfl
theorem dX8_tell_5 : decode cX8_tell 5 = .ok (.iconst 1, 1) := dk_4 (by decide +kernel)
theorem dX8_tell_6 : decode cX8_tell 6 = .ok (.iadd, 1) := dk_96 (by decide +kernel)
theorem dX8_tell_7 : decode cX8_tell 7 = .ok (.putfield 41, 3) := dk_181 (a := 0) (b := 41) (by decide +kernel) rfl
theorem dX8_tell_10 : decode cX8_tell 10 = .ok (.aload_n 0, 1) := dk_42 (by decide +kernel)
theorem dX8_tell_11 : decode cX8_tell 11 = .ok (.getfield 11, 3) := dk_180 (a := 0) (b := 11) (by decide +kernel) rfl
theorem dX8_tell_14 : decode cX8_tell 14 = .ok (.aload_n 0, 1) := dk_42 (by decide +kernel)
theorem dX8_tell_15 : decode cX8_tell 15 = .ok (.getfield 41, 3) := dk_180 (a := 0) (b := 41) (by decide +kernel) rfl
theorem dX8_tell_18 : decode cX8_tell 18 = .ok (.iconst 1, 1) := dk_4 (by decide +kernel)
theorem dX8_tell_19 : decode cX8_tell 19 = .ok (.isub, 1) := dk_100 (by decide +kernel)
theorem dX8_tell_20 : decode cX8_tell 20 = .ok (.iload_n 2, 1) := dk_28 (by decide +kernel)
theorem dX8_tell_21 : decode cX8_tell 21 = .ok (.iastore, 1) := dk_79 (by decide +kernel)
theorem dX8_tell_22 : decode cX8_tell 22 = .ok (.iload_n 1, 1) := dk_27 (by decide +kernel)
theorem dX8_tell_23 : decode cX8_tell 23 = .ok (.istore_n 3, 1) := dk_62 (by decide +kernel)
theorem dX8_tell_24 : decode cX8_tell 24 = .ok (.aload_n 0, 1) := dk_42 (by decide +kernel)
theorem dX8_tell_25 : decode cX8_tell 25 = .ok (.getfield 41, 3) := dk_180 (a := 0) (b := 41) (by decide +kernel) rfl
theorem dX8_tell_28 : decode cX8_tell 28 = .ok (.iconst 2, 1) := dk_5 (by decide +kernel)
theorem dX8_tell_29 : decode cX8_tell 29 = .ok (.isub, 1) := dk_100 (by decide +kernel)
theorem dX8_tell_30 : decode cX8_tell 30 = .ok (.istore 4, 2) := dk_54 (a := 4) (by decide +kernel)
theorem dX8_tell_32 : decode cX8_tell 32 = .ok (.iload 4, 2) := dk_21 (a := 4) (by decide +kernel)
theorem dX8_tell_34 : decode cX8_tell 34 = .ok (.ifCond .lt 50, 3) := dk_155 (a := 0) (b := 50) (by decide +kernel) (by decide +kernel)
theorem dX8_tell_37 : decode cX8_tell 37 = .ok (.iload_n 3, 1) := dk_29 (by decide +kernel)
theorem dX8_tell_38 : decode cX8_tell 38 = .ok (.ifCond .eq 46, 3) := dk_153 (a := 0) (b := 46) (by decide +kernel) (by decide +kernel)
theorem dX8_tell_41 : decode cX8_tell 41 = .ok (.aload_n 0, 1) := dk_42 (by decide +kernel)
theorem dX8_tell_42 : decode cX8_tell 42 = .ok (.getfield 34, 3) := dk_180 (a := 0) (b := 34) (by decide +kernel) rfl
theorem dX8_tell_45 : decode cX8_tell 45 = .ok (.iload_n 3, 1) := dk_29 (by decide +kernel)
theorem dX8_tell_46 : decode cX8_tell 46 = .ok (.iaload, 1) := dk_46 (by decide +kernel)
theorem dX8_tell_47 : decode cX8_tell 47 = .ok (.iconst 1, 1) := dk_4 (by decide +kernel)
theorem dX8_tell_48 : decode cX8_tell 48 = .ok (.isub, 1) := dk_100 (by decide +kernel)
theorem dX8_tell_49 : decode cX8_tell 49 = .ok (.istore 5, 2) := dk_54 (a := 5) (by decide +kernel)
theorem dX8_tell_51 : decode cX8_tell 51 = .ok (.iload 5, 2) := dk_21 (a := 5) (by decide +kernel)
theorem dX8_tell_53 : decode cX8_tell 53 = .ok (.ifCond .ge 4, 3) := dk_156 (a := 0) (b := 4) (by decide +kernel) (by decide +kernel)
theorem dX8_tell_56 : decode cX8_tell 56 = .ok (.return_, 1) := dk_177 (by decide +kernel)
theorem dX8_tell_57 : decode cX8_tell 57 = .ok (.aload_n 0, 1) := dk_42 (by decide +kernel)
theorem dX8_tell_58 : decode cX8_tell 58 = .ok (.getfield 11, 3) := dk_180 (a := 0) (b := 11) (by decide +kernel) rfl
theorem dX8_tell_61 : decode cX8_tell 61 = .ok (.iload 4, 2) := dk_21 (a := 4) (by decide +kernel)
theorem dX8_tell_63 : decode cX8_tell 63 = .ok (.aload_n 0, 1) := dk_42 (by decide +kernel)
theorem dX8_tell_64 : decode cX8_tell 64 = .ok (.getfield 22, 3) := dk_180 (a := 0) (b := 22) (by decide +kernel) rfl
theorem dX8_tell_67 : decode cX8_tell 67 = .ok (.iload 5, 2) := dk_21 (a := 5) (by decide +kernel)
theorem dX8_tell_69 : decode cX8_tell 69 = .ok (.iaload, 1) := dk_46 (by decide +kernel)
theorem dX8_tell_70 : decode cX8_tell 70 = .ok (.iastore, 1) := dk_79 (by decide +kernel)
theorem dX8_tell_71 : decode cX8_tell 71 = .ok (.iload_n 3, 1) := dk_29 (by decide +kernel)
theorem dX8_tell_72 : decode cX8_tell 72 = .ok (.iconst 1, 1) := dk_4 (by decide +kernel)
theorem dX8_tell_73 : decode cX8_tell 73 = .ok (.iload 5, 2) := dk_21 (a := 5) (by decide +kernel)
theorem dX8_tell_75 : decode cX8_tell 75 = .ok (.ishl, 1) := dk_120 (by decide +kernel)
theorem dX8_tell_76 : decode cX8_tell 76 = .ok (.ixor, 1) := dk_130 (by decide +kernel)
theorem dX8_tell_77 : decode cX8_tell 77 = .ok (.istore_n 3, 1) := dk_62 (by decide +kernel)
theorem dX8_tell_78 : decode cX8_tell 78 = .ok (.iinc 4 (-1), 3) := dk_132 (a := 4) (b := 255) (by decide +kernel) (by decide +kernel)
theorem dX8_tell_81 : decode cX8_tell 81 = .ok (.goto (-49), 3) := dk_167 (a := 255) (b := 207) (by decide +kernel) (by decide +kernel)
theorem dX8_tell_84 : decode cX8_tell 84 = .ok (.return_, 1) := dk_177 (by decide +kernel)
theorem dX9_init_0 : decode cX9_init 0 = .ok (.aload_n 0, 1) := dk_42 (by decide +kernel)
theorem dX9_init_1 : decode cX9_init 1 = .ok (.invokespecial 1, 3) := dk_183 (a := 0) (b := 1) (by decide +kernel) rfl
theorem dX9_init_4 : decode cX9_init 4 = .ok (.aload_n 0, 1) := dk_42 (by decide +kernel)
theorem dX9_init_5 : decode cX9_init 5 = .ok (.sipush 1400, 3) := dk_17 (a := 5) (b := 120) (by decide +kernel) (by decide +kernel)
theorem dX9_init_8 : decode cX9_init 8 = .ok (.newarray .byte, 2) := dk_188_8 (by decide +kernel)
theorem dX9_init_10 : decode cX9_init 10 = .ok (.putfield 9, 3) := dk_181 (a := 0) (b := 9) (by decide +kernel) rfl
theorem dX9_init_13 : decode cX9_init 13 = .ok (.aload_n 0, 1) := dk_42 (by decide +kernel)
theorem dX9_init_14 : decode cX9_init 14 = .ok (.new 13, 3) := dk_187 (a := 0) (b := 13) (by decide +kernel) rfl
theorem dX9_init_17 : decode cX9_init 17 = .ok (.dup, 1) := dk_89 (by decide +kernel)
theorem dX9_init_18 : decode cX9_init 18 = .ok (.invokespecial 15, 3) := dk_183 (a := 0) (b := 15) (by decide +kernel) rfl
theorem dX9_init_21 : decode cX9_init 21 = .ok (.putfield 16, 3) := dk_181 (a := 0) (b := 16) (by decide +kernel) rfl
theorem dX9_init_24 : decode cX9_init 24 = .ok (.aload_n 0, 1) := dk_42 (by decide +kernel)
theorem dX9_init_25 : decode cX9_init 25 = .ok (.new 20, 3) := dk_187 (a := 0) (b := 20) (by decide +kernel) rfl
theorem dX9_init_28 : decode cX9_init 28 = .ok (.dup, 1) := dk_89 (by decide +kernel)
theorem dX9_init_29 : decode cX9_init 29 = .ok (.invokespecial 22, 3) := dk_183 (a := 0) (b := 22) (by decide +kernel) rfl
theorem dX9_init_32 : decode cX9_init 32 = .ok (.putfield 23, 3) := dk_181 (a := 0) (b := 23) (by decide +kernel) rfl
theorem dX9_init_35 : decode cX9_init 35 = .ok (.aload_n 0, 1) := dk_42 (by decide +kernel)
theorem dX9_init_36 : decode cX9_init 36 = .ok (.iconst 3, 1) := dk_6 (by decide +kernel)
theorem dX9_init_37 : decode cX9_init 37 = .ok (.anewarray 20, 3) := dk_189 (a := 0) (b := 20) (by decide +kernel) rfl
theorem dX9_init_40 : decode cX9_init 40 = .ok (.putfield 27, 3) := dk_181 (a := 0) (b := 27) (by decide +kernel) rfl
theorem dX9_init_43 : decode cX9_init 43 = .ok (.aload_n 0, 1) := dk_42 (by decide +kernel)
theorem dX9_init_44 : decode cX9_init 44 = .ok (.iconst 4, 1) := dk_7 (by decide +kernel)
theorem dX9_init_45 : decode cX9_init 45 = .ok (.anewarray 31, 3) := dk_189 (a := 0) (b := 31) (by decide +kernel) rfl
theorem dX9_init_48 : decode cX9_init 48 = .ok (.putfield 33, 3) := dk_181 (a := 0) (b := 33) (by decide +kernel) rfl
theorem dX9_init_51 : decode cX9_init 51 = .ok (.aload_n 0, 1) := dk_42 (by decide +kernel)
theorem dX9_init_52 : decode cX9_init 52 = .ok (.new 37, 3) := dk_187 (a := 0) (b := 37) (by decide +kernel) rfl
theorem dX9_init_55 : decode cX9_init 55 = .ok (.dup, 1) := dk_89 (by decide +kernel)
theorem dX9_init_56 : decode cX9_init 56 = .ok (.invokespecial 39, 3) := dk_183 (a := 0) (b := 39) (by decide +kernel) rfl
theorem dX9_init_59 : decode cX9_init 59 = .ok (.putfield 40, 3) := dk_181 (a := 0) (b := 40) (by decide +kernel) rfl
theorem dX9_init_62 : decode cX9_init 62 = .ok (.aload_n 0, 1) := dk_42 (by decide +kernel)
theorem dX9_init_63 : decode cX9_init 63 = .ok (.new 44, 3) := dk_187 (a := 0) (b := 44) (by decide +kernel) rfl
theorem dX9_init_66 : decode cX9_init 66 = .ok (.dup, 1) := dk_89 (by decide +kernel)
theorem dX9_init_67 : decode cX9_init 67 = .ok (.invokespecial 46, 3) := dk_183 (a := 0) (b := 46) (by decide +kernel) rfl
theorem dX9_init_70 : decode cX9_init 70 = .ok (.putfield 47, 3) := dk_181 (a := 0) (b := 47) (by decide +kernel) rfl
theorem dX9_init_73 : decode cX9_init 73 = .ok (.aload_n 0, 1) := dk_42 (by decide +kernel)
theorem dX9_init_74 : decode cX9_init 74 = .ok (.new 51, 3) := dk_187 (a := 0) (b := 51) (by decide +kernel) rfl
theorem dX9_init_77 : decode cX9_init 77 = .ok (.dup, 1) := dk_89 (by decide +kernel)
theorem dX9_init_78 : decode cX9_init 78 = .ok (.invokespecial 53, 3) := dk_183 (a := 0) (b := 53) (by decide +kernel) rfl
theorem dX9_init_81 : decode cX9_init 81 = .ok (.putfield 54, 3) := dk_181 (a := 0) (b := 54) (by decide +kernel) rfl
theorem dX9_init_84 : decode cX9_init 84 = .ok (.aload_n 0, 1) := dk_42 (by decide +kernel)
theorem dX9_init_85 : decode cX9_init 85 = .ok (.bipush 16, 2) := dk_16 (a := 16) (by decide +kernel) (by decide +kernel)
theorem dX9_init_87 : decode cX9_init 87 = .ok (.newarray .int, 2) := dk_188_10 (by decide +kernel)
theorem dX9_init_89 : decode cX9_init 89 = .ok (.putfield 58, 3) := dk_181 (a := 0) (b := 58) (by decide +kernel) rfl
theorem dX9_init_92 : decode cX9_init 92 = .ok (.iconst 0, 1) := dk_3 (by decide +kernel)
theorem dX9_init_93 : decode cX9_init 93 = .ok (.istore_n 1, 1) := dk_60 (by decide +kernel)
theorem dX9_init_94 : decode cX9_init 94 = .ok (.iload_n 1, 1) := dk_27 (by decide +kernel)
theorem dX9_init_95 : decode cX9_init 95 = .ok (.iconst 4, 1) := dk_7 (by decide +kernel)
theorem dX9_init_96 : decode cX9_init 96 = .ok (.if_icmp .ge 22, 3) := dk_162 (a := 0) (b := 22) (by decide +kernel) (by decide +kernel)
theorem dX9_init_99 : decode cX9_init 99 = .ok (.aload_n 0, 1) := dk_42 (by decide +kernel)
theorem dX9_init_100 : decode cX9_init 100 = .ok (.getfield 33, 3) := dk_180 (a := 0) (b := 33) (by decide +kernel) rfl
theorem dX9_init_103 : decode cX9_init 103 = .ok (.iload_n 1, 1) := dk_27 (by decide +kernel)
theorem dX9_init_104 : decode cX9_init 104 = .ok (.new 31, 3) := dk_187 (a := 0) (b := 31) (by decide +kernel) rfl
theorem dX9_init_107 : decode cX9_init 107 = .ok (.dup, 1) := dk_89 (by decide +kernel)
theorem dX9_init_108 : decode cX9_init 108 = .ok (.invokespecial 62, 3) := dk_183 (a := 0) (b := 62) (by decide +kernel) rfl
theorem dX9_init_111 : decode cX9_init 111 = .ok (.aastore, 1) := dk_83 (by decide +kernel)
theorem dX9_init_112 : decode cX9_init 112 = .ok (.iinc 1 1, 3) := dk_132 (a := 1) (b := 1) (by decide +kernel) (by decide +kernel)
theorem dX9_init_115 : decode cX9_init 115 = .ok (.goto (-21), 3) := dk_167 (a := 255) (b := 235) (by decide +kernel) (by decide +kernel)
theorem dX9_init_118 : decode cX9_init 118 = .ok (.return_, 1) := dk_177 (by decide +kernel)
theorem dX9_feed_0 : decode cX9_feed 0 = .ok (.aload_n 0, 1) := dk_42 (by decide +kernel)
theorem dX9_feed_1 : decode cX9_feed 1 = .ok (.getfield 63, 3) := dk_180 (a := 0) (b := 63) (by decide +kernel) rfl
theorem dX9_feed_4 : decode cX9_feed 4 = .ok (.bipush 20, 2) := dk_16 (a := 20) (by decide +kernel) (by decide +kernel)
theorem dX9_feed_6 : decode cX9_feed 6 = .ok (.iadd, 1) := dk_96 (by decide +kernel)
theorem dX9_feed_7 : decode cX9_feed 7 = .ok (.sipush 1400, 3) := dk_17 (a := 5) (b := 120) (by decide +kernel) (by decide +kernel)
theorem dX9_feed_10 : decode cX9_feed 10 = .ok (.if_icmp .le 5, 3) := dk_164 (a := 0) (b := 5) (by decide +kernel) (by decide +kernel)
theorem dX9_feed_13 : decode cX9_feed 13 = .ok (.iconst (-1), 1) := dk_2 (by decide +kernel)
theorem dX9_feed_14 : decode cX9_feed 14 = .ok (.ireturn, 1) := dk_172 (by decide +kernel)
theorem dX9_feed_15 : decode cX9_feed 15 = .ok (.aload_n 0, 1) := dk_42 (by decide +kernel)
theorem dX9_feed_16 : decode cX9_feed 16 = .ok (.iload_n 1, 1) := dk_27 (by decide +kernel)
theorem dX9_feed_17 : decode cX9_feed 17 = .ok (.invokevirtual 67, 3) := dk_182 (a := 0) (b := 67) (by decide +kernel) rfl
theorem dX9_feed_20 : decode cX9_feed 20 = .ok (.aload_n 0, 1) := dk_42 (by decide +kernel)
theorem dX9_feed_21 : decode cX9_feed 21 = .ok (.iload_n 2, 1) := dk_28 (by decide +kernel)
theorem dX9_feed_22 : decode cX9_feed 22 = .ok (.invokevirtual 67, 3) := dk_182 (a := 0) (b := 67) (by decide +kernel) rfl
theorem dX9_feed_25 : decode cX9_feed 25 = .ok (.aload_n 0, 1) := dk_42 (by decide +kernel)
theorem dX9_feed_26 : decode cX9_feed 26 = .ok (.iload_n 3, 1) := dk_29 (by decide +kernel)
theorem dX9_feed_27 : decode cX9_feed 27 = .ok (.invokevirtual 67, 3) := dk_182 (a := 0) (b := 67) (by decide +kernel) rfl
theorem dX9_feed_30 : decode cX9_feed 30 = .ok (.aload_n 0, 1) := dk_42 (by decide +kernel)
theorem dX9_feed_31 : decode cX9_feed 31 = .ok (.iload 4, 2) := dk_21 (a := 4) (by decide +kernel)
theorem dX9_feed_33 : decode cX9_feed 33 = .ok (.invokevirtual 67, 3) := dk_182 (a := 0) (b := 67) (by decide +kernel) rfl
theorem dX9_feed_36 : decode cX9_feed 36 = .ok (.aload_n 0, 1) := dk_42 (by decide +kernel)
theorem dX9_feed_37 : decode cX9_feed 37 = .ok (.iload 5, 2) := dk_21 (a := 5) (by decide +kernel)
theorem dX9_feed_39 : decode cX9_feed 39 = .ok (.invokevirtual 67, 3) := dk_182 (a := 0) (b := 67) (by decide +kernel) rfl
theorem dX9_feed_42 : decode cX9_feed 42 = .ok (.aload_n 0, 1) := dk_42 (by decide +kernel)
theorem dX9_feed_43 : decode cX9_feed 43 = .ok (.getfield 63, 3) := dk_180 (a := 0) (b := 63) (by decide +kernel) rfl
theorem dX9_feed_46 : decode cX9_feed 46 = .ok (.ireturn, 1) := dk_172 (by decide +kernel)
theorem dX9_end_0 : decode cX9_end 0 = .ok (.iload_n 1, 1) := dk_27 (by decide +kernel)
theorem dX9_end_1 : decode cX9_end 1 = .ok (.ifCond .lt 11, 3) := dk_155 (a := 0) (b := 11) (by decide +kernel) (by decide +kernel)
theorem dX9_end_4 : decode cX9_end 4 = .ok (.iload_n 1, 1) := dk_27 (by decide +kernel)
theorem dX9_end_5 : decode cX9_end 5 = .ok (.aload_n 0, 1) := dk_42 (by decide +kernel)
theorem dX9_end_6 : decode cX9_end 6 = .ok (.getfield 63, 3) := dk_180 (a := 0) (b := 63) (by decide +kernel) rfl
theorem dX9_end_9 : decode cX9_end 9 = .ok (.if_icmp .le 5, 3) := dk_164 (a := 0) (b := 5) (by decide +kernel) (by decide +kernel)
theorem dX9_end_12 : decode cX9_end 12 = .ok (.iconst (-1), 1) := dk_2 (by decide +kernel)
theorem dX9_end_13 : decode cX9_end 13 = .ok (.ireturn, 1) := dk_172 (by decide +kernel)
theorem dX9_end_14 : decode cX9_end 14 = .ok (.aload_n 0, 1) := dk_42 (by decide +kernel)
theorem dX9_end_15 : decode cX9_end 15 = .ok (.iload_n 1, 1) := dk_27 (by decide +kernel)
theorem dX9_end_16 : decode cX9_end 16 = .ok (.putfield 63, 3) := dk_181 (a := 0) (b := 63) (by decide +kernel) rfl
theorem dX9_end_19 : decode cX9_end 19 = .ok (.iload_n 1, 1) := dk_27 (by decide +kernel)
theorem dX9_end_20 : decode cX9_end 20 = .ok (.ireturn, 1) := dk_172 (by decide +kernel)
theorem dX9_town_0 : decode cX9_town 0 = .ok (.aload_n 0, 1) := dk_42 (by decide +kernel)
theorem dX9_town_1 : decode cX9_town 1 = .ok (.getfield 16, 3) := dk_180 (a := 0) (b := 16) (by decide +kernel) rfl
theorem dX9_town_4 : decode cX9_town 4 = .ok (.aload_n 0, 1) := dk_42 (by decide +kernel)
theorem dX9_town_5 : decode cX9_town 5 = .ok (.getfield 9, 3) := dk_180 (a := 0) (b := 9) (by decide +kernel) rfl
theorem dX9_town_8 : decode cX9_town 8 = .ok (.aload_n 0, 1) := dk_42 (by decide +kernel)
theorem dX9_town_9 : decode cX9_town 9 = .ok (.getfield 63, 3) := dk_180 (a := 0) (b := 63) (by decide +kernel) rfl
theorem dX9_town_12 : decode cX9_town 12 = .ok (.invokevirtual 71, 3) := dk_182 (a := 0) (b := 71) (by decide +kernel) rfl
theorem dX9_town_15 : decode cX9_town 15 = .ok (.aload_n 0, 1) := dk_42 (by decide +kernel)
theorem dX9_town_16 : decode cX9_town 16 = .ok (.iconst 0, 1) := dk_3 (by decide +kernel)
theorem dX9_town_17 : decode cX9_town 17 = .ok (.putfield 63, 3) := dk_181 (a := 0) (b := 63) (by decide +kernel) rfl
theorem dX9_town_20 : decode cX9_town 20 = .ok (.aload_n 0, 1) := dk_42 (by decide +kernel)
theorem dX9_town_21 : decode cX9_town 21 = .ok (.getfield 16, 3) := dk_180 (a := 0) (b := 16) (by decide +kernel) rfl
theorem dX9_town_24 : decode cX9_town 24 = .ok (.getfield 75, 3) := dk_180 (a := 0) (b := 75) (by decide +kernel) rfl
theorem dX9_town_27 : decode cX9_town 27 = .ok (.ifCond .eq 6, 3) := dk_153 (a := 0) (b := 6) (by decide +kernel) (by decide +kernel)
theorem dX9_town_30 : decode cX9_town 30 = .ok (.bipush (-4), 2) := dk_16 (a := 252) (by decide +kernel) (by decide +kernel)
theorem dX9_town_32 : decode cX9_town 32 = .ok (.ireturn, 1) := dk_172 (by decide +kernel)
theorem dX9_town_33 : decode cX9_town 33 = .ok (.aload_n 0, 1) := dk_42 (by decide +kernel)
theorem dX9_town_34 : decode cX9_town 34 = .ok (.getfield 23, 3) := dk_180 (a := 0) (b := 23) (by decide +kernel) rfl
theorem dX9_town_37 : decode cX9_town 37 = .ok (.aload_n 0, 1) := dk_42 (by decide +kernel)
theorem dX9_town_38 : decode cX9_town 38 = .ok (.getfield 16, 3) := dk_180 (a := 0) (b := 16) (by decide +kernel) rfl
theorem dX9_town_41 : decode cX9_town 41 = .ok (.getfield 78, 3) := dk_180 (a := 0) (b := 78) (by decide +kernel) rfl
theorem dX9_town_44 : decode cX9_town 44 = .ok (.aload_n 0, 1) := dk_42 (by decide +kernel)
theorem dX9_town_45 : decode cX9_town 45 = .ok (.getfield 16, 3) := dk_180 (a := 0) (b := 16) (by decide +kernel) rfl
theorem dX9_town_48 : decode cX9_town 48 = .ok (.getfield 82, 3) := dk_180 (a := 0) (b := 82) (by decide +kernel) rfl
theorem dX9_town_51 : decode cX9_town 51 = .ok (.invokevirtual 86, 3) := dk_182 (a := 0) (b := 86) (by decide +kernel) rfl
theorem dX9_town_54 : decode cX9_town 54 = .ok (.aload_n 0, 1) := dk_42 (by decide +kernel)
theorem dX9_town_55 : decode cX9_town 55 = .ok (.invokevirtual 90, 3) := dk_182 (a := 0) (b := 90) (by decide +kernel) rfl
theorem dX9_town_58 : decode cX9_town 58 = .ok (.aload_n 0, 1) := dk_42 (by decide +kernel)
theorem dX9_town_59 : decode cX9_town 59 = .ok (.getfield 23, 3) := dk_180 (a := 0) (b := 23) (by decide +kernel) rfl
theorem dX9_town_62 : decode cX9_town 62 = .ok (.getfield 93, 3) := dk_180 (a := 0) (b := 93) (by decide +kernel) rfl
theorem dX9_town_65 : decode cX9_town 65 = .ok (.getfield 94, 3) := dk_180 (a := 0) (b := 94) (by decide +kernel) rfl
theorem dX9_town_68 : decode cX9_town 68 = .ok (.ireturn, 1) := dk_172 (by decide +kernel)
theorem dX9_fault_0 : decode cX9_fault 0 = .ok (.iload_n 1, 1) := dk_27 (by decide +kernel)
theorem dX9_fault_1 : decode cX9_fault 1 = .ok (.ifCond .ne 11, 3) := dk_154 (a := 0) (b := 11) (by decide +kernel) (by decide +kernel)
theorem dX9_fault_4 : decode cX9_fault 4 = .ok (.aload_n 0, 1) := dk_42 (by decide +kernel)
theorem dX9_fault_5 : decode cX9_fault 5 = .ok (.getfield 16, 3) := dk_180 (a := 0) (b := 16) (by decide +kernel) rfl
theorem dX9_fault_8 : decode cX9_fault 8 = .ok (.getfield 75, 3) := dk_180 (a := 0) (b := 75) (by decide +kernel) rfl
theorem dX9_fault_11 : decode cX9_fault 11 = .ok (.ireturn, 1) := dk_172 (by decide +kernel)
theorem dX9_fault_12 : decode cX9_fault 12 = .ok (.iload_n 1, 1) := dk_27 (by decide +kernel)
theorem dX9_fault_13 : decode cX9_fault 13 = .ok (.iconst 1, 1) := dk_4 (by decide +kernel)
theorem dX9_fault_14 : decode cX9_fault 14 = .ok (.if_icmp .ne 13, 3) := dk_160 (a := 0) (b := 13) (by decide +kernel) (by decide +kernel)
theorem dX9_fault_17 : decode cX9_fault 17 = .ok (.aload_n 0, 1) := dk_42 (by decide +kernel)
theorem dX9_fault_18 : decode cX9_fault 18 = .ok (.getfield 16, 3) := dk_180 (a := 0) (b := 16) (by decide +kernel) rfl
theorem dX9_fault_21 : decode cX9_fault 21 = .ok (.getfield 99, 3) := dk_180 (a := 0) (b := 99) (by decide +kernel) rfl
theorem dX9_fault_24 : decode cX9_fault 24 = .ok (.goto 4, 3) := dk_167 (a := 0) (b := 4) (by decide +kernel) (by decide +kernel)
theorem dX9_fault_27 : decode cX9_fault 27 = .ok (.iconst (-1), 1) := dk_2 (by decide +kernel)
theorem dX9_fault_28 : decode cX9_fault 28 = .ok (.ireturn, 1) := dk_172 (by decide +kernel)
theorem dX9_days_0 : decode cX9_days 0 = .ok (.iload_n 1, 1) := dk_27 (by decide +kernel)
theorem dX9_days_1 : decode cX9_days 1 = .ok (.ifCond .lt 24, 3) := dk_155 (a := 0) (b := 24) (by decide +kernel) (by decide +kernel)
theorem dX9_days_4 : decode cX9_days 4 = .ok (.iload_n 1, 1) := dk_27 (by decide +kernel)
theorem dX9_days_5 : decode cX9_days 5 = .ok (.bipush 60, 2) := dk_16 (a := 60) (by decide +kernel) (by decide +kernel)
theorem dX9_days_7 : decode cX9_days 7 = .ok (.if_icmp .gt 18, 3) := dk_163 (a := 0) (b := 18) (by decide +kernel) (by decide +kernel)
theorem dX9_days_10 : decode cX9_days 10 = .ok (.aload_n 0, 1) := dk_42 (by decide +kernel)
theorem dX9_days_11 : decode cX9_days 11 = .ok (.getfield 23, 3) := dk_180 (a := 0) (b := 23) (by decide +kernel) rfl
theorem dX9_days_14 : decode cX9_days 14 = .ok (.getfield 102, 3) := dk_180 (a := 0) (b := 102) (by decide +kernel) rfl
theorem dX9_days_17 : decode cX9_days 17 = .ok (.iload_n 1, 1) := dk_27 (by decide +kernel)
theorem dX9_days_18 : decode cX9_days 18 = .ok (.iadd, 1) := dk_96 (by decide +kernel)
theorem dX9_days_19 : decode cX9_days 19 = .ok (.sipush 399, 3) := dk_17 (a := 1) (b := 143) (by decide +kernel) (by decide +kernel)
theorem dX9_days_22 : decode cX9_days 22 = .ok (.if_icmp .le 6, 3) := dk_164 (a := 0) (b := 6) (by decide +kernel) (by decide +kernel)
theorem dX9_days_25 : decode cX9_days 25 = .ok (.bipush (-2), 2) := dk_16 (a := 254) (by decide +kernel) (by decide +kernel)
theorem dX9_days_27 : decode cX9_days 27 = .ok (.ireturn, 1) := dk_172 (by decide +kernel)
theorem dX9_days_28 : decode cX9_days 28 = .ok (.aload_n 0, 1) := dk_42 (by decide +kernel)
theorem dX9_days_29 : decode cX9_days 29 = .ok (.getfield 23, 3) := dk_180 (a := 0) (b := 23) (by decide +kernel) rfl
theorem dX9_days_32 : decode cX9_days 32 = .ok (.dup, 1) := dk_89 (by decide +kernel)
theorem dX9_days_33 : decode cX9_days 33 = .ok (.getfield 102, 3) := dk_180 (a := 0) (b := 102) (by decide +kernel) rfl
theorem dX9_days_36 : decode cX9_days 36 = .ok (.iload_n 1, 1) := dk_27 (by decide +kernel)
theorem dX9_days_37 : decode cX9_days 37 = .ok (.iadd, 1) := dk_96 (by decide +kernel)
theorem dX9_days_38 : decode cX9_days 38 = .ok (.putfield 102, 3) := dk_181 (a := 0) (b := 102) (by decide +kernel) rfl
theorem dX9_days_41 : decode cX9_days 41 = .ok (.aload_n 0, 1) := dk_42 (by decide +kernel)
theorem dX9_days_42 : decode cX9_days 42 = .ok (.invokevirtual 90, 3) := dk_182 (a := 0) (b := 90) (by decide +kernel) rfl
theorem dX9_days_45 : decode cX9_days 45 = .ok (.aload_n 0, 1) := dk_42 (by decide +kernel)
theorem dX9_days_46 : decode cX9_days 46 = .ok (.getfield 23, 3) := dk_180 (a := 0) (b := 23) (by decide +kernel) rfl
theorem dX9_days_49 : decode cX9_days 49 = .ok (.getfield 102, 3) := dk_180 (a := 0) (b := 102) (by decide +kernel) rfl
theorem dX9_days_52 : decode cX9_days 52 = .ok (.ireturn, 1) := dk_172 (by decide +kernel)
theorem dX9_bars_0 : decode cX9_bars 0 = .ok (.aload_n 0, 1) := dk_42 (by decide +kernel)
theorem dX9_bars_1 : decode cX9_bars 1 = .ok (.iload_n 1, 1) := dk_27 (by decide +kernel)
theorem dX9_bars_2 : decode cX9_bars 2 = .ok (.iload_n 2, 1) := dk_28 (by decide +kernel)
theorem dX9_bars_3 : decode cX9_bars 3 = .ok (.iload_n 3, 1) := dk_29 (by decide +kernel)
theorem dX9_bars_4 : decode cX9_bars 4 = .ok (.invokevirtual 105, 3) := dk_182 (a := 0) (b := 105) (by decide +kernel) rfl
theorem dX9_bars_7 : decode cX9_bars 7 = .ok (.ifCond .eq 16, 3) := dk_153 (a := 0) (b := 16) (by decide +kernel) (by decide +kernel)
theorem dX9_bars_10 : decode cX9_bars 10 = .ok (.aload_n 0, 1) := dk_42 (by decide +kernel)
theorem dX9_bars_11 : decode cX9_bars 11 = .ok (.getfield 23, 3) := dk_180 (a := 0) (b := 23) (by decide +kernel) rfl
theorem dX9_bars_14 : decode cX9_bars 14 = .ok (.iload_n 1, 1) := dk_27 (by decide +kernel)
theorem dX9_bars_15 : decode cX9_bars 15 = .ok (.iload_n 2, 1) := dk_28 (by decide +kernel)
theorem dX9_bars_16 : decode cX9_bars 16 = .ok (.iload_n 3, 1) := dk_29 (by decide +kernel)
theorem dX9_bars_17 : decode cX9_bars 17 = .ok (.invokevirtual 109, 3) := dk_182 (a := 0) (b := 109) (by decide +kernel) rfl
theorem dX9_bars_20 : decode cX9_bars 20 = .ok (.goto 5, 3) := dk_167 (a := 0) (b := 5) (by decide +kernel) (by decide +kernel)
theorem dX9_bars_23 : decode cX9_bars 23 = .ok (.bipush (-2), 2) := dk_16 (a := 254) (by decide +kernel) (by decide +kernel)
theorem dX9_bars_25 : decode cX9_bars 25 = .ok (.ireturn, 1) := dk_172 (by decide +kernel)
theorem dX9_does_0 : decode cX9_does 0 = .ok (.aload_n 0, 1) := dk_42 (by decide +kernel)
theorem dX9_does_1 : decode cX9_does 1 = .ok (.iload_n 1, 1) := dk_27 (by decide +kernel)
theorem dX9_does_2 : decode cX9_does 2 = .ok (.iload_n 2, 1) := dk_28 (by decide +kernel)
theorem dX9_does_3 : decode cX9_does 3 = .ok (.iload_n 3, 1) := dk_29 (by decide +kernel)
theorem dX9_does_4 : decode cX9_does 4 = .ok (.invokevirtual 105, 3) := dk_182 (a := 0) (b := 105) (by decide +kernel) rfl
theorem dX9_does_7 : decode cX9_does 7 = .ok (.ifCond .ne 6, 3) := dk_154 (a := 0) (b := 6) (by decide +kernel) (by decide +kernel)
theorem dX9_does_10 : decode cX9_does 10 = .ok (.bipush (-2), 2) := dk_16 (a := 254) (by decide +kernel) (by decide +kernel)
theorem dX9_does_12 : decode cX9_does 12 = .ok (.ireturn, 1) := dk_172 (by decide +kernel)
theorem dX9_does_13 : decode cX9_does 13 = .ok (.aload_n 0, 1) := dk_42 (by decide +kernel)
theorem dX9_does_14 : decode cX9_does 14 = .ok (.getfield 23, 3) := dk_180 (a := 0) (b := 23) (by decide +kernel) rfl
theorem dX9_does_17 : decode cX9_does 17 = .ok (.iload_n 1, 1) := dk_27 (by decide +kernel)
theorem dX9_does_18 : decode cX9_does 18 = .ok (.iload_n 2, 1) := dk_28 (by decide +kernel)
theorem dX9_does_19 : decode cX9_does 19 = .ok (.iload_n 3, 1) := dk_29 (by decide +kernel)
theorem dX9_does_20 : decode cX9_does 20 = .ok (.invokevirtual 109, 3) := dk_182 (a := 0) (b := 109) (by decide +kernel) rfl
theorem dX9_does_23 : decode cX9_does 23 = .ok (.ifCond .eq 6, 3) := dk_153 (a := 0) (b := 6) (by decide +kernel) (by decide +kernel)
theorem dX9_does_26 : decode cX9_does 26 = .ok (.bipush (-5), 2) := dk_16 (a := 251) (by decide +kernel) (by decide +kernel)
theorem dX9_does_28 : decode cX9_does 28 = .ok (.ireturn, 1) := dk_172 (by decide +kernel)
theorem dX9_does_29 : decode cX9_does 29 = .ok (.aload_n 0, 1) := dk_42 (by decide +kernel)
theorem dX9_does_30 : decode cX9_does 30 = .ok (.getfield 23, 3) := dk_180 (a := 0) (b := 23) (by decide +kernel) rfl
theorem dX9_does_33 : decode cX9_does 33 = .ok (.getfield 113, 3) := dk_180 (a := 0) (b := 113) (by decide +kernel) rfl
theorem dX9_does_36 : decode cX9_does 36 = .ok (.invokevirtual 117, 3) := dk_182 (a := 0) (b := 117) (by decide +kernel) rfl
theorem dX9_does_39 : decode cX9_does 39 = .ok (.ifCond .eq 6, 3) := dk_153 (a := 0) (b := 6) (by decide +kernel) (by decide +kernel)
theorem dX9_does_42 : decode cX9_does 42 = .ok (.bipush (-3), 2) := dk_16 (a := 253) (by decide +kernel) (by decide +kernel)
theorem dX9_does_44 : decode cX9_does 44 = .ok (.ireturn, 1) := dk_172 (by decide +kernel)
theorem dX9_does_45 : decode cX9_does 45 = .ok (.aload_n 0, 1) := dk_42 (by decide +kernel)
theorem dX9_does_46 : decode cX9_does 46 = .ok (.invokevirtual 90, 3) := dk_182 (a := 0) (b := 90) (by decide +kernel) rfl
theorem dX9_does_49 : decode cX9_does 49 = .ok (.aload_n 0, 1) := dk_42 (by decide +kernel)
theorem dX9_does_50 : decode cX9_does 50 = .ok (.getfield 23, 3) := dk_180 (a := 0) (b := 23) (by decide +kernel) rfl
theorem dX9_does_53 : decode cX9_does 53 = .ok (.iload_n 1, 1) := dk_27 (by decide +kernel)
theorem dX9_does_54 : decode cX9_does 54 = .ok (.iload_n 2, 1) := dk_28 (by decide +kernel)
theorem dX9_does_55 : decode cX9_does 55 = .ok (.iload_n 3, 1) := dk_29 (by decide +kernel)
theorem dX9_does_56 : decode cX9_does 56 = .ok (.invokevirtual 123, 3) := dk_182 (a := 0) (b := 123) (by decide +kernel) rfl
theorem dX9_does_59 : decode cX9_does 59 = .ok (.ireturn, 1) := dk_172 (by decide +kernel)
theorem dX9_meet_0 : decode cX9_meet 0 = .ok (.aload_n 0, 1) := dk_42 (by decide +kernel)
theorem dX9_meet_1 : decode cX9_meet 1 = .ok (.getfield 23, 3) := dk_180 (a := 0) (b := 23) (by decide +kernel) rfl
theorem dX9_meet_4 : decode cX9_meet 4 = .ok (.getfield 93, 3) := dk_180 (a := 0) (b := 93) (by decide +kernel) rfl
theorem dX9_meet_7 : decode cX9_meet 7 = .ok (.iload_n 1, 1) := dk_27 (by decide +kernel)
theorem dX9_meet_8 : decode cX9_meet 8 = .ok (.iload_n 2, 1) := dk_28 (by decide +kernel)
theorem dX9_meet_9 : decode cX9_meet 9 = .ok (.invokevirtual 126, 3) := dk_182 (a := 0) (b := 126) (by decide +kernel) rfl
theorem dX9_meet_12 : decode cX9_meet 12 = .ok (.ifCond .ne 6, 3) := dk_154 (a := 0) (b := 6) (by decide +kernel) (by decide +kernel)
theorem dX9_meet_15 : decode cX9_meet 15 = .ok (.bipush (-2), 2) := dk_16 (a := 254) (by decide +kernel) (by decide +kernel)
theorem dX9_meet_17 : decode cX9_meet 17 = .ok (.ireturn, 1) := dk_172 (by decide +kernel)
theorem dX9_meet_18 : decode cX9_meet 18 = .ok (.aload_n 0, 1) := dk_42 (by decide +kernel)
theorem dX9_meet_19 : decode cX9_meet 19 = .ok (.getfield 23, 3) := dk_180 (a := 0) (b := 23) (by decide +kernel) rfl
theorem dX9_meet_22 : decode cX9_meet 22 = .ok (.getfield 113, 3) := dk_180 (a := 0) (b := 113) (by decide +kernel) rfl
theorem dX9_meet_25 : decode cX9_meet 25 = .ok (.invokevirtual 117, 3) := dk_182 (a := 0) (b := 117) (by decide +kernel) rfl
theorem dX9_meet_28 : decode cX9_meet 28 = .ok (.ifCond .eq 6, 3) := dk_153 (a := 0) (b := 6) (by decide +kernel) (by decide +kernel)
theorem dX9_meet_31 : decode cX9_meet 31 = .ok (.bipush (-3), 2) := dk_16 (a := 253) (by decide +kernel) (by decide +kernel)
theorem dX9_meet_33 : decode cX9_meet 33 = .ok (.ireturn, 1) := dk_172 (by decide +kernel)
theorem dX9_meet_34 : decode cX9_meet 34 = .ok (.aload_n 0, 1) := dk_42 (by decide +kernel)
theorem dX9_meet_35 : decode cX9_meet 35 = .ok (.invokevirtual 90, 3) := dk_182 (a := 0) (b := 90) (by decide +kernel) rfl
theorem dX9_meet_38 : decode cX9_meet 38 = .ok (.aload_n 0, 1) := dk_42 (by decide +kernel)
theorem dX9_meet_39 : decode cX9_meet 39 = .ok (.getfield 23, 3) := dk_180 (a := 0) (b := 23) (by decide +kernel) rfl
theorem dX9_meet_42 : decode cX9_meet 42 = .ok (.iload_n 1, 1) := dk_27 (by decide +kernel)
theorem dX9_meet_43 : decode cX9_meet 43 = .ok (.iload_n 2, 1) := dk_28 (by decide +kernel)
theorem dX9_meet_44 : decode cX9_meet 44 = .ok (.invokevirtual 130, 3) := dk_182 (a := 0) (b := 130) (by decide +kernel) rfl
theorem dX9_meet_47 : decode cX9_meet 47 = .ok (.ireturn, 1) := dk_172 (by decide +kernel)
theorem dX9_done_0 : decode cX9_done 0 = .ok (.iload_n 1, 1) := dk_27 (by decide +kernel)
theorem dX9_done_1 : decode cX9_done 1 = .ok (.invokestatic 134, 3) := dk_184 (a := 0) (b := 134) (by decide +kernel) rfl
theorem dX9_done_4 : decode cX9_done 4 = .ok (.ifCond .ne 6, 3) := dk_154 (a := 0) (b := 6) (by decide +kernel) (by decide +kernel)
theorem dX9_done_7 : decode cX9_done 7 = .ok (.bipush (-2), 2) := dk_16 (a := 254) (by decide +kernel) (by decide +kernel)
theorem dX9_done_9 : decode cX9_done 9 = .ok (.ireturn, 1) := dk_172 (by decide +kernel)
theorem dX9_done_10 : decode cX9_done 10 = .ok (.aload_n 0, 1) := dk_42 (by decide +kernel)
theorem dX9_done_11 : decode cX9_done 11 = .ok (.getfield 33, 3) := dk_180 (a := 0) (b := 33) (by decide +kernel) rfl
theorem dX9_done_14 : decode cX9_done 14 = .ok (.iload_n 1, 1) := dk_27 (by decide +kernel)
theorem dX9_done_15 : decode cX9_done 15 = .ok (.aaload, 1) := dk_50 (by decide +kernel)
theorem dX9_done_16 : decode cX9_done 16 = .ok (.astore_n 2, 1) := dk_77 (by decide +kernel)
theorem dX9_done_17 : decode cX9_done 17 = .ok (.aload_n 2, 1) := dk_44 (by decide +kernel)
theorem dX9_done_18 : decode cX9_done 18 = .ok (.getfield 138, 3) := dk_180 (a := 0) (b := 138) (by decide +kernel) rfl
theorem dX9_done_21 : decode cX9_done 21 = .ok (.ifCond .ne 6, 3) := dk_154 (a := 0) (b := 6) (by decide +kernel) (by decide +kernel)
theorem dX9_done_24 : decode cX9_done 24 = .ok (.bipush (-6), 2) := dk_16 (a := 250) (by decide +kernel) (by decide +kernel)
theorem dX9_done_26 : decode cX9_done 26 = .ok (.ireturn, 1) := dk_172 (by decide +kernel)
theorem dX9_done_27 : decode cX9_done 27 = .ok (.iconst 0, 1) := dk_3 (by decide +kernel)
theorem dX9_done_28 : decode cX9_done 28 = .ok (.istore_n 3, 1) := dk_62 (by decide +kernel)
theorem dX9_done_29 : decode cX9_done 29 = .ok (.iconst 0, 1) := dk_3 (by decide +kernel)
theorem dX9_done_30 : decode cX9_done 30 = .ok (.istore 4, 2) := dk_54 (a := 4) (by decide +kernel)
theorem dX9_done_32 : decode cX9_done 32 = .ok (.iload 4, 2) := dk_21 (a := 4) (by decide +kernel)
theorem dX9_done_34 : decode cX9_done 34 = .ok (.iconst 2, 1) := dk_5 (by decide +kernel)
theorem dX9_done_35 : decode cX9_done 35 = .ok (.iadd, 1) := dk_96 (by decide +kernel)
theorem dX9_done_36 : decode cX9_done 36 = .ok (.aload_n 2, 1) := dk_44 (by decide +kernel)
theorem dX9_done_37 : decode cX9_done 37 = .ok (.getfield 142, 3) := dk_180 (a := 0) (b := 142) (by decide +kernel) rfl
theorem dX9_done_40 : decode cX9_done 40 = .ok (.if_icmp .ge 74, 3) := dk_162 (a := 0) (b := 74) (by decide +kernel) (by decide +kernel)
theorem dX9_done_43 : decode cX9_done 43 = .ok (.aload_n 2, 1) := dk_44 (by decide +kernel)
theorem dX9_done_44 : decode cX9_done 44 = .ok (.iload 4, 2) := dk_21 (a := 4) (by decide +kernel)
theorem dX9_done_46 : decode cX9_done 46 = .ok (.invokevirtual 145, 3) := dk_182 (a := 0) (b := 145) (by decide +kernel) rfl
theorem dX9_done_49 : decode cX9_done 49 = .ok (.istore 5, 2) := dk_54 (a := 5) (by decide +kernel)
theorem dX9_done_51 : decode cX9_done 51 = .ok (.aload_n 2, 1) := dk_44 (by decide +kernel)
theorem dX9_done_52 : decode cX9_done 52 = .ok (.iload 4, 2) := dk_21 (a := 4) (by decide +kernel)
theorem dX9_done_54 : decode cX9_done 54 = .ok (.iconst 1, 1) := dk_4 (by decide +kernel)
theorem dX9_done_55 : decode cX9_done 55 = .ok (.iadd, 1) := dk_96 (by decide +kernel)
theorem dX9_done_56 : decode cX9_done 56 = .ok (.invokevirtual 145, 3) := dk_182 (a := 0) (b := 145) (by decide +kernel) rfl
theorem dX9_done_59 : decode cX9_done 59 = .ok (.istore 6, 2) := dk_54 (a := 6) (by decide +kernel)
theorem dX9_done_61 : decode cX9_done 61 = .ok (.aload_n 2, 1) := dk_44 (by decide +kernel)
theorem dX9_done_62 : decode cX9_done 62 = .ok (.iload 4, 2) := dk_21 (a := 4) (by decide +kernel)
theorem dX9_done_64 : decode cX9_done 64 = .ok (.iconst 2, 1) := dk_5 (by decide +kernel)
theorem dX9_done_65 : decode cX9_done 65 = .ok (.iadd, 1) := dk_96 (by decide +kernel)
theorem dX9_done_66 : decode cX9_done 66 = .ok (.invokevirtual 145, 3) := dk_182 (a := 0) (b := 145) (by decide +kernel) rfl
theorem dX9_done_69 : decode cX9_done 69 = .ok (.istore 7, 2) := dk_54 (a := 7) (by decide +kernel)
theorem dX9_done_71 : decode cX9_done 71 = .ok (.iload 7, 2) := dk_21 (a := 7) (by decide +kernel)
theorem dX9_done_73 : decode cX9_done 73 = .ok (.iconst 4, 1) := dk_7 (by decide +kernel)
theorem dX9_done_74 : decode cX9_done 74 = .ok (.if_icmp .ne 14, 3) := dk_160 (a := 0) (b := 14) (by decide +kernel) (by decide +kernel)
theorem dX9_done_77 : decode cX9_done 77 = .ok (.aload_n 0, 1) := dk_42 (by decide +kernel)
theorem dX9_done_78 : decode cX9_done 78 = .ok (.iload 5, 2) := dk_21 (a := 5) (by decide +kernel)
theorem dX9_done_80 : decode cX9_done 80 = .ok (.iload 6, 2) := dk_21 (a := 6) (by decide +kernel)
theorem dX9_done_82 : decode cX9_done 82 = .ok (.invokevirtual 149, 3) := dk_182 (a := 0) (b := 149) (by decide +kernel) rfl
theorem dX9_done_85 : decode cX9_done 85 = .ok (.goto 13, 3) := dk_167 (a := 0) (b := 13) (by decide +kernel) (by decide +kernel)
theorem dX9_done_88 : decode cX9_done 88 = .ok (.aload_n 0, 1) := dk_42 (by decide +kernel)
theorem dX9_done_89 : decode cX9_done 89 = .ok (.iload 5, 2) := dk_21 (a := 5) (by decide +kernel)
theorem dX9_done_91 : decode cX9_done 91 = .ok (.iload 6, 2) := dk_21 (a := 6) (by decide +kernel)
theorem dX9_done_93 : decode cX9_done 93 = .ok (.iload 7, 2) := dk_21 (a := 7) (by decide +kernel)
theorem dX9_done_95 : decode cX9_done 95 = .ok (.invokevirtual 152, 3) := dk_182 (a := 0) (b := 152) (by decide +kernel) rfl
theorem dX9_done_98 : decode cX9_done 98 = .ok (.istore 8, 2) := dk_54 (a := 8) (by decide +kernel)
theorem dX9_done_100 : decode cX9_done 100 = .ok (.iload 8, 2) := dk_21 (a := 8) (by decide +kernel)
theorem dX9_done_102 : decode cX9_done 102 = .ok (.ifCond .lt 6, 3) := dk_155 (a := 0) (b := 6) (by decide +kernel) (by decide +kernel)
theorem dX9_done_105 : decode cX9_done 105 = .ok (.iinc 3 1, 3) := dk_132 (a := 3) (b := 1) (by decide +kernel) (by decide +kernel)
theorem dX9_done_108 : decode cX9_done 108 = .ok (.iinc 4 3, 3) := dk_132 (a := 4) (b := 3) (by decide +kernel) (by decide +kernel)
theorem dX9_done_111 : decode cX9_done 111 = .ok (.goto (-79), 3) := dk_167 (a := 255) (b := 177) (by decide +kernel) (by decide +kernel)
theorem dX9_done_114 : decode cX9_done 114 = .ok (.iload_n 3, 1) := dk_29 (by decide +kernel)
theorem dX9_done_115 : decode cX9_done 115 = .ok (.ireturn, 1) := dk_172 (by decide +kernel)
theorem dX9_known_0 : decode cX9_known 0 = .ok (.aload_n 0, 1) := dk_42 (by decide +kernel)
theorem dX9_known_1 : decode cX9_known 1 = .ok (.getfield 23, 3) := dk_180 (a := 0) (b := 23) (by decide +kernel) rfl
theorem dX9_known_4 : decode cX9_known 4 = .ok (.getfield 93, 3) := dk_180 (a := 0) (b := 93) (by decide +kernel) rfl
theorem dX9_known_7 : decode cX9_known 7 = .ok (.iload_n 1, 1) := dk_27 (by decide +kernel)
theorem dX9_known_8 : decode cX9_known 8 = .ok (.iload_n 2, 1) := dk_28 (by decide +kernel)
theorem dX9_known_9 : decode cX9_known 9 = .ok (.invokevirtual 126, 3) := dk_182 (a := 0) (b := 126) (by decide +kernel) rfl
theorem dX9_known_12 : decode cX9_known 12 = .ok (.ifCond .eq 15, 3) := dk_153 (a := 0) (b := 15) (by decide +kernel) (by decide +kernel)
theorem dX9_known_15 : decode cX9_known 15 = .ok (.aload_n 0, 1) := dk_42 (by decide +kernel)
theorem dX9_known_16 : decode cX9_known 16 = .ok (.getfield 23, 3) := dk_180 (a := 0) (b := 23) (by decide +kernel) rfl
theorem dX9_known_19 : decode cX9_known 19 = .ok (.iload_n 1, 1) := dk_27 (by decide +kernel)
theorem dX9_known_20 : decode cX9_known 20 = .ok (.iload_n 2, 1) := dk_28 (by decide +kernel)
theorem dX9_known_21 : decode cX9_known 21 = .ok (.invokevirtual 155, 3) := dk_182 (a := 0) (b := 155) (by decide +kernel) rfl
theorem dX9_known_24 : decode cX9_known 24 = .ok (.goto 5, 3) := dk_167 (a := 0) (b := 5) (by decide +kernel) (by decide +kernel)
theorem dX9_known_27 : decode cX9_known 27 = .ok (.bipush (-2), 2) := dk_16 (a := 254) (by decide +kernel) (by decide +kernel)
theorem dX9_known_29 : decode cX9_known 29 = .ok (.ireturn, 1) := dk_172 (by decide +kernel)
theorem dX9_debts_0 : decode cX9_debts 0 = .ok (.aload_n 0, 1) := dk_42 (by decide +kernel)
theorem dX9_debts_1 : decode cX9_debts 1 = .ok (.getfield 23, 3) := dk_180 (a := 0) (b := 23) (by decide +kernel) rfl
theorem dX9_debts_4 : decode cX9_debts 4 = .ok (.getfield 93, 3) := dk_180 (a := 0) (b := 93) (by decide +kernel) rfl
theorem dX9_debts_7 : decode cX9_debts 7 = .ok (.iload_n 1, 1) := dk_27 (by decide +kernel)
theorem dX9_debts_8 : decode cX9_debts 8 = .ok (.invokevirtual 158, 3) := dk_182 (a := 0) (b := 158) (by decide +kernel) rfl
theorem dX9_debts_11 : decode cX9_debts 11 = .ok (.ifCond .eq 18, 3) := dk_153 (a := 0) (b := 18) (by decide +kernel) (by decide +kernel)
theorem dX9_debts_14 : decode cX9_debts 14 = .ok (.aload_n 0, 1) := dk_42 (by decide +kernel)
theorem dX9_debts_15 : decode cX9_debts 15 = .ok (.getfield 23, 3) := dk_180 (a := 0) (b := 23) (by decide +kernel) rfl
theorem dX9_debts_18 : decode cX9_debts 18 = .ok (.getfield 161, 3) := dk_180 (a := 0) (b := 161) (by decide +kernel) rfl
theorem dX9_debts_21 : decode cX9_debts 21 = .ok (.getfield 164, 3) := dk_180 (a := 0) (b := 164) (by decide +kernel) rfl
theorem dX9_debts_24 : decode cX9_debts 24 = .ok (.iload_n 1, 1) := dk_27 (by decide +kernel)
theorem dX9_debts_25 : decode cX9_debts 25 = .ok (.iaload, 1) := dk_46 (by decide +kernel)
theorem dX9_debts_26 : decode cX9_debts 26 = .ok (.goto 5, 3) := dk_167 (a := 0) (b := 5) (by decide +kernel) (by decide +kernel)
theorem dX9_debts_29 : decode cX9_debts 29 = .ok (.bipush (-2), 2) := dk_16 (a := 254) (by decide +kernel) (by decide +kernel)
theorem dX9_debts_31 : decode cX9_debts 31 = .ok (.ireturn, 1) := dk_172 (by decide +kernel)
theorem dX9_debt_0 : decode cX9_debt 0 = .ok (.aload_n 0, 1) := dk_42 (by decide +kernel)
theorem dX9_debt_1 : decode cX9_debt 1 = .ok (.getfield 23, 3) := dk_180 (a := 0) (b := 23) (by decide +kernel) rfl
theorem dX9_debt_4 : decode cX9_debt 4 = .ok (.getfield 93, 3) := dk_180 (a := 0) (b := 93) (by decide +kernel) rfl
theorem dX9_debt_7 : decode cX9_debt 7 = .ok (.iload_n 1, 1) := dk_27 (by decide +kernel)
theorem dX9_debt_8 : decode cX9_debt 8 = .ok (.invokevirtual 158, 3) := dk_182 (a := 0) (b := 158) (by decide +kernel) rfl
theorem dX9_debt_11 : decode cX9_debt 11 = .ok (.ifCond .ne 5, 3) := dk_154 (a := 0) (b := 5) (by decide +kernel) (by decide +kernel)
theorem dX9_debt_14 : decode cX9_debt 14 = .ok (.iconst (-1), 1) := dk_2 (by decide +kernel)
theorem dX9_debt_15 : decode cX9_debt 15 = .ok (.ireturn, 1) := dk_172 (by decide +kernel)
theorem dX9_debt_16 : decode cX9_debt 16 = .ok (.aload_n 0, 1) := dk_42 (by decide +kernel)
theorem dX9_debt_17 : decode cX9_debt 17 = .ok (.getfield 23, 3) := dk_180 (a := 0) (b := 23) (by decide +kernel) rfl
theorem dX9_debt_20 : decode cX9_debt 20 = .ok (.getfield 161, 3) := dk_180 (a := 0) (b := 161) (by decide +kernel) rfl
theorem dX9_debt_23 : decode cX9_debt 23 = .ok (.iload_n 1, 1) := dk_27 (by decide +kernel)
theorem dX9_debt_24 : decode cX9_debt 24 = .ok (.iload_n 2, 1) := dk_28 (by decide +kernel)
theorem dX9_debt_25 : decode cX9_debt 25 = .ok (.invokevirtual 167, 3) := dk_182 (a := 0) (b := 167) (by decide +kernel) rfl
theorem dX9_debt_28 : decode cX9_debt 28 = .ok (.istore 4, 2) := dk_54 (a := 4) (by decide +kernel)
theorem dX9_debt_30 : decode cX9_debt 30 = .ok (.iload 4, 2) := dk_21 (a := 4) (by decide +kernel)
theorem dX9_debt_32 : decode cX9_debt 32 = .ok (.ifCond .ge 5, 3) := dk_156 (a := 0) (b := 5) (by decide +kernel) (by decide +kernel)
theorem dX9_debt_35 : decode cX9_debt 35 = .ok (.iconst (-1), 1) := dk_2 (by decide +kernel)
theorem dX9_debt_36 : decode cX9_debt 36 = .ok (.ireturn, 1) := dk_172 (by decide +kernel)
theorem dX9_debt_37 : decode cX9_debt 37 = .ok (.iload_n 3, 1) := dk_29 (by decide +kernel)
theorem dX9_debt_38 : decode cX9_debt 38 = .ok (.tableswitch 86 0 3 #[30, 44, 58, 72], 30) := by decide +kernel
theorem dX9_debt_68 : decode cX9_debt 68 = .ok (.aload_n 0, 1) := dk_42 (by decide +kernel)
theorem dX9_debt_69 : decode cX9_debt 69 = .ok (.getfield 23, 3) := dk_180 (a := 0) (b := 23) (by decide +kernel) rfl
theorem dX9_debt_72 : decode cX9_debt 72 = .ok (.getfield 161, 3) := dk_180 (a := 0) (b := 161) (by decide +kernel) rfl
theorem dX9_debt_75 : decode cX9_debt 75 = .ok (.getfield 170, 3) := dk_180 (a := 0) (b := 170) (by decide +kernel) rfl
theorem dX9_debt_78 : decode cX9_debt 78 = .ok (.iload 4, 2) := dk_21 (a := 4) (by decide +kernel)
theorem dX9_debt_80 : decode cX9_debt 80 = .ok (.iaload, 1) := dk_46 (by decide +kernel)
theorem dX9_debt_81 : decode cX9_debt 81 = .ok (.ireturn, 1) := dk_172 (by decide +kernel)
theorem dX9_debt_82 : decode cX9_debt 82 = .ok (.aload_n 0, 1) := dk_42 (by decide +kernel)
theorem dX9_debt_83 : decode cX9_debt 83 = .ok (.getfield 23, 3) := dk_180 (a := 0) (b := 23) (by decide +kernel) rfl
theorem dX9_debt_86 : decode cX9_debt 86 = .ok (.getfield 161, 3) := dk_180 (a := 0) (b := 161) (by decide +kernel) rfl
theorem dX9_debt_89 : decode cX9_debt 89 = .ok (.getfield 173, 3) := dk_180 (a := 0) (b := 173) (by decide +kernel) rfl
theorem dX9_debt_92 : decode cX9_debt 92 = .ok (.iload 4, 2) := dk_21 (a := 4) (by decide +kernel)
theorem dX9_debt_94 : decode cX9_debt 94 = .ok (.iaload, 1) := dk_46 (by decide +kernel)
theorem dX9_debt_95 : decode cX9_debt 95 = .ok (.ireturn, 1) := dk_172 (by decide +kernel)
theorem dX9_debt_96 : decode cX9_debt 96 = .ok (.aload_n 0, 1) := dk_42 (by decide +kernel)
theorem dX9_debt_97 : decode cX9_debt 97 = .ok (.getfield 23, 3) := dk_180 (a := 0) (b := 23) (by decide +kernel) rfl
theorem dX9_debt_100 : decode cX9_debt 100 = .ok (.getfield 161, 3) := dk_180 (a := 0) (b := 161) (by decide +kernel) rfl
theorem dX9_debt_103 : decode cX9_debt 103 = .ok (.getfield 176, 3) := dk_180 (a := 0) (b := 176) (by decide +kernel) rfl
theorem dX9_debt_106 : decode cX9_debt 106 = .ok (.iload 4, 2) := dk_21 (a := 4) (by decide +kernel)
theorem dX9_debt_108 : decode cX9_debt 108 = .ok (.iaload, 1) := dk_46 (by decide +kernel)
theorem dX9_debt_109 : decode cX9_debt 109 = .ok (.ireturn, 1) := dk_172 (by decide +kernel)
theorem dX9_debt_110 : decode cX9_debt 110 = .ok (.aload_n 0, 1) := dk_42 (by decide +kernel)
theorem dX9_debt_111 : decode cX9_debt 111 = .ok (.getfield 23, 3) := dk_180 (a := 0) (b := 23) (by decide +kernel) rfl
theorem dX9_debt_114 : decode cX9_debt 114 = .ok (.getfield 161, 3) := dk_180 (a := 0) (b := 161) (by decide +kernel) rfl
theorem dX9_debt_117 : decode cX9_debt 117 = .ok (.getfield 179, 3) := dk_180 (a := 0) (b := 179) (by decide +kernel) rfl
theorem dX9_debt_120 : decode cX9_debt 120 = .ok (.iload 4, 2) := dk_21 (a := 4) (by decide +kernel)
theorem dX9_debt_122 : decode cX9_debt 122 = .ok (.iaload, 1) := dk_46 (by decide +kernel)
theorem dX9_debt_123 : decode cX9_debt 123 = .ok (.ireturn, 1) := dk_172 (by decide +kernel)
theorem dX9_debt_124 : decode cX9_debt 124 = .ok (.iconst (-1), 1) := dk_2 (by decide +kernel)
theorem dX9_debt_125 : decode cX9_debt 125 = .ok (.ireturn, 1) := dk_172 (by decide +kernel)
theorem dX9_slights_0 : decode cX9_slights 0 = .ok (.aload_n 0, 1) := dk_42 (by decide +kernel)
theorem dX9_slights_1 : decode cX9_slights 1 = .ok (.getfield 23, 3) := dk_180 (a := 0) (b := 23) (by decide +kernel) rfl
theorem dX9_slights_4 : decode cX9_slights 4 = .ok (.getfield 93, 3) := dk_180 (a := 0) (b := 93) (by decide +kernel) rfl
theorem dX9_slights_7 : decode cX9_slights 7 = .ok (.iload_n 1, 1) := dk_27 (by decide +kernel)
theorem dX9_slights_8 : decode cX9_slights 8 = .ok (.invokevirtual 158, 3) := dk_182 (a := 0) (b := 158) (by decide +kernel) rfl
theorem dX9_slights_11 : decode cX9_slights 11 = .ok (.ifCond .eq 24, 3) := dk_153 (a := 0) (b := 24) (by decide +kernel) (by decide +kernel)
theorem dX9_slights_14 : decode cX9_slights 14 = .ok (.aload_n 0, 1) := dk_42 (by decide +kernel)
theorem dX9_slights_15 : decode cX9_slights 15 = .ok (.getfield 23, 3) := dk_180 (a := 0) (b := 23) (by decide +kernel) rfl
theorem dX9_slights_18 : decode cX9_slights 18 = .ok (.getfield 161, 3) := dk_180 (a := 0) (b := 161) (by decide +kernel) rfl
theorem dX9_slights_21 : decode cX9_slights 21 = .ok (.iload_n 1, 1) := dk_27 (by decide +kernel)
theorem dX9_slights_22 : decode cX9_slights 22 = .ok (.aload_n 0, 1) := dk_42 (by decide +kernel)
theorem dX9_slights_23 : decode cX9_slights 23 = .ok (.getfield 23, 3) := dk_180 (a := 0) (b := 23) (by decide +kernel) rfl
theorem dX9_slights_26 : decode cX9_slights 26 = .ok (.getfield 102, 3) := dk_180 (a := 0) (b := 102) (by decide +kernel) rfl
theorem dX9_slights_29 : decode cX9_slights 29 = .ok (.invokevirtual 182, 3) := dk_182 (a := 0) (b := 182) (by decide +kernel) rfl
theorem dX9_slights_32 : decode cX9_slights 32 = .ok (.goto 5, 3) := dk_167 (a := 0) (b := 5) (by decide +kernel) (by decide +kernel)
theorem dX9_slights_35 : decode cX9_slights 35 = .ok (.bipush (-2), 2) := dk_16 (a := 254) (by decide +kernel) (by decide +kernel)
theorem dX9_slights_37 : decode cX9_slights 37 = .ok (.ireturn, 1) := dk_172 (by decide +kernel)
theorem dX9_first_0 : decode cX9_first 0 = .ok (.iconst 0, 1) := dk_3 (by decide +kernel)
theorem dX9_first_1 : decode cX9_first 1 = .ok (.istore_n 1, 1) := dk_60 (by decide +kernel)
theorem dX9_first_2 : decode cX9_first 2 = .ok (.iconst (-1), 1) := dk_2 (by decide +kernel)
theorem dX9_first_3 : decode cX9_first 3 = .ok (.istore_n 2, 1) := dk_61 (by decide +kernel)
theorem dX9_first_4 : decode cX9_first 4 = .ok (.iconst 0, 1) := dk_3 (by decide +kernel)
theorem dX9_first_5 : decode cX9_first 5 = .ok (.istore_n 3, 1) := dk_62 (by decide +kernel)
theorem dX9_first_6 : decode cX9_first 6 = .ok (.iload_n 3, 1) := dk_29 (by decide +kernel)
theorem dX9_first_7 : decode cX9_first 7 = .ok (.aload_n 0, 1) := dk_42 (by decide +kernel)
theorem dX9_first_8 : decode cX9_first 8 = .ok (.getfield 23, 3) := dk_180 (a := 0) (b := 23) (by decide +kernel) rfl
theorem dX9_first_11 : decode cX9_first 11 = .ok (.getfield 93, 3) := dk_180 (a := 0) (b := 93) (by decide +kernel) rfl
theorem dX9_first_14 : decode cX9_first 14 = .ok (.getfield 94, 3) := dk_180 (a := 0) (b := 94) (by decide +kernel) rfl
theorem dX9_first_17 : decode cX9_first 17 = .ok (.if_icmp .ge 89, 3) := dk_162 (a := 0) (b := 89) (by decide +kernel) (by decide +kernel)
theorem dX9_first_20 : decode cX9_first 20 = .ok (.aload_n 0, 1) := dk_42 (by decide +kernel)
theorem dX9_first_21 : decode cX9_first 21 = .ok (.getfield 23, 3) := dk_180 (a := 0) (b := 23) (by decide +kernel) rfl
theorem dX9_first_24 : decode cX9_first 24 = .ok (.getfield 161, 3) := dk_180 (a := 0) (b := 161) (by decide +kernel) rfl
theorem dX9_first_27 : decode cX9_first 27 = .ok (.iload_n 3, 1) := dk_29 (by decide +kernel)
theorem dX9_first_28 : decode cX9_first 28 = .ok (.aload_n 0, 1) := dk_42 (by decide +kernel)
theorem dX9_first_29 : decode cX9_first 29 = .ok (.getfield 23, 3) := dk_180 (a := 0) (b := 23) (by decide +kernel) rfl
theorem dX9_first_32 : decode cX9_first 32 = .ok (.getfield 102, 3) := dk_180 (a := 0) (b := 102) (by decide +kernel) rfl
theorem dX9_first_35 : decode cX9_first 35 = .ok (.invokevirtual 182, 3) := dk_182 (a := 0) (b := 182) (by decide +kernel) rfl
theorem dX9_first_38 : decode cX9_first 38 = .ok (.istore 4, 2) := dk_54 (a := 4) (by decide +kernel)
theorem dX9_first_40 : decode cX9_first 40 = .ok (.iload_n 2, 1) := dk_28 (by decide +kernel)
theorem dX9_first_41 : decode cX9_first 41 = .ok (.ifCond .lt 40, 3) := dk_155 (a := 0) (b := 40) (by decide +kernel) (by decide +kernel)
theorem dX9_first_44 : decode cX9_first 44 = .ok (.iload 4, 2) := dk_21 (a := 4) (by decide +kernel)
theorem dX9_first_46 : decode cX9_first 46 = .ok (.iload_n 1, 1) := dk_27 (by decide +kernel)
theorem dX9_first_47 : decode cX9_first 47 = .ok (.if_icmp .ne 34, 3) := dk_160 (a := 0) (b := 34) (by decide +kernel) (by decide +kernel)
theorem dX9_first_50 : decode cX9_first 50 = .ok (.aload_n 0, 1) := dk_42 (by decide +kernel)
theorem dX9_first_51 : decode cX9_first 51 = .ok (.getfield 23, 3) := dk_180 (a := 0) (b := 23) (by decide +kernel) rfl
theorem dX9_first_54 : decode cX9_first 54 = .ok (.getfield 93, 3) := dk_180 (a := 0) (b := 93) (by decide +kernel) rfl
theorem dX9_first_57 : decode cX9_first 57 = .ok (.getfield 185, 3) := dk_180 (a := 0) (b := 185) (by decide +kernel) rfl
theorem dX9_first_60 : decode cX9_first 60 = .ok (.iload_n 3, 1) := dk_29 (by decide +kernel)
theorem dX9_first_61 : decode cX9_first 61 = .ok (.iaload, 1) := dk_46 (by decide +kernel)
theorem dX9_first_62 : decode cX9_first 62 = .ok (.aload_n 0, 1) := dk_42 (by decide +kernel)
theorem dX9_first_63 : decode cX9_first 63 = .ok (.getfield 23, 3) := dk_180 (a := 0) (b := 23) (by decide +kernel) rfl
theorem dX9_first_66 : decode cX9_first 66 = .ok (.getfield 93, 3) := dk_180 (a := 0) (b := 93) (by decide +kernel) rfl
theorem dX9_first_69 : decode cX9_first 69 = .ok (.getfield 185, 3) := dk_180 (a := 0) (b := 185) (by decide +kernel) rfl
theorem dX9_first_72 : decode cX9_first 72 = .ok (.iload_n 2, 1) := dk_28 (by decide +kernel)
theorem dX9_first_73 : decode cX9_first 73 = .ok (.iaload, 1) := dk_46 (by decide +kernel)
theorem dX9_first_74 : decode cX9_first 74 = .ok (.if_icmp .le 7, 3) := dk_164 (a := 0) (b := 7) (by decide +kernel) (by decide +kernel)
theorem dX9_first_77 : decode cX9_first 77 = .ok (.iconst 1, 1) := dk_4 (by decide +kernel)
theorem dX9_first_78 : decode cX9_first 78 = .ok (.goto 4, 3) := dk_167 (a := 0) (b := 4) (by decide +kernel) (by decide +kernel)
theorem dX9_first_81 : decode cX9_first 81 = .ok (.iconst 0, 1) := dk_3 (by decide +kernel)
theorem dX9_first_82 : decode cX9_first 82 = .ok (.istore 5, 2) := dk_54 (a := 5) (by decide +kernel)
theorem dX9_first_84 : decode cX9_first 84 = .ok (.iload 4, 2) := dk_21 (a := 4) (by decide +kernel)
theorem dX9_first_86 : decode cX9_first 86 = .ok (.iload_n 1, 1) := dk_27 (by decide +kernel)
theorem dX9_first_87 : decode cX9_first 87 = .ok (.if_icmp .gt 8, 3) := dk_163 (a := 0) (b := 8) (by decide +kernel) (by decide +kernel)
theorem dX9_first_90 : decode cX9_first 90 = .ok (.iload 5, 2) := dk_21 (a := 5) (by decide +kernel)
theorem dX9_first_92 : decode cX9_first 92 = .ok (.ifCond .eq 8, 3) := dk_153 (a := 0) (b := 8) (by decide +kernel) (by decide +kernel)
theorem dX9_first_95 : decode cX9_first 95 = .ok (.iload 4, 2) := dk_21 (a := 4) (by decide +kernel)
theorem dX9_first_97 : decode cX9_first 97 = .ok (.istore_n 1, 1) := dk_60 (by decide +kernel)
theorem dX9_first_98 : decode cX9_first 98 = .ok (.iload_n 3, 1) := dk_29 (by decide +kernel)
theorem dX9_first_99 : decode cX9_first 99 = .ok (.istore_n 2, 1) := dk_61 (by decide +kernel)
theorem dX9_first_100 : decode cX9_first 100 = .ok (.iinc 3 1, 3) := dk_132 (a := 3) (b := 1) (by decide +kernel) (by decide +kernel)
theorem dX9_first_103 : decode cX9_first 103 = .ok (.goto (-97), 3) := dk_167 (a := 255) (b := 159) (by decide +kernel) (by decide +kernel)
theorem dX9_first_106 : decode cX9_first 106 = .ok (.iload_n 2, 1) := dk_28 (by decide +kernel)
theorem dX9_first_107 : decode cX9_first 107 = .ok (.ireturn, 1) := dk_172 (by decide +kernel)
theorem dX9_owes_0 : decode cX9_owes 0 = .ok (.aload_n 0, 1) := dk_42 (by decide +kernel)
theorem dX9_owes_1 : decode cX9_owes 1 = .ok (.iload_n 1, 1) := dk_27 (by decide +kernel)
theorem dX9_owes_2 : decode cX9_owes 2 = .ok (.iload_n 2, 1) := dk_28 (by decide +kernel)
theorem dX9_owes_3 : decode cX9_owes 3 = .ok (.iload_n 3, 1) := dk_29 (by decide +kernel)
theorem dX9_owes_4 : decode cX9_owes 4 = .ok (.invokevirtual 105, 3) := dk_182 (a := 0) (b := 105) (by decide +kernel) rfl
theorem dX9_owes_7 : decode cX9_owes 7 = .ok (.ifCond .eq 16, 3) := dk_153 (a := 0) (b := 16) (by decide +kernel) (by decide +kernel)
theorem dX9_owes_10 : decode cX9_owes 10 = .ok (.aload_n 0, 1) := dk_42 (by decide +kernel)
theorem dX9_owes_11 : decode cX9_owes 11 = .ok (.getfield 23, 3) := dk_180 (a := 0) (b := 23) (by decide +kernel) rfl
theorem dX9_owes_14 : decode cX9_owes 14 = .ok (.iload_n 1, 1) := dk_27 (by decide +kernel)
theorem dX9_owes_15 : decode cX9_owes 15 = .ok (.iload_n 2, 1) := dk_28 (by decide +kernel)
theorem dX9_owes_16 : decode cX9_owes 16 = .ok (.iload_n 3, 1) := dk_29 (by decide +kernel)
theorem dX9_owes_17 : decode cX9_owes 17 = .ok (.invokevirtual 188, 3) := dk_182 (a := 0) (b := 188) (by decide +kernel) rfl
theorem dX9_owes_20 : decode cX9_owes 20 = .ok (.goto 5, 3) := dk_167 (a := 0) (b := 5) (by decide +kernel) (by decide +kernel)
theorem dX9_owes_23 : decode cX9_owes 23 = .ok (.bipush (-2), 2) := dk_16 (a := 254) (by decide +kernel) (by decide +kernel)
theorem dX9_owes_25 : decode cX9_owes 25 = .ok (.ireturn, 1) := dk_172 (by decide +kernel)
theorem dX9_worth_0 : decode cX9_worth 0 = .ok (.aload_n 0, 1) := dk_42 (by decide +kernel)
theorem dX9_worth_1 : decode cX9_worth 1 = .ok (.iload_n 1, 1) := dk_27 (by decide +kernel)
theorem dX9_worth_2 : decode cX9_worth 2 = .ok (.iload_n 2, 1) := dk_28 (by decide +kernel)
theorem dX9_worth_3 : decode cX9_worth 3 = .ok (.invokevirtual 191, 3) := dk_182 (a := 0) (b := 191) (by decide +kernel) rfl
theorem dX9_worth_6 : decode cX9_worth 6 = .ok (.ifCond .ne 6, 3) := dk_154 (a := 0) (b := 6) (by decide +kernel) (by decide +kernel)
theorem dX9_worth_9 : decode cX9_worth 9 = .ok (.bipush (-2), 2) := dk_16 (a := 254) (by decide +kernel) (by decide +kernel)
theorem dX9_worth_11 : decode cX9_worth 11 = .ok (.ireturn, 1) := dk_172 (by decide +kernel)
theorem dX9_worth_12 : decode cX9_worth 12 = .ok (.aload_n 0, 1) := dk_42 (by decide +kernel)
theorem dX9_worth_13 : decode cX9_worth 13 = .ok (.getfield 40, 3) := dk_180 (a := 0) (b := 40) (by decide +kernel) rfl
theorem dX9_worth_16 : decode cX9_worth 16 = .ok (.aload_n 0, 1) := dk_42 (by decide +kernel)
theorem dX9_worth_17 : decode cX9_worth 17 = .ok (.getfield 23, 3) := dk_180 (a := 0) (b := 23) (by decide +kernel) rfl
theorem dX9_worth_20 : decode cX9_worth 20 = .ok (.iload_n 1, 1) := dk_27 (by decide +kernel)
theorem dX9_worth_21 : decode cX9_worth 21 = .ok (.iload_n 2, 1) := dk_28 (by decide +kernel)
theorem dX9_worth_22 : decode cX9_worth 22 = .ok (.invokevirtual 194, 3) := dk_182 (a := 0) (b := 194) (by decide +kernel) rfl
theorem dX9_worth_25 : decode cX9_worth 25 = .ok (.aload_n 0, 1) := dk_42 (by decide +kernel)
theorem dX9_worth_26 : decode cX9_worth 26 = .ok (.getfield 40, 3) := dk_180 (a := 0) (b := 40) (by decide +kernel) rfl
theorem dX9_worth_29 : decode cX9_worth 29 = .ok (.getfield 198, 3) := dk_180 (a := 0) (b := 198) (by decide +kernel) rfl
theorem dX9_worth_32 : decode cX9_worth 32 = .ok (.ireturn, 1) := dk_172 (by decide +kernel)
theorem dX9_round_0 : decode cX9_round 0 = .ok (.aload_n 0, 1) := dk_42 (by decide +kernel)
theorem dX9_round_1 : decode cX9_round 1 = .ok (.iload_n 1, 1) := dk_27 (by decide +kernel)
theorem dX9_round_2 : decode cX9_round 2 = .ok (.iload_n 2, 1) := dk_28 (by decide +kernel)
theorem dX9_round_3 : decode cX9_round 3 = .ok (.invokevirtual 191, 3) := dk_182 (a := 0) (b := 191) (by decide +kernel) rfl
theorem dX9_round_6 : decode cX9_round 6 = .ok (.ifCond .ne 6, 3) := dk_154 (a := 0) (b := 6) (by decide +kernel) (by decide +kernel)
theorem dX9_round_9 : decode cX9_round 9 = .ok (.bipush (-2), 2) := dk_16 (a := 254) (by decide +kernel) (by decide +kernel)
theorem dX9_round_11 : decode cX9_round 11 = .ok (.ireturn, 1) := dk_172 (by decide +kernel)
theorem dX9_round_12 : decode cX9_round 12 = .ok (.aload_n 0, 1) := dk_42 (by decide +kernel)
theorem dX9_round_13 : decode cX9_round 13 = .ok (.getfield 40, 3) := dk_180 (a := 0) (b := 40) (by decide +kernel) rfl
theorem dX9_round_16 : decode cX9_round 16 = .ok (.aload_n 0, 1) := dk_42 (by decide +kernel)
theorem dX9_round_17 : decode cX9_round 17 = .ok (.getfield 23, 3) := dk_180 (a := 0) (b := 23) (by decide +kernel) rfl
theorem dX9_round_20 : decode cX9_round 20 = .ok (.iload_n 1, 1) := dk_27 (by decide +kernel)
theorem dX9_round_21 : decode cX9_round 21 = .ok (.iload_n 2, 1) := dk_28 (by decide +kernel)
theorem dX9_round_22 : decode cX9_round 22 = .ok (.invokevirtual 194, 3) := dk_182 (a := 0) (b := 194) (by decide +kernel) rfl
theorem dX9_round_25 : decode cX9_round 25 = .ok (.iload_n 3, 1) := dk_29 (by decide +kernel)
theorem dX9_round_26 : decode cX9_round 26 = .ok (.ifCond .lt 26, 3) := dk_155 (a := 0) (b := 26) (by decide +kernel) (by decide +kernel)
theorem dX9_round_29 : decode cX9_round 29 = .ok (.iload_n 3, 1) := dk_29 (by decide +kernel)
theorem dX9_round_30 : decode cX9_round 30 = .ok (.aload_n 0, 1) := dk_42 (by decide +kernel)
theorem dX9_round_31 : decode cX9_round 31 = .ok (.getfield 40, 3) := dk_180 (a := 0) (b := 40) (by decide +kernel) rfl
theorem dX9_round_34 : decode cX9_round 34 = .ok (.getfield 201, 3) := dk_180 (a := 0) (b := 201) (by decide +kernel) rfl
theorem dX9_round_37 : decode cX9_round 37 = .ok (.if_icmp .ge 15, 3) := dk_162 (a := 0) (b := 15) (by decide +kernel) (by decide +kernel)
theorem dX9_round_40 : decode cX9_round 40 = .ok (.aload_n 0, 1) := dk_42 (by decide +kernel)
theorem dX9_round_41 : decode cX9_round 41 = .ok (.getfield 40, 3) := dk_180 (a := 0) (b := 40) (by decide +kernel) rfl
theorem dX9_round_44 : decode cX9_round 44 = .ok (.getfield 204, 3) := dk_180 (a := 0) (b := 204) (by decide +kernel) rfl
theorem dX9_round_47 : decode cX9_round 47 = .ok (.iload_n 3, 1) := dk_29 (by decide +kernel)
theorem dX9_round_48 : decode cX9_round 48 = .ok (.iaload, 1) := dk_46 (by decide +kernel)
theorem dX9_round_49 : decode cX9_round 49 = .ok (.goto 4, 3) := dk_167 (a := 0) (b := 4) (by decide +kernel) (by decide +kernel)
theorem dX9_round_52 : decode cX9_round 52 = .ok (.iconst (-1), 1) := dk_2 (by decide +kernel)
theorem dX9_round_53 : decode cX9_round 53 = .ok (.ireturn, 1) := dk_172 (by decide +kernel)
theorem dX9_over_0 : decode cX9_over 0 = .ok (.aload_n 0, 1) := dk_42 (by decide +kernel)
theorem dX9_over_1 : decode cX9_over 1 = .ok (.iload_n 1, 1) := dk_27 (by decide +kernel)
theorem dX9_over_2 : decode cX9_over 2 = .ok (.iload_n 2, 1) := dk_28 (by decide +kernel)
theorem dX9_over_3 : decode cX9_over 3 = .ok (.invokevirtual 191, 3) := dk_182 (a := 0) (b := 191) (by decide +kernel) rfl
theorem dX9_over_6 : decode cX9_over 6 = .ok (.ifCond .ne 6, 3) := dk_154 (a := 0) (b := 6) (by decide +kernel) (by decide +kernel)
theorem dX9_over_9 : decode cX9_over 9 = .ok (.bipush (-2), 2) := dk_16 (a := 254) (by decide +kernel) (by decide +kernel)
theorem dX9_over_11 : decode cX9_over 11 = .ok (.ireturn, 1) := dk_172 (by decide +kernel)
theorem dX9_over_12 : decode cX9_over 12 = .ok (.aload_n 0, 1) := dk_42 (by decide +kernel)
theorem dX9_over_13 : decode cX9_over 13 = .ok (.getfield 40, 3) := dk_180 (a := 0) (b := 40) (by decide +kernel) rfl
theorem dX9_over_16 : decode cX9_over 16 = .ok (.aload_n 0, 1) := dk_42 (by decide +kernel)
theorem dX9_over_17 : decode cX9_over 17 = .ok (.getfield 23, 3) := dk_180 (a := 0) (b := 23) (by decide +kernel) rfl
theorem dX9_over_20 : decode cX9_over 20 = .ok (.iload_n 1, 1) := dk_27 (by decide +kernel)
theorem dX9_over_21 : decode cX9_over 21 = .ok (.iload_n 2, 1) := dk_28 (by decide +kernel)
theorem dX9_over_22 : decode cX9_over 22 = .ok (.invokevirtual 194, 3) := dk_182 (a := 0) (b := 194) (by decide +kernel) rfl
theorem dX9_over_25 : decode cX9_over 25 = .ok (.aload_n 0, 1) := dk_42 (by decide +kernel)
theorem dX9_over_26 : decode cX9_over 26 = .ok (.getfield 40, 3) := dk_180 (a := 0) (b := 40) (by decide +kernel) rfl
theorem dX9_over_29 : decode cX9_over 29 = .ok (.getfield 207, 3) := dk_180 (a := 0) (b := 207) (by decide +kernel) rfl
theorem dX9_over_32 : decode cX9_over 32 = .ok (.ireturn, 1) := dk_172 (by decide +kernel)
theorem dX9_may_0 : decode cX9_may 0 = .ok (.iload_n 1, 1) := dk_27 (by decide +kernel)
theorem dX9_may_1 : decode cX9_may 1 = .ok (.invokestatic 134, 3) := dk_184 (a := 0) (b := 134) (by decide +kernel) rfl
theorem dX9_may_4 : decode cX9_may 4 = .ok (.ifCond .eq 12, 3) := dk_153 (a := 0) (b := 12) (by decide +kernel) (by decide +kernel)
theorem dX9_may_7 : decode cX9_may 7 = .ok (.aload_n 0, 1) := dk_42 (by decide +kernel)
theorem dX9_may_8 : decode cX9_may 8 = .ok (.iload_n 2, 1) := dk_28 (by decide +kernel)
theorem dX9_may_9 : decode cX9_may 9 = .ok (.iload_n 3, 1) := dk_29 (by decide +kernel)
theorem dX9_may_10 : decode cX9_may 10 = .ok (.invokevirtual 191, 3) := dk_182 (a := 0) (b := 191) (by decide +kernel) rfl
theorem dX9_may_13 : decode cX9_may 13 = .ok (.ifCond .ne 6, 3) := dk_154 (a := 0) (b := 6) (by decide +kernel) (by decide +kernel)
theorem dX9_may_16 : decode cX9_may 16 = .ok (.bipush (-2), 2) := dk_16 (a := 254) (by decide +kernel) (by decide +kernel)
theorem dX9_may_18 : decode cX9_may 18 = .ok (.ireturn, 1) := dk_172 (by decide +kernel)
theorem dX9_may_19 : decode cX9_may 19 = .ok (.aload_n 0, 1) := dk_42 (by decide +kernel)
theorem dX9_may_20 : decode cX9_may 20 = .ok (.getfield 33, 3) := dk_180 (a := 0) (b := 33) (by decide +kernel) rfl
theorem dX9_may_23 : decode cX9_may 23 = .ok (.iload_n 1, 1) := dk_27 (by decide +kernel)
theorem dX9_may_24 : decode cX9_may 24 = .ok (.aaload, 1) := dk_50 (by decide +kernel)
theorem dX9_may_25 : decode cX9_may 25 = .ok (.astore 4, 2) := dk_58 (a := 4) (by decide +kernel)
theorem dX9_may_27 : decode cX9_may 27 = .ok (.aload 4, 2) := dk_25 (a := 4) (by decide +kernel)
theorem dX9_may_29 : decode cX9_may 29 = .ok (.getfield 138, 3) := dk_180 (a := 0) (b := 138) (by decide +kernel) rfl
theorem dX9_may_32 : decode cX9_may 32 = .ok (.ifCond .ne 6, 3) := dk_154 (a := 0) (b := 6) (by decide +kernel) (by decide +kernel)
theorem dX9_may_35 : decode cX9_may 35 = .ok (.bipush (-6), 2) := dk_16 (a := 250) (by decide +kernel) (by decide +kernel)
theorem dX9_may_37 : decode cX9_may 37 = .ok (.ireturn, 1) := dk_172 (by decide +kernel)
theorem dX9_may_38 : decode cX9_may 38 = .ok (.aload_n 0, 1) := dk_42 (by decide +kernel)
theorem dX9_may_39 : decode cX9_may 39 = .ok (.getfield 40, 3) := dk_180 (a := 0) (b := 40) (by decide +kernel) rfl
theorem dX9_may_42 : decode cX9_may 42 = .ok (.aload_n 0, 1) := dk_42 (by decide +kernel)
theorem dX9_may_43 : decode cX9_may 43 = .ok (.getfield 23, 3) := dk_180 (a := 0) (b := 23) (by decide +kernel) rfl
theorem dX9_may_46 : decode cX9_may 46 = .ok (.iload_n 2, 1) := dk_28 (by decide +kernel)
theorem dX9_may_47 : decode cX9_may 47 = .ok (.iload_n 3, 1) := dk_29 (by decide +kernel)
theorem dX9_may_48 : decode cX9_may 48 = .ok (.aload 4, 2) := dk_25 (a := 4) (by decide +kernel)
theorem dX9_may_50 : decode cX9_may 50 = .ok (.invokevirtual 210, 3) := dk_182 (a := 0) (b := 210) (by decide +kernel) rfl
theorem dX9_may_53 : decode cX9_may 53 = .ok (.ifCond .eq 7, 3) := dk_153 (a := 0) (b := 7) (by decide +kernel) (by decide +kernel)
theorem dX9_may_56 : decode cX9_may 56 = .ok (.iconst 1, 1) := dk_4 (by decide +kernel)
theorem dX9_may_57 : decode cX9_may 57 = .ok (.goto 4, 3) := dk_167 (a := 0) (b := 4) (by decide +kernel) (by decide +kernel)
theorem dX9_may_60 : decode cX9_may 60 = .ok (.iconst 0, 1) := dk_3 (by decide +kernel)
theorem dX9_may_61 : decode cX9_may 61 = .ok (.ireturn, 1) := dk_172 (by decide +kernel)
theorem dX9_fewest_0 : decode cX9_fewest 0 = .ok (.aload_n 0, 1) := dk_42 (by decide +kernel)
theorem dX9_fewest_1 : decode cX9_fewest 1 = .ok (.getfield 23, 3) := dk_180 (a := 0) (b := 23) (by decide +kernel) rfl
theorem dX9_fewest_4 : decode cX9_fewest 4 = .ok (.getfield 93, 3) := dk_180 (a := 0) (b := 93) (by decide +kernel) rfl
theorem dX9_fewest_7 : decode cX9_fewest 7 = .ok (.iload_n 1, 1) := dk_27 (by decide +kernel)
theorem dX9_fewest_8 : decode cX9_fewest 8 = .ok (.invokevirtual 158, 3) := dk_182 (a := 0) (b := 158) (by decide +kernel) rfl
theorem dX9_fewest_11 : decode cX9_fewest 11 = .ok (.ifCond .eq 18, 3) := dk_153 (a := 0) (b := 18) (by decide +kernel) (by decide +kernel)
theorem dX9_fewest_14 : decode cX9_fewest 14 = .ok (.aload_n 0, 1) := dk_42 (by decide +kernel)
theorem dX9_fewest_15 : decode cX9_fewest 15 = .ok (.getfield 40, 3) := dk_180 (a := 0) (b := 40) (by decide +kernel) rfl
theorem dX9_fewest_18 : decode cX9_fewest 18 = .ok (.aload_n 0, 1) := dk_42 (by decide +kernel)
theorem dX9_fewest_19 : decode cX9_fewest 19 = .ok (.getfield 23, 3) := dk_180 (a := 0) (b := 23) (by decide +kernel) rfl
theorem dX9_fewest_22 : decode cX9_fewest 22 = .ok (.iload_n 1, 1) := dk_27 (by decide +kernel)
theorem dX9_fewest_23 : decode cX9_fewest 23 = .ok (.invokevirtual 214, 3) := dk_182 (a := 0) (b := 214) (by decide +kernel) rfl
theorem dX9_fewest_26 : decode cX9_fewest 26 = .ok (.goto 5, 3) := dk_167 (a := 0) (b := 5) (by decide +kernel) (by decide +kernel)
theorem dX9_fewest_29 : decode cX9_fewest 29 = .ok (.bipush (-2), 2) := dk_16 (a := 254) (by decide +kernel) (by decide +kernel)
theorem dX9_fewest_31 : decode cX9_fewest 31 = .ok (.ireturn, 1) := dk_172 (by decide +kernel)
theorem dX9_lost_0 : decode cX9_lost 0 = .ok (.aload_n 0, 1) := dk_42 (by decide +kernel)
theorem dX9_lost_1 : decode cX9_lost 1 = .ok (.getfield 23, 3) := dk_180 (a := 0) (b := 23) (by decide +kernel) rfl
theorem dX9_lost_4 : decode cX9_lost 4 = .ok (.getfield 93, 3) := dk_180 (a := 0) (b := 93) (by decide +kernel) rfl
theorem dX9_lost_7 : decode cX9_lost 7 = .ok (.iload_n 1, 1) := dk_27 (by decide +kernel)
theorem dX9_lost_8 : decode cX9_lost 8 = .ok (.invokevirtual 158, 3) := dk_182 (a := 0) (b := 158) (by decide +kernel) rfl
theorem dX9_lost_11 : decode cX9_lost 11 = .ok (.ifCond .eq 18, 3) := dk_153 (a := 0) (b := 18) (by decide +kernel) (by decide +kernel)
theorem dX9_lost_14 : decode cX9_lost 14 = .ok (.aload_n 0, 1) := dk_42 (by decide +kernel)
theorem dX9_lost_15 : decode cX9_lost 15 = .ok (.getfield 40, 3) := dk_180 (a := 0) (b := 40) (by decide +kernel) rfl
theorem dX9_lost_18 : decode cX9_lost 18 = .ok (.aload_n 0, 1) := dk_42 (by decide +kernel)
theorem dX9_lost_19 : decode cX9_lost 19 = .ok (.getfield 23, 3) := dk_180 (a := 0) (b := 23) (by decide +kernel) rfl
theorem dX9_lost_22 : decode cX9_lost 22 = .ok (.iload_n 1, 1) := dk_27 (by decide +kernel)
theorem dX9_lost_23 : decode cX9_lost 23 = .ok (.invokevirtual 218, 3) := dk_182 (a := 0) (b := 218) (by decide +kernel) rfl
theorem dX9_lost_26 : decode cX9_lost 26 = .ok (.goto 5, 3) := dk_167 (a := 0) (b := 5) (by decide +kernel) (by decide +kernel)
theorem dX9_lost_29 : decode cX9_lost 29 = .ok (.bipush (-2), 2) := dk_16 (a := 254) (by decide +kernel) (by decide +kernel)
theorem dX9_lost_31 : decode cX9_lost 31 = .ok (.ireturn, 1) := dk_172 (by decide +kernel)
theorem dX9_soon_0 : decode cX9_soon 0 = .ok (.aload_n 0, 1) := dk_42 (by decide +kernel)
theorem dX9_soon_1 : decode cX9_soon 1 = .ok (.getfield 23, 3) := dk_180 (a := 0) (b := 23) (by decide +kernel) rfl
theorem dX9_soon_4 : decode cX9_soon 4 = .ok (.getfield 93, 3) := dk_180 (a := 0) (b := 93) (by decide +kernel) rfl
theorem dX9_soon_7 : decode cX9_soon 7 = .ok (.iload_n 1, 1) := dk_27 (by decide +kernel)
theorem dX9_soon_8 : decode cX9_soon 8 = .ok (.iload_n 2, 1) := dk_28 (by decide +kernel)
theorem dX9_soon_9 : decode cX9_soon 9 = .ok (.invokevirtual 126, 3) := dk_182 (a := 0) (b := 126) (by decide +kernel) rfl
theorem dX9_soon_12 : decode cX9_soon 12 = .ok (.ifCond .ne 6, 3) := dk_154 (a := 0) (b := 6) (by decide +kernel) (by decide +kernel)
theorem dX9_soon_15 : decode cX9_soon 15 = .ok (.bipush (-2), 2) := dk_16 (a := 254) (by decide +kernel) (by decide +kernel)
theorem dX9_soon_17 : decode cX9_soon 17 = .ok (.ireturn, 1) := dk_172 (by decide +kernel)
theorem dX9_soon_18 : decode cX9_soon 18 = .ok (.aload_n 0, 1) := dk_42 (by decide +kernel)
theorem dX9_soon_19 : decode cX9_soon 19 = .ok (.getfield 47, 3) := dk_180 (a := 0) (b := 47) (by decide +kernel) rfl
theorem dX9_soon_22 : decode cX9_soon 22 = .ok (.aload_n 0, 1) := dk_42 (by decide +kernel)
theorem dX9_soon_23 : decode cX9_soon 23 = .ok (.getfield 23, 3) := dk_180 (a := 0) (b := 23) (by decide +kernel) rfl
theorem dX9_soon_26 : decode cX9_soon 26 = .ok (.iload_n 1, 1) := dk_27 (by decide +kernel)
theorem dX9_soon_27 : decode cX9_soon 27 = .ok (.iload_n 2, 1) := dk_28 (by decide +kernel)
theorem dX9_soon_28 : decode cX9_soon 28 = .ok (.invokevirtual 221, 3) := dk_182 (a := 0) (b := 221) (by decide +kernel) rfl
theorem dX9_soon_31 : decode cX9_soon 31 = .ok (.aload_n 0, 1) := dk_42 (by decide +kernel)
theorem dX9_soon_32 : decode cX9_soon 32 = .ok (.getfield 47, 3) := dk_180 (a := 0) (b := 47) (by decide +kernel) rfl
theorem dX9_soon_35 : decode cX9_soon 35 = .ok (.getfield 224, 3) := dk_180 (a := 0) (b := 224) (by decide +kernel) rfl
theorem dX9_soon_38 : decode cX9_soon 38 = .ok (.ireturn, 1) := dk_172 (by decide +kernel)
theorem dX9_path_0 : decode cX9_path 0 = .ok (.aload_n 0, 1) := dk_42 (by decide +kernel)
theorem dX9_path_1 : decode cX9_path 1 = .ok (.getfield 23, 3) := dk_180 (a := 0) (b := 23) (by decide +kernel) rfl
theorem dX9_path_4 : decode cX9_path 4 = .ok (.getfield 93, 3) := dk_180 (a := 0) (b := 93) (by decide +kernel) rfl
theorem dX9_path_7 : decode cX9_path 7 = .ok (.iload_n 1, 1) := dk_27 (by decide +kernel)
theorem dX9_path_8 : decode cX9_path 8 = .ok (.iload_n 2, 1) := dk_28 (by decide +kernel)
theorem dX9_path_9 : decode cX9_path 9 = .ok (.invokevirtual 126, 3) := dk_182 (a := 0) (b := 126) (by decide +kernel) rfl
theorem dX9_path_12 : decode cX9_path 12 = .ok (.ifCond .ne 6, 3) := dk_154 (a := 0) (b := 6) (by decide +kernel) (by decide +kernel)
theorem dX9_path_15 : decode cX9_path 15 = .ok (.bipush (-2), 2) := dk_16 (a := 254) (by decide +kernel) (by decide +kernel)
theorem dX9_path_17 : decode cX9_path 17 = .ok (.ireturn, 1) := dk_172 (by decide +kernel)
theorem dX9_path_18 : decode cX9_path 18 = .ok (.aload_n 0, 1) := dk_42 (by decide +kernel)
theorem dX9_path_19 : decode cX9_path 19 = .ok (.getfield 47, 3) := dk_180 (a := 0) (b := 47) (by decide +kernel) rfl
theorem dX9_path_22 : decode cX9_path 22 = .ok (.aload_n 0, 1) := dk_42 (by decide +kernel)
theorem dX9_path_23 : decode cX9_path 23 = .ok (.getfield 23, 3) := dk_180 (a := 0) (b := 23) (by decide +kernel) rfl
theorem dX9_path_26 : decode cX9_path 26 = .ok (.iload_n 1, 1) := dk_27 (by decide +kernel)
theorem dX9_path_27 : decode cX9_path 27 = .ok (.iload_n 2, 1) := dk_28 (by decide +kernel)
theorem dX9_path_28 : decode cX9_path 28 = .ok (.invokevirtual 221, 3) := dk_182 (a := 0) (b := 221) (by decide +kernel) rfl
theorem dX9_path_31 : decode cX9_path 31 = .ok (.iload_n 3, 1) := dk_29 (by decide +kernel)
theorem dX9_path_32 : decode cX9_path 32 = .ok (.ifCond .lt 26, 3) := dk_155 (a := 0) (b := 26) (by decide +kernel) (by decide +kernel)
theorem dX9_path_35 : decode cX9_path 35 = .ok (.iload_n 3, 1) := dk_29 (by decide +kernel)
theorem dX9_path_36 : decode cX9_path 36 = .ok (.aload_n 0, 1) := dk_42 (by decide +kernel)
theorem dX9_path_37 : decode cX9_path 37 = .ok (.getfield 47, 3) := dk_180 (a := 0) (b := 47) (by decide +kernel) rfl
theorem dX9_path_40 : decode cX9_path 40 = .ok (.getfield 224, 3) := dk_180 (a := 0) (b := 224) (by decide +kernel) rfl
theorem dX9_path_43 : decode cX9_path 43 = .ok (.if_icmp .ge 15, 3) := dk_162 (a := 0) (b := 15) (by decide +kernel) (by decide +kernel)
theorem dX9_path_46 : decode cX9_path 46 = .ok (.aload_n 0, 1) := dk_42 (by decide +kernel)
theorem dX9_path_47 : decode cX9_path 47 = .ok (.getfield 47, 3) := dk_180 (a := 0) (b := 47) (by decide +kernel) rfl
theorem dX9_path_50 : decode cX9_path 50 = .ok (.getfield 225, 3) := dk_180 (a := 0) (b := 225) (by decide +kernel) rfl
theorem dX9_path_53 : decode cX9_path 53 = .ok (.iload_n 3, 1) := dk_29 (by decide +kernel)
theorem dX9_path_54 : decode cX9_path 54 = .ok (.iaload, 1) := dk_46 (by decide +kernel)
theorem dX9_path_55 : decode cX9_path 55 = .ok (.goto 4, 3) := dk_167 (a := 0) (b := 4) (by decide +kernel) (by decide +kernel)
theorem dX9_path_58 : decode cX9_path 58 = .ok (.iconst (-1), 1) := dk_2 (by decide +kernel)
theorem dX9_path_59 : decode cX9_path 59 = .ok (.ireturn, 1) := dk_172 (by decide +kernel)
theorem dX9_reach_0 : decode cX9_reach 0 = .ok (.aload_n 0, 1) := dk_42 (by decide +kernel)
theorem dX9_reach_1 : decode cX9_reach 1 = .ok (.getfield 23, 3) := dk_180 (a := 0) (b := 23) (by decide +kernel) rfl
theorem dX9_reach_4 : decode cX9_reach 4 = .ok (.getfield 93, 3) := dk_180 (a := 0) (b := 93) (by decide +kernel) rfl
theorem dX9_reach_7 : decode cX9_reach 7 = .ok (.iload_n 1, 1) := dk_27 (by decide +kernel)
theorem dX9_reach_8 : decode cX9_reach 8 = .ok (.invokevirtual 158, 3) := dk_182 (a := 0) (b := 158) (by decide +kernel) rfl
theorem dX9_reach_11 : decode cX9_reach 11 = .ok (.ifCond .eq 15, 3) := dk_153 (a := 0) (b := 15) (by decide +kernel) (by decide +kernel)
theorem dX9_reach_14 : decode cX9_reach 14 = .ok (.aload_n 0, 1) := dk_42 (by decide +kernel)
theorem dX9_reach_15 : decode cX9_reach 15 = .ok (.getfield 23, 3) := dk_180 (a := 0) (b := 23) (by decide +kernel) rfl
theorem dX9_reach_18 : decode cX9_reach 18 = .ok (.iload_n 1, 1) := dk_27 (by decide +kernel)
theorem dX9_reach_19 : decode cX9_reach 19 = .ok (.iconst (-1), 1) := dk_2 (by decide +kernel)
theorem dX9_reach_20 : decode cX9_reach 20 = .ok (.invokevirtual 228, 3) := dk_182 (a := 0) (b := 228) (by decide +kernel) rfl
theorem dX9_reach_23 : decode cX9_reach 23 = .ok (.goto 5, 3) := dk_167 (a := 0) (b := 5) (by decide +kernel) (by decide +kernel)
theorem dX9_reach_26 : decode cX9_reach 26 = .ok (.bipush (-2), 2) := dk_16 (a := 254) (by decide +kernel) (by decide +kernel)
theorem dX9_reach_28 : decode cX9_reach 28 = .ok (.ireturn, 1) := dk_172 (by decide +kernel)
theorem dX9_drop_0 : decode cX9_drop 0 = .ok (.aload_n 0, 1) := dk_42 (by decide +kernel)
theorem dX9_drop_1 : decode cX9_drop 1 = .ok (.getfield 23, 3) := dk_180 (a := 0) (b := 23) (by decide +kernel) rfl
theorem dX9_drop_4 : decode cX9_drop 4 = .ok (.getfield 93, 3) := dk_180 (a := 0) (b := 93) (by decide +kernel) rfl
theorem dX9_drop_7 : decode cX9_drop 7 = .ok (.iload_n 1, 1) := dk_27 (by decide +kernel)
theorem dX9_drop_8 : decode cX9_drop 8 = .ok (.invokevirtual 158, 3) := dk_182 (a := 0) (b := 158) (by decide +kernel) rfl
theorem dX9_drop_11 : decode cX9_drop 11 = .ok (.ifCond .ne 6, 3) := dk_154 (a := 0) (b := 6) (by decide +kernel) (by decide +kernel)
theorem dX9_drop_14 : decode cX9_drop 14 = .ok (.bipush (-2), 2) := dk_16 (a := 254) (by decide +kernel) (by decide +kernel)
theorem dX9_drop_16 : decode cX9_drop 16 = .ok (.ireturn, 1) := dk_172 (by decide +kernel)
theorem dX9_drop_17 : decode cX9_drop 17 = .ok (.iconst (-1), 1) := dk_2 (by decide +kernel)
theorem dX9_drop_18 : decode cX9_drop 18 = .ok (.istore_n 2, 1) := dk_61 (by decide +kernel)
theorem dX9_drop_19 : decode cX9_drop 19 = .ok (.iconst 0, 1) := dk_3 (by decide +kernel)
theorem dX9_drop_20 : decode cX9_drop 20 = .ok (.istore_n 3, 1) := dk_62 (by decide +kernel)
theorem dX9_drop_21 : decode cX9_drop 21 = .ok (.iload_n 3, 1) := dk_29 (by decide +kernel)
theorem dX9_drop_22 : decode cX9_drop 22 = .ok (.aload_n 0, 1) := dk_42 (by decide +kernel)
theorem dX9_drop_23 : decode cX9_drop 23 = .ok (.getfield 23, 3) := dk_180 (a := 0) (b := 23) (by decide +kernel) rfl
theorem dX9_drop_26 : decode cX9_drop 26 = .ok (.getfield 93, 3) := dk_180 (a := 0) (b := 93) (by decide +kernel) rfl
theorem dX9_drop_29 : decode cX9_drop 29 = .ok (.getfield 94, 3) := dk_180 (a := 0) (b := 94) (by decide +kernel) rfl
theorem dX9_drop_32 : decode cX9_drop 32 = .ok (.if_icmp .ge 66, 3) := dk_162 (a := 0) (b := 66) (by decide +kernel) (by decide +kernel)
theorem dX9_drop_35 : decode cX9_drop 35 = .ok (.iload_n 2, 1) := dk_28 (by decide +kernel)
theorem dX9_drop_36 : decode cX9_drop 36 = .ok (.ifCond .lt 30, 3) := dk_155 (a := 0) (b := 30) (by decide +kernel) (by decide +kernel)
theorem dX9_drop_39 : decode cX9_drop 39 = .ok (.aload_n 0, 1) := dk_42 (by decide +kernel)
theorem dX9_drop_40 : decode cX9_drop 40 = .ok (.getfield 23, 3) := dk_180 (a := 0) (b := 23) (by decide +kernel) rfl
theorem dX9_drop_43 : decode cX9_drop 43 = .ok (.getfield 93, 3) := dk_180 (a := 0) (b := 93) (by decide +kernel) rfl
theorem dX9_drop_46 : decode cX9_drop 46 = .ok (.getfield 185, 3) := dk_180 (a := 0) (b := 185) (by decide +kernel) rfl
theorem dX9_drop_49 : decode cX9_drop 49 = .ok (.iload_n 3, 1) := dk_29 (by decide +kernel)
theorem dX9_drop_50 : decode cX9_drop 50 = .ok (.iaload, 1) := dk_46 (by decide +kernel)
theorem dX9_drop_51 : decode cX9_drop 51 = .ok (.aload_n 0, 1) := dk_42 (by decide +kernel)
theorem dX9_drop_52 : decode cX9_drop 52 = .ok (.getfield 23, 3) := dk_180 (a := 0) (b := 23) (by decide +kernel) rfl
theorem dX9_drop_55 : decode cX9_drop 55 = .ok (.getfield 93, 3) := dk_180 (a := 0) (b := 93) (by decide +kernel) rfl
theorem dX9_drop_58 : decode cX9_drop 58 = .ok (.getfield 185, 3) := dk_180 (a := 0) (b := 185) (by decide +kernel) rfl
theorem dX9_drop_61 : decode cX9_drop 61 = .ok (.iload_n 2, 1) := dk_28 (by decide +kernel)
theorem dX9_drop_62 : decode cX9_drop 62 = .ok (.iaload, 1) := dk_46 (by decide +kernel)
theorem dX9_drop_63 : decode cX9_drop 63 = .ok (.if_icmp .ge 7, 3) := dk_162 (a := 0) (b := 7) (by decide +kernel) (by decide +kernel)
theorem dX9_drop_66 : decode cX9_drop 66 = .ok (.iconst 1, 1) := dk_4 (by decide +kernel)
theorem dX9_drop_67 : decode cX9_drop 67 = .ok (.goto 4, 3) := dk_167 (a := 0) (b := 4) (by decide +kernel) (by decide +kernel)
theorem dX9_drop_70 : decode cX9_drop 70 = .ok (.iconst 0, 1) := dk_3 (by decide +kernel)
theorem dX9_drop_71 : decode cX9_drop 71 = .ok (.istore 4, 2) := dk_54 (a := 4) (by decide +kernel)
theorem dX9_drop_73 : decode cX9_drop 73 = .ok (.iload 4, 2) := dk_21 (a := 4) (by decide +kernel)
theorem dX9_drop_75 : decode cX9_drop 75 = .ok (.ifCond .eq 17, 3) := dk_153 (a := 0) (b := 17) (by decide +kernel) (by decide +kernel)
theorem dX9_drop_78 : decode cX9_drop 78 = .ok (.aload_n 0, 1) := dk_42 (by decide +kernel)
theorem dX9_drop_79 : decode cX9_drop 79 = .ok (.getfield 23, 3) := dk_180 (a := 0) (b := 23) (by decide +kernel) rfl
theorem dX9_drop_82 : decode cX9_drop 82 = .ok (.iload_n 1, 1) := dk_27 (by decide +kernel)
theorem dX9_drop_83 : decode cX9_drop 83 = .ok (.iload_n 3, 1) := dk_29 (by decide +kernel)
theorem dX9_drop_84 : decode cX9_drop 84 = .ok (.invokevirtual 231, 3) := dk_182 (a := 0) (b := 231) (by decide +kernel) rfl
theorem dX9_drop_87 : decode cX9_drop 87 = .ok (.ifCond .eq 5, 3) := dk_153 (a := 0) (b := 5) (by decide +kernel) (by decide +kernel)
theorem dX9_drop_90 : decode cX9_drop 90 = .ok (.iload_n 3, 1) := dk_29 (by decide +kernel)
theorem dX9_drop_91 : decode cX9_drop 91 = .ok (.istore_n 2, 1) := dk_61 (by decide +kernel)
theorem dX9_drop_92 : decode cX9_drop 92 = .ok (.iinc 3 1, 3) := dk_132 (a := 3) (b := 1) (by decide +kernel) (by decide +kernel)
theorem dX9_drop_95 : decode cX9_drop 95 = .ok (.goto (-74), 3) := dk_167 (a := 255) (b := 182) (by decide +kernel) (by decide +kernel)
theorem dX9_drop_98 : decode cX9_drop 98 = .ok (.iload_n 2, 1) := dk_28 (by decide +kernel)
theorem dX9_drop_99 : decode cX9_drop 99 = .ok (.ireturn, 1) := dk_172 (by decide +kernel)
theorem dX9_tie_0 : decode cX9_tie 0 = .ok (.aload_n 0, 1) := dk_42 (by decide +kernel)
theorem dX9_tie_1 : decode cX9_tie 1 = .ok (.getfield 23, 3) := dk_180 (a := 0) (b := 23) (by decide +kernel) rfl
theorem dX9_tie_4 : decode cX9_tie 4 = .ok (.getfield 93, 3) := dk_180 (a := 0) (b := 93) (by decide +kernel) rfl
theorem dX9_tie_7 : decode cX9_tie 7 = .ok (.iload_n 1, 1) := dk_27 (by decide +kernel)
theorem dX9_tie_8 : decode cX9_tie 8 = .ok (.iload_n 2, 1) := dk_28 (by decide +kernel)
theorem dX9_tie_9 : decode cX9_tie 9 = .ok (.invokevirtual 126, 3) := dk_182 (a := 0) (b := 126) (by decide +kernel) rfl
theorem dX9_tie_12 : decode cX9_tie 12 = .ok (.ifCond .ne 6, 3) := dk_154 (a := 0) (b := 6) (by decide +kernel) (by decide +kernel)
theorem dX9_tie_15 : decode cX9_tie 15 = .ok (.bipush (-2), 2) := dk_16 (a := 254) (by decide +kernel) (by decide +kernel)
theorem dX9_tie_17 : decode cX9_tie 17 = .ok (.ireturn, 1) := dk_172 (by decide +kernel)
theorem dX9_tie_18 : decode cX9_tie 18 = .ok (.aload_n 0, 1) := dk_42 (by decide +kernel)
theorem dX9_tie_19 : decode cX9_tie 19 = .ok (.getfield 23, 3) := dk_180 (a := 0) (b := 23) (by decide +kernel) rfl
theorem dX9_tie_22 : decode cX9_tie 22 = .ok (.iload_n 1, 1) := dk_27 (by decide +kernel)
theorem dX9_tie_23 : decode cX9_tie 23 = .ok (.iload_n 2, 1) := dk_28 (by decide +kernel)
theorem dX9_tie_24 : decode cX9_tie 24 = .ok (.invokevirtual 155, 3) := dk_182 (a := 0) (b := 155) (by decide +kernel) rfl
theorem dX9_tie_27 : decode cX9_tie 27 = .ok (.ifCond .ne 5, 3) := dk_154 (a := 0) (b := 5) (by decide +kernel) (by decide +kernel)
theorem dX9_tie_30 : decode cX9_tie 30 = .ok (.iconst (-1), 1) := dk_2 (by decide +kernel)
theorem dX9_tie_31 : decode cX9_tie 31 = .ok (.ireturn, 1) := dk_172 (by decide +kernel)
theorem dX9_tie_32 : decode cX9_tie 32 = .ok (.aload_n 0, 1) := dk_42 (by decide +kernel)
theorem dX9_tie_33 : decode cX9_tie 33 = .ok (.getfield 23, 3) := dk_180 (a := 0) (b := 23) (by decide +kernel) rfl
theorem dX9_tie_36 : decode cX9_tie 36 = .ok (.iload_n 1, 1) := dk_27 (by decide +kernel)
theorem dX9_tie_37 : decode cX9_tie 37 = .ok (.iload_n 2, 1) := dk_28 (by decide +kernel)
theorem dX9_tie_38 : decode cX9_tie 38 = .ok (.invokevirtual 234, 3) := dk_182 (a := 0) (b := 234) (by decide +kernel) rfl
theorem dX9_tie_41 : decode cX9_tie 41 = .ok (.ifCond .eq 7, 3) := dk_153 (a := 0) (b := 7) (by decide +kernel) (by decide +kernel)
theorem dX9_tie_44 : decode cX9_tie 44 = .ok (.iconst 1, 1) := dk_4 (by decide +kernel)
theorem dX9_tie_45 : decode cX9_tie 45 = .ok (.goto 4, 3) := dk_167 (a := 0) (b := 4) (by decide +kernel) (by decide +kernel)
theorem dX9_tie_48 : decode cX9_tie 48 = .ok (.iconst 0, 1) := dk_3 (by decide +kernel)
theorem dX9_tie_49 : decode cX9_tie 49 = .ok (.ireturn, 1) := dk_172 (by decide +kernel)
theorem dX9_rings_0 : decode cX9_rings 0 = .ok (.aload_n 0, 1) := dk_42 (by decide +kernel)
theorem dX9_rings_1 : decode cX9_rings 1 = .ok (.getfield 23, 3) := dk_180 (a := 0) (b := 23) (by decide +kernel) rfl
theorem dX9_rings_4 : decode cX9_rings 4 = .ok (.invokevirtual 237, 3) := dk_182 (a := 0) (b := 237) (by decide +kernel) rfl
theorem dX9_rings_7 : decode cX9_rings 7 = .ok (.iconst 0, 1) := dk_3 (by decide +kernel)
theorem dX9_rings_8 : decode cX9_rings 8 = .ok (.istore_n 1, 1) := dk_60 (by decide +kernel)
theorem dX9_rings_9 : decode cX9_rings 9 = .ok (.iconst 0, 1) := dk_3 (by decide +kernel)
theorem dX9_rings_10 : decode cX9_rings 10 = .ok (.istore_n 2, 1) := dk_61 (by decide +kernel)
theorem dX9_rings_11 : decode cX9_rings 11 = .ok (.iload_n 2, 1) := dk_28 (by decide +kernel)
theorem dX9_rings_12 : decode cX9_rings 12 = .ok (.aload_n 0, 1) := dk_42 (by decide +kernel)
theorem dX9_rings_13 : decode cX9_rings 13 = .ok (.getfield 23, 3) := dk_180 (a := 0) (b := 23) (by decide +kernel) rfl
theorem dX9_rings_16 : decode cX9_rings 16 = .ok (.getfield 93, 3) := dk_180 (a := 0) (b := 93) (by decide +kernel) rfl
theorem dX9_rings_19 : decode cX9_rings 19 = .ok (.getfield 94, 3) := dk_180 (a := 0) (b := 94) (by decide +kernel) rfl
theorem dX9_rings_22 : decode cX9_rings 22 = .ok (.if_icmp .ge 33, 3) := dk_162 (a := 0) (b := 33) (by decide +kernel) (by decide +kernel)
theorem dX9_rings_25 : decode cX9_rings 25 = .ok (.aload_n 0, 1) := dk_42 (by decide +kernel)
theorem dX9_rings_26 : decode cX9_rings 26 = .ok (.getfield 23, 3) := dk_180 (a := 0) (b := 23) (by decide +kernel) rfl
theorem dX9_rings_29 : decode cX9_rings 29 = .ok (.iload_n 2, 1) := dk_28 (by decide +kernel)
theorem dX9_rings_30 : decode cX9_rings 30 = .ok (.invokevirtual 240, 3) := dk_182 (a := 0) (b := 240) (by decide +kernel) rfl
theorem dX9_rings_33 : decode cX9_rings 33 = .ok (.istore_n 3, 1) := dk_62 (by decide +kernel)
theorem dX9_rings_34 : decode cX9_rings 34 = .ok (.iload_n 3, 1) := dk_29 (by decide +kernel)
theorem dX9_rings_35 : decode cX9_rings 35 = .ok (.ifCond .eq 14, 3) := dk_153 (a := 0) (b := 14) (by decide +kernel) (by decide +kernel)
theorem dX9_rings_38 : decode cX9_rings 38 = .ok (.iload_n 3, 1) := dk_29 (by decide +kernel)
theorem dX9_rings_39 : decode cX9_rings 39 = .ok (.invokestatic 243, 3) := dk_184 (a := 0) (b := 243) (by decide +kernel) rfl
theorem dX9_rings_42 : decode cX9_rings 42 = .ok (.iload_n 2, 1) := dk_28 (by decide +kernel)
theorem dX9_rings_43 : decode cX9_rings 43 = .ok (.if_icmp .ne 6, 3) := dk_160 (a := 0) (b := 6) (by decide +kernel) (by decide +kernel)
theorem dX9_rings_46 : decode cX9_rings 46 = .ok (.iinc 1 1, 3) := dk_132 (a := 1) (b := 1) (by decide +kernel) (by decide +kernel)
theorem dX9_rings_49 : decode cX9_rings 49 = .ok (.iinc 2 1, 3) := dk_132 (a := 2) (b := 1) (by decide +kernel) (by decide +kernel)
theorem dX9_rings_52 : decode cX9_rings 52 = .ok (.goto (-41), 3) := dk_167 (a := 255) (b := 215) (by decide +kernel) (by decide +kernel)
theorem dX9_rings_55 : decode cX9_rings 55 = .ok (.iload_n 1, 1) := dk_27 (by decide +kernel)
theorem dX9_rings_56 : decode cX9_rings 56 = .ok (.ireturn, 1) := dk_172 (by decide +kernel)
theorem dX9_ring_0 : decode cX9_ring 0 = .ok (.aload_n 0, 1) := dk_42 (by decide +kernel)
theorem dX9_ring_1 : decode cX9_ring 1 = .ok (.getfield 23, 3) := dk_180 (a := 0) (b := 23) (by decide +kernel) rfl
theorem dX9_ring_4 : decode cX9_ring 4 = .ok (.getfield 93, 3) := dk_180 (a := 0) (b := 93) (by decide +kernel) rfl
theorem dX9_ring_7 : decode cX9_ring 7 = .ok (.iload_n 1, 1) := dk_27 (by decide +kernel)
theorem dX9_ring_8 : decode cX9_ring 8 = .ok (.invokevirtual 158, 3) := dk_182 (a := 0) (b := 158) (by decide +kernel) rfl
theorem dX9_ring_11 : decode cX9_ring 11 = .ok (.ifCond .ne 6, 3) := dk_154 (a := 0) (b := 6) (by decide +kernel) (by decide +kernel)
theorem dX9_ring_14 : decode cX9_ring 14 = .ok (.bipush (-2), 2) := dk_16 (a := 254) (by decide +kernel) (by decide +kernel)
theorem dX9_ring_16 : decode cX9_ring 16 = .ok (.ireturn, 1) := dk_172 (by decide +kernel)
theorem dX9_ring_17 : decode cX9_ring 17 = .ok (.aload_n 0, 1) := dk_42 (by decide +kernel)
theorem dX9_ring_18 : decode cX9_ring 18 = .ok (.getfield 23, 3) := dk_180 (a := 0) (b := 23) (by decide +kernel) rfl
theorem dX9_ring_21 : decode cX9_ring 21 = .ok (.invokevirtual 237, 3) := dk_182 (a := 0) (b := 237) (by decide +kernel) rfl
theorem dX9_ring_24 : decode cX9_ring 24 = .ok (.aload_n 0, 1) := dk_42 (by decide +kernel)
theorem dX9_ring_25 : decode cX9_ring 25 = .ok (.getfield 23, 3) := dk_180 (a := 0) (b := 23) (by decide +kernel) rfl
theorem dX9_ring_28 : decode cX9_ring 28 = .ok (.iload_n 1, 1) := dk_27 (by decide +kernel)
theorem dX9_ring_29 : decode cX9_ring 29 = .ok (.invokevirtual 240, 3) := dk_182 (a := 0) (b := 240) (by decide +kernel) rfl
theorem dX9_ring_32 : decode cX9_ring 32 = .ok (.ireturn, 1) := dk_172 (by decide +kernel)
theorem dX9_house_0 : decode cX9_house 0 = .ok (.aload_n 0, 1) := dk_42 (by decide +kernel)
theorem dX9_house_1 : decode cX9_house 1 = .ok (.getfield 23, 3) := dk_180 (a := 0) (b := 23) (by decide +kernel) rfl
theorem dX9_house_4 : decode cX9_house 4 = .ok (.getfield 93, 3) := dk_180 (a := 0) (b := 93) (by decide +kernel) rfl
theorem dX9_house_7 : decode cX9_house 7 = .ok (.iload_n 1, 1) := dk_27 (by decide +kernel)
theorem dX9_house_8 : decode cX9_house 8 = .ok (.invokevirtual 158, 3) := dk_182 (a := 0) (b := 158) (by decide +kernel) rfl
theorem dX9_house_11 : decode cX9_house 11 = .ok (.ifCond .ne 6, 3) := dk_154 (a := 0) (b := 6) (by decide +kernel) (by decide +kernel)
theorem dX9_house_14 : decode cX9_house 14 = .ok (.ldc 248, 2) := dk_18 (a := 248) (by decide +kernel)
theorem dX9_house_16 : decode cX9_house 16 = .ok (.ireturn, 1) := dk_172 (by decide +kernel)
theorem dX9_house_17 : decode cX9_house 17 = .ok (.iload_n 2, 1) := dk_28 (by decide +kernel)
theorem dX9_house_18 : decode cX9_house 18 = .ok (.tableswitch 165 0 8 #[50, 63, 76, 89, 102, 115, 128, 141, 153], 50) := by decide +kernel
theorem dX9_house_68 : decode cX9_house 68 = .ok (.aload_n 0, 1) := dk_42 (by decide +kernel)
theorem dX9_house_69 : decode cX9_house 69 = .ok (.getfield 23, 3) := dk_180 (a := 0) (b := 23) (by decide +kernel) rfl
theorem dX9_house_72 : decode cX9_house 72 = .ok (.getfield 93, 3) := dk_180 (a := 0) (b := 93) (by decide +kernel) rfl
theorem dX9_house_75 : decode cX9_house 75 = .ok (.getfield 249, 3) := dk_180 (a := 0) (b := 249) (by decide +kernel) rfl
theorem dX9_house_78 : decode cX9_house 78 = .ok (.iload_n 1, 1) := dk_27 (by decide +kernel)
theorem dX9_house_79 : decode cX9_house 79 = .ok (.iaload, 1) := dk_46 (by decide +kernel)
theorem dX9_house_80 : decode cX9_house 80 = .ok (.ireturn, 1) := dk_172 (by decide +kernel)
theorem dX9_house_81 : decode cX9_house 81 = .ok (.aload_n 0, 1) := dk_42 (by decide +kernel)
theorem dX9_house_82 : decode cX9_house 82 = .ok (.getfield 23, 3) := dk_180 (a := 0) (b := 23) (by decide +kernel) rfl
theorem dX9_house_85 : decode cX9_house 85 = .ok (.getfield 93, 3) := dk_180 (a := 0) (b := 93) (by decide +kernel) rfl
theorem dX9_house_88 : decode cX9_house 88 = .ok (.getfield 252, 3) := dk_180 (a := 0) (b := 252) (by decide +kernel) rfl
theorem dX9_house_91 : decode cX9_house 91 = .ok (.iload_n 1, 1) := dk_27 (by decide +kernel)
theorem dX9_house_92 : decode cX9_house 92 = .ok (.iaload, 1) := dk_46 (by decide +kernel)
theorem dX9_house_93 : decode cX9_house 93 = .ok (.ireturn, 1) := dk_172 (by decide +kernel)
theorem dX9_house_94 : decode cX9_house 94 = .ok (.aload_n 0, 1) := dk_42 (by decide +kernel)
theorem dX9_house_95 : decode cX9_house 95 = .ok (.getfield 23, 3) := dk_180 (a := 0) (b := 23) (by decide +kernel) rfl
theorem dX9_house_98 : decode cX9_house 98 = .ok (.getfield 93, 3) := dk_180 (a := 0) (b := 93) (by decide +kernel) rfl
theorem dX9_house_101 : decode cX9_house 101 = .ok (.getfield 185, 3) := dk_180 (a := 0) (b := 185) (by decide +kernel) rfl
theorem dX9_house_104 : decode cX9_house 104 = .ok (.iload_n 1, 1) := dk_27 (by decide +kernel)
theorem dX9_house_105 : decode cX9_house 105 = .ok (.iaload, 1) := dk_46 (by decide +kernel)
theorem dX9_house_106 : decode cX9_house 106 = .ok (.ireturn, 1) := dk_172 (by decide +kernel)
theorem dX9_house_107 : decode cX9_house 107 = .ok (.aload_n 0, 1) := dk_42 (by decide +kernel)
theorem dX9_house_108 : decode cX9_house 108 = .ok (.getfield 23, 3) := dk_180 (a := 0) (b := 23) (by decide +kernel) rfl
theorem dX9_house_111 : decode cX9_house 111 = .ok (.getfield 93, 3) := dk_180 (a := 0) (b := 93) (by decide +kernel) rfl
theorem dX9_house_114 : decode cX9_house 114 = .ok (.getfield 255, 3) := dk_180 (a := 0) (b := 255) (by decide +kernel) rfl
theorem dX9_house_117 : decode cX9_house 117 = .ok (.iload_n 1, 1) := dk_27 (by decide +kernel)
theorem dX9_house_118 : decode cX9_house 118 = .ok (.iaload, 1) := dk_46 (by decide +kernel)
theorem dX9_house_119 : decode cX9_house 119 = .ok (.ireturn, 1) := dk_172 (by decide +kernel)
theorem dX9_house_120 : decode cX9_house 120 = .ok (.aload_n 0, 1) := dk_42 (by decide +kernel)
theorem dX9_house_121 : decode cX9_house 121 = .ok (.getfield 23, 3) := dk_180 (a := 0) (b := 23) (by decide +kernel) rfl
theorem dX9_house_124 : decode cX9_house 124 = .ok (.getfield 93, 3) := dk_180 (a := 0) (b := 93) (by decide +kernel) rfl
theorem dX9_house_127 : decode cX9_house 127 = .ok (.getfield 258, 3) := dk_180 (a := 1) (b := 2) (by decide +kernel) rfl
theorem dX9_house_130 : decode cX9_house 130 = .ok (.iload_n 1, 1) := dk_27 (by decide +kernel)
theorem dX9_house_131 : decode cX9_house 131 = .ok (.iaload, 1) := dk_46 (by decide +kernel)
theorem dX9_house_132 : decode cX9_house 132 = .ok (.ireturn, 1) := dk_172 (by decide +kernel)
theorem dX9_house_133 : decode cX9_house 133 = .ok (.aload_n 0, 1) := dk_42 (by decide +kernel)
theorem dX9_house_134 : decode cX9_house 134 = .ok (.getfield 23, 3) := dk_180 (a := 0) (b := 23) (by decide +kernel) rfl
theorem dX9_house_137 : decode cX9_house 137 = .ok (.getfield 93, 3) := dk_180 (a := 0) (b := 93) (by decide +kernel) rfl
theorem dX9_house_140 : decode cX9_house 140 = .ok (.getfield 261, 3) := dk_180 (a := 1) (b := 5) (by decide +kernel) rfl
theorem dX9_house_143 : decode cX9_house 143 = .ok (.iload_n 1, 1) := dk_27 (by decide +kernel)
theorem dX9_house_144 : decode cX9_house 144 = .ok (.iaload, 1) := dk_46 (by decide +kernel)
theorem dX9_house_145 : decode cX9_house 145 = .ok (.ireturn, 1) := dk_172 (by decide +kernel)
theorem dX9_house_146 : decode cX9_house 146 = .ok (.aload_n 0, 1) := dk_42 (by decide +kernel)
theorem dX9_house_147 : decode cX9_house 147 = .ok (.getfield 23, 3) := dk_180 (a := 0) (b := 23) (by decide +kernel) rfl
theorem dX9_house_150 : decode cX9_house 150 = .ok (.getfield 93, 3) := dk_180 (a := 0) (b := 93) (by decide +kernel) rfl
theorem dX9_house_153 : decode cX9_house 153 = .ok (.getfield 264, 3) := dk_180 (a := 1) (b := 8) (by decide +kernel) rfl
theorem dX9_house_156 : decode cX9_house 156 = .ok (.iload_n 1, 1) := dk_27 (by decide +kernel)
theorem dX9_house_157 : decode cX9_house 157 = .ok (.iaload, 1) := dk_46 (by decide +kernel)
theorem dX9_house_158 : decode cX9_house 158 = .ok (.ireturn, 1) := dk_172 (by decide +kernel)
theorem dX9_house_159 : decode cX9_house 159 = .ok (.aload_n 0, 1) := dk_42 (by decide +kernel)
theorem dX9_house_160 : decode cX9_house 160 = .ok (.getfield 23, 3) := dk_180 (a := 0) (b := 23) (by decide +kernel) rfl
theorem dX9_house_163 : decode cX9_house 163 = .ok (.getfield 113, 3) := dk_180 (a := 0) (b := 113) (by decide +kernel) rfl
theorem dX9_house_166 : decode cX9_house 166 = .ok (.iload_n 1, 1) := dk_27 (by decide +kernel)
theorem dX9_house_167 : decode cX9_house 167 = .ok (.invokevirtual 265, 3) := dk_182 (a := 1) (b := 9) (by decide +kernel) rfl
theorem dX9_house_170 : decode cX9_house 170 = .ok (.ireturn, 1) := dk_172 (by decide +kernel)
theorem dX9_house_171 : decode cX9_house 171 = .ok (.aload_n 0, 1) := dk_42 (by decide +kernel)
theorem dX9_house_172 : decode cX9_house 172 = .ok (.getfield 23, 3) := dk_180 (a := 0) (b := 23) (by decide +kernel) rfl
theorem dX9_house_175 : decode cX9_house 175 = .ok (.getfield 113, 3) := dk_180 (a := 0) (b := 113) (by decide +kernel) rfl
theorem dX9_house_178 : decode cX9_house 178 = .ok (.iload_n 1, 1) := dk_27 (by decide +kernel)
theorem dX9_house_179 : decode cX9_house 179 = .ok (.invokevirtual 268, 3) := dk_182 (a := 1) (b := 12) (by decide +kernel) rfl
theorem dX9_house_182 : decode cX9_house 182 = .ok (.ireturn, 1) := dk_172 (by decide +kernel)
theorem dX9_house_183 : decode cX9_house 183 = .ok (.ldc 248, 2) := dk_18 (a := 248) (by decide +kernel)
theorem dX9_house_185 : decode cX9_house 185 = .ok (.ireturn, 1) := dk_172 (by decide +kernel)
theorem dX9_beside_0 : decode cX9_beside 0 = .ok (.iload_n 1, 1) := dk_27 (by decide +kernel)
theorem dX9_beside_1 : decode cX9_beside 1 = .ok (.invokestatic 271, 3) := dk_184 (a := 1) (b := 15) (by decide +kernel) rfl
theorem dX9_beside_4 : decode cX9_beside 4 = .ok (.ifCond .ne 6, 3) := dk_154 (a := 0) (b := 6) (by decide +kernel) (by decide +kernel)
theorem dX9_beside_7 : decode cX9_beside 7 = .ok (.bipush (-2), 2) := dk_16 (a := 254) (by decide +kernel) (by decide +kernel)
theorem dX9_beside_9 : decode cX9_beside 9 = .ok (.ireturn, 1) := dk_172 (by decide +kernel)
theorem dX9_beside_10 : decode cX9_beside 10 = .ok (.aload_n 0, 1) := dk_42 (by decide +kernel)
theorem dX9_beside_11 : decode cX9_beside 11 = .ok (.getfield 27, 3) := dk_180 (a := 0) (b := 27) (by decide +kernel) rfl
theorem dX9_beside_14 : decode cX9_beside 14 = .ok (.iload_n 1, 1) := dk_27 (by decide +kernel)
theorem dX9_beside_15 : decode cX9_beside 15 = .ok (.aaload, 1) := dk_50 (by decide +kernel)
theorem dX9_beside_16 : decode cX9_beside 16 = .ok (.astore_n 2, 1) := dk_77 (by decide +kernel)
theorem dX9_beside_17 : decode cX9_beside 17 = .ok (.aload_n 2, 1) := dk_44 (by decide +kernel)
theorem dX9_beside_18 : decode cX9_beside 18 = .ok (.ifnonnull 6, 3) := dk_199 (a := 0) (b := 6) (by decide +kernel) (by decide +kernel)
theorem dX9_beside_21 : decode cX9_beside 21 = .ok (.bipush (-6), 2) := dk_16 (a := 250) (by decide +kernel) (by decide +kernel)
theorem dX9_beside_23 : decode cX9_beside 23 = .ok (.ireturn, 1) := dk_172 (by decide +kernel)
theorem dX9_beside_24 : decode cX9_beside 24 = .ok (.aload_n 0, 1) := dk_42 (by decide +kernel)
theorem dX9_beside_25 : decode cX9_beside 25 = .ok (.getfield 23, 3) := dk_180 (a := 0) (b := 23) (by decide +kernel) rfl
theorem dX9_beside_28 : decode cX9_beside 28 = .ok (.aload_n 2, 1) := dk_44 (by decide +kernel)
theorem dX9_beside_29 : decode cX9_beside 29 = .ok (.getfield 274, 3) := dk_180 (a := 1) (b := 18) (by decide +kernel) rfl
theorem dX9_beside_32 : decode cX9_beside 32 = .ok (.aload_n 0, 1) := dk_42 (by decide +kernel)
theorem dX9_beside_33 : decode cX9_beside 33 = .ok (.getfield 54, 3) := dk_180 (a := 0) (b := 54) (by decide +kernel) rfl
theorem dX9_beside_36 : decode cX9_beside 36 = .ok (.aload_n 0, 1) := dk_42 (by decide +kernel)
theorem dX9_beside_37 : decode cX9_beside 37 = .ok (.getfield 58, 3) := dk_180 (a := 0) (b := 58) (by decide +kernel) rfl
theorem dX9_beside_40 : decode cX9_beside 40 = .ok (.invokevirtual 275, 3) := dk_182 (a := 1) (b := 19) (by decide +kernel) rfl
theorem dX9_beside_43 : decode cX9_beside 43 = .ok (.aload_n 0, 1) := dk_42 (by decide +kernel)
theorem dX9_beside_44 : decode cX9_beside 44 = .ok (.getfield 54, 3) := dk_180 (a := 0) (b := 54) (by decide +kernel) rfl
theorem dX9_beside_47 : decode cX9_beside 47 = .ok (.getfield 279, 3) := dk_180 (a := 1) (b := 23) (by decide +kernel) rfl
theorem dX9_beside_50 : decode cX9_beside 50 = .ok (.ireturn, 1) := dk_172 (by decide +kernel)
theorem dX9_count_0 : decode cX9_count 0 = .ok (.iload_n 1, 1) := dk_27 (by decide +kernel)
theorem dX9_count_1 : decode cX9_count 1 = .ok (.tableswitch 169 0 10 #[59, 70, 81, 89, 100, 118, 129, 137, 142, 153, 164], 59) := by decide +kernel
theorem dX9_count_60 : decode cX9_count 60 = .ok (.aload_n 0, 1) := dk_42 (by decide +kernel)
theorem dX9_count_61 : decode cX9_count 61 = .ok (.getfield 23, 3) := dk_180 (a := 0) (b := 23) (by decide +kernel) rfl
theorem dX9_count_64 : decode cX9_count 64 = .ok (.getfield 93, 3) := dk_180 (a := 0) (b := 93) (by decide +kernel) rfl
theorem dX9_count_67 : decode cX9_count 67 = .ok (.getfield 94, 3) := dk_180 (a := 0) (b := 94) (by decide +kernel) rfl
theorem dX9_count_70 : decode cX9_count 70 = .ok (.ireturn, 1) := dk_172 (by decide +kernel)
theorem dX9_count_71 : decode cX9_count 71 = .ok (.aload_n 0, 1) := dk_42 (by decide +kernel)
theorem dX9_count_72 : decode cX9_count 72 = .ok (.getfield 23, 3) := dk_180 (a := 0) (b := 23) (by decide +kernel) rfl
theorem dX9_count_75 : decode cX9_count 75 = .ok (.getfield 274, 3) := dk_180 (a := 1) (b := 18) (by decide +kernel) rfl
theorem dX9_count_78 : decode cX9_count 78 = .ok (.getfield 280, 3) := dk_180 (a := 1) (b := 24) (by decide +kernel) rfl
theorem dX9_count_81 : decode cX9_count 81 = .ok (.ireturn, 1) := dk_172 (by decide +kernel)
theorem dX9_count_82 : decode cX9_count 82 = .ok (.aload_n 0, 1) := dk_42 (by decide +kernel)
theorem dX9_count_83 : decode cX9_count 83 = .ok (.getfield 23, 3) := dk_180 (a := 0) (b := 23) (by decide +kernel) rfl
theorem dX9_count_86 : decode cX9_count 86 = .ok (.getfield 102, 3) := dk_180 (a := 0) (b := 102) (by decide +kernel) rfl
theorem dX9_count_89 : decode cX9_count 89 = .ok (.ireturn, 1) := dk_172 (by decide +kernel)
theorem dX9_count_90 : decode cX9_count 90 = .ok (.aload_n 0, 1) := dk_42 (by decide +kernel)
theorem dX9_count_91 : decode cX9_count 91 = .ok (.getfield 23, 3) := dk_180 (a := 0) (b := 23) (by decide +kernel) rfl
theorem dX9_count_94 : decode cX9_count 94 = .ok (.getfield 161, 3) := dk_180 (a := 0) (b := 161) (by decide +kernel) rfl
theorem dX9_count_97 : decode cX9_count 97 = .ok (.getfield 279, 3) := dk_180 (a := 1) (b := 23) (by decide +kernel) rfl
theorem dX9_count_100 : decode cX9_count 100 = .ok (.ireturn, 1) := dk_172 (by decide +kernel)
theorem dX9_count_101 : decode cX9_count 101 = .ok (.aload_n 0, 1) := dk_42 (by decide +kernel)
theorem dX9_count_102 : decode cX9_count 102 = .ok (.getfield 23, 3) := dk_180 (a := 0) (b := 23) (by decide +kernel) rfl
theorem dX9_count_105 : decode cX9_count 105 = .ok (.getfield 161, 3) := dk_180 (a := 0) (b := 161) (by decide +kernel) rfl
theorem dX9_count_108 : decode cX9_count 108 = .ok (.aload_n 0, 1) := dk_42 (by decide +kernel)
theorem dX9_count_109 : decode cX9_count 109 = .ok (.getfield 23, 3) := dk_180 (a := 0) (b := 23) (by decide +kernel) rfl
theorem dX9_count_112 : decode cX9_count 112 = .ok (.getfield 102, 3) := dk_180 (a := 0) (b := 102) (by decide +kernel) rfl
theorem dX9_count_115 : decode cX9_count 115 = .ok (.invokevirtual 285, 3) := dk_182 (a := 1) (b := 29) (by decide +kernel) rfl
theorem dX9_count_118 : decode cX9_count 118 = .ok (.ireturn, 1) := dk_172 (by decide +kernel)
theorem dX9_count_119 : decode cX9_count 119 = .ok (.aload_n 0, 1) := dk_42 (by decide +kernel)
theorem dX9_count_120 : decode cX9_count 120 = .ok (.getfield 23, 3) := dk_180 (a := 0) (b := 23) (by decide +kernel) rfl
theorem dX9_count_123 : decode cX9_count 123 = .ok (.getfield 113, 3) := dk_180 (a := 0) (b := 113) (by decide +kernel) rfl
theorem dX9_count_126 : decode cX9_count 126 = .ok (.getfield 288, 3) := dk_180 (a := 1) (b := 32) (by decide +kernel) rfl
theorem dX9_count_129 : decode cX9_count 129 = .ok (.ireturn, 1) := dk_172 (by decide +kernel)
theorem dX9_count_130 : decode cX9_count 130 = .ok (.aload_n 0, 1) := dk_42 (by decide +kernel)
theorem dX9_count_131 : decode cX9_count 131 = .ok (.getfield 23, 3) := dk_180 (a := 0) (b := 23) (by decide +kernel) rfl
theorem dX9_count_134 : decode cX9_count 134 = .ok (.getfield 289, 3) := dk_180 (a := 1) (b := 33) (by decide +kernel) rfl
theorem dX9_count_137 : decode cX9_count 137 = .ok (.ireturn, 1) := dk_172 (by decide +kernel)
theorem dX9_count_138 : decode cX9_count 138 = .ok (.aload_n 0, 1) := dk_42 (by decide +kernel)
theorem dX9_count_139 : decode cX9_count 139 = .ok (.getfield 63, 3) := dk_180 (a := 0) (b := 63) (by decide +kernel) rfl
theorem dX9_count_142 : decode cX9_count 142 = .ok (.ireturn, 1) := dk_172 (by decide +kernel)
theorem dX9_count_143 : decode cX9_count 143 = .ok (.aload_n 0, 1) := dk_42 (by decide +kernel)
theorem dX9_count_144 : decode cX9_count 144 = .ok (.getfield 23, 3) := dk_180 (a := 0) (b := 23) (by decide +kernel) rfl
theorem dX9_count_147 : decode cX9_count 147 = .ok (.getfield 93, 3) := dk_180 (a := 0) (b := 93) (by decide +kernel) rfl
theorem dX9_count_150 : decode cX9_count 150 = .ok (.getfield 292, 3) := dk_180 (a := 1) (b := 36) (by decide +kernel) rfl
theorem dX9_count_153 : decode cX9_count 153 = .ok (.ireturn, 1) := dk_172 (by decide +kernel)
theorem dX9_count_154 : decode cX9_count 154 = .ok (.aload_n 0, 1) := dk_42 (by decide +kernel)
theorem dX9_count_155 : decode cX9_count 155 = .ok (.getfield 23, 3) := dk_180 (a := 0) (b := 23) (by decide +kernel) rfl
theorem dX9_count_158 : decode cX9_count 158 = .ok (.getfield 93, 3) := dk_180 (a := 0) (b := 93) (by decide +kernel) rfl
theorem dX9_count_161 : decode cX9_count 161 = .ok (.getfield 295, 3) := dk_180 (a := 1) (b := 39) (by decide +kernel) rfl
theorem dX9_count_164 : decode cX9_count 164 = .ok (.ireturn, 1) := dk_172 (by decide +kernel)
theorem dX9_count_165 : decode cX9_count 165 = .ok (.aload_n 0, 1) := dk_42 (by decide +kernel)
theorem dX9_count_166 : decode cX9_count 166 = .ok (.invokevirtual 298, 3) := dk_182 (a := 1) (b := 42) (by decide +kernel) rfl
theorem dX9_count_169 : decode cX9_count 169 = .ok (.ireturn, 1) := dk_172 (by decide +kernel)
theorem dX9_count_170 : decode cX9_count 170 = .ok (.iconst (-1), 1) := dk_2 (by decide +kernel)
theorem dX9_count_171 : decode cX9_count 171 = .ok (.ireturn, 1) := dk_172 (by decide +kernel)
theorem dX9_keep_0 : decode cX9_keep 0 = .ok (.iload_n 1, 1) := dk_27 (by decide +kernel)
theorem dX9_keep_1 : decode cX9_keep 1 = .ok (.invokestatic 271, 3) := dk_184 (a := 1) (b := 15) (by decide +kernel) rfl
theorem dX9_keep_4 : decode cX9_keep 4 = .ok (.ifCond .ne 6, 3) := dk_154 (a := 0) (b := 6) (by decide +kernel) (by decide +kernel)
theorem dX9_keep_7 : decode cX9_keep 7 = .ok (.bipush (-2), 2) := dk_16 (a := 254) (by decide +kernel) (by decide +kernel)
theorem dX9_keep_9 : decode cX9_keep 9 = .ok (.ireturn, 1) := dk_172 (by decide +kernel)
theorem dX9_keep_10 : decode cX9_keep 10 = .ok (.aload_n 0, 1) := dk_42 (by decide +kernel)
theorem dX9_keep_11 : decode cX9_keep 11 = .ok (.getfield 27, 3) := dk_180 (a := 0) (b := 27) (by decide +kernel) rfl
theorem dX9_keep_14 : decode cX9_keep 14 = .ok (.iload_n 1, 1) := dk_27 (by decide +kernel)
theorem dX9_keep_15 : decode cX9_keep 15 = .ok (.aaload, 1) := dk_50 (by decide +kernel)
theorem dX9_keep_16 : decode cX9_keep 16 = .ok (.astore_n 2, 1) := dk_77 (by decide +kernel)
theorem dX9_keep_17 : decode cX9_keep 17 = .ok (.aload_n 2, 1) := dk_44 (by decide +kernel)
theorem dX9_keep_18 : decode cX9_keep 18 = .ok (.ifnonnull 18, 3) := dk_199 (a := 0) (b := 18) (by decide +kernel) (by decide +kernel)
theorem dX9_keep_21 : decode cX9_keep 21 = .ok (.new 20, 3) := dk_187 (a := 0) (b := 20) (by decide +kernel) rfl
theorem dX9_keep_24 : decode cX9_keep 24 = .ok (.dup, 1) := dk_89 (by decide +kernel)
theorem dX9_keep_25 : decode cX9_keep 25 = .ok (.invokespecial 22, 3) := dk_183 (a := 0) (b := 22) (by decide +kernel) rfl
theorem dX9_keep_28 : decode cX9_keep 28 = .ok (.astore_n 2, 1) := dk_77 (by decide +kernel)
theorem dX9_keep_29 : decode cX9_keep 29 = .ok (.aload_n 0, 1) := dk_42 (by decide +kernel)
theorem dX9_keep_30 : decode cX9_keep 30 = .ok (.getfield 27, 3) := dk_180 (a := 0) (b := 27) (by decide +kernel) rfl
theorem dX9_keep_33 : decode cX9_keep 33 = .ok (.iload_n 1, 1) := dk_27 (by decide +kernel)
theorem dX9_keep_34 : decode cX9_keep 34 = .ok (.aload_n 2, 1) := dk_44 (by decide +kernel)
theorem dX9_keep_35 : decode cX9_keep 35 = .ok (.aastore, 1) := dk_83 (by decide +kernel)
theorem dX9_keep_36 : decode cX9_keep 36 = .ok (.aload_n 2, 1) := dk_44 (by decide +kernel)
theorem dX9_keep_37 : decode cX9_keep 37 = .ok (.aload_n 0, 1) := dk_42 (by decide +kernel)
theorem dX9_keep_38 : decode cX9_keep 38 = .ok (.getfield 23, 3) := dk_180 (a := 0) (b := 23) (by decide +kernel) rfl
theorem dX9_keep_41 : decode cX9_keep 41 = .ok (.invokevirtual 302, 3) := dk_182 (a := 1) (b := 46) (by decide +kernel) rfl
theorem dX9_keep_44 : decode cX9_keep 44 = .ok (.iconst 0, 1) := dk_3 (by decide +kernel)
theorem dX9_keep_45 : decode cX9_keep 45 = .ok (.ireturn, 1) := dk_172 (by decide +kernel)
theorem dX9_back_0 : decode cX9_back 0 = .ok (.iload_n 1, 1) := dk_27 (by decide +kernel)
theorem dX9_back_1 : decode cX9_back 1 = .ok (.invokestatic 271, 3) := dk_184 (a := 1) (b := 15) (by decide +kernel) rfl
theorem dX9_back_4 : decode cX9_back 4 = .ok (.ifCond .ne 6, 3) := dk_154 (a := 0) (b := 6) (by decide +kernel) (by decide +kernel)
theorem dX9_back_7 : decode cX9_back 7 = .ok (.bipush (-2), 2) := dk_16 (a := 254) (by decide +kernel) (by decide +kernel)
theorem dX9_back_9 : decode cX9_back 9 = .ok (.ireturn, 1) := dk_172 (by decide +kernel)
theorem dX9_back_10 : decode cX9_back 10 = .ok (.aload_n 0, 1) := dk_42 (by decide +kernel)
theorem dX9_back_11 : decode cX9_back 11 = .ok (.getfield 27, 3) := dk_180 (a := 0) (b := 27) (by decide +kernel) rfl
theorem dX9_back_14 : decode cX9_back 14 = .ok (.iload_n 1, 1) := dk_27 (by decide +kernel)
theorem dX9_back_15 : decode cX9_back 15 = .ok (.aaload, 1) := dk_50 (by decide +kernel)
theorem dX9_back_16 : decode cX9_back 16 = .ok (.astore_n 2, 1) := dk_77 (by decide +kernel)
theorem dX9_back_17 : decode cX9_back 17 = .ok (.aload_n 2, 1) := dk_44 (by decide +kernel)
theorem dX9_back_18 : decode cX9_back 18 = .ok (.ifnonnull 6, 3) := dk_199 (a := 0) (b := 6) (by decide +kernel) (by decide +kernel)
theorem dX9_back_21 : decode cX9_back 21 = .ok (.bipush (-6), 2) := dk_16 (a := 250) (by decide +kernel) (by decide +kernel)
theorem dX9_back_23 : decode cX9_back 23 = .ok (.ireturn, 1) := dk_172 (by decide +kernel)
theorem dX9_back_24 : decode cX9_back 24 = .ok (.aload_n 0, 1) := dk_42 (by decide +kernel)
theorem dX9_back_25 : decode cX9_back 25 = .ok (.getfield 23, 3) := dk_180 (a := 0) (b := 23) (by decide +kernel) rfl
theorem dX9_back_28 : decode cX9_back 28 = .ok (.aload_n 2, 1) := dk_44 (by decide +kernel)
theorem dX9_back_29 : decode cX9_back 29 = .ok (.invokevirtual 302, 3) := dk_182 (a := 1) (b := 46) (by decide +kernel) rfl
theorem dX9_back_32 : decode cX9_back 32 = .ok (.aload_n 0, 1) := dk_42 (by decide +kernel)
theorem dX9_back_33 : decode cX9_back 33 = .ok (.invokevirtual 90, 3) := dk_182 (a := 0) (b := 90) (by decide +kernel) rfl
theorem dX9_back_36 : decode cX9_back 36 = .ok (.iconst 0, 1) := dk_3 (by decide +kernel)
theorem dX9_back_37 : decode cX9_back 37 = .ok (.ireturn, 1) := dk_172 (by decide +kernel)
theorem dX9_row_0 : decode cX9_row 0 = .ok (.iload_n 1, 1) := dk_27 (by decide +kernel)
theorem dX9_row_1 : decode cX9_row 1 = .ok (.invokestatic 134, 3) := dk_184 (a := 0) (b := 134) (by decide +kernel) rfl
theorem dX9_row_4 : decode cX9_row 4 = .ok (.ifCond .eq 18, 3) := dk_153 (a := 0) (b := 18) (by decide +kernel) (by decide +kernel)
theorem dX9_row_7 : decode cX9_row 7 = .ok (.iload_n 2, 1) := dk_28 (by decide +kernel)
theorem dX9_row_8 : decode cX9_row 8 = .ok (.ifCond .lt 14, 3) := dk_155 (a := 0) (b := 14) (by decide +kernel) (by decide +kernel)
theorem dX9_row_11 : decode cX9_row 11 = .ok (.iload_n 2, 1) := dk_28 (by decide +kernel)
theorem dX9_row_12 : decode cX9_row 12 = .ok (.iconst 4, 1) := dk_7 (by decide +kernel)
theorem dX9_row_13 : decode cX9_row 13 = .ok (.if_icmp .ge 9, 3) := dk_162 (a := 0) (b := 9) (by decide +kernel) (by decide +kernel)
theorem dX9_row_16 : decode cX9_row 16 = .ok (.iload_n 3, 1) := dk_29 (by decide +kernel)
theorem dX9_row_17 : decode cX9_row 17 = .ok (.bipush 60, 2) := dk_16 (a := 60) (by decide +kernel) (by decide +kernel)
theorem dX9_row_19 : decode cX9_row 19 = .ok (.if_icmp .le 6, 3) := dk_164 (a := 0) (b := 6) (by decide +kernel) (by decide +kernel)
theorem dX9_row_22 : decode cX9_row 22 = .ok (.bipush (-2), 2) := dk_16 (a := 254) (by decide +kernel) (by decide +kernel)
theorem dX9_row_24 : decode cX9_row 24 = .ok (.ireturn, 1) := dk_172 (by decide +kernel)
theorem dX9_row_25 : decode cX9_row 25 = .ok (.iload_n 3, 1) := dk_29 (by decide +kernel)
theorem dX9_row_26 : decode cX9_row 26 = .ok (.ifCond .ge 6, 3) := dk_156 (a := 0) (b := 6) (by decide +kernel) (by decide +kernel)
theorem dX9_row_29 : decode cX9_row 29 = .ok (.bipush (-3), 2) := dk_16 (a := 253) (by decide +kernel) (by decide +kernel)
theorem dX9_row_31 : decode cX9_row 31 = .ok (.ireturn, 1) := dk_172 (by decide +kernel)
theorem dX9_row_32 : decode cX9_row 32 = .ok (.aload_n 0, 1) := dk_42 (by decide +kernel)
theorem dX9_row_33 : decode cX9_row 33 = .ok (.getfield 33, 3) := dk_180 (a := 0) (b := 33) (by decide +kernel) rfl
theorem dX9_row_36 : decode cX9_row 36 = .ok (.iload_n 1, 1) := dk_27 (by decide +kernel)
theorem dX9_row_37 : decode cX9_row 37 = .ok (.aaload, 1) := dk_50 (by decide +kernel)
theorem dX9_row_38 : decode cX9_row 38 = .ok (.iload_n 2, 1) := dk_28 (by decide +kernel)
theorem dX9_row_39 : decode cX9_row 39 = .ok (.iload_n 3, 1) := dk_29 (by decide +kernel)
theorem dX9_row_40 : decode cX9_row 40 = .ok (.invokevirtual 306, 3) := dk_182 (a := 1) (b := 50) (by decide +kernel) rfl
theorem dX9_row_43 : decode cX9_row 43 = .ok (.iconst 0, 1) := dk_3 (by decide +kernel)
theorem dX9_row_44 : decode cX9_row 44 = .ok (.ireturn, 1) := dk_172 (by decide +kernel)
theorem dX9_write_0 : decode cX9_write 0 = .ok (.iload_n 1, 1) := dk_27 (by decide +kernel)
theorem dX9_write_1 : decode cX9_write 1 = .ok (.invokestatic 134, 3) := dk_184 (a := 0) (b := 134) (by decide +kernel) rfl
theorem dX9_write_4 : decode cX9_write 4 = .ok (.ifCond .ne 6, 3) := dk_154 (a := 0) (b := 6) (by decide +kernel) (by decide +kernel)
theorem dX9_write_7 : decode cX9_write 7 = .ok (.bipush (-2), 2) := dk_16 (a := 254) (by decide +kernel) (by decide +kernel)
theorem dX9_write_9 : decode cX9_write 9 = .ok (.ireturn, 1) := dk_172 (by decide +kernel)
theorem dX9_write_10 : decode cX9_write 10 = .ok (.aload_n 0, 1) := dk_42 (by decide +kernel)
theorem dX9_write_11 : decode cX9_write 11 = .ok (.getfield 33, 3) := dk_180 (a := 0) (b := 33) (by decide +kernel) rfl
theorem dX9_write_14 : decode cX9_write 14 = .ok (.iload_n 1, 1) := dk_27 (by decide +kernel)
theorem dX9_write_15 : decode cX9_write 15 = .ok (.aaload, 1) := dk_50 (by decide +kernel)
theorem dX9_write_16 : decode cX9_write 16 = .ok (.astore 5, 2) := dk_58 (a := 5) (by decide +kernel)
theorem dX9_write_18 : decode cX9_write 18 = .ok (.aload 5, 2) := dk_25 (a := 5) (by decide +kernel)
theorem dX9_write_20 : decode cX9_write 20 = .ok (.getfield 138, 3) := dk_180 (a := 0) (b := 138) (by decide +kernel) rfl
theorem dX9_write_23 : decode cX9_write 23 = .ok (.ifCond .ne 6, 3) := dk_154 (a := 0) (b := 6) (by decide +kernel) (by decide +kernel)
theorem dX9_write_26 : decode cX9_write 26 = .ok (.bipush (-6), 2) := dk_16 (a := 250) (by decide +kernel) (by decide +kernel)
theorem dX9_write_28 : decode cX9_write 28 = .ok (.ireturn, 1) := dk_172 (by decide +kernel)
theorem dX9_write_29 : decode cX9_write 29 = .ok (.iload_n 2, 1) := dk_28 (by decide +kernel)
theorem dX9_write_30 : decode cX9_write 30 = .ok (.ifCond .lt 12, 3) := dk_155 (a := 0) (b := 12) (by decide +kernel) (by decide +kernel)
theorem dX9_write_33 : decode cX9_write 33 = .ok (.iload_n 2, 1) := dk_28 (by decide +kernel)
theorem dX9_write_34 : decode cX9_write 34 = .ok (.aload 5, 2) := dk_25 (a := 5) (by decide +kernel)
theorem dX9_write_36 : decode cX9_write 36 = .ok (.getfield 142, 3) := dk_180 (a := 0) (b := 142) (by decide +kernel) rfl
theorem dX9_write_39 : decode cX9_write 39 = .ok (.if_icmp .lt 6, 3) := dk_161 (a := 0) (b := 6) (by decide +kernel) (by decide +kernel)
theorem dX9_write_42 : decode cX9_write 42 = .ok (.bipush (-7), 2) := dk_16 (a := 249) (by decide +kernel) (by decide +kernel)
theorem dX9_write_44 : decode cX9_write 44 = .ok (.ireturn, 1) := dk_172 (by decide +kernel)
theorem dX9_write_45 : decode cX9_write 45 = .ok (.aload 5, 2) := dk_25 (a := 5) (by decide +kernel)
theorem dX9_write_47 : decode cX9_write 47 = .ok (.getfield 310, 3) := dk_180 (a := 1) (b := 54) (by decide +kernel) rfl
theorem dX9_write_50 : decode cX9_write 50 = .ok (.iload_n 2, 1) := dk_28 (by decide +kernel)
theorem dX9_write_51 : decode cX9_write 51 = .ok (.aload 5, 2) := dk_25 (a := 5) (by decide +kernel)
theorem dX9_write_53 : decode cX9_write 53 = .ok (.lload_n 3, 1) := dk_33 (by decide +kernel)
theorem dX9_write_54 : decode cX9_write 54 = .ok (.invokevirtual 314, 3) := dk_182 (a := 1) (b := 58) (by decide +kernel) rfl
theorem dX9_write_57 : decode cX9_write 57 = .ok (.lastore, 1) := dk_80 (by decide +kernel)
theorem dX9_write_58 : decode cX9_write 58 = .ok (.iconst 0, 1) := dk_3 (by decide +kernel)
theorem dX9_write_59 : decode cX9_write 59 = .ok (.ireturn, 1) := dk_172 (by decide +kernel)
theorem dX9_paste_0 : decode cX9_paste 0 = .ok (.iload_n 1, 1) := dk_27 (by decide +kernel)
theorem dX9_paste_1 : decode cX9_paste 1 = .ok (.invokestatic 134, 3) := dk_184 (a := 0) (b := 134) (by decide +kernel) rfl
theorem dX9_paste_4 : decode cX9_paste 4 = .ok (.ifCond .eq 10, 3) := dk_153 (a := 0) (b := 10) (by decide +kernel) (by decide +kernel)
theorem dX9_paste_7 : decode cX9_paste 7 = .ok (.iload_n 3, 1) := dk_29 (by decide +kernel)
theorem dX9_paste_8 : decode cX9_paste 8 = .ok (.invokestatic 134, 3) := dk_184 (a := 0) (b := 134) (by decide +kernel) rfl
theorem dX9_paste_11 : decode cX9_paste 11 = .ok (.ifCond .ne 6, 3) := dk_154 (a := 0) (b := 6) (by decide +kernel) (by decide +kernel)
theorem dX9_paste_14 : decode cX9_paste 14 = .ok (.bipush (-2), 2) := dk_16 (a := 254) (by decide +kernel) (by decide +kernel)
theorem dX9_paste_16 : decode cX9_paste 16 = .ok (.ireturn, 1) := dk_172 (by decide +kernel)
theorem dX9_paste_17 : decode cX9_paste 17 = .ok (.aload_n 0, 1) := dk_42 (by decide +kernel)
theorem dX9_paste_18 : decode cX9_paste 18 = .ok (.getfield 33, 3) := dk_180 (a := 0) (b := 33) (by decide +kernel) rfl
theorem dX9_paste_21 : decode cX9_paste 21 = .ok (.iload_n 1, 1) := dk_27 (by decide +kernel)
theorem dX9_paste_22 : decode cX9_paste 22 = .ok (.aaload, 1) := dk_50 (by decide +kernel)
theorem dX9_paste_23 : decode cX9_paste 23 = .ok (.astore 6, 2) := dk_58 (a := 6) (by decide +kernel)
theorem dX9_paste_25 : decode cX9_paste 25 = .ok (.aload_n 0, 1) := dk_42 (by decide +kernel)
theorem dX9_paste_26 : decode cX9_paste 26 = .ok (.getfield 33, 3) := dk_180 (a := 0) (b := 33) (by decide +kernel) rfl
theorem dX9_paste_29 : decode cX9_paste 29 = .ok (.iload_n 3, 1) := dk_29 (by decide +kernel)
theorem dX9_paste_30 : decode cX9_paste 30 = .ok (.aaload, 1) := dk_50 (by decide +kernel)
theorem dX9_paste_31 : decode cX9_paste 31 = .ok (.astore 7, 2) := dk_58 (a := 7) (by decide +kernel)
theorem dX9_paste_33 : decode cX9_paste 33 = .ok (.aload 6, 2) := dk_25 (a := 6) (by decide +kernel)
theorem dX9_paste_35 : decode cX9_paste 35 = .ok (.getfield 138, 3) := dk_180 (a := 0) (b := 138) (by decide +kernel) rfl
theorem dX9_paste_38 : decode cX9_paste 38 = .ok (.ifCond .eq 11, 3) := dk_153 (a := 0) (b := 11) (by decide +kernel) (by decide +kernel)
theorem dX9_paste_41 : decode cX9_paste 41 = .ok (.aload 7, 2) := dk_25 (a := 7) (by decide +kernel)
theorem dX9_paste_43 : decode cX9_paste 43 = .ok (.getfield 138, 3) := dk_180 (a := 0) (b := 138) (by decide +kernel) rfl
theorem dX9_paste_46 : decode cX9_paste 46 = .ok (.ifCond .ne 6, 3) := dk_154 (a := 0) (b := 6) (by decide +kernel) (by decide +kernel)
theorem dX9_paste_49 : decode cX9_paste 49 = .ok (.bipush (-6), 2) := dk_16 (a := 250) (by decide +kernel) (by decide +kernel)
theorem dX9_paste_51 : decode cX9_paste 51 = .ok (.ireturn, 1) := dk_172 (by decide +kernel)
theorem dX9_paste_52 : decode cX9_paste 52 = .ok (.aload 6, 2) := dk_25 (a := 6) (by decide +kernel)
theorem dX9_paste_54 : decode cX9_paste 54 = .ok (.getfield 318, 3) := dk_180 (a := 1) (b := 62) (by decide +kernel) rfl
theorem dX9_paste_57 : decode cX9_paste 57 = .ok (.aload 7, 2) := dk_25 (a := 7) (by decide +kernel)
theorem dX9_paste_59 : decode cX9_paste 59 = .ok (.getfield 318, 3) := dk_180 (a := 1) (b := 62) (by decide +kernel) rfl
theorem dX9_paste_62 : decode cX9_paste 62 = .ok (.if_icmp .eq 6, 3) := dk_159 (a := 0) (b := 6) (by decide +kernel) (by decide +kernel)
theorem dX9_paste_65 : decode cX9_paste 65 = .ok (.bipush (-8), 2) := dk_16 (a := 248) (by decide +kernel) (by decide +kernel)
theorem dX9_paste_67 : decode cX9_paste 67 = .ok (.ireturn, 1) := dk_172 (by decide +kernel)
theorem dX9_paste_68 : decode cX9_paste 68 = .ok (.aload 6, 2) := dk_25 (a := 6) (by decide +kernel)
theorem dX9_paste_70 : decode cX9_paste 70 = .ok (.iload_n 2, 1) := dk_28 (by decide +kernel)
theorem dX9_paste_71 : decode cX9_paste 71 = .ok (.iload 5, 2) := dk_21 (a := 5) (by decide +kernel)
theorem dX9_paste_73 : decode cX9_paste 73 = .ok (.invokevirtual 321, 3) := dk_182 (a := 1) (b := 65) (by decide +kernel) rfl
theorem dX9_paste_76 : decode cX9_paste 76 = .ok (.ifCond .eq 15, 3) := dk_153 (a := 0) (b := 15) (by decide +kernel) (by decide +kernel)
theorem dX9_paste_79 : decode cX9_paste 79 = .ok (.aload 7, 2) := dk_25 (a := 7) (by decide +kernel)
theorem dX9_paste_81 : decode cX9_paste 81 = .ok (.iload 4, 2) := dk_21 (a := 4) (by decide +kernel)
theorem dX9_paste_83 : decode cX9_paste 83 = .ok (.iload 5, 2) := dk_21 (a := 5) (by decide +kernel)
theorem dX9_paste_85 : decode cX9_paste 85 = .ok (.invokevirtual 321, 3) := dk_182 (a := 1) (b := 65) (by decide +kernel) rfl
theorem dX9_paste_88 : decode cX9_paste 88 = .ok (.ifCond .ne 6, 3) := dk_154 (a := 0) (b := 6) (by decide +kernel) (by decide +kernel)
theorem dX9_paste_91 : decode cX9_paste 91 = .ok (.bipush (-7), 2) := dk_16 (a := 249) (by decide +kernel) (by decide +kernel)
theorem dX9_paste_93 : decode cX9_paste 93 = .ok (.ireturn, 1) := dk_172 (by decide +kernel)
theorem dX9_paste_94 : decode cX9_paste 94 = .ok (.aload 6, 2) := dk_25 (a := 6) (by decide +kernel)
theorem dX9_paste_96 : decode cX9_paste 96 = .ok (.getfield 310, 3) := dk_180 (a := 1) (b := 54) (by decide +kernel) rfl
theorem dX9_paste_99 : decode cX9_paste 99 = .ok (.iload_n 2, 1) := dk_28 (by decide +kernel)
theorem dX9_paste_100 : decode cX9_paste 100 = .ok (.aload 7, 2) := dk_25 (a := 7) (by decide +kernel)
theorem dX9_paste_102 : decode cX9_paste 102 = .ok (.getfield 310, 3) := dk_180 (a := 1) (b := 54) (by decide +kernel) rfl
theorem dX9_paste_105 : decode cX9_paste 105 = .ok (.iload 4, 2) := dk_21 (a := 4) (by decide +kernel)
theorem dX9_paste_107 : decode cX9_paste 107 = .ok (.iload 5, 2) := dk_21 (a := 5) (by decide +kernel)
theorem dX9_paste_109 : decode cX9_paste 109 = .ok (.invokestatic 324, 3) := dk_184 (a := 1) (b := 68) (by decide +kernel) rfl
theorem dX9_paste_112 : decode cX9_paste 112 = .ok (.iconst 0, 1) := dk_3 (by decide +kernel)
theorem dX9_paste_113 : decode cX9_paste 113 = .ok (.ireturn, 1) := dk_172 (by decide +kernel)
theorem dX9_feedNumber_0 : decode cX9_feedNumber 0 = .ok (.bipush 24, 2) := dk_16 (a := 24) (by decide +kernel) (by decide +kernel)
theorem dX9_feedNumber_2 : decode cX9_feedNumber 2 = .ok (.istore_n 2, 1) := dk_61 (by decide +kernel)
theorem dX9_feedNumber_3 : decode cX9_feedNumber 3 = .ok (.iload_n 2, 1) := dk_28 (by decide +kernel)
theorem dX9_feedNumber_4 : decode cX9_feedNumber 4 = .ok (.ifCond .lt 42, 3) := dk_155 (a := 0) (b := 42) (by decide +kernel) (by decide +kernel)
theorem dX9_feedNumber_7 : decode cX9_feedNumber 7 = .ok (.aload_n 0, 1) := dk_42 (by decide +kernel)
theorem dX9_feedNumber_8 : decode cX9_feedNumber 8 = .ok (.getfield 63, 3) := dk_180 (a := 0) (b := 63) (by decide +kernel) rfl
theorem dX9_feedNumber_11 : decode cX9_feedNumber 11 = .ok (.sipush 1400, 3) := dk_17 (a := 5) (b := 120) (by decide +kernel) (by decide +kernel)
theorem dX9_feedNumber_14 : decode cX9_feedNumber 14 = .ok (.if_icmp .ge 32, 3) := dk_162 (a := 0) (b := 32) (by decide +kernel) (by decide +kernel)
theorem dX9_feedNumber_17 : decode cX9_feedNumber 17 = .ok (.aload_n 0, 1) := dk_42 (by decide +kernel)
theorem dX9_feedNumber_18 : decode cX9_feedNumber 18 = .ok (.getfield 9, 3) := dk_180 (a := 0) (b := 9) (by decide +kernel) rfl
theorem dX9_feedNumber_21 : decode cX9_feedNumber 21 = .ok (.aload_n 0, 1) := dk_42 (by decide +kernel)
theorem dX9_feedNumber_22 : decode cX9_feedNumber 22 = .ok (.getfield 63, 3) := dk_180 (a := 0) (b := 63) (by decide +kernel) rfl
theorem dX9_feedNumber_25 : decode cX9_feedNumber 25 = .ok (.iload_n 1, 1) := dk_27 (by decide +kernel)
theorem dX9_feedNumber_26 : decode cX9_feedNumber 26 = .ok (.iload_n 2, 1) := dk_28 (by decide +kernel)
theorem dX9_feedNumber_27 : decode cX9_feedNumber 27 = .ok (.ishr, 1) := dk_122 (by decide +kernel)
theorem dX9_feedNumber_28 : decode cX9_feedNumber 28 = .ok (.i2b, 1) := dk_145 (by decide +kernel)
theorem dX9_feedNumber_29 : decode cX9_feedNumber 29 = .ok (.bastore, 1) := dk_84 (by decide +kernel)
theorem dX9_feedNumber_30 : decode cX9_feedNumber 30 = .ok (.aload_n 0, 1) := dk_42 (by decide +kernel)
theorem dX9_feedNumber_31 : decode cX9_feedNumber 31 = .ok (.dup, 1) := dk_89 (by decide +kernel)
theorem dX9_feedNumber_32 : decode cX9_feedNumber 32 = .ok (.getfield 63, 3) := dk_180 (a := 0) (b := 63) (by decide +kernel) rfl
theorem dX9_feedNumber_35 : decode cX9_feedNumber 35 = .ok (.iconst 1, 1) := dk_4 (by decide +kernel)
theorem dX9_feedNumber_36 : decode cX9_feedNumber 36 = .ok (.iadd, 1) := dk_96 (by decide +kernel)
theorem dX9_feedNumber_37 : decode cX9_feedNumber 37 = .ok (.putfield 63, 3) := dk_181 (a := 0) (b := 63) (by decide +kernel) rfl
theorem dX9_feedNumber_40 : decode cX9_feedNumber 40 = .ok (.iinc 2 (-8), 3) := dk_132 (a := 2) (b := 248) (by decide +kernel) (by decide +kernel)
theorem dX9_feedNumber_43 : decode cX9_feedNumber 43 = .ok (.goto (-40), 3) := dk_167 (a := 255) (b := 216) (by decide +kernel) (by decide +kernel)
theorem dX9_feedNumber_46 : decode cX9_feedNumber 46 = .ok (.return_, 1) := dk_177 (by decide +kernel)
theorem dX9_forget_0 : decode cX9_forget 0 = .ok (.aload_n 0, 1) := dk_42 (by decide +kernel)
theorem dX9_forget_1 : decode cX9_forget 1 = .ok (.getfield 40, 3) := dk_180 (a := 0) (b := 40) (by decide +kernel) rfl
theorem dX9_forget_4 : decode cX9_forget 4 = .ok (.iconst 0, 1) := dk_3 (by decide +kernel)
theorem dX9_forget_5 : decode cX9_forget 5 = .ok (.putfield 330, 3) := dk_181 (a := 1) (b := 74) (by decide +kernel) rfl
theorem dX9_forget_8 : decode cX9_forget 8 = .ok (.aload_n 0, 1) := dk_42 (by decide +kernel)
theorem dX9_forget_9 : decode cX9_forget 9 = .ok (.getfield 47, 3) := dk_180 (a := 0) (b := 47) (by decide +kernel) rfl
theorem dX9_forget_12 : decode cX9_forget 12 = .ok (.iconst 0, 1) := dk_3 (by decide +kernel)
theorem dX9_forget_13 : decode cX9_forget 13 = .ok (.putfield 333, 3) := dk_181 (a := 1) (b := 77) (by decide +kernel) rfl
theorem dX9_forget_16 : decode cX9_forget 16 = .ok (.return_, 1) := dk_177 (by decide +kernel)
theorem dX9_isDeed_0 : decode cX9_isDeed 0 = .ok (.aload_n 0, 1) := dk_42 (by decide +kernel)
theorem dX9_isDeed_1 : decode cX9_isDeed 1 = .ok (.getfield 23, 3) := dk_180 (a := 0) (b := 23) (by decide +kernel) rfl
theorem dX9_isDeed_4 : decode cX9_isDeed 4 = .ok (.getfield 93, 3) := dk_180 (a := 0) (b := 93) (by decide +kernel) rfl
theorem dX9_isDeed_7 : decode cX9_isDeed 7 = .ok (.iload_n 1, 1) := dk_27 (by decide +kernel)
theorem dX9_isDeed_8 : decode cX9_isDeed 8 = .ok (.iload_n 2, 1) := dk_28 (by decide +kernel)
theorem dX9_isDeed_9 : decode cX9_isDeed 9 = .ok (.invokevirtual 126, 3) := dk_182 (a := 0) (b := 126) (by decide +kernel) rfl
theorem dX9_isDeed_12 : decode cX9_isDeed 12 = .ok (.ifCond .eq 16, 3) := dk_153 (a := 0) (b := 16) (by decide +kernel) (by decide +kernel)
theorem dX9_isDeed_15 : decode cX9_isDeed 15 = .ok (.iload_n 3, 1) := dk_29 (by decide +kernel)
theorem dX9_isDeed_16 : decode cX9_isDeed 16 = .ok (.ifCond .lt 12, 3) := dk_155 (a := 0) (b := 12) (by decide +kernel) (by decide +kernel)
theorem dX9_isDeed_19 : decode cX9_isDeed 19 = .ok (.iload_n 3, 1) := dk_29 (by decide +kernel)
theorem dX9_isDeed_20 : decode cX9_isDeed 20 = .ok (.iconst 4, 1) := dk_7 (by decide +kernel)
theorem dX9_isDeed_21 : decode cX9_isDeed 21 = .ok (.if_icmp .ge 7, 3) := dk_162 (a := 0) (b := 7) (by decide +kernel) (by decide +kernel)
theorem dX9_isDeed_24 : decode cX9_isDeed 24 = .ok (.iconst 1, 1) := dk_4 (by decide +kernel)
theorem dX9_isDeed_25 : decode cX9_isDeed 25 = .ok (.goto 4, 3) := dk_167 (a := 0) (b := 4) (by decide +kernel) (by decide +kernel)
theorem dX9_isDeed_28 : decode cX9_isDeed 28 = .ok (.iconst 0, 1) := dk_3 (by decide +kernel)
theorem dX9_isDeed_29 : decode cX9_isDeed 29 = .ok (.ireturn, 1) := dk_172 (by decide +kernel)
theorem dX9_isOuting_0 : decode cX9_isOuting 0 = .ok (.aload_n 0, 1) := dk_42 (by decide +kernel)
theorem dX9_isOuting_1 : decode cX9_isOuting 1 = .ok (.getfield 23, 3) := dk_180 (a := 0) (b := 23) (by decide +kernel) rfl
theorem dX9_isOuting_4 : decode cX9_isOuting 4 = .ok (.getfield 93, 3) := dk_180 (a := 0) (b := 93) (by decide +kernel) rfl
theorem dX9_isOuting_7 : decode cX9_isOuting 7 = .ok (.iload_n 1, 1) := dk_27 (by decide +kernel)
theorem dX9_isOuting_8 : decode cX9_isOuting 8 = .ok (.invokevirtual 158, 3) := dk_182 (a := 0) (b := 158) (by decide +kernel) rfl
theorem dX9_isOuting_11 : decode cX9_isOuting 11 = .ok (.ifCond .eq 25, 3) := dk_153 (a := 0) (b := 25) (by decide +kernel) (by decide +kernel)
theorem dX9_isOuting_14 : decode cX9_isOuting 14 = .ok (.iload_n 2, 1) := dk_28 (by decide +kernel)
theorem dX9_isOuting_15 : decode cX9_isOuting 15 = .ok (.aload_n 0, 1) := dk_42 (by decide +kernel)
theorem dX9_isOuting_16 : decode cX9_isOuting 16 = .ok (.getfield 23, 3) := dk_180 (a := 0) (b := 23) (by decide +kernel) rfl
theorem dX9_isOuting_19 : decode cX9_isOuting 19 = .ok (.getfield 102, 3) := dk_180 (a := 0) (b := 102) (by decide +kernel) rfl
theorem dX9_isOuting_22 : decode cX9_isOuting 22 = .ok (.if_icmp .lt 14, 3) := dk_161 (a := 0) (b := 14) (by decide +kernel) (by decide +kernel)
theorem dX9_isOuting_25 : decode cX9_isOuting 25 = .ok (.iload_n 2, 1) := dk_28 (by decide +kernel)
theorem dX9_isOuting_26 : decode cX9_isOuting 26 = .ok (.sipush 399, 3) := dk_17 (a := 1) (b := 143) (by decide +kernel) (by decide +kernel)
theorem dX9_isOuting_29 : decode cX9_isOuting 29 = .ok (.if_icmp .gt 7, 3) := dk_163 (a := 0) (b := 7) (by decide +kernel) (by decide +kernel)
theorem dX9_isOuting_32 : decode cX9_isOuting 32 = .ok (.iconst 1, 1) := dk_4 (by decide +kernel)
theorem dX9_isOuting_33 : decode cX9_isOuting 33 = .ok (.goto 4, 3) := dk_167 (a := 0) (b := 4) (by decide +kernel) (by decide +kernel)
theorem dX9_isOuting_36 : decode cX9_isOuting 36 = .ok (.iconst 0, 1) := dk_3 (by decide +kernel)
theorem dX9_isOuting_37 : decode cX9_isOuting 37 = .ok (.ireturn, 1) := dk_172 (by decide +kernel)
theorem dX9_isSlot_0 : decode cX9_isSlot 0 = .ok (.iload_n 0, 1) := dk_26 (by decide +kernel)
theorem dX9_isSlot_1 : decode cX9_isSlot 1 = .ok (.ifCond .lt 12, 3) := dk_155 (a := 0) (b := 12) (by decide +kernel) (by decide +kernel)
theorem dX9_isSlot_4 : decode cX9_isSlot 4 = .ok (.iload_n 0, 1) := dk_26 (by decide +kernel)
theorem dX9_isSlot_5 : decode cX9_isSlot 5 = .ok (.iconst 4, 1) := dk_7 (by decide +kernel)
theorem dX9_isSlot_6 : decode cX9_isSlot 6 = .ok (.if_icmp .ge 7, 3) := dk_162 (a := 0) (b := 7) (by decide +kernel) (by decide +kernel)
theorem dX9_isSlot_9 : decode cX9_isSlot 9 = .ok (.iconst 1, 1) := dk_4 (by decide +kernel)
theorem dX9_isSlot_10 : decode cX9_isSlot 10 = .ok (.goto 4, 3) := dk_167 (a := 0) (b := 4) (by decide +kernel) (by decide +kernel)
theorem dX9_isSlot_13 : decode cX9_isSlot 13 = .ok (.iconst 0, 1) := dk_3 (by decide +kernel)
theorem dX9_isSlot_14 : decode cX9_isSlot 14 = .ok (.ireturn, 1) := dk_172 (by decide +kernel)
theorem dX9_isImage_0 : decode cX9_isImage 0 = .ok (.iload_n 0, 1) := dk_26 (by decide +kernel)
theorem dX9_isImage_1 : decode cX9_isImage 1 = .ok (.ifCond .lt 12, 3) := dk_155 (a := 0) (b := 12) (by decide +kernel) (by decide +kernel)
theorem dX9_isImage_4 : decode cX9_isImage 4 = .ok (.iload_n 0, 1) := dk_26 (by decide +kernel)
theorem dX9_isImage_5 : decode cX9_isImage 5 = .ok (.iconst 3, 1) := dk_6 (by decide +kernel)
theorem dX9_isImage_6 : decode cX9_isImage 6 = .ok (.if_icmp .ge 7, 3) := dk_162 (a := 0) (b := 7) (by decide +kernel) (by decide +kernel)
theorem dX9_isImage_9 : decode cX9_isImage 9 = .ok (.iconst 1, 1) := dk_4 (by decide +kernel)
theorem dX9_isImage_10 : decode cX9_isImage 10 = .ok (.goto 4, 3) := dk_167 (a := 0) (b := 4) (by decide +kernel) (by decide +kernel)
theorem dX9_isImage_13 : decode cX9_isImage 13 = .ok (.iconst 0, 1) := dk_3 (by decide +kernel)
theorem dX9_isImage_14 : decode cX9_isImage 14 = .ok (.ireturn, 1) := dk_172 (by decide +kernel)
theorem dX9_filledSlots_0 : decode cX9_filledSlots 0 = .ok (.iconst 0, 1) := dk_3 (by decide +kernel)
theorem dX9_filledSlots_1 : decode cX9_filledSlots 1 = .ok (.istore_n 1, 1) := dk_60 (by decide +kernel)
theorem dX9_filledSlots_2 : decode cX9_filledSlots 2 = .ok (.iconst 0, 1) := dk_3 (by decide +kernel)
theorem dX9_filledSlots_3 : decode cX9_filledSlots 3 = .ok (.istore_n 2, 1) := dk_61 (by decide +kernel)
theorem dX9_filledSlots_4 : decode cX9_filledSlots 4 = .ok (.iload_n 2, 1) := dk_28 (by decide +kernel)
theorem dX9_filledSlots_5 : decode cX9_filledSlots 5 = .ok (.iconst 4, 1) := dk_7 (by decide +kernel)
theorem dX9_filledSlots_6 : decode cX9_filledSlots 6 = .ok (.if_icmp .ge 24, 3) := dk_162 (a := 0) (b := 24) (by decide +kernel) (by decide +kernel)
theorem dX9_filledSlots_9 : decode cX9_filledSlots 9 = .ok (.aload_n 0, 1) := dk_42 (by decide +kernel)
theorem dX9_filledSlots_10 : decode cX9_filledSlots 10 = .ok (.getfield 33, 3) := dk_180 (a := 0) (b := 33) (by decide +kernel) rfl
theorem dX9_filledSlots_13 : decode cX9_filledSlots 13 = .ok (.iload_n 2, 1) := dk_28 (by decide +kernel)
theorem dX9_filledSlots_14 : decode cX9_filledSlots 14 = .ok (.aaload, 1) := dk_50 (by decide +kernel)
theorem dX9_filledSlots_15 : decode cX9_filledSlots 15 = .ok (.getfield 138, 3) := dk_180 (a := 0) (b := 138) (by decide +kernel) rfl
theorem dX9_filledSlots_18 : decode cX9_filledSlots 18 = .ok (.ifCond .eq 6, 3) := dk_153 (a := 0) (b := 6) (by decide +kernel) (by decide +kernel)
theorem dX9_filledSlots_21 : decode cX9_filledSlots 21 = .ok (.iinc 1 1, 3) := dk_132 (a := 1) (b := 1) (by decide +kernel) (by decide +kernel)
theorem dX9_filledSlots_24 : decode cX9_filledSlots 24 = .ok (.iinc 2 1, 3) := dk_132 (a := 2) (b := 1) (by decide +kernel) (by decide +kernel)
theorem dX9_filledSlots_27 : decode cX9_filledSlots 27 = .ok (.goto (-23), 3) := dk_167 (a := 255) (b := 233) (by decide +kernel) (by decide +kernel)
theorem dX9_filledSlots_30 : decode cX9_filledSlots 30 = .ok (.iload_n 1, 1) := dk_27 (by decide +kernel)
theorem dX9_filledSlots_31 : decode cX9_filledSlots 31 = .ok (.ireturn, 1) := dk_172 (by decide +kernel)
theorem dX10_in_0 : decode cX10_in 0 = .ok (.lload_n 0, 1) := dk_30 (by decide +kernel)
theorem dX10_in_1 : decode cX10_in 1 = .ok (.lload_n 2, 1) := dk_32 (by decide +kernel)
theorem dX10_in_2 : decode cX10_in 2 = .ok (.lcmp, 1) := dk_148 (by decide +kernel)
theorem dX10_in_3 : decode cX10_in 3 = .ok (.ifCond .lt 14, 3) := dk_155 (a := 0) (b := 14) (by decide +kernel) (by decide +kernel)
theorem dX10_in_6 : decode cX10_in 6 = .ok (.lload_n 0, 1) := dk_30 (by decide +kernel)
theorem dX10_in_7 : decode cX10_in 7 = .ok (.lload 4, 2) := dk_22 (a := 4) (by decide +kernel)
theorem dX10_in_9 : decode cX10_in 9 = .ok (.lcmp, 1) := dk_148 (by decide +kernel)
theorem dX10_in_10 : decode cX10_in 10 = .ok (.ifCond .gt 7, 3) := dk_157 (a := 0) (b := 7) (by decide +kernel) (by decide +kernel)
theorem dX10_in_13 : decode cX10_in 13 = .ok (.iconst 1, 1) := dk_4 (by decide +kernel)
theorem dX10_in_14 : decode cX10_in 14 = .ok (.goto 4, 3) := dk_167 (a := 0) (b := 4) (by decide +kernel) (by decide +kernel)
theorem dX10_in_17 : decode cX10_in 17 = .ok (.iconst 0, 1) := dk_3 (by decide +kernel)
theorem dX10_in_18 : decode cX10_in 18 = .ok (.ireturn, 1) := dk_172 (by decide +kernel)
theorem dX10_holds_0 : decode cX10_holds 0 = .ok (.iload_n 0, 1) := dk_26 (by decide +kernel)
theorem dX10_holds_1 : decode cX10_holds 1 = .ok (.iload_n 1, 1) := dk_27 (by decide +kernel)
theorem dX10_holds_2 : decode cX10_holds 2 = .ok (.ishr, 1) := dk_122 (by decide +kernel)
theorem dX10_holds_3 : decode cX10_holds 3 = .ok (.iconst 1, 1) := dk_4 (by decide +kernel)
theorem dX10_holds_4 : decode cX10_holds 4 = .ok (.iand, 1) := dk_126 (by decide +kernel)
theorem dX10_holds_5 : decode cX10_holds 5 = .ok (.iconst 1, 1) := dk_4 (by decide +kernel)
theorem dX10_holds_6 : decode cX10_holds 6 = .ok (.if_icmp .ne 7, 3) := dk_160 (a := 0) (b := 7) (by decide +kernel) (by decide +kernel)
theorem dX10_holds_9 : decode cX10_holds 9 = .ok (.iconst 1, 1) := dk_4 (by decide +kernel)
theorem dX10_holds_10 : decode cX10_holds 10 = .ok (.goto 4, 3) := dk_167 (a := 0) (b := 4) (by decide +kernel) (by decide +kernel)
theorem dX10_holds_13 : decode cX10_holds 13 = .ok (.iconst 0, 1) := dk_3 (by decide +kernel)
theorem dX10_holds_14 : decode cX10_holds 14 = .ok (.ireturn, 1) := dk_172 (by decide +kernel)
theorem dX10_ones_0 : decode cX10_ones 0 = .ok (.iconst 0, 1) := dk_3 (by decide +kernel)
theorem dX10_ones_1 : decode cX10_ones 1 = .ok (.istore_n 1, 1) := dk_60 (by decide +kernel)
theorem dX10_ones_2 : decode cX10_ones 2 = .ok (.iconst 0, 1) := dk_3 (by decide +kernel)
theorem dX10_ones_3 : decode cX10_ones 3 = .ok (.istore_n 2, 1) := dk_61 (by decide +kernel)
theorem dX10_ones_4 : decode cX10_ones 4 = .ok (.iload_n 2, 1) := dk_28 (by decide +kernel)
theorem dX10_ones_5 : decode cX10_ones 5 = .ok (.bipush 16, 2) := dk_16 (a := 16) (by decide +kernel) (by decide +kernel)
theorem dX10_ones_7 : decode cX10_ones 7 = .ok (.if_icmp .ge 17, 3) := dk_162 (a := 0) (b := 17) (by decide +kernel) (by decide +kernel)
theorem dX10_ones_10 : decode cX10_ones 10 = .ok (.iload_n 1, 1) := dk_27 (by decide +kernel)
theorem dX10_ones_11 : decode cX10_ones 11 = .ok (.iload_n 0, 1) := dk_26 (by decide +kernel)
theorem dX10_ones_12 : decode cX10_ones 12 = .ok (.iload_n 2, 1) := dk_28 (by decide +kernel)
theorem dX10_ones_13 : decode cX10_ones 13 = .ok (.ishr, 1) := dk_122 (by decide +kernel)
theorem dX10_ones_14 : decode cX10_ones 14 = .ok (.iconst 1, 1) := dk_4 (by decide +kernel)
theorem dX10_ones_15 : decode cX10_ones 15 = .ok (.iand, 1) := dk_126 (by decide +kernel)
theorem dX10_ones_16 : decode cX10_ones 16 = .ok (.iadd, 1) := dk_96 (by decide +kernel)
theorem dX10_ones_17 : decode cX10_ones 17 = .ok (.istore_n 1, 1) := dk_60 (by decide +kernel)
theorem dX10_ones_18 : decode cX10_ones 18 = .ok (.iinc 2 1, 3) := dk_132 (a := 2) (b := 1) (by decide +kernel) (by decide +kernel)
theorem dX10_ones_21 : decode cX10_ones 21 = .ok (.goto (-17), 3) := dk_167 (a := 255) (b := 239) (by decide +kernel) (by decide +kernel)
theorem dX10_ones_24 : decode cX10_ones 24 = .ok (.iload_n 1, 1) := dk_27 (by decide +kernel)
theorem dX10_ones_25 : decode cX10_ones 25 = .ok (.ireturn, 1) := dk_172 (by decide +kernel)
theorem dX10_init_0 : decode cX10_init 0 = .ok (.aload_n 0, 1) := dk_42 (by decide +kernel)
theorem dX10_init_1 : decode cX10_init 1 = .ok (.invokespecial 7, 3) := dk_183 (a := 0) (b := 7) (by decide +kernel) rfl
theorem dX10_init_4 : decode cX10_init 4 = .ok (.aload_n 0, 1) := dk_42 (by decide +kernel)
theorem dX10_init_5 : decode cX10_init 5 = .ok (.sipush 9080, 3) := dk_17 (a := 35) (b := 120) (by decide +kernel) (by decide +kernel)
theorem dX10_init_8 : decode cX10_init 8 = .ok (.newarray .int, 2) := dk_188_10 (by decide +kernel)
theorem dX10_init_10 : decode cX10_init 10 = .ok (.putfield 13, 3) := dk_181 (a := 0) (b := 13) (by decide +kernel) rfl
theorem dX10_init_13 : decode cX10_init 13 = .ok (.aload_n 0, 1) := dk_42 (by decide +kernel)
theorem dX10_init_14 : decode cX10_init 14 = .ok (.sipush 27240, 3) := dk_17 (a := 106) (b := 104) (by decide +kernel) (by decide +kernel)
theorem dX10_init_17 : decode cX10_init 17 = .ok (.newarray .int, 2) := dk_188_10 (by decide +kernel)
theorem dX10_init_19 : decode cX10_init 19 = .ok (.putfield 17, 3) := dk_181 (a := 0) (b := 17) (by decide +kernel) rfl
theorem dX10_init_22 : decode cX10_init 22 = .ok (.aload_n 0, 1) := dk_42 (by decide +kernel)
theorem dX10_init_23 : decode cX10_init 23 = .ok (.iconst 3, 1) := dk_6 (by decide +kernel)
theorem dX10_init_24 : decode cX10_init 24 = .ok (.newarray .boolean, 2) := dk_188_4 (by decide +kernel)
theorem dX10_init_26 : decode cX10_init 26 = .ok (.putfield 20, 3) := dk_181 (a := 0) (b := 20) (by decide +kernel) rfl
theorem dX10_init_29 : decode cX10_init 29 = .ok (.aload_n 0, 1) := dk_42 (by decide +kernel)
theorem dX10_init_30 : decode cX10_init 30 = .ok (.sipush 1400, 3) := dk_17 (a := 5) (b := 120) (by decide +kernel) (by decide +kernel)
theorem dX10_init_33 : decode cX10_init 33 = .ok (.newarray .byte, 2) := dk_188_8 (by decide +kernel)
theorem dX10_init_35 : decode cX10_init 35 = .ok (.putfield 24, 3) := dk_181 (a := 0) (b := 24) (by decide +kernel) rfl
theorem dX10_init_38 : decode cX10_init 38 = .ok (.aload_n 0, 1) := dk_42 (by decide +kernel)
theorem dX10_init_39 : decode cX10_init 39 = .ok (.iconst 5, 1) := dk_8 (by decide +kernel)
theorem dX10_init_40 : decode cX10_init 40 = .ok (.newarray .int, 2) := dk_188_10 (by decide +kernel)
theorem dX10_init_42 : decode cX10_init 42 = .ok (.putfield 28, 3) := dk_181 (a := 0) (b := 28) (by decide +kernel) rfl
theorem dX10_init_45 : decode cX10_init 45 = .ok (.aload_n 0, 1) := dk_42 (by decide +kernel)
theorem dX10_init_46 : decode cX10_init 46 = .ok (.iconst (-1), 1) := dk_2 (by decide +kernel)
theorem dX10_init_47 : decode cX10_init 47 = .ok (.putfield 31, 3) := dk_181 (a := 0) (b := 31) (by decide +kernel) rfl
theorem dX10_init_50 : decode cX10_init 50 = .ok (.aload_n 0, 1) := dk_42 (by decide +kernel)
theorem dX10_init_51 : decode cX10_init 51 = .ok (.sipush 9080, 3) := dk_17 (a := 35) (b := 120) (by decide +kernel) (by decide +kernel)
theorem dX10_init_54 : decode cX10_init 54 = .ok (.newarray .int, 2) := dk_188_10 (by decide +kernel)
theorem dX10_init_56 : decode cX10_init 56 = .ok (.putfield 34, 3) := dk_181 (a := 0) (b := 34) (by decide +kernel) rfl
theorem dX10_init_59 : decode cX10_init 59 = .ok (.aload_n 0, 1) := dk_42 (by decide +kernel)
theorem dX10_init_60 : decode cX10_init 60 = .ok (.bipush 6, 2) := dk_16 (a := 6) (by decide +kernel) (by decide +kernel)
theorem dX10_init_62 : decode cX10_init 62 = .ok (.newarray .int, 2) := dk_188_10 (by decide +kernel)
theorem dX10_init_64 : decode cX10_init 64 = .ok (.putfield 37, 3) := dk_181 (a := 0) (b := 37) (by decide +kernel) rfl
theorem dX10_init_67 : decode cX10_init 67 = .ok (.aload_n 0, 1) := dk_42 (by decide +kernel)
theorem dX10_init_68 : decode cX10_init 68 = .ok (.bipush 16, 2) := dk_16 (a := 16) (by decide +kernel) (by decide +kernel)
theorem dX10_init_70 : decode cX10_init 70 = .ok (.newarray .int, 2) := dk_188_10 (by decide +kernel)
theorem dX10_init_72 : decode cX10_init 72 = .ok (.putfield 40, 3) := dk_181 (a := 0) (b := 40) (by decide +kernel) rfl
theorem dX10_init_75 : decode cX10_init 75 = .ok (.aload_n 0, 1) := dk_42 (by decide +kernel)
theorem dX10_init_76 : decode cX10_init 76 = .ok (.bipush 16, 2) := dk_16 (a := 16) (by decide +kernel) (by decide +kernel)
theorem dX10_init_78 : decode cX10_init 78 = .ok (.newarray .int, 2) := dk_188_10 (by decide +kernel)
theorem dX10_init_80 : decode cX10_init 80 = .ok (.putfield 43, 3) := dk_181 (a := 0) (b := 43) (by decide +kernel) rfl
theorem dX10_init_83 : decode cX10_init 83 = .ok (.aload_n 0, 1) := dk_42 (by decide +kernel)
theorem dX10_init_84 : decode cX10_init 84 = .ok (.bipush 16, 2) := dk_16 (a := 16) (by decide +kernel) (by decide +kernel)
theorem dX10_init_86 : decode cX10_init 86 = .ok (.newarray .boolean, 2) := dk_188_4 (by decide +kernel)
theorem dX10_init_88 : decode cX10_init 88 = .ok (.putfield 46, 3) := dk_181 (a := 0) (b := 46) (by decide +kernel) rfl
theorem dX10_init_91 : decode cX10_init 91 = .ok (.aload_n 0, 1) := dk_42 (by decide +kernel)
theorem dX10_init_92 : decode cX10_init 92 = .ok (.sipush 10240, 3) := dk_17 (a := 40) (b := 0) (by decide +kernel) (by decide +kernel)
theorem dX10_init_95 : decode cX10_init 95 = .ok (.newarray .int, 2) := dk_188_10 (by decide +kernel)
theorem dX10_init_97 : decode cX10_init 97 = .ok (.putfield 49, 3) := dk_181 (a := 0) (b := 49) (by decide +kernel) rfl
theorem dX10_init_100 : decode cX10_init 100 = .ok (.aload_n 0, 1) := dk_42 (by decide +kernel)
theorem dX10_init_101 : decode cX10_init 101 = .ok (.bipush 10, 2) := dk_16 (a := 10) (by decide +kernel) (by decide +kernel)
theorem dX10_init_103 : decode cX10_init 103 = .ok (.newarray .int, 2) := dk_188_10 (by decide +kernel)
theorem dX10_init_105 : decode cX10_init 105 = .ok (.putfield 52, 3) := dk_181 (a := 0) (b := 52) (by decide +kernel) rfl
theorem dX10_init_108 : decode cX10_init 108 = .ok (.aload_n 0, 1) := dk_42 (by decide +kernel)
theorem dX10_init_109 : decode cX10_init 109 = .ok (.bipush 10, 2) := dk_16 (a := 10) (by decide +kernel) (by decide +kernel)
theorem dX10_init_111 : decode cX10_init 111 = .ok (.newarray .int, 2) := dk_188_10 (by decide +kernel)
theorem dX10_init_113 : decode cX10_init 113 = .ok (.putfield 55, 3) := dk_181 (a := 0) (b := 55) (by decide +kernel) rfl
theorem dX10_init_116 : decode cX10_init 116 = .ok (.aload_n 0, 1) := dk_42 (by decide +kernel)
theorem dX10_init_117 : decode cX10_init 117 = .ok (.sipush 1024, 3) := dk_17 (a := 4) (b := 0) (by decide +kernel) (by decide +kernel)
theorem dX10_init_120 : decode cX10_init 120 = .ok (.newarray .int, 2) := dk_188_10 (by decide +kernel)
theorem dX10_init_122 : decode cX10_init 122 = .ok (.putfield 58, 3) := dk_181 (a := 0) (b := 58) (by decide +kernel) rfl
theorem dX10_init_125 : decode cX10_init 125 = .ok (.aload_n 0, 1) := dk_42 (by decide +kernel)
theorem dX10_init_126 : decode cX10_init 126 = .ok (.sipush 1024, 3) := dk_17 (a := 4) (b := 0) (by decide +kernel) (by decide +kernel)
theorem dX10_init_129 : decode cX10_init 129 = .ok (.newarray .int, 2) := dk_188_10 (by decide +kernel)
theorem dX10_init_131 : decode cX10_init 131 = .ok (.putfield 61, 3) := dk_181 (a := 0) (b := 61) (by decide +kernel) rfl
theorem dX10_init_134 : decode cX10_init 134 = .ok (.aload_n 0, 1) := dk_42 (by decide +kernel)
theorem dX10_init_135 : decode cX10_init 135 = .ok (.ldc 64, 2) := dk_18 (a := 64) (by decide +kernel)
theorem dX10_init_137 : decode cX10_init 137 = .ok (.newarray .int, 2) := dk_188_10 (by decide +kernel)
theorem dX10_init_139 : decode cX10_init 139 = .ok (.putfield 65, 3) := dk_181 (a := 0) (b := 65) (by decide +kernel) rfl
theorem dX10_init_142 : decode cX10_init 142 = .ok (.aload_n 0, 1) := dk_42 (by decide +kernel)
theorem dX10_init_143 : decode cX10_init 143 = .ok (.ldc 64, 2) := dk_18 (a := 64) (by decide +kernel)
theorem dX10_init_145 : decode cX10_init 145 = .ok (.newarray .int, 2) := dk_188_10 (by decide +kernel)
theorem dX10_init_147 : decode cX10_init 147 = .ok (.putfield 68, 3) := dk_181 (a := 0) (b := 68) (by decide +kernel) rfl
theorem dX10_init_150 : decode cX10_init 150 = .ok (.aload_n 0, 1) := dk_42 (by decide +kernel)
theorem dX10_init_151 : decode cX10_init 151 = .ok (.ldc 64, 2) := dk_18 (a := 64) (by decide +kernel)
theorem dX10_init_153 : decode cX10_init 153 = .ok (.newarray .int, 2) := dk_188_10 (by decide +kernel)
theorem dX10_init_155 : decode cX10_init 155 = .ok (.putfield 71, 3) := dk_181 (a := 0) (b := 71) (by decide +kernel) rfl
theorem dX10_init_158 : decode cX10_init 158 = .ok (.aload_n 0, 1) := dk_42 (by decide +kernel)
theorem dX10_init_159 : decode cX10_init 159 = .ok (.ldc 64, 2) := dk_18 (a := 64) (by decide +kernel)
theorem dX10_init_161 : decode cX10_init 161 = .ok (.newarray .boolean, 2) := dk_188_4 (by decide +kernel)
theorem dX10_init_163 : decode cX10_init 163 = .ok (.putfield 74, 3) := dk_181 (a := 0) (b := 74) (by decide +kernel) rfl
theorem dX10_init_166 : decode cX10_init 166 = .ok (.aload_n 0, 1) := dk_42 (by decide +kernel)
theorem dX10_init_167 : decode cX10_init 167 = .ok (.bipush 16, 2) := dk_16 (a := 16) (by decide +kernel) (by decide +kernel)
theorem dX10_init_169 : decode cX10_init 169 = .ok (.newarray .int, 2) := dk_188_10 (by decide +kernel)
theorem dX10_init_171 : decode cX10_init 171 = .ok (.putfield 77, 3) := dk_181 (a := 0) (b := 77) (by decide +kernel) rfl
theorem dX10_init_174 : decode cX10_init 174 = .ok (.aload_n 0, 1) := dk_42 (by decide +kernel)
theorem dX10_init_175 : decode cX10_init 175 = .ok (.bipush 16, 2) := dk_16 (a := 16) (by decide +kernel) (by decide +kernel)
theorem dX10_init_177 : decode cX10_init 177 = .ok (.newarray .int, 2) := dk_188_10 (by decide +kernel)
theorem dX10_init_179 : decode cX10_init 179 = .ok (.putfield 80, 3) := dk_181 (a := 0) (b := 80) (by decide +kernel) rfl
theorem dX10_init_182 : decode cX10_init 182 = .ok (.aload_n 0, 1) := dk_42 (by decide +kernel)
theorem dX10_init_183 : decode cX10_init 183 = .ok (.sipush 9080, 3) := dk_17 (a := 35) (b := 120) (by decide +kernel) (by decide +kernel)
theorem dX10_init_186 : decode cX10_init 186 = .ok (.newarray .int, 2) := dk_188_10 (by decide +kernel)
theorem dX10_init_188 : decode cX10_init 188 = .ok (.putfield 83, 3) := dk_181 (a := 0) (b := 83) (by decide +kernel) rfl
theorem dX10_init_191 : decode cX10_init 191 = .ok (.aload_n 0, 1) := dk_42 (by decide +kernel)
theorem dX10_init_192 : decode cX10_init 192 = .ok (.iconst 4, 1) := dk_7 (by decide +kernel)
theorem dX10_init_193 : decode cX10_init 193 = .ok (.newarray .int, 2) := dk_188_10 (by decide +kernel)
theorem dX10_init_195 : decode cX10_init 195 = .ok (.dup, 1) := dk_89 (by decide +kernel)
theorem dX10_init_196 : decode cX10_init 196 = .ok (.iconst 0, 1) := dk_3 (by decide +kernel)
theorem dX10_init_197 : decode cX10_init 197 = .ok (.iconst (-1), 1) := dk_2 (by decide +kernel)
theorem dX10_init_198 : decode cX10_init 198 = .ok (.iastore, 1) := dk_79 (by decide +kernel)
theorem dX10_init_199 : decode cX10_init 199 = .ok (.dup, 1) := dk_89 (by decide +kernel)
theorem dX10_init_200 : decode cX10_init 200 = .ok (.iconst 1, 1) := dk_4 (by decide +kernel)
theorem dX10_init_201 : decode cX10_init 201 = .ok (.iconst (-1), 1) := dk_2 (by decide +kernel)
theorem dX10_init_202 : decode cX10_init 202 = .ok (.iastore, 1) := dk_79 (by decide +kernel)
theorem dX10_init_203 : decode cX10_init 203 = .ok (.dup, 1) := dk_89 (by decide +kernel)
theorem dX10_init_204 : decode cX10_init 204 = .ok (.iconst 2, 1) := dk_5 (by decide +kernel)
theorem dX10_init_205 : decode cX10_init 205 = .ok (.iconst (-1), 1) := dk_2 (by decide +kernel)
theorem dX10_init_206 : decode cX10_init 206 = .ok (.iastore, 1) := dk_79 (by decide +kernel)
theorem dX10_init_207 : decode cX10_init 207 = .ok (.dup, 1) := dk_89 (by decide +kernel)
theorem dX10_init_208 : decode cX10_init 208 = .ok (.iconst 3, 1) := dk_6 (by decide +kernel)
theorem dX10_init_209 : decode cX10_init 209 = .ok (.iconst (-1), 1) := dk_2 (by decide +kernel)
theorem dX10_init_210 : decode cX10_init 210 = .ok (.iastore, 1) := dk_79 (by decide +kernel)
theorem dX10_init_211 : decode cX10_init 211 = .ok (.putfield 86, 3) := dk_181 (a := 0) (b := 86) (by decide +kernel) rfl
theorem dX10_init_214 : decode cX10_init 214 = .ok (.aload_n 0, 1) := dk_42 (by decide +kernel)
theorem dX10_init_215 : decode cX10_init 215 = .ok (.iconst 4, 1) := dk_7 (by decide +kernel)
theorem dX10_init_216 : decode cX10_init 216 = .ok (.newarray .int, 2) := dk_188_10 (by decide +kernel)
theorem dX10_init_218 : decode cX10_init 218 = .ok (.putfield 89, 3) := dk_181 (a := 0) (b := 89) (by decide +kernel) rfl
theorem dX10_init_221 : decode cX10_init 221 = .ok (.aload_n 0, 1) := dk_42 (by decide +kernel)
theorem dX10_init_222 : decode cX10_init 222 = .ok (.sipush 240, 3) := dk_17 (a := 0) (b := 240) (by decide +kernel) (by decide +kernel)
theorem dX10_init_225 : decode cX10_init 225 = .ok (.newarray .long, 2) := dk_188_11 (by decide +kernel)
theorem dX10_init_227 : decode cX10_init 227 = .ok (.putfield 92, 3) := dk_181 (a := 0) (b := 92) (by decide +kernel) rfl
theorem dX10_init_230 : decode cX10_init 230 = .ok (.aload_n 0, 1) := dk_42 (by decide +kernel)
theorem dX10_init_231 : decode cX10_init 231 = .ok (.bipush 60, 2) := dk_16 (a := 60) (by decide +kernel) (by decide +kernel)
theorem dX10_init_233 : decode cX10_init 233 = .ok (.newarray .long, 2) := dk_188_11 (by decide +kernel)
theorem dX10_init_235 : decode cX10_init 235 = .ok (.putfield 96, 3) := dk_181 (a := 0) (b := 96) (by decide +kernel) rfl
theorem dX10_init_238 : decode cX10_init 238 = .ok (.aload_n 0, 1) := dk_42 (by decide +kernel)
theorem dX10_init_239 : decode cX10_init 239 = .ok (.getfield 13, 3) := dk_180 (a := 0) (b := 13) (by decide +kernel) rfl
theorem dX10_init_242 : decode cX10_init 242 = .ok (.iconst 5, 1) := dk_8 (by decide +kernel)
theorem dX10_init_243 : decode cX10_init 243 = .ok (.iconst 3, 1) := dk_6 (by decide +kernel)
theorem dX10_init_244 : decode cX10_init 244 = .ok (.iastore, 1) := dk_79 (by decide +kernel)
theorem dX10_init_245 : decode cX10_init 245 = .ok (.return_, 1) := dk_177 (by decide +kernel)
theorem dX10_keep_0 : decode cX10_keep 0 = .ok (.iload_n 1, 1) := dk_27 (by decide +kernel)
theorem dX10_keep_1 : decode cX10_keep 1 = .ok (.i2l, 1) := dk_133 (by decide +kernel)
theorem dX10_keep_2 : decode cX10_keep 2 = .ok (.lconst 0, 1) := dk_9 (by decide +kernel)
theorem dX10_keep_3 : decode cX10_keep 3 = .ok (.ldc2_w 99, 3) := dk_20 (a := 0) (b := 99) (by decide +kernel) rfl
theorem dX10_keep_6 : decode cX10_keep 6 = .ok (.invokestatic 101, 3) := dk_184 (a := 0) (b := 101) (by decide +kernel) rfl
theorem dX10_keep_9 : decode cX10_keep 9 = .ok (.ifCond .ne 6, 3) := dk_154 (a := 0) (b := 6) (by decide +kernel) (by decide +kernel)
theorem dX10_keep_12 : decode cX10_keep 12 = .ok (.bipush (-2), 2) := dk_16 (a := 254) (by decide +kernel) (by decide +kernel)
theorem dX10_keep_14 : decode cX10_keep 14 = .ok (.ireturn, 1) := dk_172 (by decide +kernel)
theorem dX10_keep_15 : decode cX10_keep 15 = .ok (.iconst 0, 1) := dk_3 (by decide +kernel)
theorem dX10_keep_16 : decode cX10_keep 16 = .ok (.istore_n 2, 1) := dk_61 (by decide +kernel)
theorem dX10_keep_17 : decode cX10_keep 17 = .ok (.iload_n 2, 1) := dk_28 (by decide +kernel)
theorem dX10_keep_18 : decode cX10_keep 18 = .ok (.sipush 9080, 3) := dk_17 (a := 35) (b := 120) (by decide +kernel) (by decide +kernel)
theorem dX10_keep_21 : decode cX10_keep 21 = .ok (.if_icmp .ge 27, 3) := dk_162 (a := 0) (b := 27) (by decide +kernel) (by decide +kernel)
theorem dX10_keep_24 : decode cX10_keep 24 = .ok (.aload_n 0, 1) := dk_42 (by decide +kernel)
theorem dX10_keep_25 : decode cX10_keep 25 = .ok (.getfield 17, 3) := dk_180 (a := 0) (b := 17) (by decide +kernel) rfl
theorem dX10_keep_28 : decode cX10_keep 28 = .ok (.sipush 9080, 3) := dk_17 (a := 35) (b := 120) (by decide +kernel) (by decide +kernel)
theorem dX10_keep_31 : decode cX10_keep 31 = .ok (.iload_n 1, 1) := dk_27 (by decide +kernel)
theorem dX10_keep_32 : decode cX10_keep 32 = .ok (.imul, 1) := dk_104 (by decide +kernel)
theorem dX10_keep_33 : decode cX10_keep 33 = .ok (.iload_n 2, 1) := dk_28 (by decide +kernel)
theorem dX10_keep_34 : decode cX10_keep 34 = .ok (.iadd, 1) := dk_96 (by decide +kernel)
theorem dX10_keep_35 : decode cX10_keep 35 = .ok (.aload_n 0, 1) := dk_42 (by decide +kernel)
theorem dX10_keep_36 : decode cX10_keep 36 = .ok (.getfield 13, 3) := dk_180 (a := 0) (b := 13) (by decide +kernel) rfl
theorem dX10_keep_39 : decode cX10_keep 39 = .ok (.iload_n 2, 1) := dk_28 (by decide +kernel)
theorem dX10_keep_40 : decode cX10_keep 40 = .ok (.iaload, 1) := dk_46 (by decide +kernel)
theorem dX10_keep_41 : decode cX10_keep 41 = .ok (.iastore, 1) := dk_79 (by decide +kernel)
theorem dX10_keep_42 : decode cX10_keep 42 = .ok (.iinc 2 1, 3) := dk_132 (a := 2) (b := 1) (by decide +kernel) (by decide +kernel)
theorem dX10_keep_45 : decode cX10_keep 45 = .ok (.goto (-28), 3) := dk_167 (a := 255) (b := 228) (by decide +kernel) (by decide +kernel)
theorem dX10_keep_48 : decode cX10_keep 48 = .ok (.aload_n 0, 1) := dk_42 (by decide +kernel)
theorem dX10_keep_49 : decode cX10_keep 49 = .ok (.getfield 20, 3) := dk_180 (a := 0) (b := 20) (by decide +kernel) rfl
theorem dX10_keep_52 : decode cX10_keep 52 = .ok (.iload_n 1, 1) := dk_27 (by decide +kernel)
theorem dX10_keep_53 : decode cX10_keep 53 = .ok (.iconst 1, 1) := dk_4 (by decide +kernel)
theorem dX10_keep_54 : decode cX10_keep 54 = .ok (.bastore, 1) := dk_84 (by decide +kernel)
theorem dX10_keep_55 : decode cX10_keep 55 = .ok (.iconst 0, 1) := dk_3 (by decide +kernel)
theorem dX10_keep_56 : decode cX10_keep 56 = .ok (.ireturn, 1) := dk_172 (by decide +kernel)
theorem dX10_back_0 : decode cX10_back 0 = .ok (.iload_n 1, 1) := dk_27 (by decide +kernel)
theorem dX10_back_1 : decode cX10_back 1 = .ok (.i2l, 1) := dk_133 (by decide +kernel)
theorem dX10_back_2 : decode cX10_back 2 = .ok (.lconst 0, 1) := dk_9 (by decide +kernel)
theorem dX10_back_3 : decode cX10_back 3 = .ok (.ldc2_w 99, 3) := dk_20 (a := 0) (b := 99) (by decide +kernel) rfl
theorem dX10_back_6 : decode cX10_back 6 = .ok (.invokestatic 101, 3) := dk_184 (a := 0) (b := 101) (by decide +kernel) rfl
theorem dX10_back_9 : decode cX10_back 9 = .ok (.ifCond .ne 6, 3) := dk_154 (a := 0) (b := 6) (by decide +kernel) (by decide +kernel)
theorem dX10_back_12 : decode cX10_back 12 = .ok (.bipush (-2), 2) := dk_16 (a := 254) (by decide +kernel) (by decide +kernel)
theorem dX10_back_14 : decode cX10_back 14 = .ok (.ireturn, 1) := dk_172 (by decide +kernel)
theorem dX10_back_15 : decode cX10_back 15 = .ok (.aload_n 0, 1) := dk_42 (by decide +kernel)
theorem dX10_back_16 : decode cX10_back 16 = .ok (.getfield 20, 3) := dk_180 (a := 0) (b := 20) (by decide +kernel) rfl
theorem dX10_back_19 : decode cX10_back 19 = .ok (.iload_n 1, 1) := dk_27 (by decide +kernel)
theorem dX10_back_20 : decode cX10_back 20 = .ok (.baload, 1) := dk_51 (by decide +kernel)
theorem dX10_back_21 : decode cX10_back 21 = .ok (.ifCond .ne 6, 3) := dk_154 (a := 0) (b := 6) (by decide +kernel) (by decide +kernel)
theorem dX10_back_24 : decode cX10_back 24 = .ok (.bipush (-6), 2) := dk_16 (a := 250) (by decide +kernel) (by decide +kernel)
theorem dX10_back_26 : decode cX10_back 26 = .ok (.ireturn, 1) := dk_172 (by decide +kernel)
theorem dX10_back_27 : decode cX10_back 27 = .ok (.iconst 0, 1) := dk_3 (by decide +kernel)
theorem dX10_back_28 : decode cX10_back 28 = .ok (.istore_n 2, 1) := dk_61 (by decide +kernel)
theorem dX10_back_29 : decode cX10_back 29 = .ok (.iload_n 2, 1) := dk_28 (by decide +kernel)
theorem dX10_back_30 : decode cX10_back 30 = .ok (.sipush 9080, 3) := dk_17 (a := 35) (b := 120) (by decide +kernel) (by decide +kernel)
theorem dX10_back_33 : decode cX10_back 33 = .ok (.if_icmp .ge 27, 3) := dk_162 (a := 0) (b := 27) (by decide +kernel) (by decide +kernel)
theorem dX10_back_36 : decode cX10_back 36 = .ok (.aload_n 0, 1) := dk_42 (by decide +kernel)
theorem dX10_back_37 : decode cX10_back 37 = .ok (.getfield 13, 3) := dk_180 (a := 0) (b := 13) (by decide +kernel) rfl
theorem dX10_back_40 : decode cX10_back 40 = .ok (.iload_n 2, 1) := dk_28 (by decide +kernel)
theorem dX10_back_41 : decode cX10_back 41 = .ok (.aload_n 0, 1) := dk_42 (by decide +kernel)
theorem dX10_back_42 : decode cX10_back 42 = .ok (.getfield 17, 3) := dk_180 (a := 0) (b := 17) (by decide +kernel) rfl
theorem dX10_back_45 : decode cX10_back 45 = .ok (.sipush 9080, 3) := dk_17 (a := 35) (b := 120) (by decide +kernel) (by decide +kernel)
theorem dX10_back_48 : decode cX10_back 48 = .ok (.iload_n 1, 1) := dk_27 (by decide +kernel)
theorem dX10_back_49 : decode cX10_back 49 = .ok (.imul, 1) := dk_104 (by decide +kernel)
theorem dX10_back_50 : decode cX10_back 50 = .ok (.iload_n 2, 1) := dk_28 (by decide +kernel)
theorem dX10_back_51 : decode cX10_back 51 = .ok (.iadd, 1) := dk_96 (by decide +kernel)
theorem dX10_back_52 : decode cX10_back 52 = .ok (.iaload, 1) := dk_46 (by decide +kernel)
theorem dX10_back_53 : decode cX10_back 53 = .ok (.iastore, 1) := dk_79 (by decide +kernel)
theorem dX10_back_54 : decode cX10_back 54 = .ok (.iinc 2 1, 3) := dk_132 (a := 2) (b := 1) (by decide +kernel) (by decide +kernel)
theorem dX10_back_57 : decode cX10_back 57 = .ok (.goto (-28), 3) := dk_167 (a := 255) (b := 228) (by decide +kernel) (by decide +kernel)
theorem dX10_back_60 : decode cX10_back 60 = .ok (.iconst 0, 1) := dk_3 (by decide +kernel)
theorem dX10_back_61 : decode cX10_back 61 = .ok (.ireturn, 1) := dk_172 (by decide +kernel)
theorem dX10_ofHouse_0 : decode cX10_ofHouse 0 = .ok (.aload_n 0, 1) := dk_42 (by decide +kernel)
theorem dX10_ofHouse_1 : decode cX10_ofHouse 1 = .ok (.getfield 13, 3) := dk_180 (a := 0) (b := 13) (by decide +kernel) rfl
theorem dX10_ofHouse_4 : decode cX10_ofHouse 4 = .ok (.bipush 10, 2) := dk_16 (a := 10) (by decide +kernel) (by decide +kernel)
theorem dX10_ofHouse_6 : decode cX10_ofHouse 6 = .ok (.bipush 9, 2) := dk_16 (a := 9) (by decide +kernel) (by decide +kernel)
theorem dX10_ofHouse_8 : decode cX10_ofHouse 8 = .ok (.iload_n 1, 1) := dk_27 (by decide +kernel)
theorem dX10_ofHouse_9 : decode cX10_ofHouse 9 = .ok (.imul, 1) := dk_104 (by decide +kernel)
theorem dX10_ofHouse_10 : decode cX10_ofHouse 10 = .ok (.iadd, 1) := dk_96 (by decide +kernel)
theorem dX10_ofHouse_11 : decode cX10_ofHouse 11 = .ok (.iload_n 2, 1) := dk_28 (by decide +kernel)
theorem dX10_ofHouse_12 : decode cX10_ofHouse 12 = .ok (.iadd, 1) := dk_96 (by decide +kernel)
theorem dX10_ofHouse_13 : decode cX10_ofHouse 13 = .ok (.iaload, 1) := dk_46 (by decide +kernel)
theorem dX10_ofHouse_14 : decode cX10_ofHouse 14 = .ok (.ireturn, 1) := dk_172 (by decide +kernel)
theorem dX10_ofDebt_0 : decode cX10_ofDebt 0 = .ok (.aload_n 0, 1) := dk_42 (by decide +kernel)
theorem dX10_ofDebt_1 : decode cX10_ofDebt 1 = .ok (.getfield 13, 3) := dk_180 (a := 0) (b := 13) (by decide +kernel) rfl
theorem dX10_ofDebt_4 : decode cX10_ofDebt 4 = .ok (.sipush 1880, 3) := dk_17 (a := 7) (b := 88) (by decide +kernel) (by decide +kernel)
theorem dX10_ofDebt_7 : decode cX10_ofDebt 7 = .ok (.iconst 5, 1) := dk_8 (by decide +kernel)
theorem dX10_ofDebt_8 : decode cX10_ofDebt 8 = .ok (.iload_n 1, 1) := dk_27 (by decide +kernel)
theorem dX10_ofDebt_9 : decode cX10_ofDebt 9 = .ok (.imul, 1) := dk_104 (by decide +kernel)
theorem dX10_ofDebt_10 : decode cX10_ofDebt 10 = .ok (.iadd, 1) := dk_96 (by decide +kernel)
theorem dX10_ofDebt_11 : decode cX10_ofDebt 11 = .ok (.iload_n 2, 1) := dk_28 (by decide +kernel)
theorem dX10_ofDebt_12 : decode cX10_ofDebt 12 = .ok (.iadd, 1) := dk_96 (by decide +kernel)
theorem dX10_ofDebt_13 : decode cX10_ofDebt 13 = .ok (.iaload, 1) := dk_46 (by decide +kernel)
theorem dX10_ofDebt_14 : decode cX10_ofDebt 14 = .ok (.ireturn, 1) := dk_172 (by decide +kernel)
theorem dX10_isHouse_0 : decode cX10_isHouse 0 = .ok (.iload_n 1, 1) := dk_27 (by decide +kernel)
theorem dX10_isHouse_1 : decode cX10_isHouse 1 = .ok (.i2l, 1) := dk_133 (by decide +kernel)
theorem dX10_isHouse_2 : decode cX10_isHouse 2 = .ok (.lconst 0, 1) := dk_9 (by decide +kernel)
theorem dX10_isHouse_3 : decode cX10_isHouse 3 = .ok (.aload_n 0, 1) := dk_42 (by decide +kernel)
theorem dX10_isHouse_4 : decode cX10_isHouse 4 = .ok (.getfield 13, 3) := dk_180 (a := 0) (b := 13) (by decide +kernel) rfl
theorem dX10_isHouse_7 : decode cX10_isHouse 7 = .ok (.iconst 0, 1) := dk_3 (by decide +kernel)
theorem dX10_isHouse_8 : decode cX10_isHouse 8 = .ok (.iaload, 1) := dk_46 (by decide +kernel)
theorem dX10_isHouse_9 : decode cX10_isHouse 9 = .ok (.iconst 1, 1) := dk_4 (by decide +kernel)
theorem dX10_isHouse_10 : decode cX10_isHouse 10 = .ok (.isub, 1) := dk_100 (by decide +kernel)
theorem dX10_isHouse_11 : decode cX10_isHouse 11 = .ok (.i2l, 1) := dk_133 (by decide +kernel)
theorem dX10_isHouse_12 : decode cX10_isHouse 12 = .ok (.invokestatic 101, 3) := dk_184 (a := 0) (b := 101) (by decide +kernel) rfl
theorem dX10_isHouse_15 : decode cX10_isHouse 15 = .ok (.ireturn, 1) := dk_172 (by decide +kernel)
theorem dX10_areTwo_0 : decode cX10_areTwo 0 = .ok (.aload_n 0, 1) := dk_42 (by decide +kernel)
theorem dX10_areTwo_1 : decode cX10_areTwo 1 = .ok (.iload_n 1, 1) := dk_27 (by decide +kernel)
theorem dX10_areTwo_2 : decode cX10_areTwo 2 = .ok (.invokevirtual 105, 3) := dk_182 (a := 0) (b := 105) (by decide +kernel) rfl
theorem dX10_areTwo_5 : decode cX10_areTwo 5 = .ok (.ifCond .eq 20, 3) := dk_153 (a := 0) (b := 20) (by decide +kernel) (by decide +kernel)
theorem dX10_areTwo_8 : decode cX10_areTwo 8 = .ok (.aload_n 0, 1) := dk_42 (by decide +kernel)
theorem dX10_areTwo_9 : decode cX10_areTwo 9 = .ok (.iload_n 2, 1) := dk_28 (by decide +kernel)
theorem dX10_areTwo_10 : decode cX10_areTwo 10 = .ok (.invokevirtual 105, 3) := dk_182 (a := 0) (b := 105) (by decide +kernel) rfl
theorem dX10_areTwo_13 : decode cX10_areTwo 13 = .ok (.ifCond .eq 12, 3) := dk_153 (a := 0) (b := 12) (by decide +kernel) (by decide +kernel)
theorem dX10_areTwo_16 : decode cX10_areTwo 16 = .ok (.iload_n 1, 1) := dk_27 (by decide +kernel)
theorem dX10_areTwo_17 : decode cX10_areTwo 17 = .ok (.iload_n 2, 1) := dk_28 (by decide +kernel)
theorem dX10_areTwo_18 : decode cX10_areTwo 18 = .ok (.if_icmp .eq 7, 3) := dk_159 (a := 0) (b := 7) (by decide +kernel) (by decide +kernel)
theorem dX10_areTwo_21 : decode cX10_areTwo 21 = .ok (.iconst 1, 1) := dk_4 (by decide +kernel)
theorem dX10_areTwo_22 : decode cX10_areTwo 22 = .ok (.goto 4, 3) := dk_167 (a := 0) (b := 4) (by decide +kernel) (by decide +kernel)
theorem dX10_areTwo_25 : decode cX10_areTwo 25 = .ok (.iconst 0, 1) := dk_3 (by decide +kernel)
theorem dX10_areTwo_26 : decode cX10_areTwo 26 = .ok (.ireturn, 1) := dk_172 (by decide +kernel)
theorem dX10_today_0 : decode cX10_today 0 = .ok (.aload_n 0, 1) := dk_42 (by decide +kernel)
theorem dX10_today_1 : decode cX10_today 1 = .ok (.getfield 13, 3) := dk_180 (a := 0) (b := 13) (by decide +kernel) rfl
theorem dX10_today_4 : decode cX10_today 4 = .ok (.bipush 6, 2) := dk_16 (a := 6) (by decide +kernel) (by decide +kernel)
theorem dX10_today_6 : decode cX10_today 6 = .ok (.iaload, 1) := dk_46 (by decide +kernel)
theorem dX10_today_7 : decode cX10_today 7 = .ok (.ireturn, 1) := dk_172 (by decide +kernel)
theorem dX10_feed_0 : decode cX10_feed 0 = .ok (.aload_n 0, 1) := dk_42 (by decide +kernel)
theorem dX10_feed_1 : decode cX10_feed 1 = .ok (.getfield 109, 3) := dk_180 (a := 0) (b := 109) (by decide +kernel) rfl
theorem dX10_feed_4 : decode cX10_feed 4 = .ok (.bipush 20, 2) := dk_16 (a := 20) (by decide +kernel) (by decide +kernel)
theorem dX10_feed_6 : decode cX10_feed 6 = .ok (.iadd, 1) := dk_96 (by decide +kernel)
theorem dX10_feed_7 : decode cX10_feed 7 = .ok (.sipush 1400, 3) := dk_17 (a := 5) (b := 120) (by decide +kernel) (by decide +kernel)
theorem dX10_feed_10 : decode cX10_feed 10 = .ok (.if_icmp .le 5, 3) := dk_164 (a := 0) (b := 5) (by decide +kernel) (by decide +kernel)
theorem dX10_feed_13 : decode cX10_feed 13 = .ok (.iconst (-1), 1) := dk_2 (by decide +kernel)
theorem dX10_feed_14 : decode cX10_feed 14 = .ok (.ireturn, 1) := dk_172 (by decide +kernel)
theorem dX10_feed_15 : decode cX10_feed 15 = .ok (.aload_n 0, 1) := dk_42 (by decide +kernel)
theorem dX10_feed_16 : decode cX10_feed 16 = .ok (.getfield 28, 3) := dk_180 (a := 0) (b := 28) (by decide +kernel) rfl
theorem dX10_feed_19 : decode cX10_feed 19 = .ok (.iconst 0, 1) := dk_3 (by decide +kernel)
theorem dX10_feed_20 : decode cX10_feed 20 = .ok (.iload_n 1, 1) := dk_27 (by decide +kernel)
theorem dX10_feed_21 : decode cX10_feed 21 = .ok (.iastore, 1) := dk_79 (by decide +kernel)
theorem dX10_feed_22 : decode cX10_feed 22 = .ok (.aload_n 0, 1) := dk_42 (by decide +kernel)
theorem dX10_feed_23 : decode cX10_feed 23 = .ok (.getfield 28, 3) := dk_180 (a := 0) (b := 28) (by decide +kernel) rfl
theorem dX10_feed_26 : decode cX10_feed 26 = .ok (.iconst 1, 1) := dk_4 (by decide +kernel)
theorem dX10_feed_27 : decode cX10_feed 27 = .ok (.iload_n 2, 1) := dk_28 (by decide +kernel)
theorem dX10_feed_28 : decode cX10_feed 28 = .ok (.iastore, 1) := dk_79 (by decide +kernel)
theorem dX10_feed_29 : decode cX10_feed 29 = .ok (.aload_n 0, 1) := dk_42 (by decide +kernel)
theorem dX10_feed_30 : decode cX10_feed 30 = .ok (.getfield 28, 3) := dk_180 (a := 0) (b := 28) (by decide +kernel) rfl
theorem dX10_feed_33 : decode cX10_feed 33 = .ok (.iconst 2, 1) := dk_5 (by decide +kernel)
theorem dX10_feed_34 : decode cX10_feed 34 = .ok (.iload_n 3, 1) := dk_29 (by decide +kernel)
theorem dX10_feed_35 : decode cX10_feed 35 = .ok (.iastore, 1) := dk_79 (by decide +kernel)
theorem dX10_feed_36 : decode cX10_feed 36 = .ok (.aload_n 0, 1) := dk_42 (by decide +kernel)
theorem dX10_feed_37 : decode cX10_feed 37 = .ok (.getfield 28, 3) := dk_180 (a := 0) (b := 28) (by decide +kernel) rfl
theorem dX10_feed_40 : decode cX10_feed 40 = .ok (.iconst 3, 1) := dk_6 (by decide +kernel)
theorem dX10_feed_41 : decode cX10_feed 41 = .ok (.iload 4, 2) := dk_21 (a := 4) (by decide +kernel)
theorem dX10_feed_43 : decode cX10_feed 43 = .ok (.iastore, 1) := dk_79 (by decide +kernel)
theorem dX10_feed_44 : decode cX10_feed 44 = .ok (.aload_n 0, 1) := dk_42 (by decide +kernel)
theorem dX10_feed_45 : decode cX10_feed 45 = .ok (.getfield 28, 3) := dk_180 (a := 0) (b := 28) (by decide +kernel) rfl
theorem dX10_feed_48 : decode cX10_feed 48 = .ok (.iconst 4, 1) := dk_7 (by decide +kernel)
theorem dX10_feed_49 : decode cX10_feed 49 = .ok (.iload 5, 2) := dk_21 (a := 5) (by decide +kernel)
theorem dX10_feed_51 : decode cX10_feed 51 = .ok (.iastore, 1) := dk_79 (by decide +kernel)
theorem dX10_feed_52 : decode cX10_feed 52 = .ok (.iconst 0, 1) := dk_3 (by decide +kernel)
theorem dX10_feed_53 : decode cX10_feed 53 = .ok (.istore 6, 2) := dk_54 (a := 6) (by decide +kernel)
theorem dX10_feed_55 : decode cX10_feed 55 = .ok (.iload 6, 2) := dk_21 (a := 6) (by decide +kernel)
theorem dX10_feed_57 : decode cX10_feed 57 = .ok (.bipush 20, 2) := dk_16 (a := 20) (by decide +kernel) (by decide +kernel)
theorem dX10_feed_59 : decode cX10_feed 59 = .ok (.if_icmp .ge 42, 3) := dk_162 (a := 0) (b := 42) (by decide +kernel) (by decide +kernel)
theorem dX10_feed_62 : decode cX10_feed 62 = .ok (.aload_n 0, 1) := dk_42 (by decide +kernel)
theorem dX10_feed_63 : decode cX10_feed 63 = .ok (.getfield 24, 3) := dk_180 (a := 0) (b := 24) (by decide +kernel) rfl
theorem dX10_feed_66 : decode cX10_feed 66 = .ok (.aload_n 0, 1) := dk_42 (by decide +kernel)
theorem dX10_feed_67 : decode cX10_feed 67 = .ok (.getfield 109, 3) := dk_180 (a := 0) (b := 109) (by decide +kernel) rfl
theorem dX10_feed_70 : decode cX10_feed 70 = .ok (.iload 6, 2) := dk_21 (a := 6) (by decide +kernel)
theorem dX10_feed_72 : decode cX10_feed 72 = .ok (.iadd, 1) := dk_96 (by decide +kernel)
theorem dX10_feed_73 : decode cX10_feed 73 = .ok (.aload_n 0, 1) := dk_42 (by decide +kernel)
theorem dX10_feed_74 : decode cX10_feed 74 = .ok (.getfield 28, 3) := dk_180 (a := 0) (b := 28) (by decide +kernel) rfl
theorem dX10_feed_77 : decode cX10_feed 77 = .ok (.iload 6, 2) := dk_21 (a := 6) (by decide +kernel)
theorem dX10_feed_79 : decode cX10_feed 79 = .ok (.iconst 4, 1) := dk_7 (by decide +kernel)
theorem dX10_feed_80 : decode cX10_feed 80 = .ok (.idiv, 1) := dk_108 (by decide +kernel)
theorem dX10_feed_81 : decode cX10_feed 81 = .ok (.iaload, 1) := dk_46 (by decide +kernel)
theorem dX10_feed_82 : decode cX10_feed 82 = .ok (.bipush 24, 2) := dk_16 (a := 24) (by decide +kernel) (by decide +kernel)
theorem dX10_feed_84 : decode cX10_feed 84 = .ok (.bipush 8, 2) := dk_16 (a := 8) (by decide +kernel) (by decide +kernel)
theorem dX10_feed_86 : decode cX10_feed 86 = .ok (.iload 6, 2) := dk_21 (a := 6) (by decide +kernel)
theorem dX10_feed_88 : decode cX10_feed 88 = .ok (.iconst 4, 1) := dk_7 (by decide +kernel)
theorem dX10_feed_89 : decode cX10_feed 89 = .ok (.irem, 1) := dk_112 (by decide +kernel)
theorem dX10_feed_90 : decode cX10_feed 90 = .ok (.imul, 1) := dk_104 (by decide +kernel)
theorem dX10_feed_91 : decode cX10_feed 91 = .ok (.isub, 1) := dk_100 (by decide +kernel)
theorem dX10_feed_92 : decode cX10_feed 92 = .ok (.ishr, 1) := dk_122 (by decide +kernel)
theorem dX10_feed_93 : decode cX10_feed 93 = .ok (.i2b, 1) := dk_145 (by decide +kernel)
theorem dX10_feed_94 : decode cX10_feed 94 = .ok (.bastore, 1) := dk_84 (by decide +kernel)
theorem dX10_feed_95 : decode cX10_feed 95 = .ok (.iinc 6 1, 3) := dk_132 (a := 6) (b := 1) (by decide +kernel) (by decide +kernel)
theorem dX10_feed_98 : decode cX10_feed 98 = .ok (.goto (-43), 3) := dk_167 (a := 255) (b := 213) (by decide +kernel) (by decide +kernel)
theorem dX10_feed_101 : decode cX10_feed 101 = .ok (.aload_n 0, 1) := dk_42 (by decide +kernel)
theorem dX10_feed_102 : decode cX10_feed 102 = .ok (.dup, 1) := dk_89 (by decide +kernel)
theorem dX10_feed_103 : decode cX10_feed 103 = .ok (.getfield 109, 3) := dk_180 (a := 0) (b := 109) (by decide +kernel) rfl
theorem dX10_feed_106 : decode cX10_feed 106 = .ok (.bipush 20, 2) := dk_16 (a := 20) (by decide +kernel) (by decide +kernel)
theorem dX10_feed_108 : decode cX10_feed 108 = .ok (.iadd, 1) := dk_96 (by decide +kernel)
theorem dX10_feed_109 : decode cX10_feed 109 = .ok (.putfield 109, 3) := dk_181 (a := 0) (b := 109) (by decide +kernel) rfl
theorem dX10_feed_112 : decode cX10_feed 112 = .ok (.aload_n 0, 1) := dk_42 (by decide +kernel)
theorem dX10_feed_113 : decode cX10_feed 113 = .ok (.getfield 109, 3) := dk_180 (a := 0) (b := 109) (by decide +kernel) rfl
theorem dX10_feed_116 : decode cX10_feed 116 = .ok (.ireturn, 1) := dk_172 (by decide +kernel)
theorem dX10_end_0 : decode cX10_end 0 = .ok (.iload_n 1, 1) := dk_27 (by decide +kernel)
theorem dX10_end_1 : decode cX10_end 1 = .ok (.i2l, 1) := dk_133 (by decide +kernel)
theorem dX10_end_2 : decode cX10_end 2 = .ok (.lconst 0, 1) := dk_9 (by decide +kernel)
theorem dX10_end_3 : decode cX10_end 3 = .ok (.aload_n 0, 1) := dk_42 (by decide +kernel)
theorem dX10_end_4 : decode cX10_end 4 = .ok (.getfield 109, 3) := dk_180 (a := 0) (b := 109) (by decide +kernel) rfl
theorem dX10_end_7 : decode cX10_end 7 = .ok (.i2l, 1) := dk_133 (by decide +kernel)
theorem dX10_end_8 : decode cX10_end 8 = .ok (.invokestatic 101, 3) := dk_184 (a := 0) (b := 101) (by decide +kernel) rfl
theorem dX10_end_11 : decode cX10_end 11 = .ok (.ifCond .ne 5, 3) := dk_154 (a := 0) (b := 5) (by decide +kernel) (by decide +kernel)
theorem dX10_end_14 : decode cX10_end 14 = .ok (.iconst (-1), 1) := dk_2 (by decide +kernel)
theorem dX10_end_15 : decode cX10_end 15 = .ok (.ireturn, 1) := dk_172 (by decide +kernel)
theorem dX10_end_16 : decode cX10_end 16 = .ok (.aload_n 0, 1) := dk_42 (by decide +kernel)
theorem dX10_end_17 : decode cX10_end 17 = .ok (.iload_n 1, 1) := dk_27 (by decide +kernel)
theorem dX10_end_18 : decode cX10_end 18 = .ok (.putfield 109, 3) := dk_181 (a := 0) (b := 109) (by decide +kernel) rfl
theorem dX10_end_21 : decode cX10_end 21 = .ok (.iload_n 1, 1) := dk_27 (by decide +kernel)
theorem dX10_end_22 : decode cX10_end 22 = .ok (.ireturn, 1) := dk_172 (by decide +kernel)
theorem dX10_see_0 : decode cX10_see 0 = .ok (.iload_n 1, 1) := dk_27 (by decide +kernel)
theorem dX10_see_1 : decode cX10_see 1 = .ok (.aload_n 0, 1) := dk_42 (by decide +kernel)
theorem dX10_see_2 : decode cX10_see 2 = .ok (.getfield 112, 3) := dk_180 (a := 0) (b := 112) (by decide +kernel) rfl
theorem dX10_see_5 : decode cX10_see 5 = .ok (.if_icmp .ge 16, 3) := dk_162 (a := 0) (b := 16) (by decide +kernel) (by decide +kernel)
theorem dX10_see_8 : decode cX10_see 8 = .ok (.aload_n 0, 1) := dk_42 (by decide +kernel)
theorem dX10_see_9 : decode cX10_see 9 = .ok (.getfield 24, 3) := dk_180 (a := 0) (b := 24) (by decide +kernel) rfl
theorem dX10_see_12 : decode cX10_see 12 = .ok (.iload_n 1, 1) := dk_27 (by decide +kernel)
theorem dX10_see_13 : decode cX10_see 13 = .ok (.baload, 1) := dk_51 (by decide +kernel)
theorem dX10_see_14 : decode cX10_see 14 = .ok (.sipush 255, 3) := dk_17 (a := 0) (b := 255) (by decide +kernel) (by decide +kernel)
theorem dX10_see_17 : decode cX10_see 17 = .ok (.iand, 1) := dk_126 (by decide +kernel)
theorem dX10_see_18 : decode cX10_see 18 = .ok (.goto 4, 3) := dk_167 (a := 0) (b := 4) (by decide +kernel) (by decide +kernel)
theorem dX10_see_21 : decode cX10_see 21 = .ok (.iconst (-1), 1) := dk_2 (by decide +kernel)
theorem dX10_see_22 : decode cX10_see 22 = .ok (.ireturn, 1) := dk_172 (by decide +kernel)
theorem dX10_advance_0 : decode cX10_advance 0 = .ok (.aload_n 0, 1) := dk_42 (by decide +kernel)
theorem dX10_advance_1 : decode cX10_advance 1 = .ok (.aload_n 0, 1) := dk_42 (by decide +kernel)
theorem dX10_advance_2 : decode cX10_advance 2 = .ok (.getfield 115, 3) := dk_180 (a := 0) (b := 115) (by decide +kernel) rfl
theorem dX10_advance_5 : decode cX10_advance 5 = .ok (.invokevirtual 118, 3) := dk_182 (a := 0) (b := 118) (by decide +kernel) rfl
theorem dX10_advance_8 : decode cX10_advance 8 = .ok (.bipush 32, 2) := dk_16 (a := 32) (by decide +kernel) (by decide +kernel)
theorem dX10_advance_10 : decode cX10_advance 10 = .ok (.if_icmp .eq 16, 3) := dk_159 (a := 0) (b := 16) (by decide +kernel) (by decide +kernel)
theorem dX10_advance_13 : decode cX10_advance 13 = .ok (.aload_n 0, 1) := dk_42 (by decide +kernel)
theorem dX10_advance_14 : decode cX10_advance 14 = .ok (.aload_n 0, 1) := dk_42 (by decide +kernel)
theorem dX10_advance_15 : decode cX10_advance 15 = .ok (.getfield 115, 3) := dk_180 (a := 0) (b := 115) (by decide +kernel) rfl
theorem dX10_advance_18 : decode cX10_advance 18 = .ok (.invokevirtual 118, 3) := dk_182 (a := 0) (b := 118) (by decide +kernel) rfl
theorem dX10_advance_21 : decode cX10_advance 21 = .ok (.bipush 10, 2) := dk_16 (a := 10) (by decide +kernel) (by decide +kernel)
theorem dX10_advance_23 : decode cX10_advance 23 = .ok (.if_icmp .ne 16, 3) := dk_160 (a := 0) (b := 16) (by decide +kernel) (by decide +kernel)
theorem dX10_advance_26 : decode cX10_advance 26 = .ok (.aload_n 0, 1) := dk_42 (by decide +kernel)
theorem dX10_advance_27 : decode cX10_advance 27 = .ok (.dup, 1) := dk_89 (by decide +kernel)
theorem dX10_advance_28 : decode cX10_advance 28 = .ok (.getfield 115, 3) := dk_180 (a := 0) (b := 115) (by decide +kernel) rfl
theorem dX10_advance_31 : decode cX10_advance 31 = .ok (.iconst 1, 1) := dk_4 (by decide +kernel)
theorem dX10_advance_32 : decode cX10_advance 32 = .ok (.iadd, 1) := dk_96 (by decide +kernel)
theorem dX10_advance_33 : decode cX10_advance 33 = .ok (.putfield 115, 3) := dk_181 (a := 0) (b := 115) (by decide +kernel) rfl
theorem dX10_advance_36 : decode cX10_advance 36 = .ok (.goto (-36), 3) := dk_167 (a := 255) (b := 220) (by decide +kernel) (by decide +kernel)
theorem dX10_advance_39 : decode cX10_advance 39 = .ok (.aload_n 0, 1) := dk_42 (by decide +kernel)
theorem dX10_advance_40 : decode cX10_advance 40 = .ok (.aload_n 0, 1) := dk_42 (by decide +kernel)
theorem dX10_advance_41 : decode cX10_advance 41 = .ok (.getfield 115, 3) := dk_180 (a := 0) (b := 115) (by decide +kernel) rfl
theorem dX10_advance_44 : decode cX10_advance 44 = .ok (.putfield 122, 3) := dk_181 (a := 0) (b := 122) (by decide +kernel) rfl
theorem dX10_advance_47 : decode cX10_advance 47 = .ok (.aload_n 0, 1) := dk_42 (by decide +kernel)
theorem dX10_advance_48 : decode cX10_advance 48 = .ok (.aload_n 0, 1) := dk_42 (by decide +kernel)
theorem dX10_advance_49 : decode cX10_advance 49 = .ok (.getfield 115, 3) := dk_180 (a := 0) (b := 115) (by decide +kernel) rfl
theorem dX10_advance_52 : decode cX10_advance 52 = .ok (.invokevirtual 118, 3) := dk_182 (a := 0) (b := 118) (by decide +kernel) rfl
theorem dX10_advance_55 : decode cX10_advance 55 = .ok (.istore_n 1, 1) := dk_60 (by decide +kernel)
theorem dX10_advance_56 : decode cX10_advance 56 = .ok (.iload_n 1, 1) := dk_27 (by decide +kernel)
theorem dX10_advance_57 : decode cX10_advance 57 = .ok (.iconst (-1), 1) := dk_2 (by decide +kernel)
theorem dX10_advance_58 : decode cX10_advance 58 = .ok (.if_icmp .ne 11, 3) := dk_160 (a := 0) (b := 11) (by decide +kernel) (by decide +kernel)
theorem dX10_advance_61 : decode cX10_advance 61 = .ok (.aload_n 0, 1) := dk_42 (by decide +kernel)
theorem dX10_advance_62 : decode cX10_advance 62 = .ok (.iconst 0, 1) := dk_3 (by decide +kernel)
theorem dX10_advance_63 : decode cX10_advance 63 = .ok (.putfield 125, 3) := dk_181 (a := 0) (b := 125) (by decide +kernel) rfl
theorem dX10_advance_66 : decode cX10_advance 66 = .ok (.goto 174, 3) := dk_167 (a := 0) (b := 174) (by decide +kernel) (by decide +kernel)
theorem dX10_advance_69 : decode cX10_advance 69 = .ok (.iload_n 1, 1) := dk_27 (by decide +kernel)
theorem dX10_advance_70 : decode cX10_advance 70 = .ok (.i2l, 1) := dk_133 (by decide +kernel)
theorem dX10_advance_71 : decode cX10_advance 71 = .ok (.ldc2_w 128, 3) := dk_20 (a := 0) (b := 128) (by decide +kernel) rfl
theorem dX10_advance_74 : decode cX10_advance 74 = .ok (.ldc2_w 130, 3) := dk_20 (a := 0) (b := 130) (by decide +kernel) rfl
theorem dX10_advance_77 : decode cX10_advance 77 = .ok (.invokestatic 101, 3) := dk_184 (a := 0) (b := 101) (by decide +kernel) rfl
theorem dX10_advance_80 : decode cX10_advance 80 = .ok (.ifCond .eq 45, 3) := dk_153 (a := 0) (b := 45) (by decide +kernel) (by decide +kernel)
theorem dX10_advance_83 : decode cX10_advance 83 = .ok (.aload_n 0, 1) := dk_42 (by decide +kernel)
theorem dX10_advance_84 : decode cX10_advance 84 = .ok (.aload_n 0, 1) := dk_42 (by decide +kernel)
theorem dX10_advance_85 : decode cX10_advance 85 = .ok (.getfield 115, 3) := dk_180 (a := 0) (b := 115) (by decide +kernel) rfl
theorem dX10_advance_88 : decode cX10_advance 88 = .ok (.invokevirtual 118, 3) := dk_182 (a := 0) (b := 118) (by decide +kernel) rfl
theorem dX10_advance_91 : decode cX10_advance 91 = .ok (.i2l, 1) := dk_133 (by decide +kernel)
theorem dX10_advance_92 : decode cX10_advance 92 = .ok (.ldc2_w 128, 3) := dk_20 (a := 0) (b := 128) (by decide +kernel) rfl
theorem dX10_advance_95 : decode cX10_advance 95 = .ok (.ldc2_w 130, 3) := dk_20 (a := 0) (b := 130) (by decide +kernel) rfl
theorem dX10_advance_98 : decode cX10_advance 98 = .ok (.invokestatic 101, 3) := dk_184 (a := 0) (b := 101) (by decide +kernel) rfl
theorem dX10_advance_101 : decode cX10_advance 101 = .ok (.ifCond .eq 16, 3) := dk_153 (a := 0) (b := 16) (by decide +kernel) (by decide +kernel)
theorem dX10_advance_104 : decode cX10_advance 104 = .ok (.aload_n 0, 1) := dk_42 (by decide +kernel)
theorem dX10_advance_105 : decode cX10_advance 105 = .ok (.dup, 1) := dk_89 (by decide +kernel)
theorem dX10_advance_106 : decode cX10_advance 106 = .ok (.getfield 115, 3) := dk_180 (a := 0) (b := 115) (by decide +kernel) rfl
theorem dX10_advance_109 : decode cX10_advance 109 = .ok (.iconst 1, 1) := dk_4 (by decide +kernel)
theorem dX10_advance_110 : decode cX10_advance 110 = .ok (.iadd, 1) := dk_96 (by decide +kernel)
theorem dX10_advance_111 : decode cX10_advance 111 = .ok (.putfield 115, 3) := dk_181 (a := 0) (b := 115) (by decide +kernel) rfl
theorem dX10_advance_114 : decode cX10_advance 114 = .ok (.goto (-31), 3) := dk_167 (a := 255) (b := 225) (by decide +kernel) (by decide +kernel)
theorem dX10_advance_117 : decode cX10_advance 117 = .ok (.aload_n 0, 1) := dk_42 (by decide +kernel)
theorem dX10_advance_118 : decode cX10_advance 118 = .ok (.iconst 1, 1) := dk_4 (by decide +kernel)
theorem dX10_advance_119 : decode cX10_advance 119 = .ok (.putfield 125, 3) := dk_181 (a := 0) (b := 125) (by decide +kernel) rfl
theorem dX10_advance_122 : decode cX10_advance 122 = .ok (.goto 118, 3) := dk_167 (a := 0) (b := 118) (by decide +kernel) (by decide +kernel)
theorem dX10_advance_125 : decode cX10_advance 125 = .ok (.iload_n 1, 1) := dk_27 (by decide +kernel)
theorem dX10_advance_126 : decode cX10_advance 126 = .ok (.i2l, 1) := dk_133 (by decide +kernel)
theorem dX10_advance_127 : decode cX10_advance 127 = .ok (.ldc2_w 132, 3) := dk_20 (a := 0) (b := 132) (by decide +kernel) rfl
theorem dX10_advance_130 : decode cX10_advance 130 = .ok (.ldc2_w 134, 3) := dk_20 (a := 0) (b := 134) (by decide +kernel) rfl
