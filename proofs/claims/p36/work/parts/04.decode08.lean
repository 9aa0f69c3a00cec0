theorem dX6_replay_68 : decode cX6_replay 68 = .ok (.istore 7, 2) := by decide +kernel
theorem dX6_replay_70 : decode cX6_replay 70 = .ok (.iload 7, 2) := by decide +kernel
theorem dX6_replay_72 : decode cX6_replay 72 = .ok (.iconst 4, 1) := by decide +kernel
theorem dX6_replay_73 : decode cX6_replay 73 = .ok (.if_icmp .eq 35, 3) := by decide +kernel
theorem dX6_replay_76 : decode cX6_replay 76 = .ok (.aload_n 0, 1) := by decide +kernel
theorem dX6_replay_77 : decode cX6_replay 77 = .ok (.aload_n 2, 1) := by decide +kernel
theorem dX6_replay_78 : decode cX6_replay 78 = .ok (.aload_n 1, 1) := by decide +kernel
theorem dX6_replay_79 : decode cX6_replay 79 = .ok (.iload 5, 2) := by decide +kernel
theorem dX6_replay_81 : decode cX6_replay 81 = .ok (.iload 6, 2) := by decide +kernel
theorem dX6_replay_83 : decode cX6_replay 83 = .ok (.iload 7, 2) := by decide +kernel
theorem dX6_replay_85 : decode cX6_replay 85 = .ok (.aload_n 0, 1) := by decide +kernel
theorem dX6_replay_86 : decode cX6_replay 86 = .ok (.getfield 35, 3) := by decide +kernel
theorem dX6_replay_89 : decode cX6_replay 89 = .ok (.getfield 166, 3) := by decide +kernel
theorem dX6_replay_92 : decode cX6_replay 92 = .ok (.iload 4, 2) := by decide +kernel
theorem dX6_replay_94 : decode cX6_replay 94 = .ok (.iaload, 1) := by decide +kernel
theorem dX6_replay_95 : decode cX6_replay 95 = .ok (.aload_n 3, 1) := by decide +kernel
theorem dX6_replay_96 : decode cX6_replay 96 = .ok (.iload 5, 2) := by decide +kernel
theorem dX6_replay_98 : decode cX6_replay 98 = .ok (.iaload, 1) := by decide +kernel
theorem dX6_replay_99 : decode cX6_replay 99 = .ok (.iload 6, 2) := by decide +kernel
theorem dX6_replay_101 : decode cX6_replay 101 = .ok (.ishr, 1) := by decide +kernel
theorem dX6_replay_102 : decode cX6_replay 102 = .ok (.iconst 1, 1) := by decide +kernel
theorem dX6_replay_103 : decode cX6_replay 103 = .ok (.iand, 1) := by decide +kernel
theorem dX6_replay_104 : decode cX6_replay 104 = .ok (.invokevirtual 110, 3) := by decide +kernel
theorem dX6_replay_107 : decode cX6_replay 107 = .ok (.pop, 1) := by decide +kernel
theorem dX6_replay_108 : decode cX6_replay 108 = .ok (.iload 7, 2) := by decide +kernel
theorem dX6_replay_110 : decode cX6_replay 110 = .ok (.iconst 2, 1) := by decide +kernel
theorem dX6_replay_111 : decode cX6_replay 111 = .ok (.if_icmp .lt 11, 3) := by decide +kernel
theorem dX6_replay_114 : decode cX6_replay 114 = .ok (.aload_n 3, 1) := by decide +kernel
theorem dX6_replay_115 : decode cX6_replay 115 = .ok (.iload 5, 2) := by decide +kernel
theorem dX6_replay_117 : decode cX6_replay 117 = .ok (.iload 6, 2) := by decide +kernel
theorem dX6_replay_119 : decode cX6_replay 119 = .ok (.invokestatic 118, 3) := by decide +kernel
theorem dX6_replay_122 : decode cX6_replay 122 = .ok (.iinc 4 1, 3) := by decide +kernel
theorem dX6_replay_125 : decode cX6_replay 125 = .ok (.goto (-103), 3) := by decide +kernel
theorem dX6_replay_128 : decode cX6_replay 128 = .ok (.return_, 1) := by decide +kernel
theorem dX6_hanging_0 : decode cX6_hanging 0 = .ok (.iload_n 2, 1) := by decide +kernel
theorem dX6_hanging_1 : decode cX6_hanging 1 = .ok (.ifCond .ge 7, 3) := by decide +kernel
theorem dX6_hanging_4 : decode cX6_hanging 4 = .ok (.iconst 0, 1) := by decide +kernel
theorem dX6_hanging_5 : decode cX6_hanging 5 = .ok (.goto 6, 3) := by decide +kernel
theorem dX6_hanging_8 : decode cX6_hanging 8 = .ok (.iconst 1, 1) := by decide +kernel
theorem dX6_hanging_9 : decode cX6_hanging 9 = .ok (.iload_n 2, 1) := by decide +kernel
theorem dX6_hanging_10 : decode cX6_hanging 10 = .ok (.ishl, 1) := by decide +kernel
theorem dX6_hanging_11 : decode cX6_hanging 11 = .ok (.istore_n 3, 1) := by decide +kernel
theorem dX6_hanging_12 : decode cX6_hanging 12 = .ok (.iconst 1, 1) := by decide +kernel
theorem dX6_hanging_13 : decode cX6_hanging 13 = .ok (.iload_n 1, 1) := by decide +kernel
theorem dX6_hanging_14 : decode cX6_hanging 14 = .ok (.ishl, 1) := by decide +kernel
theorem dX6_hanging_15 : decode cX6_hanging 15 = .ok (.aload_n 0, 1) := by decide +kernel
theorem dX6_hanging_16 : decode cX6_hanging 16 = .ok (.getfield 39, 3) := by decide +kernel
theorem dX6_hanging_19 : decode cX6_hanging 19 = .ok (.iload_n 1, 1) := by decide +kernel
theorem dX6_hanging_20 : decode cX6_hanging 20 = .ok (.iaload, 1) := by decide +kernel
theorem dX6_hanging_21 : decode cX6_hanging 21 = .ok (.iload_n 3, 1) := by decide +kernel
theorem dX6_hanging_22 : decode cX6_hanging 22 = .ok (.iconst (-1), 1) := by decide +kernel
theorem dX6_hanging_23 : decode cX6_hanging 23 = .ok (.ixor, 1) := by decide +kernel
theorem dX6_hanging_24 : decode cX6_hanging 24 = .ok (.iand, 1) := by decide +kernel
theorem dX6_hanging_25 : decode cX6_hanging 25 = .ok (.ior, 1) := by decide +kernel
theorem dX6_hanging_26 : decode cX6_hanging 26 = .ok (.istore 4, 2) := by decide +kernel
theorem dX6_hanging_28 : decode cX6_hanging 28 = .ok (.iconst 0, 1) := by decide +kernel
theorem dX6_hanging_29 : decode cX6_hanging 29 = .ok (.istore 5, 2) := by decide +kernel
theorem dX6_hanging_31 : decode cX6_hanging 31 = .ok (.iload 5, 2) := by decide +kernel
theorem dX6_hanging_33 : decode cX6_hanging 33 = .ok (.bipush 16, 2) := by decide +kernel
theorem dX6_hanging_35 : decode cX6_hanging 35 = .ok (.if_icmp .ge 72, 3) := by decide +kernel
theorem dX6_hanging_38 : decode cX6_hanging 38 = .ok (.iload 4, 2) := by decide +kernel
theorem dX6_hanging_40 : decode cX6_hanging 40 = .ok (.istore 6, 2) := by decide +kernel
theorem dX6_hanging_42 : decode cX6_hanging 42 = .ok (.iconst 0, 1) := by decide +kernel
theorem dX6_hanging_43 : decode cX6_hanging 43 = .ok (.istore 7, 2) := by decide +kernel
theorem dX6_hanging_45 : decode cX6_hanging 45 = .ok (.iload 7, 2) := by decide +kernel
theorem dX6_hanging_47 : decode cX6_hanging 47 = .ok (.bipush 16, 2) := by decide +kernel
theorem dX6_hanging_49 : decode cX6_hanging 49 = .ok (.if_icmp .ge 38, 3) := by decide +kernel
theorem dX6_hanging_52 : decode cX6_hanging 52 = .ok (.iload 4, 2) := by decide +kernel
theorem dX6_hanging_54 : decode cX6_hanging 54 = .ok (.iload 7, 2) := by decide +kernel
theorem dX6_hanging_56 : decode cX6_hanging 56 = .ok (.ishr, 1) := by decide +kernel
theorem dX6_hanging_57 : decode cX6_hanging 57 = .ok (.iconst 1, 1) := by decide +kernel
theorem dX6_hanging_58 : decode cX6_hanging 58 = .ok (.iand, 1) := by decide +kernel
theorem dX6_hanging_59 : decode cX6_hanging 59 = .ok (.iconst 1, 1) := by decide +kernel
theorem dX6_hanging_60 : decode cX6_hanging 60 = .ok (.if_icmp .ne 21, 3) := by decide +kernel
theorem dX6_hanging_63 : decode cX6_hanging 63 = .ok (.iload 7, 2) := by decide +kernel
theorem dX6_hanging_65 : decode cX6_hanging 65 = .ok (.iload_n 1, 1) := by decide +kernel
theorem dX6_hanging_66 : decode cX6_hanging 66 = .ok (.if_icmp .eq 15, 3) := by decide +kernel
theorem dX6_hanging_69 : decode cX6_hanging 69 = .ok (.iload 6, 2) := by decide +kernel
theorem dX6_hanging_71 : decode cX6_hanging 71 = .ok (.aload_n 0, 1) := by decide +kernel
theorem dX6_hanging_72 : decode cX6_hanging 72 = .ok (.getfield 39, 3) := by decide +kernel
theorem dX6_hanging_75 : decode cX6_hanging 75 = .ok (.iload 7, 2) := by decide +kernel
theorem dX6_hanging_77 : decode cX6_hanging 77 = .ok (.iaload, 1) := by decide +kernel
theorem dX6_hanging_78 : decode cX6_hanging 78 = .ok (.ior, 1) := by decide +kernel
theorem dX6_hanging_79 : decode cX6_hanging 79 = .ok (.istore 6, 2) := by decide +kernel
theorem dX6_hanging_81 : decode cX6_hanging 81 = .ok (.iinc 7 1, 3) := by decide +kernel
theorem dX6_hanging_84 : decode cX6_hanging 84 = .ok (.goto (-39), 3) := by decide +kernel
theorem dX6_hanging_87 : decode cX6_hanging 87 = .ok (.iload 6, 2) := by decide +kernel
theorem dX6_hanging_89 : decode cX6_hanging 89 = .ok (.iload 4, 2) := by decide +kernel
theorem dX6_hanging_91 : decode cX6_hanging 91 = .ok (.if_icmp .ne 6, 3) := by decide +kernel
theorem dX6_hanging_94 : decode cX6_hanging 94 = .ok (.iload 4, 2) := by decide +kernel
theorem dX6_hanging_96 : decode cX6_hanging 96 = .ok (.ireturn, 1) := by decide +kernel
theorem dX6_hanging_97 : decode cX6_hanging 97 = .ok (.iload 6, 2) := by decide +kernel
theorem dX6_hanging_99 : decode cX6_hanging 99 = .ok (.istore 4, 2) := by decide +kernel
theorem dX6_hanging_101 : decode cX6_hanging 101 = .ok (.iinc 5 1, 3) := by decide +kernel
theorem dX6_hanging_104 : decode cX6_hanging 104 = .ok (.goto (-73), 3) := by decide +kernel
theorem dX6_hanging_107 : decode cX6_hanging 107 = .ok (.iload 4, 2) := by decide +kernel
theorem dX6_hanging_109 : decode cX6_hanging 109 = .ok (.ireturn, 1) := by decide +kernel
theorem dX6_holdsTogether_0 : decode cX6_holdsTogether 0 = .ok (.aload_n 0, 1) := by decide +kernel
theorem dX6_holdsTogether_1 : decode cX6_holdsTogether 1 = .ok (.iload_n 1, 1) := by decide +kernel
theorem dX6_holdsTogether_2 : decode cX6_holdsTogether 2 = .ok (.iload_n 2, 1) := by decide +kernel
theorem dX6_holdsTogether_3 : decode cX6_holdsTogether 3 = .ok (.invokevirtual 168, 3) := by decide +kernel
theorem dX6_holdsTogether_6 : decode cX6_holdsTogether 6 = .ok (.iload_n 2, 1) := by decide +kernel
theorem dX6_holdsTogether_7 : decode cX6_holdsTogether 7 = .ok (.ishr, 1) := by decide +kernel
theorem dX6_holdsTogether_8 : decode cX6_holdsTogether 8 = .ok (.iconst 1, 1) := by decide +kernel
theorem dX6_holdsTogether_9 : decode cX6_holdsTogether 9 = .ok (.iand, 1) := by decide +kernel
theorem dX6_holdsTogether_10 : decode cX6_holdsTogether 10 = .ok (.ifCond .ne 7, 3) := by decide +kernel
theorem dX6_holdsTogether_13 : decode cX6_holdsTogether 13 = .ok (.iconst 1, 1) := by decide +kernel
theorem dX6_holdsTogether_14 : decode cX6_holdsTogether 14 = .ok (.goto 4, 3) := by decide +kernel
theorem dX6_holdsTogether_17 : decode cX6_holdsTogether 17 = .ok (.iconst 0, 1) := by decide +kernel
theorem dX6_holdsTogether_18 : decode cX6_holdsTogether 18 = .ok (.ireturn, 1) := by decide +kernel
theorem dX6_canDrop_0 : decode cX6_canDrop 0 = .ok (.iload_n 1, 1) := by decide +kernel
theorem dX6_canDrop_1 : decode cX6_canDrop 1 = .ok (.iload_n 2, 1) := by decide +kernel
theorem dX6_canDrop_2 : decode cX6_canDrop 2 = .ok (.if_icmp .eq 38, 3) := by decide +kernel
theorem dX6_canDrop_5 : decode cX6_canDrop 5 = .ok (.aload_n 0, 1) := by decide +kernel
theorem dX6_canDrop_6 : decode cX6_canDrop 6 = .ok (.iload_n 1, 1) := by decide +kernel
theorem dX6_canDrop_7 : decode cX6_canDrop 7 = .ok (.iload_n 2, 1) := by decide +kernel
theorem dX6_canDrop_8 : decode cX6_canDrop 8 = .ok (.invokevirtual 94, 3) := by decide +kernel
theorem dX6_canDrop_11 : decode cX6_canDrop 11 = .ok (.iconst 1, 1) := by decide +kernel
theorem dX6_canDrop_12 : decode cX6_canDrop 12 = .ok (.if_icmp .ne 28, 3) := by decide +kernel
theorem dX6_canDrop_15 : decode cX6_canDrop 15 = .ok (.aload_n 0, 1) := by decide +kernel
theorem dX6_canDrop_16 : decode cX6_canDrop 16 = .ok (.getfield 28, 3) := by decide +kernel
theorem dX6_canDrop_19 : decode cX6_canDrop 19 = .ok (.iload_n 1, 1) := by decide +kernel
theorem dX6_canDrop_20 : decode cX6_canDrop 20 = .ok (.iload_n 2, 1) := by decide +kernel
theorem dX6_canDrop_21 : decode cX6_canDrop 21 = .ok (.invokevirtual 154, 3) := by decide +kernel
theorem dX6_canDrop_24 : decode cX6_canDrop 24 = .ok (.ifCond .ne 16, 3) := by decide +kernel
theorem dX6_canDrop_27 : decode cX6_canDrop 27 = .ok (.aload_n 0, 1) := by decide +kernel
theorem dX6_canDrop_28 : decode cX6_canDrop 28 = .ok (.iload_n 1, 1) := by decide +kernel
theorem dX6_canDrop_29 : decode cX6_canDrop 29 = .ok (.iload_n 2, 1) := by decide +kernel
theorem dX6_canDrop_30 : decode cX6_canDrop 30 = .ok (.invokevirtual 171, 3) := by decide +kernel
theorem dX6_canDrop_33 : decode cX6_canDrop 33 = .ok (.ifCond .ne 7, 3) := by decide +kernel
theorem dX6_canDrop_36 : decode cX6_canDrop 36 = .ok (.iconst 1, 1) := by decide +kernel
theorem dX6_canDrop_37 : decode cX6_canDrop 37 = .ok (.goto 4, 3) := by decide +kernel
theorem dX6_canDrop_40 : decode cX6_canDrop 40 = .ok (.iconst 0, 1) := by decide +kernel
theorem dX6_canDrop_41 : decode cX6_canDrop 41 = .ok (.ireturn, 1) := by decide +kernel
theorem dX6_followCalls_0 : decode cX6_followCalls 0 = .ok (.iconst 0, 1) := by decide +kernel
theorem dX6_followCalls_1 : decode cX6_followCalls 1 = .ok (.istore_n 1, 1) := by decide +kernel
theorem dX6_followCalls_2 : decode cX6_followCalls 2 = .ok (.iload_n 1, 1) := by decide +kernel
theorem dX6_followCalls_3 : decode cX6_followCalls 3 = .ok (.bipush 16, 2) := by decide +kernel
theorem dX6_followCalls_5 : decode cX6_followCalls 5 = .ok (.if_icmp .ge 18, 3) := by decide +kernel
theorem dX6_followCalls_8 : decode cX6_followCalls 8 = .ok (.aload_n 0, 1) := by decide +kernel
theorem dX6_followCalls_9 : decode cX6_followCalls 9 = .ok (.getfield 43, 3) := by decide +kernel
theorem dX6_followCalls_12 : decode cX6_followCalls 12 = .ok (.iload_n 1, 1) := by decide +kernel
theorem dX6_followCalls_13 : decode cX6_followCalls 13 = .ok (.iconst 1, 1) := by decide +kernel
theorem dX6_followCalls_14 : decode cX6_followCalls 14 = .ok (.iload_n 1, 1) := by decide +kernel
theorem dX6_followCalls_15 : decode cX6_followCalls 15 = .ok (.ishl, 1) := by decide +kernel
theorem dX6_followCalls_16 : decode cX6_followCalls 16 = .ok (.iastore, 1) := by decide +kernel
theorem dX6_followCalls_17 : decode cX6_followCalls 17 = .ok (.iinc 1 1, 3) := by decide +kernel
theorem dX6_followCalls_20 : decode cX6_followCalls 20 = .ok (.goto (-18), 3) := by decide +kernel
theorem dX6_followCalls_23 : decode cX6_followCalls 23 = .ok (.iconst 0, 1) := by decide +kernel
theorem dX6_followCalls_24 : decode cX6_followCalls 24 = .ok (.istore_n 1, 1) := by decide +kernel
theorem dX6_followCalls_25 : decode cX6_followCalls 25 = .ok (.iload_n 1, 1) := by decide +kernel
theorem dX6_followCalls_26 : decode cX6_followCalls 26 = .ok (.aload_n 0, 1) := by decide +kernel
theorem dX6_followCalls_27 : decode cX6_followCalls 27 = .ok (.getfield 35, 3) := by decide +kernel
theorem dX6_followCalls_30 : decode cX6_followCalls 30 = .ok (.getfield 56, 3) := by decide +kernel
theorem dX6_followCalls_33 : decode cX6_followCalls 33 = .ok (.if_icmp .ge 63, 3) := by decide +kernel
theorem dX6_followCalls_36 : decode cX6_followCalls 36 = .ok (.aload_n 0, 1) := by decide +kernel
theorem dX6_followCalls_37 : decode cX6_followCalls 37 = .ok (.getfield 35, 3) := by decide +kernel
theorem dX6_followCalls_40 : decode cX6_followCalls 40 = .ok (.getfield 163, 3) := by decide +kernel
theorem dX6_followCalls_43 : decode cX6_followCalls 43 = .ok (.iload_n 1, 1) := by decide +kernel
theorem dX6_followCalls_44 : decode cX6_followCalls 44 = .ok (.iaload, 1) := by decide +kernel
theorem dX6_followCalls_45 : decode cX6_followCalls 45 = .ok (.iconst 2, 1) := by decide +kernel
theorem dX6_followCalls_46 : decode cX6_followCalls 46 = .ok (.if_icmp .lt 44, 3) := by decide +kernel
theorem dX6_followCalls_49 : decode cX6_followCalls 49 = .ok (.aload_n 0, 1) := by decide +kernel
theorem dX6_followCalls_50 : decode cX6_followCalls 50 = .ok (.getfield 35, 3) := by decide +kernel
theorem dX6_followCalls_53 : decode cX6_followCalls 53 = .ok (.getfield 163, 3) := by decide +kernel
theorem dX6_followCalls_56 : decode cX6_followCalls 56 = .ok (.iload_n 1, 1) := by decide +kernel
theorem dX6_followCalls_57 : decode cX6_followCalls 57 = .ok (.iaload, 1) := by decide +kernel
theorem dX6_followCalls_58 : decode cX6_followCalls 58 = .ok (.iconst 4, 1) := by decide +kernel
theorem dX6_followCalls_59 : decode cX6_followCalls 59 = .ok (.if_icmp .eq 31, 3) := by decide +kernel
theorem dX6_followCalls_62 : decode cX6_followCalls 62 = .ok (.aload_n 0, 1) := by decide +kernel
theorem dX6_followCalls_63 : decode cX6_followCalls 63 = .ok (.getfield 43, 3) := by decide +kernel
theorem dX6_followCalls_66 : decode cX6_followCalls 66 = .ok (.aload_n 0, 1) := by decide +kernel
theorem dX6_followCalls_67 : decode cX6_followCalls 67 = .ok (.getfield 35, 3) := by decide +kernel
theorem dX6_followCalls_70 : decode cX6_followCalls 70 = .ok (.getfield 157, 3) := by decide +kernel
theorem dX6_followCalls_73 : decode cX6_followCalls 73 = .ok (.iload_n 1, 1) := by decide +kernel
theorem dX6_followCalls_74 : decode cX6_followCalls 74 = .ok (.iaload, 1) := by decide +kernel
theorem dX6_followCalls_75 : decode cX6_followCalls 75 = .ok (.dup2, 1) := by decide +kernel
theorem dX6_followCalls_76 : decode cX6_followCalls 76 = .ok (.iaload, 1) := by decide +kernel
theorem dX6_followCalls_77 : decode cX6_followCalls 77 = .ok (.iconst 1, 1) := by decide +kernel
theorem dX6_followCalls_78 : decode cX6_followCalls 78 = .ok (.aload_n 0, 1) := by decide +kernel
theorem dX6_followCalls_79 : decode cX6_followCalls 79 = .ok (.getfield 35, 3) := by decide +kernel
theorem dX6_followCalls_82 : decode cX6_followCalls 82 = .ok (.getfield 160, 3) := by decide +kernel
theorem dX6_followCalls_85 : decode cX6_followCalls 85 = .ok (.iload_n 1, 1) := by decide +kernel
theorem dX6_followCalls_86 : decode cX6_followCalls 86 = .ok (.iaload, 1) := by decide +kernel
theorem dX6_followCalls_87 : decode cX6_followCalls 87 = .ok (.ishl, 1) := by decide +kernel
theorem dX6_followCalls_88 : decode cX6_followCalls 88 = .ok (.ior, 1) := by decide +kernel
theorem dX6_followCalls_89 : decode cX6_followCalls 89 = .ok (.iastore, 1) := by decide +kernel
theorem dX6_followCalls_90 : decode cX6_followCalls 90 = .ok (.iinc 1 1, 3) := by decide +kernel
theorem dX6_followCalls_93 : decode cX6_followCalls 93 = .ok (.goto (-68), 3) := by decide +kernel
theorem dX6_followCalls_96 : decode cX6_followCalls 96 = .ok (.iconst 0, 1) := by decide +kernel
theorem dX6_followCalls_97 : decode cX6_followCalls 97 = .ok (.istore_n 1, 1) := by decide +kernel
theorem dX6_followCalls_98 : decode cX6_followCalls 98 = .ok (.iload_n 1, 1) := by decide +kernel
theorem dX6_followCalls_99 : decode cX6_followCalls 99 = .ok (.bipush 16, 2) := by decide +kernel
theorem dX6_followCalls_101 : decode cX6_followCalls 101 = .ok (.if_icmp .ge 52, 3) := by decide +kernel
theorem dX6_followCalls_104 : decode cX6_followCalls 104 = .ok (.iconst 0, 1) := by decide +kernel
theorem dX6_followCalls_105 : decode cX6_followCalls 105 = .ok (.istore_n 2, 1) := by decide +kernel
theorem dX6_followCalls_106 : decode cX6_followCalls 106 = .ok (.iload_n 2, 1) := by decide +kernel
theorem dX6_followCalls_107 : decode cX6_followCalls 107 = .ok (.bipush 16, 2) := by decide +kernel
theorem dX6_followCalls_109 : decode cX6_followCalls 109 = .ok (.if_icmp .ge 38, 3) := by decide +kernel
theorem dX6_followCalls_112 : decode cX6_followCalls 112 = .ok (.aload_n 0, 1) := by decide +kernel
theorem dX6_followCalls_113 : decode cX6_followCalls 113 = .ok (.getfield 43, 3) := by decide +kernel
theorem dX6_followCalls_116 : decode cX6_followCalls 116 = .ok (.iload_n 2, 1) := by decide +kernel
theorem dX6_followCalls_117 : decode cX6_followCalls 117 = .ok (.iaload, 1) := by decide +kernel
theorem dX6_followCalls_118 : decode cX6_followCalls 118 = .ok (.iload_n 1, 1) := by decide +kernel
theorem dX6_followCalls_119 : decode cX6_followCalls 119 = .ok (.ishr, 1) := by decide +kernel
theorem dX6_followCalls_120 : decode cX6_followCalls 120 = .ok (.iconst 1, 1) := by decide +kernel
theorem dX6_followCalls_121 : decode cX6_followCalls 121 = .ok (.iand, 1) := by decide +kernel
theorem dX6_followCalls_122 : decode cX6_followCalls 122 = .ok (.iconst 1, 1) := by decide +kernel
theorem dX6_followCalls_123 : decode cX6_followCalls 123 = .ok (.if_icmp .ne 18, 3) := by decide +kernel
theorem dX6_followCalls_126 : decode cX6_followCalls 126 = .ok (.aload_n 0, 1) := by decide +kernel
theorem dX6_followCalls_127 : decode cX6_followCalls 127 = .ok (.getfield 43, 3) := by decide +kernel
theorem dX6_followCalls_130 : decode cX6_followCalls 130 = .ok (.iload_n 2, 1) := by decide +kernel
theorem dX6_followCalls_131 : decode cX6_followCalls 131 = .ok (.dup2, 1) := by decide +kernel
theorem dX6_followCalls_132 : decode cX6_followCalls 132 = .ok (.iaload, 1) := by decide +kernel
theorem dX6_followCalls_133 : decode cX6_followCalls 133 = .ok (.aload_n 0, 1) := by decide +kernel
theorem dX6_followCalls_134 : decode cX6_followCalls 134 = .ok (.getfield 43, 3) := by decide +kernel
theorem dX6_followCalls_137 : decode cX6_followCalls 137 = .ok (.iload_n 1, 1) := by decide +kernel
theorem dX6_followCalls_138 : decode cX6_followCalls 138 = .ok (.iaload, 1) := by decide +kernel
theorem dX6_followCalls_139 : decode cX6_followCalls 139 = .ok (.ior, 1) := by decide +kernel
theorem dX6_followCalls_140 : decode cX6_followCalls 140 = .ok (.iastore, 1) := by decide +kernel
theorem dX6_followCalls_141 : decode cX6_followCalls 141 = .ok (.iinc 2 1, 3) := by decide +kernel
theorem dX6_followCalls_144 : decode cX6_followCalls 144 = .ok (.goto (-38), 3) := by decide +kernel
theorem dX6_followCalls_147 : decode cX6_followCalls 147 = .ok (.iinc 1 1, 3) := by decide +kernel
theorem dX6_followCalls_150 : decode cX6_followCalls 150 = .ok (.goto (-52), 3) := by decide +kernel
theorem dX6_followCalls_153 : decode cX6_followCalls 153 = .ok (.return_, 1) := by decide +kernel
theorem dX6_ringBits_0 : decode cX6_ringBits 0 = .ok (.aload_n 0, 1) := by decide +kernel
theorem dX6_ringBits_1 : decode cX6_ringBits 1 = .ok (.getfield 43, 3) := by decide +kernel
theorem dX6_ringBits_4 : decode cX6_ringBits 4 = .ok (.iload_n 1, 1) := by decide +kernel
theorem dX6_ringBits_5 : decode cX6_ringBits 5 = .ok (.iaload, 1) := by decide +kernel
theorem dX6_ringBits_6 : decode cX6_ringBits 6 = .ok (.istore_n 2, 1) := by decide +kernel
theorem dX6_ringBits_7 : decode cX6_ringBits 7 = .ok (.iload_n 2, 1) := by decide +kernel
theorem dX6_ringBits_8 : decode cX6_ringBits 8 = .ok (.invokestatic 101, 3) := by decide +kernel
theorem dX6_ringBits_11 : decode cX6_ringBits 11 = .ok (.iconst 2, 1) := by decide +kernel
theorem dX6_ringBits_12 : decode cX6_ringBits 12 = .ok (.if_icmp .ge 5, 3) := by decide +kernel
theorem dX6_ringBits_15 : decode cX6_ringBits 15 = .ok (.iconst 0, 1) := by decide +kernel
theorem dX6_ringBits_16 : decode cX6_ringBits 16 = .ok (.ireturn, 1) := by decide +kernel
theorem dX6_ringBits_17 : decode cX6_ringBits 17 = .ok (.iconst 0, 1) := by decide +kernel
theorem dX6_ringBits_18 : decode cX6_ringBits 18 = .ok (.istore_n 3, 1) := by decide +kernel
theorem dX6_ringBits_19 : decode cX6_ringBits 19 = .ok (.iload_n 3, 1) := by decide +kernel
theorem dX6_ringBits_20 : decode cX6_ringBits 20 = .ok (.bipush 16, 2) := by decide +kernel
theorem dX6_ringBits_22 : decode cX6_ringBits 22 = .ok (.if_icmp .ge 30, 3) := by decide +kernel
theorem dX6_ringBits_25 : decode cX6_ringBits 25 = .ok (.iload_n 2, 1) := by decide +kernel
theorem dX6_ringBits_26 : decode cX6_ringBits 26 = .ok (.iload_n 3, 1) := by decide +kernel
theorem dX6_ringBits_27 : decode cX6_ringBits 27 = .ok (.ishr, 1) := by decide +kernel
theorem dX6_ringBits_28 : decode cX6_ringBits 28 = .ok (.iconst 1, 1) := by decide +kernel
theorem dX6_ringBits_29 : decode cX6_ringBits 29 = .ok (.iand, 1) := by decide +kernel
theorem dX6_ringBits_30 : decode cX6_ringBits 30 = .ok (.iconst 1, 1) := by decide +kernel
theorem dX6_ringBits_31 : decode cX6_ringBits 31 = .ok (.if_icmp .ne 15, 3) := by decide +kernel
theorem dX6_ringBits_34 : decode cX6_ringBits 34 = .ok (.aload_n 0, 1) := by decide +kernel
theorem dX6_ringBits_35 : decode cX6_ringBits 35 = .ok (.getfield 43, 3) := by decide +kernel
theorem dX6_ringBits_38 : decode cX6_ringBits 38 = .ok (.iload_n 3, 1) := by decide +kernel
theorem dX6_ringBits_39 : decode cX6_ringBits 39 = .ok (.iaload, 1) := by decide +kernel
theorem dX6_ringBits_40 : decode cX6_ringBits 40 = .ok (.iload_n 2, 1) := by decide +kernel
theorem dX6_ringBits_41 : decode cX6_ringBits 41 = .ok (.if_icmp .eq 5, 3) := by decide +kernel
theorem dX6_ringBits_44 : decode cX6_ringBits 44 = .ok (.iconst 0, 1) := by decide +kernel
theorem dX6_ringBits_45 : decode cX6_ringBits 45 = .ok (.ireturn, 1) := by decide +kernel
theorem dX6_ringBits_46 : decode cX6_ringBits 46 = .ok (.iinc 3 1, 3) := by decide +kernel
theorem dX6_ringBits_49 : decode cX6_ringBits 49 = .ok (.goto (-30), 3) := by decide +kernel
theorem dX6_ringBits_52 : decode cX6_ringBits 52 = .ok (.iload_n 2, 1) := by decide +kernel
theorem dX6_ringBits_53 : decode cX6_ringBits 53 = .ok (.ireturn, 1) := by decide +kernel
theorem dX7_clear_0 : decode cX7_clear 0 = .ok (.aload_n 0, 1) := by decide +kernel
theorem dX7_clear_1 : decode cX7_clear 1 = .ok (.iconst 0, 1) := by decide +kernel
theorem dX7_clear_2 : decode cX7_clear 2 = .ok (.putfield 43, 3) := by decide +kernel
theorem dX7_clear_5 : decode cX7_clear 5 = .ok (.aload_n 0, 1) := by decide +kernel
theorem dX7_clear_6 : decode cX7_clear 6 = .ok (.iconst 0, 1) := by decide +kernel
theorem dX7_clear_7 : decode cX7_clear 7 = .ok (.putfield 46, 3) := by decide +kernel
theorem dX7_clear_10 : decode cX7_clear 10 = .ok (.aload_n 0, 1) := by decide +kernel
theorem dX7_clear_11 : decode cX7_clear 11 = .ok (.iconst 3, 1) := by decide +kernel
theorem dX7_clear_12 : decode cX7_clear 12 = .ok (.putfield 11, 3) := by decide +kernel
theorem dX7_clear_15 : decode cX7_clear 15 = .ok (.aload_n 0, 1) := by decide +kernel
theorem dX7_clear_16 : decode cX7_clear 16 = .ok (.getfield 40, 3) := by decide +kernel
theorem dX7_clear_19 : decode cX7_clear 19 = .ok (.iconst 0, 1) := by decide +kernel
theorem dX7_clear_20 : decode cX7_clear 20 = .ok (.invokestatic 49, 3) := by decide +kernel
theorem dX7_clear_23 : decode cX7_clear 23 = .ok (.return_, 1) := by decide +kernel
theorem dX7_copy_0 : decode cX7_copy 0 = .ok (.aload_n 0, 1) := by decide +kernel
theorem dX7_copy_1 : decode cX7_copy 1 = .ok (.aload_n 1, 1) := by decide +kernel
theorem dX7_copy_2 : decode cX7_copy 2 = .ok (.getfield 43, 3) := by decide +kernel
theorem dX7_copy_5 : decode cX7_copy 5 = .ok (.putfield 43, 3) := by decide +kernel
theorem dX7_copy_8 : decode cX7_copy 8 = .ok (.aload_n 0, 1) := by decide +kernel
theorem dX7_copy_9 : decode cX7_copy 9 = .ok (.aload_n 1, 1) := by decide +kernel
theorem dX7_copy_10 : decode cX7_copy 10 = .ok (.getfield 46, 3) := by decide +kernel
theorem dX7_copy_13 : decode cX7_copy 13 = .ok (.putfield 46, 3) := by decide +kernel
theorem dX7_copy_16 : decode cX7_copy 16 = .ok (.aload_n 0, 1) := by decide +kernel
theorem dX7_copy_17 : decode cX7_copy 17 = .ok (.aload_n 1, 1) := by decide +kernel
theorem dX7_copy_18 : decode cX7_copy 18 = .ok (.getfield 11, 3) := by decide +kernel
theorem dX7_copy_21 : decode cX7_copy 21 = .ok (.putfield 11, 3) := by decide +kernel
theorem dX7_copy_24 : decode cX7_copy 24 = .ok (.aload_n 1, 1) := by decide +kernel
theorem dX7_copy_25 : decode cX7_copy 25 = .ok (.getfield 15, 3) := by decide +kernel
theorem dX7_copy_28 : decode cX7_copy 28 = .ok (.iconst 0, 1) := by decide +kernel
theorem dX7_copy_29 : decode cX7_copy 29 = .ok (.aload_n 0, 1) := by decide +kernel
theorem dX7_copy_30 : decode cX7_copy 30 = .ok (.getfield 15, 3) := by decide +kernel
theorem dX7_copy_33 : decode cX7_copy 33 = .ok (.iconst 0, 1) := by decide +kernel
theorem dX7_copy_34 : decode cX7_copy 34 = .ok (.bipush 16, 2) := by decide +kernel
theorem dX7_copy_36 : decode cX7_copy 36 = .ok (.invokestatic 55, 3) := by decide +kernel
theorem dX7_copy_39 : decode cX7_copy 39 = .ok (.aload_n 1, 1) := by decide +kernel
theorem dX7_copy_40 : decode cX7_copy 40 = .ok (.getfield 19, 3) := by decide +kernel
theorem dX7_copy_43 : decode cX7_copy 43 = .ok (.iconst 0, 1) := by decide +kernel
theorem dX7_copy_44 : decode cX7_copy 44 = .ok (.aload_n 0, 1) := by decide +kernel
theorem dX7_copy_45 : decode cX7_copy 45 = .ok (.getfield 19, 3) := by decide +kernel
theorem dX7_copy_48 : decode cX7_copy 48 = .ok (.iconst 0, 1) := by decide +kernel
theorem dX7_copy_49 : decode cX7_copy 49 = .ok (.bipush 16, 2) := by decide +kernel
theorem dX7_copy_51 : decode cX7_copy 51 = .ok (.invokestatic 55, 3) := by decide +kernel
theorem dX7_copy_54 : decode cX7_copy 54 = .ok (.aload_n 1, 1) := by decide +kernel
theorem dX7_copy_55 : decode cX7_copy 55 = .ok (.getfield 22, 3) := by decide +kernel
theorem dX7_copy_58 : decode cX7_copy 58 = .ok (.iconst 0, 1) := by decide +kernel
theorem dX7_copy_59 : decode cX7_copy 59 = .ok (.aload_n 0, 1) := by decide +kernel
theorem dX7_copy_60 : decode cX7_copy 60 = .ok (.getfield 22, 3) := by decide +kernel
theorem dX7_copy_63 : decode cX7_copy 63 = .ok (.iconst 0, 1) := by decide +kernel
theorem dX7_copy_64 : decode cX7_copy 64 = .ok (.bipush 16, 2) := by decide +kernel
theorem dX7_copy_66 : decode cX7_copy 66 = .ok (.invokestatic 55, 3) := by decide +kernel
theorem dX7_copy_69 : decode cX7_copy 69 = .ok (.aload_n 1, 1) := by decide +kernel
theorem dX7_copy_70 : decode cX7_copy 70 = .ok (.getfield 25, 3) := by decide +kernel
theorem dX7_copy_73 : decode cX7_copy 73 = .ok (.iconst 0, 1) := by decide +kernel
theorem dX7_copy_74 : decode cX7_copy 74 = .ok (.aload_n 0, 1) := by decide +kernel
theorem dX7_copy_75 : decode cX7_copy 75 = .ok (.getfield 25, 3) := by decide +kernel
theorem dX7_copy_78 : decode cX7_copy 78 = .ok (.iconst 0, 1) := by decide +kernel
theorem dX7_copy_79 : decode cX7_copy 79 = .ok (.bipush 16, 2) := by decide +kernel
theorem dX7_copy_81 : decode cX7_copy 81 = .ok (.invokestatic 55, 3) := by decide +kernel
theorem dX7_copy_84 : decode cX7_copy 84 = .ok (.aload_n 1, 1) := by decide +kernel
theorem dX7_copy_85 : decode cX7_copy 85 = .ok (.getfield 28, 3) := by decide +kernel
theorem dX7_copy_88 : decode cX7_copy 88 = .ok (.iconst 0, 1) := by decide +kernel
theorem dX7_copy_89 : decode cX7_copy 89 = .ok (.aload_n 0, 1) := by decide +kernel
theorem dX7_copy_90 : decode cX7_copy 90 = .ok (.getfield 28, 3) := by decide +kernel
theorem dX7_copy_93 : decode cX7_copy 93 = .ok (.iconst 0, 1) := by decide +kernel
theorem dX7_copy_94 : decode cX7_copy 94 = .ok (.bipush 16, 2) := by decide +kernel
theorem dX7_copy_96 : decode cX7_copy 96 = .ok (.invokestatic 55, 3) := by decide +kernel
theorem dX7_copy_99 : decode cX7_copy 99 = .ok (.aload_n 1, 1) := by decide +kernel
theorem dX7_copy_100 : decode cX7_copy 100 = .ok (.getfield 31, 3) := by decide +kernel
theorem dX7_copy_103 : decode cX7_copy 103 = .ok (.iconst 0, 1) := by decide +kernel
theorem dX7_copy_104 : decode cX7_copy 104 = .ok (.aload_n 0, 1) := by decide +kernel
theorem dX7_copy_105 : decode cX7_copy 105 = .ok (.getfield 31, 3) := by decide +kernel
theorem dX7_copy_108 : decode cX7_copy 108 = .ok (.iconst 0, 1) := by decide +kernel
theorem dX7_copy_109 : decode cX7_copy 109 = .ok (.bipush 16, 2) := by decide +kernel
theorem dX7_copy_111 : decode cX7_copy 111 = .ok (.invokestatic 55, 3) := by decide +kernel
theorem dX7_copy_114 : decode cX7_copy 114 = .ok (.aload_n 1, 1) := by decide +kernel
theorem dX7_copy_115 : decode cX7_copy 115 = .ok (.getfield 34, 3) := by decide +kernel
theorem dX7_copy_118 : decode cX7_copy 118 = .ok (.iconst 0, 1) := by decide +kernel
theorem dX7_copy_119 : decode cX7_copy 119 = .ok (.aload_n 0, 1) := by decide +kernel
theorem dX7_copy_120 : decode cX7_copy 120 = .ok (.getfield 34, 3) := by decide +kernel
theorem dX7_copy_123 : decode cX7_copy 123 = .ok (.iconst 0, 1) := by decide +kernel
theorem dX7_copy_124 : decode cX7_copy 124 = .ok (.bipush 16, 2) := by decide +kernel
theorem dX7_copy_126 : decode cX7_copy 126 = .ok (.invokestatic 55, 3) := by decide +kernel
theorem dX7_copy_129 : decode cX7_copy 129 = .ok (.aload_n 1, 1) := by decide +kernel
theorem dX7_copy_130 : decode cX7_copy 130 = .ok (.getfield 37, 3) := by decide +kernel
theorem dX7_copy_133 : decode cX7_copy 133 = .ok (.iconst 0, 1) := by decide +kernel
theorem dX7_copy_134 : decode cX7_copy 134 = .ok (.aload_n 0, 1) := by decide +kernel
theorem dX7_copy_135 : decode cX7_copy 135 = .ok (.getfield 37, 3) := by decide +kernel
theorem dX7_copy_138 : decode cX7_copy 138 = .ok (.iconst 0, 1) := by decide +kernel
theorem dX7_copy_139 : decode cX7_copy 139 = .ok (.bipush 16, 2) := by decide +kernel
theorem dX7_copy_141 : decode cX7_copy 141 = .ok (.invokestatic 55, 3) := by decide +kernel
theorem dX7_copy_144 : decode cX7_copy 144 = .ok (.aload_n 1, 1) := by decide +kernel
theorem dX7_copy_145 : decode cX7_copy 145 = .ok (.getfield 40, 3) := by decide +kernel
theorem dX7_copy_148 : decode cX7_copy 148 = .ok (.iconst 0, 1) := by decide +kernel
theorem dX7_copy_149 : decode cX7_copy 149 = .ok (.aload_n 0, 1) := by decide +kernel
theorem dX7_copy_150 : decode cX7_copy 150 = .ok (.getfield 40, 3) := by decide +kernel
theorem dX7_copy_153 : decode cX7_copy 153 = .ok (.iconst 0, 1) := by decide +kernel
theorem dX7_copy_154 : decode cX7_copy 154 = .ok (.bipush 16, 2) := by decide +kernel
theorem dX7_copy_156 : decode cX7_copy 156 = .ok (.invokestatic 55, 3) := by decide +kernel
theorem dX7_copy_159 : decode cX7_copy 159 = .ok (.return_, 1) := by decide +kernel
theorem dX7_has_0 : decode cX7_has 0 = .ok (.iload_n 1, 1) := by decide +kernel
theorem dX7_has_1 : decode cX7_has 1 = .ok (.ifCond .lt 15, 3) := by decide +kernel
theorem dX7_has_4 : decode cX7_has 4 = .ok (.iload_n 1, 1) := by decide +kernel
theorem dX7_has_5 : decode cX7_has 5 = .ok (.aload_n 0, 1) := by decide +kernel
theorem dX7_has_6 : decode cX7_has 6 = .ok (.getfield 43, 3) := by decide +kernel
theorem dX7_has_9 : decode cX7_has 9 = .ok (.if_icmp .ge 7, 3) := by decide +kernel
theorem dX7_has_12 : decode cX7_has 12 = .ok (.iconst 1, 1) := by decide +kernel
theorem dX7_has_13 : decode cX7_has 13 = .ok (.goto 4, 3) := by decide +kernel
theorem dX7_has_16 : decode cX7_has 16 = .ok (.iconst 0, 1) := by decide +kernel
theorem dX7_has_17 : decode cX7_has 17 = .ok (.ireturn, 1) := by decide +kernel
theorem dX7_hasPair_0 : decode cX7_hasPair 0 = .ok (.aload_n 0, 1) := by decide +kernel
theorem dX7_hasPair_1 : decode cX7_hasPair 1 = .ok (.iload_n 1, 1) := by decide +kernel
theorem dX7_hasPair_2 : decode cX7_hasPair 2 = .ok (.invokevirtual 61, 3) := by decide +kernel
theorem dX7_hasPair_5 : decode cX7_hasPair 5 = .ok (.ifCond .eq 20, 3) := by decide +kernel
theorem dX7_hasPair_8 : decode cX7_hasPair 8 = .ok (.aload_n 0, 1) := by decide +kernel
theorem dX7_hasPair_9 : decode cX7_hasPair 9 = .ok (.iload_n 2, 1) := by decide +kernel
theorem dX7_hasPair_10 : decode cX7_hasPair 10 = .ok (.invokevirtual 61, 3) := by decide +kernel
theorem dX7_hasPair_13 : decode cX7_hasPair 13 = .ok (.ifCond .eq 12, 3) := by decide +kernel
theorem dX7_hasPair_16 : decode cX7_hasPair 16 = .ok (.iload_n 1, 1) := by decide +kernel
theorem dX7_hasPair_17 : decode cX7_hasPair 17 = .ok (.iload_n 2, 1) := by decide +kernel
theorem dX7_hasPair_18 : decode cX7_hasPair 18 = .ok (.if_icmp .eq 7, 3) := by decide +kernel
theorem dX7_hasPair_21 : decode cX7_hasPair 21 = .ok (.iconst 1, 1) := by decide +kernel
theorem dX7_hasPair_22 : decode cX7_hasPair 22 = .ok (.goto 4, 3) := by decide +kernel
theorem dX7_hasPair_25 : decode cX7_hasPair 25 = .ok (.iconst 0, 1) := by decide +kernel
theorem dX7_hasPair_26 : decode cX7_hasPair 26 = .ok (.ireturn, 1) := by decide +kernel
theorem dX7_minutes_0 : decode cX7_minutes 0 = .ok (.aload_n 0, 1) := by decide +kernel
theorem dX7_minutes_1 : decode cX7_minutes 1 = .ok (.getfield 15, 3) := by decide +kernel
theorem dX7_minutes_4 : decode cX7_minutes 4 = .ok (.iload_n 1, 1) := by decide +kernel
theorem dX7_minutes_5 : decode cX7_minutes 5 = .ok (.iaload, 1) := by decide +kernel
theorem dX7_minutes_6 : decode cX7_minutes 6 = .ok (.aload_n 0, 1) := by decide +kernel
theorem dX7_minutes_7 : decode cX7_minutes 7 = .ok (.getfield 15, 3) := by decide +kernel
theorem dX7_minutes_10 : decode cX7_minutes 10 = .ok (.iload_n 2, 1) := by decide +kernel
theorem dX7_minutes_11 : decode cX7_minutes 11 = .ok (.iaload, 1) := by decide +kernel
theorem dX7_minutes_12 : decode cX7_minutes 12 = .ok (.isub, 1) := by decide +kernel
theorem dX7_minutes_13 : decode cX7_minutes 13 = .ok (.invokestatic 65, 3) := by decide +kernel
theorem dX7_minutes_16 : decode cX7_minutes 16 = .ok (.aload_n 0, 1) := by decide +kernel
theorem dX7_minutes_17 : decode cX7_minutes 17 = .ok (.getfield 19, 3) := by decide +kernel
theorem dX7_minutes_20 : decode cX7_minutes 20 = .ok (.iload_n 1, 1) := by decide +kernel
theorem dX7_minutes_21 : decode cX7_minutes 21 = .ok (.iaload, 1) := by decide +kernel
theorem dX7_minutes_22 : decode cX7_minutes 22 = .ok (.aload_n 0, 1) := by decide +kernel
theorem dX7_minutes_23 : decode cX7_minutes 23 = .ok (.getfield 19, 3) := by decide +kernel
