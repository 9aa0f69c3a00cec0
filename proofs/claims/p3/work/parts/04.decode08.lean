theorem dX6_act_49 : decode cX6_act 49 = .ok (.invokevirtual 114, 3) := by decide +kernel
theorem dX6_act_52 : decode cX6_act 52 = .ok (.iload_n 3, 1) := by decide +kernel
theorem dX6_act_53 : decode cX6_act 53 = .ok (.iconst 2, 1) := by decide +kernel
theorem dX6_act_54 : decode cX6_act 54 = .ok (.if_icmp .lt 12, 3) := by decide +kernel
theorem dX6_act_57 : decode cX6_act 57 = .ok (.aload_n 0, 1) := by decide +kernel
theorem dX6_act_58 : decode cX6_act 58 = .ok (.getfield 39, 3) := by decide +kernel
theorem dX6_act_61 : decode cX6_act 61 = .ok (.iload_n 1, 1) := by decide +kernel
theorem dX6_act_62 : decode cX6_act 62 = .ok (.iload_n 2, 1) := by decide +kernel
theorem dX6_act_63 : decode cX6_act 63 = .ok (.invokestatic 118, 3) := by decide +kernel
theorem dX6_act_66 : decode cX6_act 66 = .ok (.iload 4, 2) := by decide +kernel
theorem dX6_act_68 : decode cX6_act 68 = .ok (.ireturn, 1) := by decide +kernel
theorem dX6_chance_0 : decode cX6_chance 0 = .ok (.iconst 1, 1) := by decide +kernel
theorem dX6_chance_1 : decode cX6_chance 1 = .ok (.aload_n 0, 1) := by decide +kernel
theorem dX6_chance_2 : decode cX6_chance 2 = .ok (.iload_n 1, 1) := by decide +kernel
theorem dX6_chance_3 : decode cX6_chance 3 = .ok (.iload_n 2, 1) := by decide +kernel
theorem dX6_chance_4 : decode cX6_chance 4 = .ok (.invokevirtual 94, 3) := by decide +kernel
theorem dX6_chance_7 : decode cX6_chance 7 = .ok (.isub, 1) := by decide +kernel
theorem dX6_chance_8 : decode cX6_chance 8 = .ok (.istore_n 3, 1) := by decide +kernel
theorem dX6_chance_9 : decode cX6_chance 9 = .ok (.aload_n 0, 1) := by decide +kernel
theorem dX6_chance_10 : decode cX6_chance 10 = .ok (.getfield 39, 3) := by decide +kernel
theorem dX6_chance_13 : decode cX6_chance 13 = .ok (.iload_n 1, 1) := by decide +kernel
theorem dX6_chance_14 : decode cX6_chance 14 = .ok (.iload_n 2, 1) := by decide +kernel
theorem dX6_chance_15 : decode cX6_chance 15 = .ok (.invokestatic 118, 3) := by decide +kernel
theorem dX6_chance_18 : decode cX6_chance 18 = .ok (.aload_n 0, 1) := by decide +kernel
theorem dX6_chance_19 : decode cX6_chance 19 = .ok (.getfield 35, 3) := by decide +kernel
theorem dX6_chance_22 : decode cX6_chance 22 = .ok (.iload_n 1, 1) := by decide +kernel
theorem dX6_chance_23 : decode cX6_chance 23 = .ok (.iload_n 2, 1) := by decide +kernel
theorem dX6_chance_24 : decode cX6_chance 24 = .ok (.iconst 4, 1) := by decide +kernel
theorem dX6_chance_25 : decode cX6_chance 25 = .ok (.aload_n 0, 1) := by decide +kernel
theorem dX6_chance_26 : decode cX6_chance 26 = .ok (.getfield 69, 3) := by decide +kernel
theorem dX6_chance_29 : decode cX6_chance 29 = .ok (.invokevirtual 114, 3) := by decide +kernel
theorem dX6_chance_32 : decode cX6_chance 32 = .ok (.iload_n 3, 1) := by decide +kernel
theorem dX6_chance_33 : decode cX6_chance 33 = .ok (.ireturn, 1) := by decide +kernel
theorem dX6_deal_0 : decode cX6_deal 0 = .ok (.aload_n 1, 1) := by decide +kernel
theorem dX6_deal_1 : decode cX6_deal 1 = .ok (.iload_n 3, 1) := by decide +kernel
theorem dX6_deal_2 : decode cX6_deal 2 = .ok (.iload 4, 2) := by decide +kernel
theorem dX6_deal_4 : decode cX6_deal 4 = .ok (.iload 5, 2) := by decide +kernel
theorem dX6_deal_6 : decode cX6_deal 6 = .ok (.invokevirtual 122, 3) := by decide +kernel
theorem dX6_deal_9 : decode cX6_deal 9 = .ok (.istore 8, 2) := by decide +kernel
theorem dX6_deal_11 : decode cX6_deal 11 = .ok (.aload_n 2, 1) := by decide +kernel
theorem dX6_deal_12 : decode cX6_deal 12 = .ok (.iload 5, 2) := by decide +kernel
theorem dX6_deal_14 : decode cX6_deal 14 = .ok (.aload_n 0, 1) := by decide +kernel
theorem dX6_deal_15 : decode cX6_deal 15 = .ok (.getfield 12, 3) := by decide +kernel
theorem dX6_deal_18 : decode cX6_deal 18 = .ok (.getfield 126, 3) := by decide +kernel
theorem dX6_deal_21 : decode cX6_deal 21 = .ok (.iload_n 3, 1) := by decide +kernel
theorem dX6_deal_22 : decode cX6_deal 22 = .ok (.iaload, 1) := by decide +kernel
theorem dX6_deal_23 : decode cX6_deal 23 = .ok (.aload_n 0, 1) := by decide +kernel
theorem dX6_deal_24 : decode cX6_deal 24 = .ok (.getfield 12, 3) := by decide +kernel
theorem dX6_deal_27 : decode cX6_deal 27 = .ok (.getfield 126, 3) := by decide +kernel
theorem dX6_deal_30 : decode cX6_deal 30 = .ok (.iload 4, 2) := by decide +kernel
theorem dX6_deal_32 : decode cX6_deal 32 = .ok (.iaload, 1) := by decide +kernel
theorem dX6_deal_33 : decode cX6_deal 33 = .ok (.aload_n 1, 1) := by decide +kernel
theorem dX6_deal_34 : decode cX6_deal 34 = .ok (.getfield 129, 3) := by decide +kernel
theorem dX6_deal_37 : decode cX6_deal 37 = .ok (.iload 4, 2) := by decide +kernel
theorem dX6_deal_39 : decode cX6_deal 39 = .ok (.iaload, 1) := by decide +kernel
theorem dX6_deal_40 : decode cX6_deal 40 = .ok (.iload 6, 2) := by decide +kernel
theorem dX6_deal_42 : decode cX6_deal 42 = .ok (.iload 7, 2) := by decide +kernel
theorem dX6_deal_44 : decode cX6_deal 44 = .ok (.invokevirtual 132, 3) := by decide +kernel
theorem dX6_deal_47 : decode cX6_deal 47 = .ok (.istore 9, 2) := by decide +kernel
theorem dX6_deal_49 : decode cX6_deal 49 = .ok (.iload 9, 2) := by decide +kernel
theorem dX6_deal_51 : decode cX6_deal 51 = .ok (.ifCond .lt 52, 3) := by decide +kernel
theorem dX6_deal_54 : decode cX6_deal 54 = .ok (.aload_n 1, 1) := by decide +kernel
theorem dX6_deal_55 : decode cX6_deal 55 = .ok (.iload 4, 2) := by decide +kernel
theorem dX6_deal_57 : decode cX6_deal 57 = .ok (.iload_n 3, 1) := by decide +kernel
theorem dX6_deal_58 : decode cX6_deal 58 = .ok (.aload_n 2, 1) := by decide +kernel
theorem dX6_deal_59 : decode cX6_deal 59 = .ok (.getfield 136, 3) := by decide +kernel
theorem dX6_deal_62 : decode cX6_deal 62 = .ok (.iload 9, 2) := by decide +kernel
theorem dX6_deal_64 : decode cX6_deal 64 = .ok (.iaload, 1) := by decide +kernel
theorem dX6_deal_65 : decode cX6_deal 65 = .ok (.invokestatic 139, 3) := by decide +kernel
theorem dX6_deal_68 : decode cX6_deal 68 = .ok (.ifCond .ne 35, 3) := by decide +kernel
theorem dX6_deal_71 : decode cX6_deal 71 = .ok (.aload_n 1, 1) := by decide +kernel
theorem dX6_deal_72 : decode cX6_deal 72 = .ok (.iload 4, 2) := by decide +kernel
theorem dX6_deal_74 : decode cX6_deal 74 = .ok (.iload_n 3, 1) := by decide +kernel
theorem dX6_deal_75 : decode cX6_deal 75 = .ok (.aload_n 2, 1) := by decide +kernel
theorem dX6_deal_76 : decode cX6_deal 76 = .ok (.getfield 136, 3) := by decide +kernel
theorem dX6_deal_79 : decode cX6_deal 79 = .ok (.iload 9, 2) := by decide +kernel
theorem dX6_deal_81 : decode cX6_deal 81 = .ok (.iaload, 1) := by decide +kernel
theorem dX6_deal_82 : decode cX6_deal 82 = .ok (.sipush 399, 3) := by decide +kernel
theorem dX6_deal_85 : decode cX6_deal 85 = .ok (.iload 6, 2) := by decide +kernel
theorem dX6_deal_87 : decode cX6_deal 87 = .ok (.aload_n 2, 1) := by decide +kernel
theorem dX6_deal_88 : decode cX6_deal 88 = .ok (.getfield 143, 3) := by decide +kernel
theorem dX6_deal_91 : decode cX6_deal 91 = .ok (.iload 9, 2) := by decide +kernel
theorem dX6_deal_93 : decode cX6_deal 93 = .ok (.iaload, 1) := by decide +kernel
theorem dX6_deal_94 : decode cX6_deal 94 = .ok (.iadd, 1) := by decide +kernel
theorem dX6_deal_95 : decode cX6_deal 95 = .ok (.invokestatic 146, 3) := by decide +kernel
theorem dX6_deal_98 : decode cX6_deal 98 = .ok (.iload 6, 2) := by decide +kernel
theorem dX6_deal_100 : decode cX6_deal 100 = .ok (.invokevirtual 151, 3) := by decide +kernel
theorem dX6_deal_103 : decode cX6_deal 103 = .ok (.iload 8, 2) := by decide +kernel
theorem dX6_deal_105 : decode cX6_deal 105 = .ok (.ireturn, 1) := by decide +kernel
theorem dX6_isOwed_0 : decode cX6_isOwed 0 = .ok (.aload_n 0, 1) := by decide +kernel
theorem dX6_isOwed_1 : decode cX6_isOwed 1 = .ok (.iload_n 1, 1) := by decide +kernel
theorem dX6_isOwed_2 : decode cX6_isOwed 2 = .ok (.iload_n 2, 1) := by decide +kernel
theorem dX6_isOwed_3 : decode cX6_isOwed 3 = .ok (.invokevirtual 154, 3) := by decide +kernel
theorem dX6_isOwed_6 : decode cX6_isOwed 6 = .ok (.iload_n 3, 1) := by decide +kernel
theorem dX6_isOwed_7 : decode cX6_isOwed 7 = .ok (.ishr, 1) := by decide +kernel
theorem dX6_isOwed_8 : decode cX6_isOwed 8 = .ok (.iconst 1, 1) := by decide +kernel
theorem dX6_isOwed_9 : decode cX6_isOwed 9 = .ok (.iand, 1) := by decide +kernel
theorem dX6_isOwed_10 : decode cX6_isOwed 10 = .ok (.iconst 1, 1) := by decide +kernel
theorem dX6_isOwed_11 : decode cX6_isOwed 11 = .ok (.if_icmp .ne 7, 3) := by decide +kernel
theorem dX6_isOwed_14 : decode cX6_isOwed 14 = .ok (.iconst 1, 1) := by decide +kernel
theorem dX6_isOwed_15 : decode cX6_isOwed 15 = .ok (.goto 4, 3) := by decide +kernel
theorem dX6_isOwed_18 : decode cX6_isOwed 18 = .ok (.iconst 0, 1) := by decide +kernel
theorem dX6_isOwed_19 : decode cX6_isOwed 19 = .ok (.ireturn, 1) := by decide +kernel
theorem dX6_wouldMake_0 : decode cX6_wouldMake 0 = .ok (.aload_n 0, 1) := by decide +kernel
theorem dX6_wouldMake_1 : decode cX6_wouldMake 1 = .ok (.getfield 21, 3) := by decide +kernel
theorem dX6_wouldMake_4 : decode cX6_wouldMake 4 = .ok (.iload_n 3, 1) := by decide +kernel
theorem dX6_wouldMake_5 : decode cX6_wouldMake 5 = .ok (.aload_n 0, 1) := by decide +kernel
theorem dX6_wouldMake_6 : decode cX6_wouldMake 6 = .ok (.getfield 12, 3) := by decide +kernel
theorem dX6_wouldMake_9 : decode cX6_wouldMake 9 = .ok (.getfield 126, 3) := by decide +kernel
theorem dX6_wouldMake_12 : decode cX6_wouldMake 12 = .ok (.iload_n 1, 1) := by decide +kernel
theorem dX6_wouldMake_13 : decode cX6_wouldMake 13 = .ok (.iaload, 1) := by decide +kernel
theorem dX6_wouldMake_14 : decode cX6_wouldMake 14 = .ok (.aload_n 0, 1) := by decide +kernel
theorem dX6_wouldMake_15 : decode cX6_wouldMake 15 = .ok (.getfield 12, 3) := by decide +kernel
theorem dX6_wouldMake_18 : decode cX6_wouldMake 18 = .ok (.getfield 126, 3) := by decide +kernel
theorem dX6_wouldMake_21 : decode cX6_wouldMake 21 = .ok (.iload_n 2, 1) := by decide +kernel
theorem dX6_wouldMake_22 : decode cX6_wouldMake 22 = .ok (.iaload, 1) := by decide +kernel
theorem dX6_wouldMake_23 : decode cX6_wouldMake 23 = .ok (.aload_n 0, 1) := by decide +kernel
theorem dX6_wouldMake_24 : decode cX6_wouldMake 24 = .ok (.getfield 28, 3) := by decide +kernel
theorem dX6_wouldMake_27 : decode cX6_wouldMake 27 = .ok (.getfield 129, 3) := by decide +kernel
theorem dX6_wouldMake_30 : decode cX6_wouldMake 30 = .ok (.iload_n 2, 1) := by decide +kernel
theorem dX6_wouldMake_31 : decode cX6_wouldMake 31 = .ok (.iaload, 1) := by decide +kernel
theorem dX6_wouldMake_32 : decode cX6_wouldMake 32 = .ok (.aload_n 0, 1) := by decide +kernel
theorem dX6_wouldMake_33 : decode cX6_wouldMake 33 = .ok (.getfield 69, 3) := by decide +kernel
theorem dX6_wouldMake_36 : decode cX6_wouldMake 36 = .ok (.aload_n 0, 1) := by decide +kernel
theorem dX6_wouldMake_37 : decode cX6_wouldMake 37 = .ok (.iload_n 1, 1) := by decide +kernel
theorem dX6_wouldMake_38 : decode cX6_wouldMake 38 = .ok (.iload_n 2, 1) := by decide +kernel
theorem dX6_wouldMake_39 : decode cX6_wouldMake 39 = .ok (.invokevirtual 94, 3) := by decide +kernel
theorem dX6_wouldMake_42 : decode cX6_wouldMake 42 = .ok (.invokevirtual 132, 3) := by decide +kernel
theorem dX6_wouldMake_45 : decode cX6_wouldMake 45 = .ok (.istore 4, 2) := by decide +kernel
theorem dX6_wouldMake_47 : decode cX6_wouldMake 47 = .ok (.iload 4, 2) := by decide +kernel
theorem dX6_wouldMake_49 : decode cX6_wouldMake 49 = .ok (.ifCond .lt 25, 3) := by decide +kernel
theorem dX6_wouldMake_52 : decode cX6_wouldMake 52 = .ok (.aload_n 0, 1) := by decide +kernel
theorem dX6_wouldMake_53 : decode cX6_wouldMake 53 = .ok (.getfield 28, 3) := by decide +kernel
theorem dX6_wouldMake_56 : decode cX6_wouldMake 56 = .ok (.iload_n 2, 1) := by decide +kernel
theorem dX6_wouldMake_57 : decode cX6_wouldMake 57 = .ok (.iload_n 1, 1) := by decide +kernel
theorem dX6_wouldMake_58 : decode cX6_wouldMake 58 = .ok (.aload_n 0, 1) := by decide +kernel
theorem dX6_wouldMake_59 : decode cX6_wouldMake 59 = .ok (.getfield 21, 3) := by decide +kernel
theorem dX6_wouldMake_62 : decode cX6_wouldMake 62 = .ok (.getfield 136, 3) := by decide +kernel
theorem dX6_wouldMake_65 : decode cX6_wouldMake 65 = .ok (.iload 4, 2) := by decide +kernel
theorem dX6_wouldMake_67 : decode cX6_wouldMake 67 = .ok (.iaload, 1) := by decide +kernel
theorem dX6_wouldMake_68 : decode cX6_wouldMake 68 = .ok (.invokestatic 139, 3) := by decide +kernel
theorem dX6_wouldMake_71 : decode cX6_wouldMake 71 = .ok (.ifCond .eq 5, 3) := by decide +kernel
theorem dX6_wouldMake_74 : decode cX6_wouldMake 74 = .ok (.iconst (-1), 1) := by decide +kernel
theorem dX6_wouldMake_75 : decode cX6_wouldMake 75 = .ok (.ireturn, 1) := by decide +kernel
theorem dX6_wouldMake_76 : decode cX6_wouldMake 76 = .ok (.aload_n 0, 1) := by decide +kernel
theorem dX6_wouldMake_77 : decode cX6_wouldMake 77 = .ok (.getfield 21, 3) := by decide +kernel
theorem dX6_wouldMake_80 : decode cX6_wouldMake 80 = .ok (.getfield 136, 3) := by decide +kernel
theorem dX6_wouldMake_83 : decode cX6_wouldMake 83 = .ok (.iload 4, 2) := by decide +kernel
theorem dX6_wouldMake_85 : decode cX6_wouldMake 85 = .ok (.iaload, 1) := by decide +kernel
theorem dX6_wouldMake_86 : decode cX6_wouldMake 86 = .ok (.ireturn, 1) := by decide +kernel
theorem dX6_replay_0 : decode cX6_replay 0 = .ok (.aload_n 2, 1) := by decide +kernel
theorem dX6_replay_1 : decode cX6_replay 1 = .ok (.invokevirtual 53, 3) := by decide +kernel
theorem dX6_replay_4 : decode cX6_replay 4 = .ok (.aload_n 0, 1) := by decide +kernel
theorem dX6_replay_5 : decode cX6_replay 5 = .ok (.getfield 12, 3) := by decide +kernel
theorem dX6_replay_8 : decode cX6_replay 8 = .ok (.getfield 60, 3) := by decide +kernel
theorem dX6_replay_11 : decode cX6_replay 11 = .ok (.iconst 0, 1) := by decide +kernel
theorem dX6_replay_12 : decode cX6_replay 12 = .ok (.aload_n 3, 1) := by decide +kernel
theorem dX6_replay_13 : decode cX6_replay 13 = .ok (.iconst 0, 1) := by decide +kernel
theorem dX6_replay_14 : decode cX6_replay 14 = .ok (.bipush 16, 2) := by decide +kernel
theorem dX6_replay_16 : decode cX6_replay 16 = .ok (.invokestatic 63, 3) := by decide +kernel
theorem dX6_replay_19 : decode cX6_replay 19 = .ok (.iconst 0, 1) := by decide +kernel
theorem dX6_replay_20 : decode cX6_replay 20 = .ok (.istore 4, 2) := by decide +kernel
theorem dX6_replay_22 : decode cX6_replay 22 = .ok (.iload 4, 2) := by decide +kernel
theorem dX6_replay_24 : decode cX6_replay 24 = .ok (.aload_n 0, 1) := by decide +kernel
theorem dX6_replay_25 : decode cX6_replay 25 = .ok (.getfield 35, 3) := by decide +kernel
theorem dX6_replay_28 : decode cX6_replay 28 = .ok (.getfield 56, 3) := by decide +kernel
theorem dX6_replay_31 : decode cX6_replay 31 = .ok (.if_icmp .ge 97, 3) := by decide +kernel
theorem dX6_replay_34 : decode cX6_replay 34 = .ok (.aload_n 0, 1) := by decide +kernel
theorem dX6_replay_35 : decode cX6_replay 35 = .ok (.getfield 35, 3) := by decide +kernel
theorem dX6_replay_38 : decode cX6_replay 38 = .ok (.getfield 157, 3) := by decide +kernel
theorem dX6_replay_41 : decode cX6_replay 41 = .ok (.iload 4, 2) := by decide +kernel
theorem dX6_replay_43 : decode cX6_replay 43 = .ok (.iaload, 1) := by decide +kernel
theorem dX6_replay_44 : decode cX6_replay 44 = .ok (.istore 5, 2) := by decide +kernel
theorem dX6_replay_46 : decode cX6_replay 46 = .ok (.aload_n 0, 1) := by decide +kernel
theorem dX6_replay_47 : decode cX6_replay 47 = .ok (.getfield 35, 3) := by decide +kernel
theorem dX6_replay_50 : decode cX6_replay 50 = .ok (.getfield 160, 3) := by decide +kernel
theorem dX6_replay_53 : decode cX6_replay 53 = .ok (.iload 4, 2) := by decide +kernel
theorem dX6_replay_55 : decode cX6_replay 55 = .ok (.iaload, 1) := by decide +kernel
theorem dX6_replay_56 : decode cX6_replay 56 = .ok (.istore 6, 2) := by decide +kernel
theorem dX6_replay_58 : decode cX6_replay 58 = .ok (.aload_n 0, 1) := by decide +kernel
theorem dX6_replay_59 : decode cX6_replay 59 = .ok (.getfield 35, 3) := by decide +kernel
theorem dX6_replay_62 : decode cX6_replay 62 = .ok (.getfield 163, 3) := by decide +kernel
theorem dX6_replay_65 : decode cX6_replay 65 = .ok (.iload 4, 2) := by decide +kernel
theorem dX6_replay_67 : decode cX6_replay 67 = .ok (.iaload, 1) := by decide +kernel
theorem dX6_replay_68 : decode cX6_replay 68 = .ok (.istore 7, 2) := by decide +kernel
theorem dX6_replay_70 : decode cX6_replay 70 = .ok (.iload 7, 2) := by decide +kernel
theorem dX6_replay_72 : decode cX6_replay 72 = .ok (.iconst 4, 1) := by decide +kernel
theorem dX6_replay_73 : decode cX6_replay 73 = .ok (.if_icmp .eq 35, 3) := by decide +kernel
theorem dX6_replay_76 : decode cX6_replay 76 = .ok (.aload_n 0, 1) := by decide +kernel
theorem dX6_replay_77 : decode cX6_replay 77 = .ok (.aload_n 2, 1) := by decide +kernel
theorem dX6_replay_78 : decode cX6_replay 78 = .ok (.aload_n 1, 1) := by decide +kernel
theorem dX6_replay_79 : decode cX6_replay 79 = .ok (.iload 5, 2) := by decide +kernel
theorem dX6_replay_81 : decode cX6_replay 81 = .ok (.iload 6, 2) := by decide +kernel
theorem dX6_replay_83 : decode cX6_replay 83 = .ok (.iload 7, 2) := by decide +kernel
theorem dX6_replay_85 : decode cX6_replay 85 = .ok (.aload_n 0, 1) := by decide +kernel
theorem dX6_replay_86 : decode cX6_replay 86 = .ok (.getfield 35, 3) := by decide +kernel
theorem dX6_replay_89 : decode cX6_replay 89 = .ok (.getfield 166, 3) := by decide +kernel
theorem dX6_replay_92 : decode cX6_replay 92 = .ok (.iload 4, 2) := by decide +kernel
theorem dX6_replay_94 : decode cX6_replay 94 = .ok (.iaload, 1) := by decide +kernel
theorem dX6_replay_95 : decode cX6_replay 95 = .ok (.aload_n 3, 1) := by decide +kernel
theorem dX6_replay_96 : decode cX6_replay 96 = .ok (.iload 5, 2) := by decide +kernel
theorem dX6_replay_98 : decode cX6_replay 98 = .ok (.iaload, 1) := by decide +kernel
theorem dX6_replay_99 : decode cX6_replay 99 = .ok (.iload 6, 2) := by decide +kernel
theorem dX6_replay_101 : decode cX6_replay 101 = .ok (.ishr, 1) := by decide +kernel
theorem dX6_replay_102 : decode cX6_replay 102 = .ok (.iconst 1, 1) := by decide +kernel
theorem dX6_replay_103 : decode cX6_replay 103 = .ok (.iand, 1) := by decide +kernel
theorem dX6_replay_104 : decode cX6_replay 104 = .ok (.invokevirtual 110, 3) := by decide +kernel
theorem dX6_replay_107 : decode cX6_replay 107 = .ok (.pop, 1) := by decide +kernel
theorem dX6_replay_108 : decode cX6_replay 108 = .ok (.iload 7, 2) := by decide +kernel
theorem dX6_replay_110 : decode cX6_replay 110 = .ok (.iconst 2, 1) := by decide +kernel
theorem dX6_replay_111 : decode cX6_replay 111 = .ok (.if_icmp .lt 11, 3) := by decide +kernel
theorem dX6_replay_114 : decode cX6_replay 114 = .ok (.aload_n 3, 1) := by decide +kernel
theorem dX6_replay_115 : decode cX6_replay 115 = .ok (.iload 5, 2) := by decide +kernel
theorem dX6_replay_117 : decode cX6_replay 117 = .ok (.iload 6, 2) := by decide +kernel
theorem dX6_replay_119 : decode cX6_replay 119 = .ok (.invokestatic 118, 3) := by decide +kernel
theorem dX6_replay_122 : decode cX6_replay 122 = .ok (.iinc 4 1, 3) := by decide +kernel
theorem dX6_replay_125 : decode cX6_replay 125 = .ok (.goto (-103), 3) := by decide +kernel
theorem dX6_replay_128 : decode cX6_replay 128 = .ok (.return_, 1) := by decide +kernel
theorem dX6_hanging_0 : decode cX6_hanging 0 = .ok (.iload_n 2, 1) := by decide +kernel
theorem dX6_hanging_1 : decode cX6_hanging 1 = .ok (.ifCond .ge 7, 3) := by decide +kernel
theorem dX6_hanging_4 : decode cX6_hanging 4 = .ok (.iconst 0, 1) := by decide +kernel
theorem dX6_hanging_5 : decode cX6_hanging 5 = .ok (.goto 6, 3) := by decide +kernel
theorem dX6_hanging_8 : decode cX6_hanging 8 = .ok (.iconst 1, 1) := by decide +kernel
theorem dX6_hanging_9 : decode cX6_hanging 9 = .ok (.iload_n 2, 1) := by decide +kernel
theorem dX6_hanging_10 : decode cX6_hanging 10 = .ok (.ishl, 1) := by decide +kernel
theorem dX6_hanging_11 : decode cX6_hanging 11 = .ok (.istore_n 3, 1) := by decide +kernel
theorem dX6_hanging_12 : decode cX6_hanging 12 = .ok (.iconst 1, 1) := by decide +kernel
theorem dX6_hanging_13 : decode cX6_hanging 13 = .ok (.iload_n 1, 1) := by decide +kernel
theorem dX6_hanging_14 : decode cX6_hanging 14 = .ok (.ishl, 1) := by decide +kernel
theorem dX6_hanging_15 : decode cX6_hanging 15 = .ok (.aload_n 0, 1) := by decide +kernel
theorem dX6_hanging_16 : decode cX6_hanging 16 = .ok (.getfield 39, 3) := by decide +kernel
theorem dX6_hanging_19 : decode cX6_hanging 19 = .ok (.iload_n 1, 1) := by decide +kernel
theorem dX6_hanging_20 : decode cX6_hanging 20 = .ok (.iaload, 1) := by decide +kernel
theorem dX6_hanging_21 : decode cX6_hanging 21 = .ok (.iload_n 3, 1) := by decide +kernel
theorem dX6_hanging_22 : decode cX6_hanging 22 = .ok (.iconst (-1), 1) := by decide +kernel
theorem dX6_hanging_23 : decode cX6_hanging 23 = .ok (.ixor, 1) := by decide +kernel
theorem dX6_hanging_24 : decode cX6_hanging 24 = .ok (.iand, 1) := by decide +kernel
theorem dX6_hanging_25 : decode cX6_hanging 25 = .ok (.ior, 1) := by decide +kernel
theorem dX6_hanging_26 : decode cX6_hanging 26 = .ok (.istore 4, 2) := by decide +kernel
theorem dX6_hanging_28 : decode cX6_hanging 28 = .ok (.iconst 0, 1) := by decide +kernel
theorem dX6_hanging_29 : decode cX6_hanging 29 = .ok (.istore 5, 2) := by decide +kernel
theorem dX6_hanging_31 : decode cX6_hanging 31 = .ok (.iload 5, 2) := by decide +kernel
theorem dX6_hanging_33 : decode cX6_hanging 33 = .ok (.bipush 16, 2) := by decide +kernel
theorem dX6_hanging_35 : decode cX6_hanging 35 = .ok (.if_icmp .ge 72, 3) := by decide +kernel
theorem dX6_hanging_38 : decode cX6_hanging 38 = .ok (.iload 4, 2) := by decide +kernel
theorem dX6_hanging_40 : decode cX6_hanging 40 = .ok (.istore 6, 2) := by decide +kernel
theorem dX6_hanging_42 : decode cX6_hanging 42 = .ok (.iconst 0, 1) := by decide +kernel
theorem dX6_hanging_43 : decode cX6_hanging 43 = .ok (.istore 7, 2) := by decide +kernel
theorem dX6_hanging_45 : decode cX6_hanging 45 = .ok (.iload 7, 2) := by decide +kernel
theorem dX6_hanging_47 : decode cX6_hanging 47 = .ok (.bipush 16, 2) := by decide +kernel
theorem dX6_hanging_49 : decode cX6_hanging 49 = .ok (.if_icmp .ge 38, 3) := by decide +kernel
theorem dX6_hanging_52 : decode cX6_hanging 52 = .ok (.iload 4, 2) := by decide +kernel
theorem dX6_hanging_54 : decode cX6_hanging 54 = .ok (.iload 7, 2) := by decide +kernel
theorem dX6_hanging_56 : decode cX6_hanging 56 = .ok (.ishr, 1) := by decide +kernel
theorem dX6_hanging_57 : decode cX6_hanging 57 = .ok (.iconst 1, 1) := by decide +kernel
theorem dX6_hanging_58 : decode cX6_hanging 58 = .ok (.iand, 1) := by decide +kernel
theorem dX6_hanging_59 : decode cX6_hanging 59 = .ok (.iconst 1, 1) := by decide +kernel
theorem dX6_hanging_60 : decode cX6_hanging 60 = .ok (.if_icmp .ne 21, 3) := by decide +kernel
theorem dX6_hanging_63 : decode cX6_hanging 63 = .ok (.iload 7, 2) := by decide +kernel
theorem dX6_hanging_65 : decode cX6_hanging 65 = .ok (.iload_n 1, 1) := by decide +kernel
theorem dX6_hanging_66 : decode cX6_hanging 66 = .ok (.if_icmp .eq 15, 3) := by decide +kernel
theorem dX6_hanging_69 : decode cX6_hanging 69 = .ok (.iload 6, 2) := by decide +kernel
theorem dX6_hanging_71 : decode cX6_hanging 71 = .ok (.aload_n 0, 1) := by decide +kernel
theorem dX6_hanging_72 : decode cX6_hanging 72 = .ok (.getfield 39, 3) := by decide +kernel
theorem dX6_hanging_75 : decode cX6_hanging 75 = .ok (.iload 7, 2) := by decide +kernel
theorem dX6_hanging_77 : decode cX6_hanging 77 = .ok (.iaload, 1) := by decide +kernel
theorem dX6_hanging_78 : decode cX6_hanging 78 = .ok (.ior, 1) := by decide +kernel
theorem dX6_hanging_79 : decode cX6_hanging 79 = .ok (.istore 6, 2) := by decide +kernel
theorem dX6_hanging_81 : decode cX6_hanging 81 = .ok (.iinc 7 1, 3) := by decide +kernel
theorem dX6_hanging_84 : decode cX6_hanging 84 = .ok (.goto (-39), 3) := by decide +kernel
theorem dX6_hanging_87 : decode cX6_hanging 87 = .ok (.iload 6, 2) := by decide +kernel
theorem dX6_hanging_89 : decode cX6_hanging 89 = .ok (.iload 4, 2) := by decide +kernel
theorem dX6_hanging_91 : decode cX6_hanging 91 = .ok (.if_icmp .ne 6, 3) := by decide +kernel
theorem dX6_hanging_94 : decode cX6_hanging 94 = .ok (.iload 4, 2) := by decide +kernel
theorem dX6_hanging_96 : decode cX6_hanging 96 = .ok (.ireturn, 1) := by decide +kernel
theorem dX6_hanging_97 : decode cX6_hanging 97 = .ok (.iload 6, 2) := by decide +kernel
theorem dX6_hanging_99 : decode cX6_hanging 99 = .ok (.istore 4, 2) := by decide +kernel
theorem dX6_hanging_101 : decode cX6_hanging 101 = .ok (.iinc 5 1, 3) := by decide +kernel
theorem dX6_hanging_104 : decode cX6_hanging 104 = .ok (.goto (-73), 3) := by decide +kernel
theorem dX6_hanging_107 : decode cX6_hanging 107 = .ok (.iload 4, 2) := by decide +kernel
theorem dX6_hanging_109 : decode cX6_hanging 109 = .ok (.ireturn, 1) := by decide +kernel
theorem dX6_holdsTogether_0 : decode cX6_holdsTogether 0 = .ok (.aload_n 0, 1) := by decide +kernel
theorem dX6_holdsTogether_1 : decode cX6_holdsTogether 1 = .ok (.iload_n 1, 1) := by decide +kernel
theorem dX6_holdsTogether_2 : decode cX6_holdsTogether 2 = .ok (.iload_n 2, 1) := by decide +kernel
theorem dX6_holdsTogether_3 : decode cX6_holdsTogether 3 = .ok (.invokevirtual 168, 3) := by decide +kernel
theorem dX6_holdsTogether_6 : decode cX6_holdsTogether 6 = .ok (.iload_n 2, 1) := by decide +kernel
theorem dX6_holdsTogether_7 : decode cX6_holdsTogether 7 = .ok (.ishr, 1) := by decide +kernel
theorem dX6_holdsTogether_8 : decode cX6_holdsTogether 8 = .ok (.iconst 1, 1) := by decide +kernel
theorem dX6_holdsTogether_9 : decode cX6_holdsTogether 9 = .ok (.iand, 1) := by decide +kernel
theorem dX6_holdsTogether_10 : decode cX6_holdsTogether 10 = .ok (.ifCond .ne 7, 3) := by decide +kernel
theorem dX6_holdsTogether_13 : decode cX6_holdsTogether 13 = .ok (.iconst 1, 1) := by decide +kernel
theorem dX6_holdsTogether_14 : decode cX6_holdsTogether 14 = .ok (.goto 4, 3) := by decide +kernel
theorem dX6_holdsTogether_17 : decode cX6_holdsTogether 17 = .ok (.iconst 0, 1) := by decide +kernel
theorem dX6_holdsTogether_18 : decode cX6_holdsTogether 18 = .ok (.ireturn, 1) := by decide +kernel
theorem dX6_canDrop_0 : decode cX6_canDrop 0 = .ok (.iload_n 1, 1) := by decide +kernel
theorem dX6_canDrop_1 : decode cX6_canDrop 1 = .ok (.iload_n 2, 1) := by decide +kernel
theorem dX6_canDrop_2 : decode cX6_canDrop 2 = .ok (.if_icmp .eq 38, 3) := by decide +kernel
theorem dX6_canDrop_5 : decode cX6_canDrop 5 = .ok (.aload_n 0, 1) := by decide +kernel
theorem dX6_canDrop_6 : decode cX6_canDrop 6 = .ok (.iload_n 1, 1) := by decide +kernel
theorem dX6_canDrop_7 : decode cX6_canDrop 7 = .ok (.iload_n 2, 1) := by decide +kernel
theorem dX6_canDrop_8 : decode cX6_canDrop 8 = .ok (.invokevirtual 94, 3) := by decide +kernel
theorem dX6_canDrop_11 : decode cX6_canDrop 11 = .ok (.iconst 1, 1) := by decide +kernel
theorem dX6_canDrop_12 : decode cX6_canDrop 12 = .ok (.if_icmp .ne 28, 3) := by decide +kernel
theorem dX6_canDrop_15 : decode cX6_canDrop 15 = .ok (.aload_n 0, 1) := by decide +kernel
theorem dX6_canDrop_16 : decode cX6_canDrop 16 = .ok (.getfield 28, 3) := by decide +kernel
theorem dX6_canDrop_19 : decode cX6_canDrop 19 = .ok (.iload_n 1, 1) := by decide +kernel
theorem dX6_canDrop_20 : decode cX6_canDrop 20 = .ok (.iload_n 2, 1) := by decide +kernel
theorem dX6_canDrop_21 : decode cX6_canDrop 21 = .ok (.invokevirtual 154, 3) := by decide +kernel
theorem dX6_canDrop_24 : decode cX6_canDrop 24 = .ok (.ifCond .ne 16, 3) := by decide +kernel
theorem dX6_canDrop_27 : decode cX6_canDrop 27 = .ok (.aload_n 0, 1) := by decide +kernel
theorem dX6_canDrop_28 : decode cX6_canDrop 28 = .ok (.iload_n 1, 1) := by decide +kernel
theorem dX6_canDrop_29 : decode cX6_canDrop 29 = .ok (.iload_n 2, 1) := by decide +kernel
theorem dX6_canDrop_30 : decode cX6_canDrop 30 = .ok (.invokevirtual 171, 3) := by decide +kernel
theorem dX6_canDrop_33 : decode cX6_canDrop 33 = .ok (.ifCond .ne 7, 3) := by decide +kernel
theorem dX6_canDrop_36 : decode cX6_canDrop 36 = .ok (.iconst 1, 1) := by decide +kernel
theorem dX6_canDrop_37 : decode cX6_canDrop 37 = .ok (.goto 4, 3) := by decide +kernel
theorem dX6_canDrop_40 : decode cX6_canDrop 40 = .ok (.iconst 0, 1) := by decide +kernel
theorem dX6_canDrop_41 : decode cX6_canDrop 41 = .ok (.ireturn, 1) := by decide +kernel
theorem dX6_followCalls_0 : decode cX6_followCalls 0 = .ok (.iconst 0, 1) := by decide +kernel
theorem dX6_followCalls_1 : decode cX6_followCalls 1 = .ok (.istore_n 1, 1) := by decide +kernel
theorem dX6_followCalls_2 : decode cX6_followCalls 2 = .ok (.iload_n 1, 1) := by decide +kernel
theorem dX6_followCalls_3 : decode cX6_followCalls 3 = .ok (.bipush 16, 2) := by decide +kernel
theorem dX6_followCalls_5 : decode cX6_followCalls 5 = .ok (.if_icmp .ge 18, 3) := by decide +kernel
theorem dX6_followCalls_8 : decode cX6_followCalls 8 = .ok (.aload_n 0, 1) := by decide +kernel
theorem dX6_followCalls_9 : decode cX6_followCalls 9 = .ok (.getfield 43, 3) := by decide +kernel
theorem dX6_followCalls_12 : decode cX6_followCalls 12 = .ok (.iload_n 1, 1) := by decide +kernel
theorem dX6_followCalls_13 : decode cX6_followCalls 13 = .ok (.iconst 1, 1) := by decide +kernel
theorem dX6_followCalls_14 : decode cX6_followCalls 14 = .ok (.iload_n 1, 1) := by decide +kernel
theorem dX6_followCalls_15 : decode cX6_followCalls 15 = .ok (.ishl, 1) := by decide +kernel
theorem dX6_followCalls_16 : decode cX6_followCalls 16 = .ok (.iastore, 1) := by decide +kernel
theorem dX6_followCalls_17 : decode cX6_followCalls 17 = .ok (.iinc 1 1, 3) := by decide +kernel
theorem dX6_followCalls_20 : decode cX6_followCalls 20 = .ok (.goto (-18), 3) := by decide +kernel
theorem dX6_followCalls_23 : decode cX6_followCalls 23 = .ok (.iconst 0, 1) := by decide +kernel
theorem dX6_followCalls_24 : decode cX6_followCalls 24 = .ok (.istore_n 1, 1) := by decide +kernel
theorem dX6_followCalls_25 : decode cX6_followCalls 25 = .ok (.iload_n 1, 1) := by decide +kernel
theorem dX6_followCalls_26 : decode cX6_followCalls 26 = .ok (.aload_n 0, 1) := by decide +kernel
theorem dX6_followCalls_27 : decode cX6_followCalls 27 = .ok (.getfield 35, 3) := by decide +kernel
theorem dX6_followCalls_30 : decode cX6_followCalls 30 = .ok (.getfield 56, 3) := by decide +kernel
theorem dX6_followCalls_33 : decode cX6_followCalls 33 = .ok (.if_icmp .ge 63, 3) := by decide +kernel
theorem dX6_followCalls_36 : decode cX6_followCalls 36 = .ok (.aload_n 0, 1) := by decide +kernel
theorem dX6_followCalls_37 : decode cX6_followCalls 37 = .ok (.getfield 35, 3) := by decide +kernel
theorem dX6_followCalls_40 : decode cX6_followCalls 40 = .ok (.getfield 163, 3) := by decide +kernel
theorem dX6_followCalls_43 : decode cX6_followCalls 43 = .ok (.iload_n 1, 1) := by decide +kernel
theorem dX6_followCalls_44 : decode cX6_followCalls 44 = .ok (.iaload, 1) := by decide +kernel
theorem dX6_followCalls_45 : decode cX6_followCalls 45 = .ok (.iconst 2, 1) := by decide +kernel
theorem dX6_followCalls_46 : decode cX6_followCalls 46 = .ok (.if_icmp .lt 44, 3) := by decide +kernel
theorem dX6_followCalls_49 : decode cX6_followCalls 49 = .ok (.aload_n 0, 1) := by decide +kernel
theorem dX6_followCalls_50 : decode cX6_followCalls 50 = .ok (.getfield 35, 3) := by decide +kernel
theorem dX6_followCalls_53 : decode cX6_followCalls 53 = .ok (.getfield 163, 3) := by decide +kernel
theorem dX6_followCalls_56 : decode cX6_followCalls 56 = .ok (.iload_n 1, 1) := by decide +kernel
theorem dX6_followCalls_57 : decode cX6_followCalls 57 = .ok (.iaload, 1) := by decide +kernel
theorem dX6_followCalls_58 : decode cX6_followCalls 58 = .ok (.iconst 4, 1) := by decide +kernel
theorem dX6_followCalls_59 : decode cX6_followCalls 59 = .ok (.if_icmp .eq 31, 3) := by decide +kernel
theorem dX6_followCalls_62 : decode cX6_followCalls 62 = .ok (.aload_n 0, 1) := by decide +kernel
theorem dX6_followCalls_63 : decode cX6_followCalls 63 = .ok (.getfield 43, 3) := by decide +kernel
theorem dX6_followCalls_66 : decode cX6_followCalls 66 = .ok (.aload_n 0, 1) := by decide +kernel
theorem dX6_followCalls_67 : decode cX6_followCalls 67 = .ok (.getfield 35, 3) := by decide +kernel
theorem dX6_followCalls_70 : decode cX6_followCalls 70 = .ok (.getfield 157, 3) := by decide +kernel
theorem dX6_followCalls_73 : decode cX6_followCalls 73 = .ok (.iload_n 1, 1) := by decide +kernel
theorem dX6_followCalls_74 : decode cX6_followCalls 74 = .ok (.iaload, 1) := by decide +kernel
theorem dX6_followCalls_75 : decode cX6_followCalls 75 = .ok (.dup2, 1) := by decide +kernel
theorem dX6_followCalls_76 : decode cX6_followCalls 76 = .ok (.iaload, 1) := by decide +kernel
theorem dX6_followCalls_77 : decode cX6_followCalls 77 = .ok (.iconst 1, 1) := by decide +kernel
theorem dX6_followCalls_78 : decode cX6_followCalls 78 = .ok (.aload_n 0, 1) := by decide +kernel
theorem dX6_followCalls_79 : decode cX6_followCalls 79 = .ok (.getfield 35, 3) := by decide +kernel
theorem dX6_followCalls_82 : decode cX6_followCalls 82 = .ok (.getfield 160, 3) := by decide +kernel
theorem dX6_followCalls_85 : decode cX6_followCalls 85 = .ok (.iload_n 1, 1) := by decide +kernel
theorem dX6_followCalls_86 : decode cX6_followCalls 86 = .ok (.iaload, 1) := by decide +kernel
theorem dX6_followCalls_87 : decode cX6_followCalls 87 = .ok (.ishl, 1) := by decide +kernel
theorem dX6_followCalls_88 : decode cX6_followCalls 88 = .ok (.ior, 1) := by decide +kernel
theorem dX6_followCalls_89 : decode cX6_followCalls 89 = .ok (.iastore, 1) := by decide +kernel
theorem dX6_followCalls_90 : decode cX6_followCalls 90 = .ok (.iinc 1 1, 3) := by decide +kernel
theorem dX6_followCalls_93 : decode cX6_followCalls 93 = .ok (.goto (-68), 3) := by decide +kernel
theorem dX6_followCalls_96 : decode cX6_followCalls 96 = .ok (.iconst 0, 1) := by decide +kernel
theorem dX6_followCalls_97 : decode cX6_followCalls 97 = .ok (.istore_n 1, 1) := by decide +kernel
theorem dX6_followCalls_98 : decode cX6_followCalls 98 = .ok (.iload_n 1, 1) := by decide +kernel
theorem dX6_followCalls_99 : decode cX6_followCalls 99 = .ok (.bipush 16, 2) := by decide +kernel
theorem dX6_followCalls_101 : decode cX6_followCalls 101 = .ok (.if_icmp .ge 52, 3) := by decide +kernel
theorem dX6_followCalls_104 : decode cX6_followCalls 104 = .ok (.iconst 0, 1) := by decide +kernel
theorem dX6_followCalls_105 : decode cX6_followCalls 105 = .ok (.istore_n 2, 1) := by decide +kernel
theorem dX6_followCalls_106 : decode cX6_followCalls 106 = .ok (.iload_n 2, 1) := by decide +kernel
theorem dX6_followCalls_107 : decode cX6_followCalls 107 = .ok (.bipush 16, 2) := by decide +kernel
theorem dX6_followCalls_109 : decode cX6_followCalls 109 = .ok (.if_icmp .ge 38, 3) := by decide +kernel
theorem dX6_followCalls_112 : decode cX6_followCalls 112 = .ok (.aload_n 0, 1) := by decide +kernel
theorem dX6_followCalls_113 : decode cX6_followCalls 113 = .ok (.getfield 43, 3) := by decide +kernel
theorem dX6_followCalls_116 : decode cX6_followCalls 116 = .ok (.iload_n 2, 1) := by decide +kernel
theorem dX6_followCalls_117 : decode cX6_followCalls 117 = .ok (.iaload, 1) := by decide +kernel
theorem dX6_followCalls_118 : decode cX6_followCalls 118 = .ok (.iload_n 1, 1) := by decide +kernel
theorem dX6_followCalls_119 : decode cX6_followCalls 119 = .ok (.ishr, 1) := by decide +kernel
theorem dX6_followCalls_120 : decode cX6_followCalls 120 = .ok (.iconst 1, 1) := by decide +kernel
theorem dX6_followCalls_121 : decode cX6_followCalls 121 = .ok (.iand, 1) := by decide +kernel
theorem dX6_followCalls_122 : decode cX6_followCalls 122 = .ok (.iconst 1, 1) := by decide +kernel
theorem dX6_followCalls_123 : decode cX6_followCalls 123 = .ok (.if_icmp .ne 18, 3) := by decide +kernel
theorem dX6_followCalls_126 : decode cX6_followCalls 126 = .ok (.aload_n 0, 1) := by decide +kernel
theorem dX6_followCalls_127 : decode cX6_followCalls 127 = .ok (.getfield 43, 3) := by decide +kernel
theorem dX6_followCalls_130 : decode cX6_followCalls 130 = .ok (.iload_n 2, 1) := by decide +kernel
theorem dX6_followCalls_131 : decode cX6_followCalls 131 = .ok (.dup2, 1) := by decide +kernel
theorem dX6_followCalls_132 : decode cX6_followCalls 132 = .ok (.iaload, 1) := by decide +kernel
theorem dX6_followCalls_133 : decode cX6_followCalls 133 = .ok (.aload_n 0, 1) := by decide +kernel
theorem dX6_followCalls_134 : decode cX6_followCalls 134 = .ok (.getfield 43, 3) := by decide +kernel
