theorem dX9_worth_0 : decode cX9_worth 0 = .ok (.aload_n 0, 1) := by decide +kernel
theorem dX9_worth_1 : decode cX9_worth 1 = .ok (.iload_n 1, 1) := by decide +kernel
theorem dX9_worth_2 : decode cX9_worth 2 = .ok (.iload_n 2, 1) := by decide +kernel
theorem dX9_worth_3 : decode cX9_worth 3 = .ok (.invokevirtual 191, 3) := by decide +kernel
theorem dX9_worth_6 : decode cX9_worth 6 = .ok (.ifCond .ne 6, 3) := by decide +kernel
theorem dX9_worth_9 : decode cX9_worth 9 = .ok (.bipush (-2), 2) := by decide +kernel
theorem dX9_worth_11 : decode cX9_worth 11 = .ok (.ireturn, 1) := by decide +kernel
theorem dX9_worth_12 : decode cX9_worth 12 = .ok (.aload_n 0, 1) := by decide +kernel
theorem dX9_worth_13 : decode cX9_worth 13 = .ok (.getfield 40, 3) := by decide +kernel
theorem dX9_worth_16 : decode cX9_worth 16 = .ok (.aload_n 0, 1) := by decide +kernel
theorem dX9_worth_17 : decode cX9_worth 17 = .ok (.getfield 23, 3) := by decide +kernel
theorem dX9_worth_20 : decode cX9_worth 20 = .ok (.iload_n 1, 1) := by decide +kernel
theorem dX9_worth_21 : decode cX9_worth 21 = .ok (.iload_n 2, 1) := by decide +kernel
theorem dX9_worth_22 : decode cX9_worth 22 = .ok (.invokevirtual 194, 3) := by decide +kernel
theorem dX9_worth_25 : decode cX9_worth 25 = .ok (.aload_n 0, 1) := by decide +kernel
theorem dX9_worth_26 : decode cX9_worth 26 = .ok (.getfield 40, 3) := by decide +kernel
theorem dX9_worth_29 : decode cX9_worth 29 = .ok (.getfield 198, 3) := by decide +kernel
theorem dX9_worth_32 : decode cX9_worth 32 = .ok (.ireturn, 1) := by decide +kernel
theorem dX9_round_0 : decode cX9_round 0 = .ok (.aload_n 0, 1) := by decide +kernel
theorem dX9_round_1 : decode cX9_round 1 = .ok (.iload_n 1, 1) := by decide +kernel
theorem dX9_round_2 : decode cX9_round 2 = .ok (.iload_n 2, 1) := by decide +kernel
theorem dX9_round_3 : decode cX9_round 3 = .ok (.invokevirtual 191, 3) := by decide +kernel
theorem dX9_round_6 : decode cX9_round 6 = .ok (.ifCond .ne 6, 3) := by decide +kernel
theorem dX9_round_9 : decode cX9_round 9 = .ok (.bipush (-2), 2) := by decide +kernel
theorem dX9_round_11 : decode cX9_round 11 = .ok (.ireturn, 1) := by decide +kernel
theorem dX9_round_12 : decode cX9_round 12 = .ok (.aload_n 0, 1) := by decide +kernel
theorem dX9_round_13 : decode cX9_round 13 = .ok (.getfield 40, 3) := by decide +kernel
theorem dX9_round_16 : decode cX9_round 16 = .ok (.aload_n 0, 1) := by decide +kernel
theorem dX9_round_17 : decode cX9_round 17 = .ok (.getfield 23, 3) := by decide +kernel
theorem dX9_round_20 : decode cX9_round 20 = .ok (.iload_n 1, 1) := by decide +kernel
theorem dX9_round_21 : decode cX9_round 21 = .ok (.iload_n 2, 1) := by decide +kernel
theorem dX9_round_22 : decode cX9_round 22 = .ok (.invokevirtual 194, 3) := by decide +kernel
theorem dX9_round_25 : decode cX9_round 25 = .ok (.iload_n 3, 1) := by decide +kernel
theorem dX9_round_26 : decode cX9_round 26 = .ok (.ifCond .lt 26, 3) := by decide +kernel
theorem dX9_round_29 : decode cX9_round 29 = .ok (.iload_n 3, 1) := by decide +kernel
theorem dX9_round_30 : decode cX9_round 30 = .ok (.aload_n 0, 1) := by decide +kernel
theorem dX9_round_31 : decode cX9_round 31 = .ok (.getfield 40, 3) := by decide +kernel
theorem dX9_round_34 : decode cX9_round 34 = .ok (.getfield 201, 3) := by decide +kernel
theorem dX9_round_37 : decode cX9_round 37 = .ok (.if_icmp .ge 15, 3) := by decide +kernel
theorem dX9_round_40 : decode cX9_round 40 = .ok (.aload_n 0, 1) := by decide +kernel
theorem dX9_round_41 : decode cX9_round 41 = .ok (.getfield 40, 3) := by decide +kernel
theorem dX9_round_44 : decode cX9_round 44 = .ok (.getfield 204, 3) := by decide +kernel
theorem dX9_round_47 : decode cX9_round 47 = .ok (.iload_n 3, 1) := by decide +kernel
theorem dX9_round_48 : decode cX9_round 48 = .ok (.iaload, 1) := by decide +kernel
theorem dX9_round_49 : decode cX9_round 49 = .ok (.goto 4, 3) := by decide +kernel
theorem dX9_round_52 : decode cX9_round 52 = .ok (.iconst (-1), 1) := by decide +kernel
theorem dX9_round_53 : decode cX9_round 53 = .ok (.ireturn, 1) := by decide +kernel
theorem dX9_over_0 : decode cX9_over 0 = .ok (.aload_n 0, 1) := by decide +kernel
theorem dX9_over_1 : decode cX9_over 1 = .ok (.iload_n 1, 1) := by decide +kernel
theorem dX9_over_2 : decode cX9_over 2 = .ok (.iload_n 2, 1) := by decide +kernel
theorem dX9_over_3 : decode cX9_over 3 = .ok (.invokevirtual 191, 3) := by decide +kernel
theorem dX9_over_6 : decode cX9_over 6 = .ok (.ifCond .ne 6, 3) := by decide +kernel
theorem dX9_over_9 : decode cX9_over 9 = .ok (.bipush (-2), 2) := by decide +kernel
theorem dX9_over_11 : decode cX9_over 11 = .ok (.ireturn, 1) := by decide +kernel
theorem dX9_over_12 : decode cX9_over 12 = .ok (.aload_n 0, 1) := by decide +kernel
theorem dX9_over_13 : decode cX9_over 13 = .ok (.getfield 40, 3) := by decide +kernel
theorem dX9_over_16 : decode cX9_over 16 = .ok (.aload_n 0, 1) := by decide +kernel
theorem dX9_over_17 : decode cX9_over 17 = .ok (.getfield 23, 3) := by decide +kernel
theorem dX9_over_20 : decode cX9_over 20 = .ok (.iload_n 1, 1) := by decide +kernel
theorem dX9_over_21 : decode cX9_over 21 = .ok (.iload_n 2, 1) := by decide +kernel
theorem dX9_over_22 : decode cX9_over 22 = .ok (.invokevirtual 194, 3) := by decide +kernel
theorem dX9_over_25 : decode cX9_over 25 = .ok (.aload_n 0, 1) := by decide +kernel
theorem dX9_over_26 : decode cX9_over 26 = .ok (.getfield 40, 3) := by decide +kernel
theorem dX9_over_29 : decode cX9_over 29 = .ok (.getfield 207, 3) := by decide +kernel
theorem dX9_over_32 : decode cX9_over 32 = .ok (.ireturn, 1) := by decide +kernel
theorem dX9_may_0 : decode cX9_may 0 = .ok (.iload_n 1, 1) := by decide +kernel
theorem dX9_may_1 : decode cX9_may 1 = .ok (.invokestatic 134, 3) := by decide +kernel
theorem dX9_may_4 : decode cX9_may 4 = .ok (.ifCond .eq 12, 3) := by decide +kernel
theorem dX9_may_7 : decode cX9_may 7 = .ok (.aload_n 0, 1) := by decide +kernel
theorem dX9_may_8 : decode cX9_may 8 = .ok (.iload_n 2, 1) := by decide +kernel
theorem dX9_may_9 : decode cX9_may 9 = .ok (.iload_n 3, 1) := by decide +kernel
theorem dX9_may_10 : decode cX9_may 10 = .ok (.invokevirtual 191, 3) := by decide +kernel
theorem dX9_may_13 : decode cX9_may 13 = .ok (.ifCond .ne 6, 3) := by decide +kernel
theorem dX9_may_16 : decode cX9_may 16 = .ok (.bipush (-2), 2) := by decide +kernel
theorem dX9_may_18 : decode cX9_may 18 = .ok (.ireturn, 1) := by decide +kernel
theorem dX9_may_19 : decode cX9_may 19 = .ok (.aload_n 0, 1) := by decide +kernel
theorem dX9_may_20 : decode cX9_may 20 = .ok (.getfield 33, 3) := by decide +kernel
theorem dX9_may_23 : decode cX9_may 23 = .ok (.iload_n 1, 1) := by decide +kernel
theorem dX9_may_24 : decode cX9_may 24 = .ok (.aaload, 1) := by decide +kernel
theorem dX9_may_25 : decode cX9_may 25 = .ok (.astore 4, 2) := by decide +kernel
theorem dX9_may_27 : decode cX9_may 27 = .ok (.aload 4, 2) := by decide +kernel
theorem dX9_may_29 : decode cX9_may 29 = .ok (.getfield 138, 3) := by decide +kernel
theorem dX9_may_32 : decode cX9_may 32 = .ok (.ifCond .ne 6, 3) := by decide +kernel
theorem dX9_may_35 : decode cX9_may 35 = .ok (.bipush (-6), 2) := by decide +kernel
theorem dX9_may_37 : decode cX9_may 37 = .ok (.ireturn, 1) := by decide +kernel
theorem dX9_may_38 : decode cX9_may 38 = .ok (.aload_n 0, 1) := by decide +kernel
theorem dX9_may_39 : decode cX9_may 39 = .ok (.getfield 40, 3) := by decide +kernel
theorem dX9_may_42 : decode cX9_may 42 = .ok (.aload_n 0, 1) := by decide +kernel
theorem dX9_may_43 : decode cX9_may 43 = .ok (.getfield 23, 3) := by decide +kernel
theorem dX9_may_46 : decode cX9_may 46 = .ok (.iload_n 2, 1) := by decide +kernel
theorem dX9_may_47 : decode cX9_may 47 = .ok (.iload_n 3, 1) := by decide +kernel
theorem dX9_may_48 : decode cX9_may 48 = .ok (.aload 4, 2) := by decide +kernel
theorem dX9_may_50 : decode cX9_may 50 = .ok (.invokevirtual 210, 3) := by decide +kernel
theorem dX9_may_53 : decode cX9_may 53 = .ok (.ifCond .eq 7, 3) := by decide +kernel
theorem dX9_may_56 : decode cX9_may 56 = .ok (.iconst 1, 1) := by decide +kernel
theorem dX9_may_57 : decode cX9_may 57 = .ok (.goto 4, 3) := by decide +kernel
theorem dX9_may_60 : decode cX9_may 60 = .ok (.iconst 0, 1) := by decide +kernel
theorem dX9_may_61 : decode cX9_may 61 = .ok (.ireturn, 1) := by decide +kernel
theorem dX9_fewest_0 : decode cX9_fewest 0 = .ok (.aload_n 0, 1) := by decide +kernel
theorem dX9_fewest_1 : decode cX9_fewest 1 = .ok (.getfield 23, 3) := by decide +kernel
theorem dX9_fewest_4 : decode cX9_fewest 4 = .ok (.getfield 93, 3) := by decide +kernel
theorem dX9_fewest_7 : decode cX9_fewest 7 = .ok (.iload_n 1, 1) := by decide +kernel
theorem dX9_fewest_8 : decode cX9_fewest 8 = .ok (.invokevirtual 158, 3) := by decide +kernel
theorem dX9_fewest_11 : decode cX9_fewest 11 = .ok (.ifCond .eq 18, 3) := by decide +kernel
theorem dX9_fewest_14 : decode cX9_fewest 14 = .ok (.aload_n 0, 1) := by decide +kernel
theorem dX9_fewest_15 : decode cX9_fewest 15 = .ok (.getfield 40, 3) := by decide +kernel
theorem dX9_fewest_18 : decode cX9_fewest 18 = .ok (.aload_n 0, 1) := by decide +kernel
theorem dX9_fewest_19 : decode cX9_fewest 19 = .ok (.getfield 23, 3) := by decide +kernel
theorem dX9_fewest_22 : decode cX9_fewest 22 = .ok (.iload_n 1, 1) := by decide +kernel
theorem dX9_fewest_23 : decode cX9_fewest 23 = .ok (.invokevirtual 214, 3) := by decide +kernel
theorem dX9_fewest_26 : decode cX9_fewest 26 = .ok (.goto 5, 3) := by decide +kernel
theorem dX9_fewest_29 : decode cX9_fewest 29 = .ok (.bipush (-2), 2) := by decide +kernel
theorem dX9_fewest_31 : decode cX9_fewest 31 = .ok (.ireturn, 1) := by decide +kernel
theorem dX9_lost_0 : decode cX9_lost 0 = .ok (.aload_n 0, 1) := by decide +kernel
theorem dX9_lost_1 : decode cX9_lost 1 = .ok (.getfield 23, 3) := by decide +kernel
theorem dX9_lost_4 : decode cX9_lost 4 = .ok (.getfield 93, 3) := by decide +kernel
theorem dX9_lost_7 : decode cX9_lost 7 = .ok (.iload_n 1, 1) := by decide +kernel
theorem dX9_lost_8 : decode cX9_lost 8 = .ok (.invokevirtual 158, 3) := by decide +kernel
theorem dX9_lost_11 : decode cX9_lost 11 = .ok (.ifCond .eq 18, 3) := by decide +kernel
theorem dX9_lost_14 : decode cX9_lost 14 = .ok (.aload_n 0, 1) := by decide +kernel
theorem dX9_lost_15 : decode cX9_lost 15 = .ok (.getfield 40, 3) := by decide +kernel
theorem dX9_lost_18 : decode cX9_lost 18 = .ok (.aload_n 0, 1) := by decide +kernel
theorem dX9_lost_19 : decode cX9_lost 19 = .ok (.getfield 23, 3) := by decide +kernel
theorem dX9_lost_22 : decode cX9_lost 22 = .ok (.iload_n 1, 1) := by decide +kernel
theorem dX9_lost_23 : decode cX9_lost 23 = .ok (.invokevirtual 218, 3) := by decide +kernel
theorem dX9_lost_26 : decode cX9_lost 26 = .ok (.goto 5, 3) := by decide +kernel
theorem dX9_lost_29 : decode cX9_lost 29 = .ok (.bipush (-2), 2) := by decide +kernel
theorem dX9_lost_31 : decode cX9_lost 31 = .ok (.ireturn, 1) := by decide +kernel
theorem dX9_soon_0 : decode cX9_soon 0 = .ok (.aload_n 0, 1) := by decide +kernel
theorem dX9_soon_1 : decode cX9_soon 1 = .ok (.getfield 23, 3) := by decide +kernel
theorem dX9_soon_4 : decode cX9_soon 4 = .ok (.getfield 93, 3) := by decide +kernel
theorem dX9_soon_7 : decode cX9_soon 7 = .ok (.iload_n 1, 1) := by decide +kernel
theorem dX9_soon_8 : decode cX9_soon 8 = .ok (.iload_n 2, 1) := by decide +kernel
theorem dX9_soon_9 : decode cX9_soon 9 = .ok (.invokevirtual 126, 3) := by decide +kernel
theorem dX9_soon_12 : decode cX9_soon 12 = .ok (.ifCond .ne 6, 3) := by decide +kernel
theorem dX9_soon_15 : decode cX9_soon 15 = .ok (.bipush (-2), 2) := by decide +kernel
theorem dX9_soon_17 : decode cX9_soon 17 = .ok (.ireturn, 1) := by decide +kernel
theorem dX9_soon_18 : decode cX9_soon 18 = .ok (.aload_n 0, 1) := by decide +kernel
theorem dX9_soon_19 : decode cX9_soon 19 = .ok (.getfield 47, 3) := by decide +kernel
theorem dX9_soon_22 : decode cX9_soon 22 = .ok (.aload_n 0, 1) := by decide +kernel
theorem dX9_soon_23 : decode cX9_soon 23 = .ok (.getfield 23, 3) := by decide +kernel
theorem dX9_soon_26 : decode cX9_soon 26 = .ok (.iload_n 1, 1) := by decide +kernel
theorem dX9_soon_27 : decode cX9_soon 27 = .ok (.iload_n 2, 1) := by decide +kernel
theorem dX9_soon_28 : decode cX9_soon 28 = .ok (.invokevirtual 221, 3) := by decide +kernel
theorem dX9_soon_31 : decode cX9_soon 31 = .ok (.aload_n 0, 1) := by decide +kernel
theorem dX9_soon_32 : decode cX9_soon 32 = .ok (.getfield 47, 3) := by decide +kernel
theorem dX9_soon_35 : decode cX9_soon 35 = .ok (.getfield 224, 3) := by decide +kernel
theorem dX9_soon_38 : decode cX9_soon 38 = .ok (.ireturn, 1) := by decide +kernel
theorem dX9_path_0 : decode cX9_path 0 = .ok (.aload_n 0, 1) := by decide +kernel
theorem dX9_path_1 : decode cX9_path 1 = .ok (.getfield 23, 3) := by decide +kernel
theorem dX9_path_4 : decode cX9_path 4 = .ok (.getfield 93, 3) := by decide +kernel
theorem dX9_path_7 : decode cX9_path 7 = .ok (.iload_n 1, 1) := by decide +kernel
theorem dX9_path_8 : decode cX9_path 8 = .ok (.iload_n 2, 1) := by decide +kernel
theorem dX9_path_9 : decode cX9_path 9 = .ok (.invokevirtual 126, 3) := by decide +kernel
theorem dX9_path_12 : decode cX9_path 12 = .ok (.ifCond .ne 6, 3) := by decide +kernel
theorem dX9_path_15 : decode cX9_path 15 = .ok (.bipush (-2), 2) := by decide +kernel
theorem dX9_path_17 : decode cX9_path 17 = .ok (.ireturn, 1) := by decide +kernel
theorem dX9_path_18 : decode cX9_path 18 = .ok (.aload_n 0, 1) := by decide +kernel
theorem dX9_path_19 : decode cX9_path 19 = .ok (.getfield 47, 3) := by decide +kernel
theorem dX9_path_22 : decode cX9_path 22 = .ok (.aload_n 0, 1) := by decide +kernel
theorem dX9_path_23 : decode cX9_path 23 = .ok (.getfield 23, 3) := by decide +kernel
theorem dX9_path_26 : decode cX9_path 26 = .ok (.iload_n 1, 1) := by decide +kernel
theorem dX9_path_27 : decode cX9_path 27 = .ok (.iload_n 2, 1) := by decide +kernel
theorem dX9_path_28 : decode cX9_path 28 = .ok (.invokevirtual 221, 3) := by decide +kernel
theorem dX9_path_31 : decode cX9_path 31 = .ok (.iload_n 3, 1) := by decide +kernel
theorem dX9_path_32 : decode cX9_path 32 = .ok (.ifCond .lt 26, 3) := by decide +kernel
theorem dX9_path_35 : decode cX9_path 35 = .ok (.iload_n 3, 1) := by decide +kernel
theorem dX9_path_36 : decode cX9_path 36 = .ok (.aload_n 0, 1) := by decide +kernel
theorem dX9_path_37 : decode cX9_path 37 = .ok (.getfield 47, 3) := by decide +kernel
theorem dX9_path_40 : decode cX9_path 40 = .ok (.getfield 224, 3) := by decide +kernel
theorem dX9_path_43 : decode cX9_path 43 = .ok (.if_icmp .ge 15, 3) := by decide +kernel
theorem dX9_path_46 : decode cX9_path 46 = .ok (.aload_n 0, 1) := by decide +kernel
theorem dX9_path_47 : decode cX9_path 47 = .ok (.getfield 47, 3) := by decide +kernel
theorem dX9_path_50 : decode cX9_path 50 = .ok (.getfield 225, 3) := by decide +kernel
theorem dX9_path_53 : decode cX9_path 53 = .ok (.iload_n 3, 1) := by decide +kernel
theorem dX9_path_54 : decode cX9_path 54 = .ok (.iaload, 1) := by decide +kernel
theorem dX9_path_55 : decode cX9_path 55 = .ok (.goto 4, 3) := by decide +kernel
theorem dX9_path_58 : decode cX9_path 58 = .ok (.iconst (-1), 1) := by decide +kernel
theorem dX9_path_59 : decode cX9_path 59 = .ok (.ireturn, 1) := by decide +kernel
theorem dX9_reach_0 : decode cX9_reach 0 = .ok (.aload_n 0, 1) := by decide +kernel
theorem dX9_reach_1 : decode cX9_reach 1 = .ok (.getfield 23, 3) := by decide +kernel
theorem dX9_reach_4 : decode cX9_reach 4 = .ok (.getfield 93, 3) := by decide +kernel
theorem dX9_reach_7 : decode cX9_reach 7 = .ok (.iload_n 1, 1) := by decide +kernel
theorem dX9_reach_8 : decode cX9_reach 8 = .ok (.invokevirtual 158, 3) := by decide +kernel
theorem dX9_reach_11 : decode cX9_reach 11 = .ok (.ifCond .eq 15, 3) := by decide +kernel
theorem dX9_reach_14 : decode cX9_reach 14 = .ok (.aload_n 0, 1) := by decide +kernel
theorem dX9_reach_15 : decode cX9_reach 15 = .ok (.getfield 23, 3) := by decide +kernel
theorem dX9_reach_18 : decode cX9_reach 18 = .ok (.iload_n 1, 1) := by decide +kernel
theorem dX9_reach_19 : decode cX9_reach 19 = .ok (.iconst (-1), 1) := by decide +kernel
theorem dX9_reach_20 : decode cX9_reach 20 = .ok (.invokevirtual 228, 3) := by decide +kernel
theorem dX9_reach_23 : decode cX9_reach 23 = .ok (.goto 5, 3) := by decide +kernel
theorem dX9_reach_26 : decode cX9_reach 26 = .ok (.bipush (-2), 2) := by decide +kernel
theorem dX9_reach_28 : decode cX9_reach 28 = .ok (.ireturn, 1) := by decide +kernel
theorem dX9_drop_0 : decode cX9_drop 0 = .ok (.aload_n 0, 1) := by decide +kernel
theorem dX9_drop_1 : decode cX9_drop 1 = .ok (.getfield 23, 3) := by decide +kernel
theorem dX9_drop_4 : decode cX9_drop 4 = .ok (.getfield 93, 3) := by decide +kernel
theorem dX9_drop_7 : decode cX9_drop 7 = .ok (.iload_n 1, 1) := by decide +kernel
theorem dX9_drop_8 : decode cX9_drop 8 = .ok (.invokevirtual 158, 3) := by decide +kernel
theorem dX9_drop_11 : decode cX9_drop 11 = .ok (.ifCond .ne 6, 3) := by decide +kernel
theorem dX9_drop_14 : decode cX9_drop 14 = .ok (.bipush (-2), 2) := by decide +kernel
theorem dX9_drop_16 : decode cX9_drop 16 = .ok (.ireturn, 1) := by decide +kernel
theorem dX9_drop_17 : decode cX9_drop 17 = .ok (.iconst (-1), 1) := by decide +kernel
theorem dX9_drop_18 : decode cX9_drop 18 = .ok (.istore_n 2, 1) := by decide +kernel
theorem dX9_drop_19 : decode cX9_drop 19 = .ok (.iconst 0, 1) := by decide +kernel
theorem dX9_drop_20 : decode cX9_drop 20 = .ok (.istore_n 3, 1) := by decide +kernel
theorem dX9_drop_21 : decode cX9_drop 21 = .ok (.iload_n 3, 1) := by decide +kernel
theorem dX9_drop_22 : decode cX9_drop 22 = .ok (.aload_n 0, 1) := by decide +kernel
theorem dX9_drop_23 : decode cX9_drop 23 = .ok (.getfield 23, 3) := by decide +kernel
theorem dX9_drop_26 : decode cX9_drop 26 = .ok (.getfield 93, 3) := by decide +kernel
theorem dX9_drop_29 : decode cX9_drop 29 = .ok (.getfield 94, 3) := by decide +kernel
theorem dX9_drop_32 : decode cX9_drop 32 = .ok (.if_icmp .ge 66, 3) := by decide +kernel
theorem dX9_drop_35 : decode cX9_drop 35 = .ok (.iload_n 2, 1) := by decide +kernel
theorem dX9_drop_36 : decode cX9_drop 36 = .ok (.ifCond .lt 30, 3) := by decide +kernel
theorem dX9_drop_39 : decode cX9_drop 39 = .ok (.aload_n 0, 1) := by decide +kernel
theorem dX9_drop_40 : decode cX9_drop 40 = .ok (.getfield 23, 3) := by decide +kernel
theorem dX9_drop_43 : decode cX9_drop 43 = .ok (.getfield 93, 3) := by decide +kernel
theorem dX9_drop_46 : decode cX9_drop 46 = .ok (.getfield 185, 3) := by decide +kernel
theorem dX9_drop_49 : decode cX9_drop 49 = .ok (.iload_n 3, 1) := by decide +kernel
theorem dX9_drop_50 : decode cX9_drop 50 = .ok (.iaload, 1) := by decide +kernel
theorem dX9_drop_51 : decode cX9_drop 51 = .ok (.aload_n 0, 1) := by decide +kernel
theorem dX9_drop_52 : decode cX9_drop 52 = .ok (.getfield 23, 3) := by decide +kernel
theorem dX9_drop_55 : decode cX9_drop 55 = .ok (.getfield 93, 3) := by decide +kernel
theorem dX9_drop_58 : decode cX9_drop 58 = .ok (.getfield 185, 3) := by decide +kernel
theorem dX9_drop_61 : decode cX9_drop 61 = .ok (.iload_n 2, 1) := by decide +kernel
theorem dX9_drop_62 : decode cX9_drop 62 = .ok (.iaload, 1) := by decide +kernel
theorem dX9_drop_63 : decode cX9_drop 63 = .ok (.if_icmp .ge 7, 3) := by decide +kernel
theorem dX9_drop_66 : decode cX9_drop 66 = .ok (.iconst 1, 1) := by decide +kernel
theorem dX9_drop_67 : decode cX9_drop 67 = .ok (.goto 4, 3) := by decide +kernel
theorem dX9_drop_70 : decode cX9_drop 70 = .ok (.iconst 0, 1) := by decide +kernel
theorem dX9_drop_71 : decode cX9_drop 71 = .ok (.istore 4, 2) := by decide +kernel
theorem dX9_drop_73 : decode cX9_drop 73 = .ok (.iload 4, 2) := by decide +kernel
theorem dX9_drop_75 : decode cX9_drop 75 = .ok (.ifCond .eq 17, 3) := by decide +kernel
theorem dX9_drop_78 : decode cX9_drop 78 = .ok (.aload_n 0, 1) := by decide +kernel
theorem dX9_drop_79 : decode cX9_drop 79 = .ok (.getfield 23, 3) := by decide +kernel
theorem dX9_drop_82 : decode cX9_drop 82 = .ok (.iload_n 1, 1) := by decide +kernel
theorem dX9_drop_83 : decode cX9_drop 83 = .ok (.iload_n 3, 1) := by decide +kernel
theorem dX9_drop_84 : decode cX9_drop 84 = .ok (.invokevirtual 231, 3) := by decide +kernel
theorem dX9_drop_87 : decode cX9_drop 87 = .ok (.ifCond .eq 5, 3) := by decide +kernel
theorem dX9_drop_90 : decode cX9_drop 90 = .ok (.iload_n 3, 1) := by decide +kernel
theorem dX9_drop_91 : decode cX9_drop 91 = .ok (.istore_n 2, 1) := by decide +kernel
theorem dX9_drop_92 : decode cX9_drop 92 = .ok (.iinc 3 1, 3) := by decide +kernel
theorem dX9_drop_95 : decode cX9_drop 95 = .ok (.goto (-74), 3) := by decide +kernel
theorem dX9_drop_98 : decode cX9_drop 98 = .ok (.iload_n 2, 1) := by decide +kernel
theorem dX9_drop_99 : decode cX9_drop 99 = .ok (.ireturn, 1) := by decide +kernel
theorem dX9_tie_0 : decode cX9_tie 0 = .ok (.aload_n 0, 1) := by decide +kernel
theorem dX9_tie_1 : decode cX9_tie 1 = .ok (.getfield 23, 3) := by decide +kernel
theorem dX9_tie_4 : decode cX9_tie 4 = .ok (.getfield 93, 3) := by decide +kernel
theorem dX9_tie_7 : decode cX9_tie 7 = .ok (.iload_n 1, 1) := by decide +kernel
theorem dX9_tie_8 : decode cX9_tie 8 = .ok (.iload_n 2, 1) := by decide +kernel
theorem dX9_tie_9 : decode cX9_tie 9 = .ok (.invokevirtual 126, 3) := by decide +kernel
theorem dX9_tie_12 : decode cX9_tie 12 = .ok (.ifCond .ne 6, 3) := by decide +kernel
theorem dX9_tie_15 : decode cX9_tie 15 = .ok (.bipush (-2), 2) := by decide +kernel
theorem dX9_tie_17 : decode cX9_tie 17 = .ok (.ireturn, 1) := by decide +kernel
theorem dX9_tie_18 : decode cX9_tie 18 = .ok (.aload_n 0, 1) := by decide +kernel
theorem dX9_tie_19 : decode cX9_tie 19 = .ok (.getfield 23, 3) := by decide +kernel
theorem dX9_tie_22 : decode cX9_tie 22 = .ok (.iload_n 1, 1) := by decide +kernel
theorem dX9_tie_23 : decode cX9_tie 23 = .ok (.iload_n 2, 1) := by decide +kernel
theorem dX9_tie_24 : decode cX9_tie 24 = .ok (.invokevirtual 155, 3) := by decide +kernel
theorem dX9_tie_27 : decode cX9_tie 27 = .ok (.ifCond .ne 5, 3) := by decide +kernel
theorem dX9_tie_30 : decode cX9_tie 30 = .ok (.iconst (-1), 1) := by decide +kernel
theorem dX9_tie_31 : decode cX9_tie 31 = .ok (.ireturn, 1) := by decide +kernel
theorem dX9_tie_32 : decode cX9_tie 32 = .ok (.aload_n 0, 1) := by decide +kernel
theorem dX9_tie_33 : decode cX9_tie 33 = .ok (.getfield 23, 3) := by decide +kernel
theorem dX9_tie_36 : decode cX9_tie 36 = .ok (.iload_n 1, 1) := by decide +kernel
theorem dX9_tie_37 : decode cX9_tie 37 = .ok (.iload_n 2, 1) := by decide +kernel
theorem dX9_tie_38 : decode cX9_tie 38 = .ok (.invokevirtual 234, 3) := by decide +kernel
theorem dX9_tie_41 : decode cX9_tie 41 = .ok (.ifCond .eq 7, 3) := by decide +kernel
theorem dX9_tie_44 : decode cX9_tie 44 = .ok (.iconst 1, 1) := by decide +kernel
theorem dX9_tie_45 : decode cX9_tie 45 = .ok (.goto 4, 3) := by decide +kernel
theorem dX9_tie_48 : decode cX9_tie 48 = .ok (.iconst 0, 1) := by decide +kernel
theorem dX9_tie_49 : decode cX9_tie 49 = .ok (.ireturn, 1) := by decide +kernel
theorem dX9_rings_0 : decode cX9_rings 0 = .ok (.aload_n 0, 1) := by decide +kernel
theorem dX9_rings_1 : decode cX9_rings 1 = .ok (.getfield 23, 3) := by decide +kernel
theorem dX9_rings_4 : decode cX9_rings 4 = .ok (.invokevirtual 237, 3) := by decide +kernel
theorem dX9_rings_7 : decode cX9_rings 7 = .ok (.iconst 0, 1) := by decide +kernel
theorem dX9_rings_8 : decode cX9_rings 8 = .ok (.istore_n 1, 1) := by decide +kernel
theorem dX9_rings_9 : decode cX9_rings 9 = .ok (.iconst 0, 1) := by decide +kernel
theorem dX9_rings_10 : decode cX9_rings 10 = .ok (.istore_n 2, 1) := by decide +kernel
theorem dX9_rings_11 : decode cX9_rings 11 = .ok (.iload_n 2, 1) := by decide +kernel
theorem dX9_rings_12 : decode cX9_rings 12 = .ok (.aload_n 0, 1) := by decide +kernel
theorem dX9_rings_13 : decode cX9_rings 13 = .ok (.getfield 23, 3) := by decide +kernel
theorem dX9_rings_16 : decode cX9_rings 16 = .ok (.getfield 93, 3) := by decide +kernel
theorem dX9_rings_19 : decode cX9_rings 19 = .ok (.getfield 94, 3) := by decide +kernel
theorem dX9_rings_22 : decode cX9_rings 22 = .ok (.if_icmp .ge 33, 3) := by decide +kernel
theorem dX9_rings_25 : decode cX9_rings 25 = .ok (.aload_n 0, 1) := by decide +kernel
theorem dX9_rings_26 : decode cX9_rings 26 = .ok (.getfield 23, 3) := by decide +kernel
theorem dX9_rings_29 : decode cX9_rings 29 = .ok (.iload_n 2, 1) := by decide +kernel
theorem dX9_rings_30 : decode cX9_rings 30 = .ok (.invokevirtual 240, 3) := by decide +kernel
theorem dX9_rings_33 : decode cX9_rings 33 = .ok (.istore_n 3, 1) := by decide +kernel
theorem dX9_rings_34 : decode cX9_rings 34 = .ok (.iload_n 3, 1) := by decide +kernel
theorem dX9_rings_35 : decode cX9_rings 35 = .ok (.ifCond .eq 14, 3) := by decide +kernel
theorem dX9_rings_38 : decode cX9_rings 38 = .ok (.iload_n 3, 1) := by decide +kernel
theorem dX9_rings_39 : decode cX9_rings 39 = .ok (.invokestatic 243, 3) := by decide +kernel
theorem dX9_rings_42 : decode cX9_rings 42 = .ok (.iload_n 2, 1) := by decide +kernel
theorem dX9_rings_43 : decode cX9_rings 43 = .ok (.if_icmp .ne 6, 3) := by decide +kernel
theorem dX9_rings_46 : decode cX9_rings 46 = .ok (.iinc 1 1, 3) := by decide +kernel
theorem dX9_rings_49 : decode cX9_rings 49 = .ok (.iinc 2 1, 3) := by decide +kernel
theorem dX9_rings_52 : decode cX9_rings 52 = .ok (.goto (-41), 3) := by decide +kernel
theorem dX9_rings_55 : decode cX9_rings 55 = .ok (.iload_n 1, 1) := by decide +kernel
theorem dX9_rings_56 : decode cX9_rings 56 = .ok (.ireturn, 1) := by decide +kernel
theorem dX9_ring_0 : decode cX9_ring 0 = .ok (.aload_n 0, 1) := by decide +kernel
theorem dX9_ring_1 : decode cX9_ring 1 = .ok (.getfield 23, 3) := by decide +kernel
theorem dX9_ring_4 : decode cX9_ring 4 = .ok (.getfield 93, 3) := by decide +kernel
theorem dX9_ring_7 : decode cX9_ring 7 = .ok (.iload_n 1, 1) := by decide +kernel
theorem dX9_ring_8 : decode cX9_ring 8 = .ok (.invokevirtual 158, 3) := by decide +kernel
theorem dX9_ring_11 : decode cX9_ring 11 = .ok (.ifCond .ne 6, 3) := by decide +kernel
theorem dX9_ring_14 : decode cX9_ring 14 = .ok (.bipush (-2), 2) := by decide +kernel
theorem dX9_ring_16 : decode cX9_ring 16 = .ok (.ireturn, 1) := by decide +kernel
theorem dX9_ring_17 : decode cX9_ring 17 = .ok (.aload_n 0, 1) := by decide +kernel
theorem dX9_ring_18 : decode cX9_ring 18 = .ok (.getfield 23, 3) := by decide +kernel
theorem dX9_ring_21 : decode cX9_ring 21 = .ok (.invokevirtual 237, 3) := by decide +kernel
theorem dX9_ring_24 : decode cX9_ring 24 = .ok (.aload_n 0, 1) := by decide +kernel
theorem dX9_ring_25 : decode cX9_ring 25 = .ok (.getfield 23, 3) := by decide +kernel
theorem dX9_ring_28 : decode cX9_ring 28 = .ok (.iload_n 1, 1) := by decide +kernel
theorem dX9_ring_29 : decode cX9_ring 29 = .ok (.invokevirtual 240, 3) := by decide +kernel
theorem dX9_ring_32 : decode cX9_ring 32 = .ok (.ireturn, 1) := by decide +kernel
theorem dX9_house_0 : decode cX9_house 0 = .ok (.aload_n 0, 1) := by decide +kernel
theorem dX9_house_1 : decode cX9_house 1 = .ok (.getfield 23, 3) := by decide +kernel
theorem dX9_house_4 : decode cX9_house 4 = .ok (.getfield 93, 3) := by decide +kernel
theorem dX9_house_7 : decode cX9_house 7 = .ok (.iload_n 1, 1) := by decide +kernel
theorem dX9_house_8 : decode cX9_house 8 = .ok (.invokevirtual 158, 3) := by decide +kernel
theorem dX9_house_11 : decode cX9_house 11 = .ok (.ifCond .ne 6, 3) := by decide +kernel
theorem dX9_house_14 : decode cX9_house 14 = .ok (.ldc 248, 2) := by decide +kernel
theorem dX9_house_16 : decode cX9_house 16 = .ok (.ireturn, 1) := by decide +kernel
theorem dX9_house_17 : decode cX9_house 17 = .ok (.iload_n 2, 1) := by decide +kernel
theorem dX9_house_18 : decode cX9_house 18 = .ok (.tableswitch 165 0 8 #[50, 63, 76, 89, 102, 115, 128, 141, 153], 50) := by decide +kernel
theorem dX9_house_68 : decode cX9_house 68 = .ok (.aload_n 0, 1) := by decide +kernel
theorem dX9_house_69 : decode cX9_house 69 = .ok (.getfield 23, 3) := by decide +kernel
theorem dX9_house_72 : decode cX9_house 72 = .ok (.getfield 93, 3) := by decide +kernel
theorem dX9_house_75 : decode cX9_house 75 = .ok (.getfield 249, 3) := by decide +kernel
theorem dX9_house_78 : decode cX9_house 78 = .ok (.iload_n 1, 1) := by decide +kernel
theorem dX9_house_79 : decode cX9_house 79 = .ok (.iaload, 1) := by decide +kernel
theorem dX9_house_80 : decode cX9_house 80 = .ok (.ireturn, 1) := by decide +kernel
theorem dX9_house_81 : decode cX9_house 81 = .ok (.aload_n 0, 1) := by decide +kernel
theorem dX9_house_82 : decode cX9_house 82 = .ok (.getfield 23, 3) := by decide +kernel
theorem dX9_house_85 : decode cX9_house 85 = .ok (.getfield 93, 3) := by decide +kernel
theorem dX9_house_88 : decode cX9_house 88 = .ok (.getfield 252, 3) := by decide +kernel
theorem dX9_house_91 : decode cX9_house 91 = .ok (.iload_n 1, 1) := by decide +kernel
theorem dX9_house_92 : decode cX9_house 92 = .ok (.iaload, 1) := by decide +kernel
theorem dX9_house_93 : decode cX9_house 93 = .ok (.ireturn, 1) := by decide +kernel
theorem dX9_house_94 : decode cX9_house 94 = .ok (.aload_n 0, 1) := by decide +kernel
theorem dX9_house_95 : decode cX9_house 95 = .ok (.getfield 23, 3) := by decide +kernel
theorem dX9_house_98 : decode cX9_house 98 = .ok (.getfield 93, 3) := by decide +kernel
theorem dX9_house_101 : decode cX9_house 101 = .ok (.getfield 185, 3) := by decide +kernel
theorem dX9_house_104 : decode cX9_house 104 = .ok (.iload_n 1, 1) := by decide +kernel
theorem dX9_house_105 : decode cX9_house 105 = .ok (.iaload, 1) := by decide +kernel
theorem dX9_house_106 : decode cX9_house 106 = .ok (.ireturn, 1) := by decide +kernel
theorem dX9_house_107 : decode cX9_house 107 = .ok (.aload_n 0, 1) := by decide +kernel
theorem dX9_house_108 : decode cX9_house 108 = .ok (.getfield 23, 3) := by decide +kernel
theorem dX9_house_111 : decode cX9_house 111 = .ok (.getfield 93, 3) := by decide +kernel
theorem dX9_house_114 : decode cX9_house 114 = .ok (.getfield 255, 3) := by decide +kernel
theorem dX9_house_117 : decode cX9_house 117 = .ok (.iload_n 1, 1) := by decide +kernel
theorem dX9_house_118 : decode cX9_house 118 = .ok (.iaload, 1) := by decide +kernel
theorem dX9_house_119 : decode cX9_house 119 = .ok (.ireturn, 1) := by decide +kernel
theorem dX9_house_120 : decode cX9_house 120 = .ok (.aload_n 0, 1) := by decide +kernel
theorem dX9_house_121 : decode cX9_house 121 = .ok (.getfield 23, 3) := by decide +kernel
theorem dX9_house_124 : decode cX9_house 124 = .ok (.getfield 93, 3) := by decide +kernel
theorem dX9_house_127 : decode cX9_house 127 = .ok (.getfield 258, 3) := by decide +kernel
theorem dX9_house_130 : decode cX9_house 130 = .ok (.iload_n 1, 1) := by decide +kernel
theorem dX9_house_131 : decode cX9_house 131 = .ok (.iaload, 1) := by decide +kernel
theorem dX9_house_132 : decode cX9_house 132 = .ok (.ireturn, 1) := by decide +kernel
theorem dX9_house_133 : decode cX9_house 133 = .ok (.aload_n 0, 1) := by decide +kernel
theorem dX9_house_134 : decode cX9_house 134 = .ok (.getfield 23, 3) := by decide +kernel
theorem dX9_house_137 : decode cX9_house 137 = .ok (.getfield 93, 3) := by decide +kernel
theorem dX9_house_140 : decode cX9_house 140 = .ok (.getfield 261, 3) := by decide +kernel
theorem dX9_house_143 : decode cX9_house 143 = .ok (.iload_n 1, 1) := by decide +kernel
theorem dX9_house_144 : decode cX9_house 144 = .ok (.iaload, 1) := by decide +kernel
theorem dX9_house_145 : decode cX9_house 145 = .ok (.ireturn, 1) := by decide +kernel
theorem dX9_house_146 : decode cX9_house 146 = .ok (.aload_n 0, 1) := by decide +kernel
theorem dX9_house_147 : decode cX9_house 147 = .ok (.getfield 23, 3) := by decide +kernel
theorem dX9_house_150 : decode cX9_house 150 = .ok (.getfield 93, 3) := by decide +kernel
theorem dX9_house_153 : decode cX9_house 153 = .ok (.getfield 264, 3) := by decide +kernel
theorem dX9_house_156 : decode cX9_house 156 = .ok (.iload_n 1, 1) := by decide +kernel
theorem dX9_house_157 : decode cX9_house 157 = .ok (.iaload, 1) := by decide +kernel
theorem dX9_house_158 : decode cX9_house 158 = .ok (.ireturn, 1) := by decide +kernel
theorem dX9_house_159 : decode cX9_house 159 = .ok (.aload_n 0, 1) := by decide +kernel
theorem dX9_house_160 : decode cX9_house 160 = .ok (.getfield 23, 3) := by decide +kernel
theorem dX9_house_163 : decode cX9_house 163 = .ok (.getfield 113, 3) := by decide +kernel
theorem dX9_house_166 : decode cX9_house 166 = .ok (.iload_n 1, 1) := by decide +kernel
theorem dX9_house_167 : decode cX9_house 167 = .ok (.invokevirtual 265, 3) := by decide +kernel
theorem dX9_house_170 : decode cX9_house 170 = .ok (.ireturn, 1) := by decide +kernel
theorem dX9_house_171 : decode cX9_house 171 = .ok (.aload_n 0, 1) := by decide +kernel
theorem dX9_house_172 : decode cX9_house 172 = .ok (.getfield 23, 3) := by decide +kernel
theorem dX9_house_175 : decode cX9_house 175 = .ok (.getfield 113, 3) := by decide +kernel
theorem dX9_house_178 : decode cX9_house 178 = .ok (.iload_n 1, 1) := by decide +kernel
theorem dX9_house_179 : decode cX9_house 179 = .ok (.invokevirtual 268, 3) := by decide +kernel
theorem dX9_house_182 : decode cX9_house 182 = .ok (.ireturn, 1) := by decide +kernel
theorem dX9_house_183 : decode cX9_house 183 = .ok (.ldc 248, 2) := by decide +kernel
theorem dX9_house_185 : decode cX9_house 185 = .ok (.ireturn, 1) := by decide +kernel
theorem dX9_beside_0 : decode cX9_beside 0 = .ok (.iload_n 1, 1) := by decide +kernel
theorem dX9_beside_1 : decode cX9_beside 1 = .ok (.invokestatic 271, 3) := by decide +kernel
theorem dX9_beside_4 : decode cX9_beside 4 = .ok (.ifCond .ne 6, 3) := by decide +kernel
theorem dX9_beside_7 : decode cX9_beside 7 = .ok (.bipush (-2), 2) := by decide +kernel
theorem dX9_beside_9 : decode cX9_beside 9 = .ok (.ireturn, 1) := by decide +kernel
theorem dX9_beside_10 : decode cX9_beside 10 = .ok (.aload_n 0, 1) := by decide +kernel
theorem dX9_beside_11 : decode cX9_beside 11 = .ok (.getfield 27, 3) := by decide +kernel
theorem dX9_beside_14 : decode cX9_beside 14 = .ok (.iload_n 1, 1) := by decide +kernel
theorem dX9_beside_15 : decode cX9_beside 15 = .ok (.aaload, 1) := by decide +kernel
theorem dX9_beside_16 : decode cX9_beside 16 = .ok (.astore_n 2, 1) := by decide +kernel
theorem dX9_beside_17 : decode cX9_beside 17 = .ok (.aload_n 2, 1) := by decide +kernel
