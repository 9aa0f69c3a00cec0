theorem dX5_hasRun_30 : decode cX5_hasRun 30 = .ok (.iconst 0, 1) := by decide +kernel
theorem dX5_hasRun_31 : decode cX5_hasRun 31 = .ok (.ireturn, 1) := by decide +kernel
theorem dX6_begin_0 : decode cX6_begin 0 = .ok (.aload_n 0, 1) := by decide +kernel
theorem dX6_begin_1 : decode cX6_begin 1 = .ok (.getfield 12, 3) := by decide +kernel
theorem dX6_begin_4 : decode cX6_begin 4 = .ok (.aload_n 1, 1) := by decide +kernel
theorem dX6_begin_5 : decode cX6_begin 5 = .ok (.invokevirtual 46, 3) := by decide +kernel
theorem dX6_begin_8 : decode cX6_begin 8 = .ok (.aload_n 0, 1) := by decide +kernel
theorem dX6_begin_9 : decode cX6_begin 9 = .ok (.getfield 21, 3) := by decide +kernel
theorem dX6_begin_12 : decode cX6_begin 12 = .ok (.aload_n 2, 1) := by decide +kernel
theorem dX6_begin_13 : decode cX6_begin 13 = .ok (.invokevirtual 50, 3) := by decide +kernel
theorem dX6_begin_16 : decode cX6_begin 16 = .ok (.aload_n 0, 1) := by decide +kernel
theorem dX6_begin_17 : decode cX6_begin 17 = .ok (.getfield 28, 3) := by decide +kernel
theorem dX6_begin_20 : decode cX6_begin 20 = .ok (.invokevirtual 53, 3) := by decide +kernel
theorem dX6_begin_23 : decode cX6_begin 23 = .ok (.aload_n 0, 1) := by decide +kernel
theorem dX6_begin_24 : decode cX6_begin 24 = .ok (.getfield 35, 3) := by decide +kernel
theorem dX6_begin_27 : decode cX6_begin 27 = .ok (.iconst 0, 1) := by decide +kernel
theorem dX6_begin_28 : decode cX6_begin 28 = .ok (.putfield 56, 3) := by decide +kernel
theorem dX6_begin_31 : decode cX6_begin 31 = .ok (.aload_n 0, 1) := by decide +kernel
theorem dX6_begin_32 : decode cX6_begin 32 = .ok (.getfield 12, 3) := by decide +kernel
theorem dX6_begin_35 : decode cX6_begin 35 = .ok (.getfield 60, 3) := by decide +kernel
theorem dX6_begin_38 : decode cX6_begin 38 = .ok (.iconst 0, 1) := by decide +kernel
theorem dX6_begin_39 : decode cX6_begin 39 = .ok (.aload_n 0, 1) := by decide +kernel
theorem dX6_begin_40 : decode cX6_begin 40 = .ok (.getfield 39, 3) := by decide +kernel
theorem dX6_begin_43 : decode cX6_begin 43 = .ok (.iconst 0, 1) := by decide +kernel
theorem dX6_begin_44 : decode cX6_begin 44 = .ok (.bipush 16, 2) := by decide +kernel
theorem dX6_begin_46 : decode cX6_begin 46 = .ok (.invokestatic 63, 3) := by decide +kernel
theorem dX6_begin_49 : decode cX6_begin 49 = .ok (.aload_n 0, 1) := by decide +kernel
theorem dX6_begin_50 : decode cX6_begin 50 = .ok (.iconst 0, 1) := by decide +kernel
theorem dX6_begin_51 : decode cX6_begin 51 = .ok (.putfield 69, 3) := by decide +kernel
theorem dX6_begin_54 : decode cX6_begin 54 = .ok (.aload_n 0, 1) := by decide +kernel
theorem dX6_begin_55 : decode cX6_begin 55 = .ok (.iconst 0, 1) := by decide +kernel
theorem dX6_begin_56 : decode cX6_begin 56 = .ok (.putfield 72, 3) := by decide +kernel
theorem dX6_begin_59 : decode cX6_begin 59 = .ok (.return_, 1) := by decide +kernel
theorem dX6_copy_0 : decode cX6_copy 0 = .ok (.aload_n 0, 1) := by decide +kernel
theorem dX6_copy_1 : decode cX6_copy 1 = .ok (.getfield 12, 3) := by decide +kernel
theorem dX6_copy_4 : decode cX6_copy 4 = .ok (.aload_n 1, 1) := by decide +kernel
theorem dX6_copy_5 : decode cX6_copy 5 = .ok (.getfield 12, 3) := by decide +kernel
theorem dX6_copy_8 : decode cX6_copy 8 = .ok (.invokevirtual 46, 3) := by decide +kernel
theorem dX6_copy_11 : decode cX6_copy 11 = .ok (.aload_n 0, 1) := by decide +kernel
theorem dX6_copy_12 : decode cX6_copy 12 = .ok (.getfield 21, 3) := by decide +kernel
theorem dX6_copy_15 : decode cX6_copy 15 = .ok (.aload_n 1, 1) := by decide +kernel
theorem dX6_copy_16 : decode cX6_copy 16 = .ok (.getfield 21, 3) := by decide +kernel
theorem dX6_copy_19 : decode cX6_copy 19 = .ok (.invokevirtual 50, 3) := by decide +kernel
theorem dX6_copy_22 : decode cX6_copy 22 = .ok (.aload_n 0, 1) := by decide +kernel
theorem dX6_copy_23 : decode cX6_copy 23 = .ok (.getfield 28, 3) := by decide +kernel
theorem dX6_copy_26 : decode cX6_copy 26 = .ok (.aload_n 1, 1) := by decide +kernel
theorem dX6_copy_27 : decode cX6_copy 27 = .ok (.getfield 28, 3) := by decide +kernel
theorem dX6_copy_30 : decode cX6_copy 30 = .ok (.invokevirtual 75, 3) := by decide +kernel
theorem dX6_copy_33 : decode cX6_copy 33 = .ok (.aload_n 0, 1) := by decide +kernel
theorem dX6_copy_34 : decode cX6_copy 34 = .ok (.getfield 35, 3) := by decide +kernel
theorem dX6_copy_37 : decode cX6_copy 37 = .ok (.aload_n 1, 1) := by decide +kernel
theorem dX6_copy_38 : decode cX6_copy 38 = .ok (.getfield 35, 3) := by decide +kernel
theorem dX6_copy_41 : decode cX6_copy 41 = .ok (.invokevirtual 78, 3) := by decide +kernel
theorem dX6_copy_44 : decode cX6_copy 44 = .ok (.aload_n 1, 1) := by decide +kernel
theorem dX6_copy_45 : decode cX6_copy 45 = .ok (.getfield 39, 3) := by decide +kernel
theorem dX6_copy_48 : decode cX6_copy 48 = .ok (.iconst 0, 1) := by decide +kernel
theorem dX6_copy_49 : decode cX6_copy 49 = .ok (.aload_n 0, 1) := by decide +kernel
theorem dX6_copy_50 : decode cX6_copy 50 = .ok (.getfield 39, 3) := by decide +kernel
theorem dX6_copy_53 : decode cX6_copy 53 = .ok (.iconst 0, 1) := by decide +kernel
theorem dX6_copy_54 : decode cX6_copy 54 = .ok (.bipush 16, 2) := by decide +kernel
theorem dX6_copy_56 : decode cX6_copy 56 = .ok (.invokestatic 63, 3) := by decide +kernel
theorem dX6_copy_59 : decode cX6_copy 59 = .ok (.aload_n 0, 1) := by decide +kernel
theorem dX6_copy_60 : decode cX6_copy 60 = .ok (.aload_n 1, 1) := by decide +kernel
theorem dX6_copy_61 : decode cX6_copy 61 = .ok (.getfield 69, 3) := by decide +kernel
theorem dX6_copy_64 : decode cX6_copy 64 = .ok (.putfield 69, 3) := by decide +kernel
theorem dX6_copy_67 : decode cX6_copy 67 = .ok (.aload_n 0, 1) := by decide +kernel
theorem dX6_copy_68 : decode cX6_copy 68 = .ok (.aload_n 1, 1) := by decide +kernel
theorem dX6_copy_69 : decode cX6_copy 69 = .ok (.getfield 72, 3) := by decide +kernel
theorem dX6_copy_72 : decode cX6_copy 72 = .ok (.putfield 72, 3) := by decide +kernel
theorem dX6_copy_75 : decode cX6_copy 75 = .ok (.return_, 1) := by decide +kernel
theorem dX6_knew_0 : decode cX6_knew 0 = .ok (.aload_n 0, 1) := by decide +kernel
theorem dX6_knew_1 : decode cX6_knew 1 = .ok (.getfield 39, 3) := by decide +kernel
theorem dX6_knew_4 : decode cX6_knew 4 = .ok (.iload_n 1, 1) := by decide +kernel
theorem dX6_knew_5 : decode cX6_knew 5 = .ok (.iaload, 1) := by decide +kernel
theorem dX6_knew_6 : decode cX6_knew 6 = .ok (.iload_n 2, 1) := by decide +kernel
theorem dX6_knew_7 : decode cX6_knew 7 = .ok (.ishr, 1) := by decide +kernel
theorem dX6_knew_8 : decode cX6_knew 8 = .ok (.iconst 1, 1) := by decide +kernel
theorem dX6_knew_9 : decode cX6_knew 9 = .ok (.iand, 1) := by decide +kernel
theorem dX6_knew_10 : decode cX6_knew 10 = .ok (.ireturn, 1) := by decide +kernel
theorem dX6_acquaint_0 : decode cX6_acquaint 0 = .ok (.aload_n 0, 1) := by decide +kernel
theorem dX6_acquaint_1 : decode cX6_acquaint 1 = .ok (.iload_n 1, 1) := by decide +kernel
theorem dX6_acquaint_2 : decode cX6_acquaint 2 = .ok (.dup2, 1) := by decide +kernel
theorem dX6_acquaint_3 : decode cX6_acquaint 3 = .ok (.iaload, 1) := by decide +kernel
theorem dX6_acquaint_4 : decode cX6_acquaint 4 = .ok (.iconst 1, 1) := by decide +kernel
theorem dX6_acquaint_5 : decode cX6_acquaint 5 = .ok (.iload_n 2, 1) := by decide +kernel
theorem dX6_acquaint_6 : decode cX6_acquaint 6 = .ok (.ishl, 1) := by decide +kernel
theorem dX6_acquaint_7 : decode cX6_acquaint 7 = .ok (.ior, 1) := by decide +kernel
theorem dX6_acquaint_8 : decode cX6_acquaint 8 = .ok (.iastore, 1) := by decide +kernel
theorem dX6_acquaint_9 : decode cX6_acquaint 9 = .ok (.aload_n 0, 1) := by decide +kernel
theorem dX6_acquaint_10 : decode cX6_acquaint 10 = .ok (.iload_n 2, 1) := by decide +kernel
theorem dX6_acquaint_11 : decode cX6_acquaint 11 = .ok (.dup2, 1) := by decide +kernel
theorem dX6_acquaint_12 : decode cX6_acquaint 12 = .ok (.iaload, 1) := by decide +kernel
theorem dX6_acquaint_13 : decode cX6_acquaint 13 = .ok (.iconst 1, 1) := by decide +kernel
theorem dX6_acquaint_14 : decode cX6_acquaint 14 = .ok (.iload_n 1, 1) := by decide +kernel
theorem dX6_acquaint_15 : decode cX6_acquaint 15 = .ok (.ishl, 1) := by decide +kernel
theorem dX6_acquaint_16 : decode cX6_acquaint 16 = .ok (.ior, 1) := by decide +kernel
theorem dX6_acquaint_17 : decode cX6_acquaint 17 = .ok (.iastore, 1) := by decide +kernel
theorem dX6_acquaint_18 : decode cX6_acquaint 18 = .ok (.return_, 1) := by decide +kernel
theorem dX6_barrier_0 : decode cX6_barrier 0 = .ok (.aload_n 0, 1) := by decide +kernel
theorem dX6_barrier_1 : decode cX6_barrier 1 = .ok (.getfield 12, 3) := by decide +kernel
theorem dX6_barrier_4 : decode cX6_barrier 4 = .ok (.iload_n 1, 1) := by decide +kernel
theorem dX6_barrier_5 : decode cX6_barrier 5 = .ok (.aload_n 0, 1) := by decide +kernel
theorem dX6_barrier_6 : decode cX6_barrier 6 = .ok (.getfield 69, 3) := by decide +kernel
theorem dX6_barrier_9 : decode cX6_barrier 9 = .ok (.invokevirtual 81, 3) := by decide +kernel
theorem dX6_barrier_12 : decode cX6_barrier 12 = .ok (.ifCond .eq 27, 3) := by decide +kernel
theorem dX6_barrier_15 : decode cX6_barrier 15 = .ok (.aload_n 0, 1) := by decide +kernel
theorem dX6_barrier_16 : decode cX6_barrier 16 = .ok (.getfield 12, 3) := by decide +kernel
theorem dX6_barrier_19 : decode cX6_barrier 19 = .ok (.iload_n 2, 1) := by decide +kernel
theorem dX6_barrier_20 : decode cX6_barrier 20 = .ok (.aload_n 0, 1) := by decide +kernel
theorem dX6_barrier_21 : decode cX6_barrier 21 = .ok (.getfield 69, 3) := by decide +kernel
theorem dX6_barrier_24 : decode cX6_barrier 24 = .ok (.invokevirtual 81, 3) := by decide +kernel
theorem dX6_barrier_27 : decode cX6_barrier 27 = .ok (.ifCond .eq 12, 3) := by decide +kernel
theorem dX6_barrier_30 : decode cX6_barrier 30 = .ok (.aload_n 0, 1) := by decide +kernel
theorem dX6_barrier_31 : decode cX6_barrier 31 = .ok (.iload_n 1, 1) := by decide +kernel
theorem dX6_barrier_32 : decode cX6_barrier 32 = .ok (.iload_n 2, 1) := by decide +kernel
theorem dX6_barrier_33 : decode cX6_barrier 33 = .ok (.invokevirtual 85, 3) := by decide +kernel
theorem dX6_barrier_36 : decode cX6_barrier 36 = .ok (.ifCond .ne 5, 3) := by decide +kernel
theorem dX6_barrier_39 : decode cX6_barrier 39 = .ok (.iconst 1, 1) := by decide +kernel
theorem dX6_barrier_40 : decode cX6_barrier 40 = .ok (.ireturn, 1) := by decide +kernel
theorem dX6_barrier_41 : decode cX6_barrier 41 = .ok (.iload_n 3, 1) := by decide +kernel
theorem dX6_barrier_42 : decode cX6_barrier 42 = .ok (.iconst 2, 1) := by decide +kernel
theorem dX6_barrier_43 : decode cX6_barrier 43 = .ok (.if_icmp .ge 5, 3) := by decide +kernel
theorem dX6_barrier_46 : decode cX6_barrier 46 = .ok (.iconst 0, 1) := by decide +kernel
theorem dX6_barrier_47 : decode cX6_barrier 47 = .ok (.ireturn, 1) := by decide +kernel
theorem dX6_barrier_48 : decode cX6_barrier 48 = .ok (.aload_n 0, 1) := by decide +kernel
theorem dX6_barrier_49 : decode cX6_barrier 49 = .ok (.getfield 69, 3) := by decide +kernel
theorem dX6_barrier_52 : decode cX6_barrier 52 = .ok (.bipush 7, 2) := by decide +kernel
theorem dX6_barrier_54 : decode cX6_barrier 54 = .ok (.irem, 1) := by decide +kernel
theorem dX6_barrier_55 : decode cX6_barrier 55 = .ok (.aload_n 0, 1) := by decide +kernel
theorem dX6_barrier_56 : decode cX6_barrier 56 = .ok (.getfield 12, 3) := by decide +kernel
theorem dX6_barrier_59 : decode cX6_barrier 59 = .ok (.getfield 88, 3) := by decide +kernel
theorem dX6_barrier_62 : decode cX6_barrier 62 = .ok (.iload_n 2, 1) := by decide +kernel
theorem dX6_barrier_63 : decode cX6_barrier 63 = .ok (.iaload, 1) := by decide +kernel
theorem dX6_barrier_64 : decode cX6_barrier 64 = .ok (.if_icmp .eq 5, 3) := by decide +kernel
theorem dX6_barrier_67 : decode cX6_barrier 67 = .ok (.iconst 2, 1) := by decide +kernel
theorem dX6_barrier_68 : decode cX6_barrier 68 = .ok (.ireturn, 1) := by decide +kernel
theorem dX6_barrier_69 : decode cX6_barrier 69 = .ok (.aload_n 0, 1) := by decide +kernel
theorem dX6_barrier_70 : decode cX6_barrier 70 = .ok (.getfield 12, 3) := by decide +kernel
theorem dX6_barrier_73 : decode cX6_barrier 73 = .ok (.iload_n 1, 1) := by decide +kernel
theorem dX6_barrier_74 : decode cX6_barrier 74 = .ok (.aload_n 0, 1) := by decide +kernel
theorem dX6_barrier_75 : decode cX6_barrier 75 = .ok (.getfield 69, 3) := by decide +kernel
theorem dX6_barrier_78 : decode cX6_barrier 78 = .ok (.invokevirtual 91, 3) := by decide +kernel
theorem dX6_barrier_81 : decode cX6_barrier 81 = .ok (.ifCond .eq 7, 3) := by decide +kernel
theorem dX6_barrier_84 : decode cX6_barrier 84 = .ok (.iconst 3, 1) := by decide +kernel
theorem dX6_barrier_85 : decode cX6_barrier 85 = .ok (.goto 4, 3) := by decide +kernel
theorem dX6_barrier_88 : decode cX6_barrier 88 = .ok (.iconst 0, 1) := by decide +kernel
theorem dX6_barrier_89 : decode cX6_barrier 89 = .ok (.ireturn, 1) := by decide +kernel
theorem dX6_isOpenTo_0 : decode cX6_isOpenTo 0 = .ok (.aload_n 0, 1) := by decide +kernel
theorem dX6_isOpenTo_1 : decode cX6_isOpenTo 1 = .ok (.iload_n 1, 1) := by decide +kernel
theorem dX6_isOpenTo_2 : decode cX6_isOpenTo 2 = .ok (.iload_n 2, 1) := by decide +kernel
theorem dX6_isOpenTo_3 : decode cX6_isOpenTo 3 = .ok (.invokevirtual 94, 3) := by decide +kernel
theorem dX6_isOpenTo_6 : decode cX6_isOpenTo 6 = .ok (.iconst 1, 1) := by decide +kernel
theorem dX6_isOpenTo_7 : decode cX6_isOpenTo 7 = .ok (.if_icmp .eq 33, 3) := by decide +kernel
theorem dX6_isOpenTo_10 : decode cX6_isOpenTo 10 = .ok (.aload_n 0, 1) := by decide +kernel
theorem dX6_isOpenTo_11 : decode cX6_isOpenTo 11 = .ok (.getfield 12, 3) := by decide +kernel
theorem dX6_isOpenTo_14 : decode cX6_isOpenTo 14 = .ok (.iload_n 2, 1) := by decide +kernel
theorem dX6_isOpenTo_15 : decode cX6_isOpenTo 15 = .ok (.aload_n 0, 1) := by decide +kernel
theorem dX6_isOpenTo_16 : decode cX6_isOpenTo 16 = .ok (.getfield 69, 3) := by decide +kernel
theorem dX6_isOpenTo_19 : decode cX6_isOpenTo 19 = .ok (.invokevirtual 98, 3) := by decide +kernel
theorem dX6_isOpenTo_22 : decode cX6_isOpenTo 22 = .ok (.ifCond .eq 20, 3) := by decide +kernel
theorem dX6_isOpenTo_25 : decode cX6_isOpenTo 25 = .ok (.aload_n 0, 1) := by decide +kernel
theorem dX6_isOpenTo_26 : decode cX6_isOpenTo 26 = .ok (.getfield 12, 3) := by decide +kernel
theorem dX6_isOpenTo_29 : decode cX6_isOpenTo 29 = .ok (.iload_n 1, 1) := by decide +kernel
theorem dX6_isOpenTo_30 : decode cX6_isOpenTo 30 = .ok (.aload_n 0, 1) := by decide +kernel
theorem dX6_isOpenTo_31 : decode cX6_isOpenTo 31 = .ok (.getfield 69, 3) := by decide +kernel
theorem dX6_isOpenTo_34 : decode cX6_isOpenTo 34 = .ok (.invokevirtual 98, 3) := by decide +kernel
theorem dX6_isOpenTo_37 : decode cX6_isOpenTo 37 = .ok (.ifCond .ne 5, 3) := by decide +kernel
theorem dX6_isOpenTo_40 : decode cX6_isOpenTo 40 = .ok (.iconst 1, 1) := by decide +kernel
theorem dX6_isOpenTo_41 : decode cX6_isOpenTo 41 = .ok (.ireturn, 1) := by decide +kernel
theorem dX6_isOpenTo_42 : decode cX6_isOpenTo 42 = .ok (.aload_n 0, 1) := by decide +kernel
theorem dX6_isOpenTo_43 : decode cX6_isOpenTo 43 = .ok (.getfield 39, 3) := by decide +kernel
theorem dX6_isOpenTo_46 : decode cX6_isOpenTo 46 = .ok (.iload_n 1, 1) := by decide +kernel
theorem dX6_isOpenTo_47 : decode cX6_isOpenTo 47 = .ok (.iaload, 1) := by decide +kernel
theorem dX6_isOpenTo_48 : decode cX6_isOpenTo 48 = .ok (.aload_n 0, 1) := by decide +kernel
theorem dX6_isOpenTo_49 : decode cX6_isOpenTo 49 = .ok (.getfield 39, 3) := by decide +kernel
theorem dX6_isOpenTo_52 : decode cX6_isOpenTo 52 = .ok (.iload_n 2, 1) := by decide +kernel
theorem dX6_isOpenTo_53 : decode cX6_isOpenTo 53 = .ok (.iaload, 1) := by decide +kernel
theorem dX6_isOpenTo_54 : decode cX6_isOpenTo 54 = .ok (.iand, 1) := by decide +kernel
theorem dX6_isOpenTo_55 : decode cX6_isOpenTo 55 = .ok (.invokestatic 101, 3) := by decide +kernel
theorem dX6_isOpenTo_58 : decode cX6_isOpenTo 58 = .ok (.aload_n 0, 1) := by decide +kernel
theorem dX6_isOpenTo_59 : decode cX6_isOpenTo 59 = .ok (.getfield 12, 3) := by decide +kernel
theorem dX6_isOpenTo_62 : decode cX6_isOpenTo 62 = .ok (.getfield 107, 3) := by decide +kernel
theorem dX6_isOpenTo_65 : decode cX6_isOpenTo 65 = .ok (.if_icmp .lt 7, 3) := by decide +kernel
theorem dX6_isOpenTo_68 : decode cX6_isOpenTo 68 = .ok (.iconst 1, 1) := by decide +kernel
theorem dX6_isOpenTo_69 : decode cX6_isOpenTo 69 = .ok (.goto 4, 3) := by decide +kernel
theorem dX6_isOpenTo_72 : decode cX6_isOpenTo 72 = .ok (.iconst 0, 1) := by decide +kernel
theorem dX6_isOpenTo_73 : decode cX6_isOpenTo 73 = .ok (.ireturn, 1) := by decide +kernel
theorem dX6_act_0 : decode cX6_act 0 = .ok (.aload_n 0, 1) := by decide +kernel
theorem dX6_act_1 : decode cX6_act 1 = .ok (.aload_n 0, 1) := by decide +kernel
theorem dX6_act_2 : decode cX6_act 2 = .ok (.getfield 28, 3) := by decide +kernel
theorem dX6_act_5 : decode cX6_act 5 = .ok (.aload_n 0, 1) := by decide +kernel
theorem dX6_act_6 : decode cX6_act 6 = .ok (.getfield 21, 3) := by decide +kernel
theorem dX6_act_9 : decode cX6_act 9 = .ok (.iload_n 1, 1) := by decide +kernel
theorem dX6_act_10 : decode cX6_act 10 = .ok (.iload_n 2, 1) := by decide +kernel
theorem dX6_act_11 : decode cX6_act 11 = .ok (.iload_n 3, 1) := by decide +kernel
theorem dX6_act_12 : decode cX6_act 12 = .ok (.aload_n 0, 1) := by decide +kernel
theorem dX6_act_13 : decode cX6_act 13 = .ok (.getfield 69, 3) := by decide +kernel
theorem dX6_act_16 : decode cX6_act 16 = .ok (.aload_n 0, 1) := by decide +kernel
theorem dX6_act_17 : decode cX6_act 17 = .ok (.iload_n 1, 1) := by decide +kernel
theorem dX6_act_18 : decode cX6_act 18 = .ok (.iload_n 2, 1) := by decide +kernel
theorem dX6_act_19 : decode cX6_act 19 = .ok (.invokevirtual 94, 3) := by decide +kernel
theorem dX6_act_22 : decode cX6_act 22 = .ok (.invokevirtual 110, 3) := by decide +kernel
theorem dX6_act_25 : decode cX6_act 25 = .ok (.istore 4, 2) := by decide +kernel
theorem dX6_act_27 : decode cX6_act 27 = .ok (.aload_n 0, 1) := by decide +kernel
theorem dX6_act_28 : decode cX6_act 28 = .ok (.dup, 1) := by decide +kernel
theorem dX6_act_29 : decode cX6_act 29 = .ok (.getfield 72, 3) := by decide +kernel
theorem dX6_act_32 : decode cX6_act 32 = .ok (.iload 4, 2) := by decide +kernel
theorem dX6_act_34 : decode cX6_act 34 = .ok (.iadd, 1) := by decide +kernel
theorem dX6_act_35 : decode cX6_act 35 = .ok (.putfield 72, 3) := by decide +kernel
theorem dX6_act_38 : decode cX6_act 38 = .ok (.aload_n 0, 1) := by decide +kernel
theorem dX6_act_39 : decode cX6_act 39 = .ok (.getfield 35, 3) := by decide +kernel
theorem dX6_act_42 : decode cX6_act 42 = .ok (.iload_n 1, 1) := by decide +kernel
theorem dX6_act_43 : decode cX6_act 43 = .ok (.iload_n 2, 1) := by decide +kernel
theorem dX6_act_44 : decode cX6_act 44 = .ok (.iload_n 3, 1) := by decide +kernel
theorem dX6_act_45 : decode cX6_act 45 = .ok (.aload_n 0, 1) := by decide +kernel
theorem dX6_act_46 : decode cX6_act 46 = .ok (.getfield 69, 3) := by decide +kernel
theorem dX6_act_49 : decode cX6_act 49 = .ok (.invokevirtual 114, 3) := by decide +kernel
theorem dX6_act_52 : decode cX6_act 52 = .ok (.iload_n 3, 1) := by decide +kernel
theorem dX6_act_53 : decode cX6_act 53 = .ok (.iconst 2, 1) := by decide +kernel
theorem dX6_act_54 : decode cX6_act 54 = .ok (.if_icmp .lt 12, 3) := by decide +kernel
theorem dX6_act_57 : decode cX6_act 57 = .ok (.aload_n 0, 1) := by decide +kernel
theorem dX6_act_58 : decode cX6_act 58 = .ok (.getfield 39, 3) := by decide +kernel
theorem dX6_act_61 : decode cX6_act 61 = .ok (.iload_n 1, 1) := by decide +kernel
theorem dX6_act_62 : decode cX6_act 62 = .ok (.iload_n 2, 1) := by decide +kernel
theorem dX6_act_63 : decode cX6_act 63 = .ok (.invokestatic 118, 3) := by decide +kernel
theorem dX6_act_66 : decode cX6_act 66 = .ok (.iload 4, 2) := by decide +kernel
theorem dX6_act_68 : decode cX6_act 68 = .ok (.ireturn, 1) := by decide +kernel
theorem dX6_chance_0 : decode cX6_chance 0 = .ok (.iconst 1, 1) := by decide +kernel
theorem dX6_chance_1 : decode cX6_chance 1 = .ok (.aload_n 0, 1) := by decide +kernel
theorem dX6_chance_2 : decode cX6_chance 2 = .ok (.iload_n 1, 1) := by decide +kernel
theorem dX6_chance_3 : decode cX6_chance 3 = .ok (.iload_n 2, 1) := by decide +kernel
theorem dX6_chance_4 : decode cX6_chance 4 = .ok (.invokevirtual 94, 3) := by decide +kernel
theorem dX6_chance_7 : decode cX6_chance 7 = .ok (.isub, 1) := by decide +kernel
theorem dX6_chance_8 : decode cX6_chance 8 = .ok (.istore_n 3, 1) := by decide +kernel
theorem dX6_chance_9 : decode cX6_chance 9 = .ok (.aload_n 0, 1) := by decide +kernel
theorem dX6_chance_10 : decode cX6_chance 10 = .ok (.getfield 39, 3) := by decide +kernel
theorem dX6_chance_13 : decode cX6_chance 13 = .ok (.iload_n 1, 1) := by decide +kernel
theorem dX6_chance_14 : decode cX6_chance 14 = .ok (.iload_n 2, 1) := by decide +kernel
theorem dX6_chance_15 : decode cX6_chance 15 = .ok (.invokestatic 118, 3) := by decide +kernel
theorem dX6_chance_18 : decode cX6_chance 18 = .ok (.aload_n 0, 1) := by decide +kernel
theorem dX6_chance_19 : decode cX6_chance 19 = .ok (.getfield 35, 3) := by decide +kernel
theorem dX6_chance_22 : decode cX6_chance 22 = .ok (.iload_n 1, 1) := by decide +kernel
theorem dX6_chance_23 : decode cX6_chance 23 = .ok (.iload_n 2, 1) := by decide +kernel
theorem dX6_chance_24 : decode cX6_chance 24 = .ok (.iconst 4, 1) := by decide +kernel
theorem dX6_chance_25 : decode cX6_chance 25 = .ok (.aload_n 0, 1) := by decide +kernel
theorem dX6_chance_26 : decode cX6_chance 26 = .ok (.getfield 69, 3) := by decide +kernel
theorem dX6_chance_29 : decode cX6_chance 29 = .ok (.invokevirtual 114, 3) := by decide +kernel
theorem dX6_chance_32 : decode cX6_chance 32 = .ok (.iload_n 3, 1) := by decide +kernel
theorem dX6_chance_33 : decode cX6_chance 33 = .ok (.ireturn, 1) := by decide +kernel
theorem dX6_deal_0 : decode cX6_deal 0 = .ok (.aload_n 1, 1) := by decide +kernel
theorem dX6_deal_1 : decode cX6_deal 1 = .ok (.iload_n 3, 1) := by decide +kernel
theorem dX6_deal_2 : decode cX6_deal 2 = .ok (.iload 4, 2) := by decide +kernel
theorem dX6_deal_4 : decode cX6_deal 4 = .ok (.iload 5, 2) := by decide +kernel
theorem dX6_deal_6 : decode cX6_deal 6 = .ok (.invokevirtual 122, 3) := by decide +kernel
theorem dX6_deal_9 : decode cX6_deal 9 = .ok (.istore 8, 2) := by decide +kernel
theorem dX6_deal_11 : decode cX6_deal 11 = .ok (.aload_n 2, 1) := by decide +kernel
theorem dX6_deal_12 : decode cX6_deal 12 = .ok (.iload 5, 2) := by decide +kernel
theorem dX6_deal_14 : decode cX6_deal 14 = .ok (.aload_n 0, 1) := by decide +kernel
theorem dX6_deal_15 : decode cX6_deal 15 = .ok (.getfield 12, 3) := by decide +kernel
theorem dX6_deal_18 : decode cX6_deal 18 = .ok (.getfield 126, 3) := by decide +kernel
theorem dX6_deal_21 : decode cX6_deal 21 = .ok (.iload_n 3, 1) := by decide +kernel
theorem dX6_deal_22 : decode cX6_deal 22 = .ok (.iaload, 1) := by decide +kernel
theorem dX6_deal_23 : decode cX6_deal 23 = .ok (.aload_n 0, 1) := by decide +kernel
theorem dX6_deal_24 : decode cX6_deal 24 = .ok (.getfield 12, 3) := by decide +kernel
theorem dX6_deal_27 : decode cX6_deal 27 = .ok (.getfield 126, 3) := by decide +kernel
theorem dX6_deal_30 : decode cX6_deal 30 = .ok (.iload 4, 2) := by decide +kernel
theorem dX6_deal_32 : decode cX6_deal 32 = .ok (.iaload, 1) := by decide +kernel
theorem dX6_deal_33 : decode cX6_deal 33 = .ok (.aload_n 1, 1) := by decide +kernel
theorem dX6_deal_34 : decode cX6_deal 34 = .ok (.getfield 129, 3) := by decide +kernel
theorem dX6_deal_37 : decode cX6_deal 37 = .ok (.iload 4, 2) := by decide +kernel
theorem dX6_deal_39 : decode cX6_deal 39 = .ok (.iaload, 1) := by decide +kernel
theorem dX6_deal_40 : decode cX6_deal 40 = .ok (.iload 6, 2) := by decide +kernel
theorem dX6_deal_42 : decode cX6_deal 42 = .ok (.iload 7, 2) := by decide +kernel
theorem dX6_deal_44 : decode cX6_deal 44 = .ok (.invokevirtual 132, 3) := by decide +kernel
theorem dX6_deal_47 : decode cX6_deal 47 = .ok (.istore 9, 2) := by decide +kernel
theorem dX6_deal_49 : decode cX6_deal 49 = .ok (.iload 9, 2) := by decide +kernel
theorem dX6_deal_51 : decode cX6_deal 51 = .ok (.ifCond .lt 52, 3) := by decide +kernel
theorem dX6_deal_54 : decode cX6_deal 54 = .ok (.aload_n 1, 1) := by decide +kernel
theorem dX6_deal_55 : decode cX6_deal 55 = .ok (.iload 4, 2) := by decide +kernel
theorem dX6_deal_57 : decode cX6_deal 57 = .ok (.iload_n 3, 1) := by decide +kernel
theorem dX6_deal_58 : decode cX6_deal 58 = .ok (.aload_n 2, 1) := by decide +kernel
theorem dX6_deal_59 : decode cX6_deal 59 = .ok (.getfield 136, 3) := by decide +kernel
theorem dX6_deal_62 : decode cX6_deal 62 = .ok (.iload 9, 2) := by decide +kernel
theorem dX6_deal_64 : decode cX6_deal 64 = .ok (.iaload, 1) := by decide +kernel
theorem dX6_deal_65 : decode cX6_deal 65 = .ok (.invokestatic 139, 3) := by decide +kernel
theorem dX6_deal_68 : decode cX6_deal 68 = .ok (.ifCond .ne 35, 3) := by decide +kernel
theorem dX6_deal_71 : decode cX6_deal 71 = .ok (.aload_n 1, 1) := by decide +kernel
theorem dX6_deal_72 : decode cX6_deal 72 = .ok (.iload 4, 2) := by decide +kernel
theorem dX6_deal_74 : decode cX6_deal 74 = .ok (.iload_n 3, 1) := by decide +kernel
theorem dX6_deal_75 : decode cX6_deal 75 = .ok (.aload_n 2, 1) := by decide +kernel
theorem dX6_deal_76 : decode cX6_deal 76 = .ok (.getfield 136, 3) := by decide +kernel
theorem dX6_deal_79 : decode cX6_deal 79 = .ok (.iload 9, 2) := by decide +kernel
theorem dX6_deal_81 : decode cX6_deal 81 = .ok (.iaload, 1) := by decide +kernel
theorem dX6_deal_82 : decode cX6_deal 82 = .ok (.sipush 399, 3) := by decide +kernel
theorem dX6_deal_85 : decode cX6_deal 85 = .ok (.iload 6, 2) := by decide +kernel
theorem dX6_deal_87 : decode cX6_deal 87 = .ok (.aload_n 2, 1) := by decide +kernel
theorem dX6_deal_88 : decode cX6_deal 88 = .ok (.getfield 143, 3) := by decide +kernel
theorem dX6_deal_91 : decode cX6_deal 91 = .ok (.iload 9, 2) := by decide +kernel
theorem dX6_deal_93 : decode cX6_deal 93 = .ok (.iaload, 1) := by decide +kernel
theorem dX6_deal_94 : decode cX6_deal 94 = .ok (.iadd, 1) := by decide +kernel
theorem dX6_deal_95 : decode cX6_deal 95 = .ok (.invokestatic 146, 3) := by decide +kernel
theorem dX6_deal_98 : decode cX6_deal 98 = .ok (.iload 6, 2) := by decide +kernel
theorem dX6_deal_100 : decode cX6_deal 100 = .ok (.invokevirtual 151, 3) := by decide +kernel
theorem dX6_deal_103 : decode cX6_deal 103 = .ok (.iload 8, 2) := by decide +kernel
theorem dX6_deal_105 : decode cX6_deal 105 = .ok (.ireturn, 1) := by decide +kernel
theorem dX6_isOwed_0 : decode cX6_isOwed 0 = .ok (.aload_n 0, 1) := by decide +kernel
theorem dX6_isOwed_1 : decode cX6_isOwed 1 = .ok (.iload_n 1, 1) := by decide +kernel
theorem dX6_isOwed_2 : decode cX6_isOwed 2 = .ok (.iload_n 2, 1) := by decide +kernel
theorem dX6_isOwed_3 : decode cX6_isOwed 3 = .ok (.invokevirtual 154, 3) := by decide +kernel
theorem dX6_isOwed_6 : decode cX6_isOwed 6 = .ok (.iload_n 3, 1) := by decide +kernel
theorem dX6_isOwed_7 : decode cX6_isOwed 7 = .ok (.ishr, 1) := by decide +kernel
theorem dX6_isOwed_8 : decode cX6_isOwed 8 = .ok (.iconst 1, 1) := by decide +kernel
theorem dX6_isOwed_9 : decode cX6_isOwed 9 = .ok (.iand, 1) := by decide +kernel
theorem dX6_isOwed_10 : decode cX6_isOwed 10 = .ok (.iconst 1, 1) := by decide +kernel
theorem dX6_isOwed_11 : decode cX6_isOwed 11 = .ok (.if_icmp .ne 7, 3) := by decide +kernel
theorem dX6_isOwed_14 : decode cX6_isOwed 14 = .ok (.iconst 1, 1) := by decide +kernel
theorem dX6_isOwed_15 : decode cX6_isOwed 15 = .ok (.goto 4, 3) := by decide +kernel
theorem dX6_isOwed_18 : decode cX6_isOwed 18 = .ok (.iconst 0, 1) := by decide +kernel
theorem dX6_isOwed_19 : decode cX6_isOwed 19 = .ok (.ireturn, 1) := by decide +kernel
theorem dX6_wouldMake_0 : decode cX6_wouldMake 0 = .ok (.aload_n 0, 1) := by decide +kernel
theorem dX6_wouldMake_1 : decode cX6_wouldMake 1 = .ok (.getfield 21, 3) := by decide +kernel
theorem dX6_wouldMake_4 : decode cX6_wouldMake 4 = .ok (.iload_n 3, 1) := by decide +kernel
theorem dX6_wouldMake_5 : decode cX6_wouldMake 5 = .ok (.aload_n 0, 1) := by decide +kernel
theorem dX6_wouldMake_6 : decode cX6_wouldMake 6 = .ok (.getfield 12, 3) := by decide +kernel
theorem dX6_wouldMake_9 : decode cX6_wouldMake 9 = .ok (.getfield 126, 3) := by decide +kernel
theorem dX6_wouldMake_12 : decode cX6_wouldMake 12 = .ok (.iload_n 1, 1) := by decide +kernel
theorem dX6_wouldMake_13 : decode cX6_wouldMake 13 = .ok (.iaload, 1) := by decide +kernel
theorem dX6_wouldMake_14 : decode cX6_wouldMake 14 = .ok (.aload_n 0, 1) := by decide +kernel
theorem dX6_wouldMake_15 : decode cX6_wouldMake 15 = .ok (.getfield 12, 3) := by decide +kernel
theorem dX6_wouldMake_18 : decode cX6_wouldMake 18 = .ok (.getfield 126, 3) := by decide +kernel
theorem dX6_wouldMake_21 : decode cX6_wouldMake 21 = .ok (.iload_n 2, 1) := by decide +kernel
theorem dX6_wouldMake_22 : decode cX6_wouldMake 22 = .ok (.iaload, 1) := by decide +kernel
theorem dX6_wouldMake_23 : decode cX6_wouldMake 23 = .ok (.aload_n 0, 1) := by decide +kernel
theorem dX6_wouldMake_24 : decode cX6_wouldMake 24 = .ok (.getfield 28, 3) := by decide +kernel
theorem dX6_wouldMake_27 : decode cX6_wouldMake 27 = .ok (.getfield 129, 3) := by decide +kernel
theorem dX6_wouldMake_30 : decode cX6_wouldMake 30 = .ok (.iload_n 2, 1) := by decide +kernel
theorem dX6_wouldMake_31 : decode cX6_wouldMake 31 = .ok (.iaload, 1) := by decide +kernel
theorem dX6_wouldMake_32 : decode cX6_wouldMake 32 = .ok (.aload_n 0, 1) := by decide +kernel
theorem dX6_wouldMake_33 : decode cX6_wouldMake 33 = .ok (.getfield 69, 3) := by decide +kernel
theorem dX6_wouldMake_36 : decode cX6_wouldMake 36 = .ok (.aload_n 0, 1) := by decide +kernel
theorem dX6_wouldMake_37 : decode cX6_wouldMake 37 = .ok (.iload_n 1, 1) := by decide +kernel
theorem dX6_wouldMake_38 : decode cX6_wouldMake 38 = .ok (.iload_n 2, 1) := by decide +kernel
theorem dX6_wouldMake_39 : decode cX6_wouldMake 39 = .ok (.invokevirtual 94, 3) := by decide +kernel
theorem dX6_wouldMake_42 : decode cX6_wouldMake 42 = .ok (.invokevirtual 132, 3) := by decide +kernel
theorem dX6_wouldMake_45 : decode cX6_wouldMake 45 = .ok (.istore 4, 2) := by decide +kernel
theorem dX6_wouldMake_47 : decode cX6_wouldMake 47 = .ok (.iload 4, 2) := by decide +kernel
theorem dX6_wouldMake_49 : decode cX6_wouldMake 49 = .ok (.ifCond .lt 25, 3) := by decide +kernel
theorem dX6_wouldMake_52 : decode cX6_wouldMake 52 = .ok (.aload_n 0, 1) := by decide +kernel
theorem dX6_wouldMake_53 : decode cX6_wouldMake 53 = .ok (.getfield 28, 3) := by decide +kernel
theorem dX6_wouldMake_56 : decode cX6_wouldMake 56 = .ok (.iload_n 2, 1) := by decide +kernel
theorem dX6_wouldMake_57 : decode cX6_wouldMake 57 = .ok (.iload_n 1, 1) := by decide +kernel
theorem dX6_wouldMake_58 : decode cX6_wouldMake 58 = .ok (.aload_n 0, 1) := by decide +kernel
theorem dX6_wouldMake_59 : decode cX6_wouldMake 59 = .ok (.getfield 21, 3) := by decide +kernel
theorem dX6_wouldMake_62 : decode cX6_wouldMake 62 = .ok (.getfield 136, 3) := by decide +kernel
theorem dX6_wouldMake_65 : decode cX6_wouldMake 65 = .ok (.iload 4, 2) := by decide +kernel
theorem dX6_wouldMake_67 : decode cX6_wouldMake 67 = .ok (.iaload, 1) := by decide +kernel
theorem dX6_wouldMake_68 : decode cX6_wouldMake 68 = .ok (.invokestatic 139, 3) := by decide +kernel
theorem dX6_wouldMake_71 : decode cX6_wouldMake 71 = .ok (.ifCond .eq 5, 3) := by decide +kernel
theorem dX6_wouldMake_74 : decode cX6_wouldMake 74 = .ok (.iconst (-1), 1) := by decide +kernel
theorem dX6_wouldMake_75 : decode cX6_wouldMake 75 = .ok (.ireturn, 1) := by decide +kernel
theorem dX6_wouldMake_76 : decode cX6_wouldMake 76 = .ok (.aload_n 0, 1) := by decide +kernel
theorem dX6_wouldMake_77 : decode cX6_wouldMake 77 = .ok (.getfield 21, 3) := by decide +kernel
theorem dX6_wouldMake_80 : decode cX6_wouldMake 80 = .ok (.getfield 136, 3) := by decide +kernel
theorem dX6_wouldMake_83 : decode cX6_wouldMake 83 = .ok (.iload 4, 2) := by decide +kernel
theorem dX6_wouldMake_85 : decode cX6_wouldMake 85 = .ok (.iaload, 1) := by decide +kernel
theorem dX6_wouldMake_86 : decode cX6_wouldMake 86 = .ok (.ireturn, 1) := by decide +kernel
theorem dX6_replay_0 : decode cX6_replay 0 = .ok (.aload_n 2, 1) := by decide +kernel
theorem dX6_replay_1 : decode cX6_replay 1 = .ok (.invokevirtual 53, 3) := by decide +kernel
theorem dX6_replay_4 : decode cX6_replay 4 = .ok (.aload_n 0, 1) := by decide +kernel
theorem dX6_replay_5 : decode cX6_replay 5 = .ok (.getfield 12, 3) := by decide +kernel
theorem dX6_replay_8 : decode cX6_replay 8 = .ok (.getfield 60, 3) := by decide +kernel
theorem dX6_replay_11 : decode cX6_replay 11 = .ok (.iconst 0, 1) := by decide +kernel
theorem dX6_replay_12 : decode cX6_replay 12 = .ok (.aload_n 3, 1) := by decide +kernel
theorem dX6_replay_13 : decode cX6_replay 13 = .ok (.iconst 0, 1) := by decide +kernel
theorem dX6_replay_14 : decode cX6_replay 14 = .ok (.bipush 16, 2) := by decide +kernel
theorem dX6_replay_16 : decode cX6_replay 16 = .ok (.invokestatic 63, 3) := by decide +kernel
theorem dX6_replay_19 : decode cX6_replay 19 = .ok (.iconst 0, 1) := by decide +kernel
theorem dX6_replay_20 : decode cX6_replay 20 = .ok (.istore 4, 2) := by decide +kernel
theorem dX6_replay_22 : decode cX6_replay 22 = .ok (.iload 4, 2) := by decide +kernel
theorem dX6_replay_24 : decode cX6_replay 24 = .ok (.aload_n 0, 1) := by decide +kernel
theorem dX6_replay_25 : decode cX6_replay 25 = .ok (.getfield 35, 3) := by decide +kernel
theorem dX6_replay_28 : decode cX6_replay 28 = .ok (.getfield 56, 3) := by decide +kernel
theorem dX6_replay_31 : decode cX6_replay 31 = .ok (.if_icmp .ge 97, 3) := by decide +kernel
theorem dX6_replay_34 : decode cX6_replay 34 = .ok (.aload_n 0, 1) := by decide +kernel
theorem dX6_replay_35 : decode cX6_replay 35 = .ok (.getfield 35, 3) := by decide +kernel
theorem dX6_replay_38 : decode cX6_replay 38 = .ok (.getfield 157, 3) := by decide +kernel
theorem dX6_replay_41 : decode cX6_replay 41 = .ok (.iload 4, 2) := by decide +kernel
theorem dX6_replay_43 : decode cX6_replay 43 = .ok (.iaload, 1) := by decide +kernel
theorem dX6_replay_44 : decode cX6_replay 44 = .ok (.istore 5, 2) := by decide +kernel
theorem dX6_replay_46 : decode cX6_replay 46 = .ok (.aload_n 0, 1) := by decide +kernel
theorem dX6_replay_47 : decode cX6_replay 47 = .ok (.getfield 35, 3) := by decide +kernel
theorem dX6_replay_50 : decode cX6_replay 50 = .ok (.getfield 160, 3) := by decide +kernel
theorem dX6_replay_53 : decode cX6_replay 53 = .ok (.iload 4, 2) := by decide +kernel
theorem dX6_replay_55 : decode cX6_replay 55 = .ok (.iaload, 1) := by decide +kernel
theorem dX6_replay_56 : decode cX6_replay 56 = .ok (.istore 6, 2) := by decide +kernel
theorem dX6_replay_58 : decode cX6_replay 58 = .ok (.aload_n 0, 1) := by decide +kernel
theorem dX6_replay_59 : decode cX6_replay 59 = .ok (.getfield 35, 3) := by decide +kernel
theorem dX6_replay_62 : decode cX6_replay 62 = .ok (.getfield 163, 3) := by decide +kernel
theorem dX6_replay_65 : decode cX6_replay 65 = .ok (.iload 4, 2) := by decide +kernel
theorem dX6_replay_67 : decode cX6_replay 67 = .ok (.iaload, 1) := by decide +kernel
