theorem dX4_init_86 : decode cX4_init 86 = .ok (.putfield 43, 3) := by decide +kernel
theorem dX4_init_89 : decode cX4_init 89 = .ok (.aload_n 0, 1) := by decide +kernel
theorem dX4_init_90 : decode cX4_init 90 = .ok (.sipush 1024, 3) := by decide +kernel
theorem dX4_init_93 : decode cX4_init 93 = .ok (.newarray .int, 2) := by decide +kernel
theorem dX4_init_95 : decode cX4_init 95 = .ok (.putfield 46, 3) := by decide +kernel
theorem dX4_init_98 : decode cX4_init 98 = .ok (.return_, 1) := by decide +kernel
theorem dX5_init_0 : decode cX5_init 0 = .ok (.aload_n 0, 1) := by decide +kernel
theorem dX5_init_1 : decode cX5_init 1 = .ok (.invokespecial 3, 3) := by decide +kernel
theorem dX5_init_4 : decode cX5_init 4 = .ok (.aload_n 0, 1) := by decide +kernel
theorem dX5_init_5 : decode cX5_init 5 = .ok (.bipush 60, 2) := by decide +kernel
theorem dX5_init_7 : decode cX5_init 7 = .ok (.newarray .long, 2) := by decide +kernel
theorem dX5_init_9 : decode cX5_init 9 = .ok (.putfield 9, 3) := by decide +kernel
theorem dX5_init_12 : decode cX5_init 12 = .ok (.return_, 1) := by decide +kernel
theorem dX5_lay_0 : decode cX5_lay 0 = .ok (.aload_n 0, 1) := by decide +kernel
theorem dX5_lay_1 : decode cX5_lay 1 = .ok (.iconst 1, 1) := by decide +kernel
theorem dX5_lay_2 : decode cX5_lay 2 = .ok (.putfield 15, 3) := by decide +kernel
theorem dX5_lay_5 : decode cX5_lay 5 = .ok (.aload_n 0, 1) := by decide +kernel
theorem dX5_lay_6 : decode cX5_lay 6 = .ok (.iload_n 1, 1) := by decide +kernel
theorem dX5_lay_7 : decode cX5_lay 7 = .ok (.putfield 19, 3) := by decide +kernel
theorem dX5_lay_10 : decode cX5_lay 10 = .ok (.aload_n 0, 1) := by decide +kernel
theorem dX5_lay_11 : decode cX5_lay 11 = .ok (.iload_n 2, 1) := by decide +kernel
theorem dX5_lay_12 : decode cX5_lay 12 = .ok (.putfield 23, 3) := by decide +kernel
theorem dX5_lay_15 : decode cX5_lay 15 = .ok (.aload_n 0, 1) := by decide +kernel
theorem dX5_lay_16 : decode cX5_lay 16 = .ok (.getfield 9, 3) := by decide +kernel
theorem dX5_lay_19 : decode cX5_lay 19 = .ok (.lconst 0, 1) := by decide +kernel
theorem dX5_lay_20 : decode cX5_lay 20 = .ok (.invokestatic 26, 3) := by decide +kernel
theorem dX5_lay_23 : decode cX5_lay 23 = .ok (.return_, 1) := by decide +kernel
theorem dX6_init_0 : decode cX6_init 0 = .ok (.aload_n 0, 1) := by decide +kernel
theorem dX6_init_1 : decode cX6_init 1 = .ok (.invokespecial 3, 3) := by decide +kernel
theorem dX6_init_4 : decode cX6_init 4 = .ok (.aload_n 0, 1) := by decide +kernel
theorem dX6_init_5 : decode cX6_init 5 = .ok (.new 9, 3) := by decide +kernel
theorem dX6_init_8 : decode cX6_init 8 = .ok (.dup, 1) := by decide +kernel
theorem dX6_init_9 : decode cX6_init 9 = .ok (.invokespecial 11, 3) := by decide +kernel
theorem dX6_init_12 : decode cX6_init 12 = .ok (.putfield 12, 3) := by decide +kernel
theorem dX6_init_15 : decode cX6_init 15 = .ok (.aload_n 0, 1) := by decide +kernel
theorem dX6_init_16 : decode cX6_init 16 = .ok (.new 18, 3) := by decide +kernel
theorem dX6_init_19 : decode cX6_init 19 = .ok (.dup, 1) := by decide +kernel
theorem dX6_init_20 : decode cX6_init 20 = .ok (.invokespecial 20, 3) := by decide +kernel
theorem dX6_init_23 : decode cX6_init 23 = .ok (.putfield 21, 3) := by decide +kernel
theorem dX6_init_26 : decode cX6_init 26 = .ok (.aload_n 0, 1) := by decide +kernel
theorem dX6_init_27 : decode cX6_init 27 = .ok (.new 25, 3) := by decide +kernel
theorem dX6_init_30 : decode cX6_init 30 = .ok (.dup, 1) := by decide +kernel
theorem dX6_init_31 : decode cX6_init 31 = .ok (.invokespecial 27, 3) := by decide +kernel
theorem dX6_init_34 : decode cX6_init 34 = .ok (.putfield 28, 3) := by decide +kernel
theorem dX6_init_37 : decode cX6_init 37 = .ok (.aload_n 0, 1) := by decide +kernel
theorem dX6_init_38 : decode cX6_init 38 = .ok (.new 32, 3) := by decide +kernel
theorem dX6_init_41 : decode cX6_init 41 = .ok (.dup, 1) := by decide +kernel
theorem dX6_init_42 : decode cX6_init 42 = .ok (.invokespecial 34, 3) := by decide +kernel
theorem dX6_init_45 : decode cX6_init 45 = .ok (.putfield 35, 3) := by decide +kernel
theorem dX6_init_48 : decode cX6_init 48 = .ok (.aload_n 0, 1) := by decide +kernel
theorem dX6_init_49 : decode cX6_init 49 = .ok (.bipush 16, 2) := by decide +kernel
theorem dX6_init_51 : decode cX6_init 51 = .ok (.newarray .int, 2) := by decide +kernel
theorem dX6_init_53 : decode cX6_init 53 = .ok (.putfield 39, 3) := by decide +kernel
theorem dX6_init_56 : decode cX6_init 56 = .ok (.aload_n 0, 1) := by decide +kernel
theorem dX6_init_57 : decode cX6_init 57 = .ok (.bipush 16, 2) := by decide +kernel
theorem dX6_init_59 : decode cX6_init 59 = .ok (.newarray .int, 2) := by decide +kernel
theorem dX6_init_61 : decode cX6_init 61 = .ok (.putfield 43, 3) := by decide +kernel
theorem dX6_init_64 : decode cX6_init 64 = .ok (.return_, 1) := by decide +kernel
theorem dX6_begin_0 : decode cX6_begin 0 = .ok (.aload_n 0, 1) := by decide +kernel
theorem dX6_begin_1 : decode cX6_begin 1 = .ok (.getfield 12, 3) := by decide +kernel
theorem dX6_begin_4 : decode cX6_begin 4 = .ok (.aload_n 1, 1) := by decide +kernel
theorem dX6_begin_5 : decode cX6_begin 5 = .ok (.invokevirtual 46, 3) := by decide +kernel
theorem dX6_begin_8 : decode cX6_begin 8 = .ok (.aload_n 0, 1) := by decide +kernel
theorem dX6_begin_9 : decode cX6_begin 9 = .ok (.getfield 21, 3) := by decide +kernel
theorem dX6_begin_12 : decode cX6_begin 12 = .ok (.aload_n 2, 1) := by decide +kernel
theorem dX6_begin_13 : decode cX6_begin 13 = .ok (.invokevirtual 50, 3) := by decide +kernel
theorem dX6_begin_16 : decode cX6_begin 16 = .ok (.aload_n 0, 1) := by decide +kernel
theorem dX6_begin_17 : decode cX6_begin 17 = .ok (.getfield 28, 3) := by decide +kernel
theorem dX6_begin_20 : decode cX6_begin 20 = .ok (.invokevirtual 53, 3) := by decide +kernel
theorem dX6_begin_23 : decode cX6_begin 23 = .ok (.aload_n 0, 1) := by decide +kernel
theorem dX6_begin_24 : decode cX6_begin 24 = .ok (.getfield 35, 3) := by decide +kernel
theorem dX6_begin_27 : decode cX6_begin 27 = .ok (.iconst 0, 1) := by decide +kernel
theorem dX6_begin_28 : decode cX6_begin 28 = .ok (.putfield 56, 3) := by decide +kernel
theorem dX6_begin_31 : decode cX6_begin 31 = .ok (.aload_n 0, 1) := by decide +kernel
theorem dX6_begin_32 : decode cX6_begin 32 = .ok (.getfield 12, 3) := by decide +kernel
theorem dX6_begin_35 : decode cX6_begin 35 = .ok (.getfield 60, 3) := by decide +kernel
theorem dX6_begin_38 : decode cX6_begin 38 = .ok (.iconst 0, 1) := by decide +kernel
theorem dX6_begin_39 : decode cX6_begin 39 = .ok (.aload_n 0, 1) := by decide +kernel
theorem dX6_begin_40 : decode cX6_begin 40 = .ok (.getfield 39, 3) := by decide +kernel
theorem dX6_begin_43 : decode cX6_begin 43 = .ok (.iconst 0, 1) := by decide +kernel
theorem dX6_begin_44 : decode cX6_begin 44 = .ok (.bipush 16, 2) := by decide +kernel
theorem dX6_begin_46 : decode cX6_begin 46 = .ok (.invokestatic 63, 3) := by decide +kernel
theorem dX6_begin_49 : decode cX6_begin 49 = .ok (.aload_n 0, 1) := by decide +kernel
theorem dX6_begin_50 : decode cX6_begin 50 = .ok (.iconst 0, 1) := by decide +kernel
theorem dX6_begin_51 : decode cX6_begin 51 = .ok (.putfield 69, 3) := by decide +kernel
theorem dX6_begin_54 : decode cX6_begin 54 = .ok (.aload_n 0, 1) := by decide +kernel
theorem dX6_begin_55 : decode cX6_begin 55 = .ok (.iconst 0, 1) := by decide +kernel
theorem dX6_begin_56 : decode cX6_begin 56 = .ok (.putfield 72, 3) := by decide +kernel
theorem dX6_begin_59 : decode cX6_begin 59 = .ok (.return_, 1) := by decide +kernel
theorem dX6_copy_0 : decode cX6_copy 0 = .ok (.aload_n 0, 1) := by decide +kernel
theorem dX6_copy_1 : decode cX6_copy 1 = .ok (.getfield 12, 3) := by decide +kernel
theorem dX6_copy_4 : decode cX6_copy 4 = .ok (.aload_n 1, 1) := by decide +kernel
theorem dX6_copy_5 : decode cX6_copy 5 = .ok (.getfield 12, 3) := by decide +kernel
theorem dX6_copy_8 : decode cX6_copy 8 = .ok (.invokevirtual 46, 3) := by decide +kernel
theorem dX6_copy_11 : decode cX6_copy 11 = .ok (.aload_n 0, 1) := by decide +kernel
theorem dX6_copy_12 : decode cX6_copy 12 = .ok (.getfield 21, 3) := by decide +kernel
theorem dX6_copy_15 : decode cX6_copy 15 = .ok (.aload_n 1, 1) := by decide +kernel
theorem dX6_copy_16 : decode cX6_copy 16 = .ok (.getfield 21, 3) := by decide +kernel
theorem dX6_copy_19 : decode cX6_copy 19 = .ok (.invokevirtual 50, 3) := by decide +kernel
theorem dX6_copy_22 : decode cX6_copy 22 = .ok (.aload_n 0, 1) := by decide +kernel
theorem dX6_copy_23 : decode cX6_copy 23 = .ok (.getfield 28, 3) := by decide +kernel
theorem dX6_copy_26 : decode cX6_copy 26 = .ok (.aload_n 1, 1) := by decide +kernel
theorem dX6_copy_27 : decode cX6_copy 27 = .ok (.getfield 28, 3) := by decide +kernel
theorem dX6_copy_30 : decode cX6_copy 30 = .ok (.invokevirtual 75, 3) := by decide +kernel
theorem dX6_copy_33 : decode cX6_copy 33 = .ok (.aload_n 0, 1) := by decide +kernel
theorem dX6_copy_34 : decode cX6_copy 34 = .ok (.getfield 35, 3) := by decide +kernel
theorem dX6_copy_37 : decode cX6_copy 37 = .ok (.aload_n 1, 1) := by decide +kernel
theorem dX6_copy_38 : decode cX6_copy 38 = .ok (.getfield 35, 3) := by decide +kernel
theorem dX6_copy_41 : decode cX6_copy 41 = .ok (.invokevirtual 78, 3) := by decide +kernel
theorem dX6_copy_44 : decode cX6_copy 44 = .ok (.aload_n 1, 1) := by decide +kernel
theorem dX6_copy_45 : decode cX6_copy 45 = .ok (.getfield 39, 3) := by decide +kernel
theorem dX6_copy_48 : decode cX6_copy 48 = .ok (.iconst 0, 1) := by decide +kernel
theorem dX6_copy_49 : decode cX6_copy 49 = .ok (.aload_n 0, 1) := by decide +kernel
theorem dX6_copy_50 : decode cX6_copy 50 = .ok (.getfield 39, 3) := by decide +kernel
theorem dX6_copy_53 : decode cX6_copy 53 = .ok (.iconst 0, 1) := by decide +kernel
theorem dX6_copy_54 : decode cX6_copy 54 = .ok (.bipush 16, 2) := by decide +kernel
theorem dX6_copy_56 : decode cX6_copy 56 = .ok (.invokestatic 63, 3) := by decide +kernel
theorem dX6_copy_59 : decode cX6_copy 59 = .ok (.aload_n 0, 1) := by decide +kernel
theorem dX6_copy_60 : decode cX6_copy 60 = .ok (.aload_n 1, 1) := by decide +kernel
theorem dX6_copy_61 : decode cX6_copy 61 = .ok (.getfield 69, 3) := by decide +kernel
theorem dX6_copy_64 : decode cX6_copy 64 = .ok (.putfield 69, 3) := by decide +kernel
theorem dX6_copy_67 : decode cX6_copy 67 = .ok (.aload_n 0, 1) := by decide +kernel
theorem dX6_copy_68 : decode cX6_copy 68 = .ok (.aload_n 1, 1) := by decide +kernel
theorem dX6_copy_69 : decode cX6_copy 69 = .ok (.getfield 72, 3) := by decide +kernel
theorem dX6_copy_72 : decode cX6_copy 72 = .ok (.putfield 72, 3) := by decide +kernel
theorem dX6_copy_75 : decode cX6_copy 75 = .ok (.return_, 1) := by decide +kernel
theorem dX6_followCalls_0 : decode cX6_followCalls 0 = .ok (.iconst 0, 1) := by decide +kernel
theorem dX6_followCalls_1 : decode cX6_followCalls 1 = .ok (.istore_n 1, 1) := by decide +kernel
theorem dX6_followCalls_2 : decode cX6_followCalls 2 = .ok (.iload_n 1, 1) := by decide +kernel
theorem dX6_followCalls_3 : decode cX6_followCalls 3 = .ok (.bipush 16, 2) := by decide +kernel
theorem dX6_followCalls_5 : decode cX6_followCalls 5 = .ok (.if_icmp .ge 18, 3) := by decide +kernel
theorem dX6_followCalls_8 : decode cX6_followCalls 8 = .ok (.aload_n 0, 1) := by decide +kernel
theorem dX6_followCalls_9 : decode cX6_followCalls 9 = .ok (.getfield 43, 3) := by decide +kernel
theorem dX6_followCalls_12 : decode cX6_followCalls 12 = .ok (.iload_n 1, 1) := by decide +kernel
theorem dX6_followCalls_13 : decode cX6_followCalls 13 = .ok (.iconst 1, 1) := by decide +kernel
theorem dX6_followCalls_14 : decode cX6_followCalls 14 = .ok (.iload_n 1, 1) := by decide +kernel
theorem dX6_followCalls_15 : decode cX6_followCalls 15 = .ok (.ishl, 1) := by decide +kernel
theorem dX6_followCalls_16 : decode cX6_followCalls 16 = .ok (.iastore, 1) := by decide +kernel
theorem dX6_followCalls_17 : decode cX6_followCalls 17 = .ok (.iinc 1 1, 3) := by decide +kernel
theorem dX6_followCalls_20 : decode cX6_followCalls 20 = .ok (.goto (-18), 3) := by decide +kernel
theorem dX6_followCalls_23 : decode cX6_followCalls 23 = .ok (.iconst 0, 1) := by decide +kernel
theorem dX6_followCalls_24 : decode cX6_followCalls 24 = .ok (.istore_n 1, 1) := by decide +kernel
theorem dX6_followCalls_25 : decode cX6_followCalls 25 = .ok (.iload_n 1, 1) := by decide +kernel
theorem dX6_followCalls_26 : decode cX6_followCalls 26 = .ok (.aload_n 0, 1) := by decide +kernel
theorem dX6_followCalls_27 : decode cX6_followCalls 27 = .ok (.getfield 35, 3) := by decide +kernel
theorem dX6_followCalls_30 : decode cX6_followCalls 30 = .ok (.getfield 56, 3) := by decide +kernel
theorem dX6_followCalls_33 : decode cX6_followCalls 33 = .ok (.if_icmp .ge 63, 3) := by decide +kernel
theorem dX6_followCalls_96 : decode cX6_followCalls 96 = .ok (.iconst 0, 1) := by decide +kernel
theorem dX6_followCalls_97 : decode cX6_followCalls 97 = .ok (.istore_n 1, 1) := by decide +kernel
theorem dX6_followCalls_98 : decode cX6_followCalls 98 = .ok (.iload_n 1, 1) := by decide +kernel
theorem dX6_followCalls_99 : decode cX6_followCalls 99 = .ok (.bipush 16, 2) := by decide +kernel
theorem dX6_followCalls_101 : decode cX6_followCalls 101 = .ok (.if_icmp .ge 52, 3) := by decide +kernel
theorem dX6_followCalls_104 : decode cX6_followCalls 104 = .ok (.iconst 0, 1) := by decide +kernel
theorem dX6_followCalls_105 : decode cX6_followCalls 105 = .ok (.istore_n 2, 1) := by decide +kernel
theorem dX6_followCalls_106 : decode cX6_followCalls 106 = .ok (.iload_n 2, 1) := by decide +kernel
theorem dX6_followCalls_107 : decode cX6_followCalls 107 = .ok (.bipush 16, 2) := by decide +kernel
theorem dX6_followCalls_109 : decode cX6_followCalls 109 = .ok (.if_icmp .ge 38, 3) := by decide +kernel
theorem dX6_followCalls_112 : decode cX6_followCalls 112 = .ok (.aload_n 0, 1) := by decide +kernel
theorem dX6_followCalls_113 : decode cX6_followCalls 113 = .ok (.getfield 43, 3) := by decide +kernel
theorem dX6_followCalls_116 : decode cX6_followCalls 116 = .ok (.iload_n 2, 1) := by decide +kernel
theorem dX6_followCalls_117 : decode cX6_followCalls 117 = .ok (.iaload, 1) := by decide +kernel
theorem dX6_followCalls_118 : decode cX6_followCalls 118 = .ok (.iload_n 1, 1) := by decide +kernel
theorem dX6_followCalls_119 : decode cX6_followCalls 119 = .ok (.ishr, 1) := by decide +kernel
theorem dX6_followCalls_120 : decode cX6_followCalls 120 = .ok (.iconst 1, 1) := by decide +kernel
theorem dX6_followCalls_121 : decode cX6_followCalls 121 = .ok (.iand, 1) := by decide +kernel
theorem dX6_followCalls_122 : decode cX6_followCalls 122 = .ok (.iconst 1, 1) := by decide +kernel
theorem dX6_followCalls_123 : decode cX6_followCalls 123 = .ok (.if_icmp .ne 18, 3) := by decide +kernel
theorem dX6_followCalls_126 : decode cX6_followCalls 126 = .ok (.aload_n 0, 1) := by decide +kernel
theorem dX6_followCalls_127 : decode cX6_followCalls 127 = .ok (.getfield 43, 3) := by decide +kernel
theorem dX6_followCalls_130 : decode cX6_followCalls 130 = .ok (.iload_n 2, 1) := by decide +kernel
theorem dX6_followCalls_131 : decode cX6_followCalls 131 = .ok (.dup2, 1) := by decide +kernel
theorem dX6_followCalls_132 : decode cX6_followCalls 132 = .ok (.iaload, 1) := by decide +kernel
theorem dX6_followCalls_133 : decode cX6_followCalls 133 = .ok (.aload_n 0, 1) := by decide +kernel
theorem dX6_followCalls_134 : decode cX6_followCalls 134 = .ok (.getfield 43, 3) := by decide +kernel
theorem dX6_followCalls_137 : decode cX6_followCalls 137 = .ok (.iload_n 1, 1) := by decide +kernel
theorem dX6_followCalls_138 : decode cX6_followCalls 138 = .ok (.iaload, 1) := by decide +kernel
theorem dX6_followCalls_139 : decode cX6_followCalls 139 = .ok (.ior, 1) := by decide +kernel
theorem dX6_followCalls_140 : decode cX6_followCalls 140 = .ok (.iastore, 1) := by decide +kernel
theorem dX6_followCalls_141 : decode cX6_followCalls 141 = .ok (.iinc 2 1, 3) := by decide +kernel
theorem dX6_followCalls_144 : decode cX6_followCalls 144 = .ok (.goto (-38), 3) := by decide +kernel
theorem dX6_followCalls_147 : decode cX6_followCalls 147 = .ok (.iinc 1 1, 3) := by decide +kernel
theorem dX6_followCalls_150 : decode cX6_followCalls 150 = .ok (.goto (-52), 3) := by decide +kernel
theorem dX6_followCalls_153 : decode cX6_followCalls 153 = .ok (.return_, 1) := by decide +kernel
theorem dX7_init_0 : decode cX7_init 0 = .ok (.aload_n 0, 1) := by decide +kernel
theorem dX7_init_1 : decode cX7_init 1 = .ok (.invokespecial 3, 3) := by decide +kernel
theorem dX7_init_4 : decode cX7_init 4 = .ok (.aload_n 0, 1) := by decide +kernel
theorem dX7_init_5 : decode cX7_init 5 = .ok (.iconst 3, 1) := by decide +kernel
theorem dX7_init_6 : decode cX7_init 6 = .ok (.putfield 11, 3) := by decide +kernel
theorem dX7_init_9 : decode cX7_init 9 = .ok (.aload_n 0, 1) := by decide +kernel
theorem dX7_init_10 : decode cX7_init 10 = .ok (.bipush 16, 2) := by decide +kernel
theorem dX7_init_12 : decode cX7_init 12 = .ok (.newarray .int, 2) := by decide +kernel
theorem dX7_init_14 : decode cX7_init 14 = .ok (.putfield 15, 3) := by decide +kernel
theorem dX7_init_17 : decode cX7_init 17 = .ok (.aload_n 0, 1) := by decide +kernel
theorem dX7_init_18 : decode cX7_init 18 = .ok (.bipush 16, 2) := by decide +kernel
theorem dX7_init_20 : decode cX7_init 20 = .ok (.newarray .int, 2) := by decide +kernel
theorem dX7_init_22 : decode cX7_init 22 = .ok (.putfield 19, 3) := by decide +kernel
theorem dX7_init_25 : decode cX7_init 25 = .ok (.aload_n 0, 1) := by decide +kernel
theorem dX7_init_26 : decode cX7_init 26 = .ok (.bipush 16, 2) := by decide +kernel
theorem dX7_init_28 : decode cX7_init 28 = .ok (.newarray .int, 2) := by decide +kernel
theorem dX7_init_30 : decode cX7_init 30 = .ok (.putfield 22, 3) := by decide +kernel
theorem dX7_init_33 : decode cX7_init 33 = .ok (.aload_n 0, 1) := by decide +kernel
theorem dX7_init_34 : decode cX7_init 34 = .ok (.bipush 16, 2) := by decide +kernel
theorem dX7_init_36 : decode cX7_init 36 = .ok (.newarray .int, 2) := by decide +kernel
theorem dX7_init_38 : decode cX7_init 38 = .ok (.putfield 25, 3) := by decide +kernel
theorem dX7_init_41 : decode cX7_init 41 = .ok (.aload_n 0, 1) := by decide +kernel
theorem dX7_init_42 : decode cX7_init 42 = .ok (.bipush 16, 2) := by decide +kernel
theorem dX7_init_44 : decode cX7_init 44 = .ok (.newarray .int, 2) := by decide +kernel
theorem dX7_init_46 : decode cX7_init 46 = .ok (.putfield 28, 3) := by decide +kernel
theorem dX7_init_49 : decode cX7_init 49 = .ok (.aload_n 0, 1) := by decide +kernel
theorem dX7_init_50 : decode cX7_init 50 = .ok (.bipush 16, 2) := by decide +kernel
theorem dX7_init_52 : decode cX7_init 52 = .ok (.newarray .int, 2) := by decide +kernel
theorem dX7_init_54 : decode cX7_init 54 = .ok (.putfield 31, 3) := by decide +kernel
theorem dX7_init_57 : decode cX7_init 57 = .ok (.aload_n 0, 1) := by decide +kernel
theorem dX7_init_58 : decode cX7_init 58 = .ok (.bipush 16, 2) := by decide +kernel
theorem dX7_init_60 : decode cX7_init 60 = .ok (.newarray .int, 2) := by decide +kernel
theorem dX7_init_62 : decode cX7_init 62 = .ok (.putfield 34, 3) := by decide +kernel
theorem dX7_init_65 : decode cX7_init 65 = .ok (.aload_n 0, 1) := by decide +kernel
theorem dX7_init_66 : decode cX7_init 66 = .ok (.bipush 16, 2) := by decide +kernel
theorem dX7_init_68 : decode cX7_init 68 = .ok (.newarray .int, 2) := by decide +kernel
theorem dX7_init_70 : decode cX7_init 70 = .ok (.putfield 37, 3) := by decide +kernel
theorem dX7_init_73 : decode cX7_init 73 = .ok (.aload_n 0, 1) := by decide +kernel
theorem dX7_init_74 : decode cX7_init 74 = .ok (.bipush 16, 2) := by decide +kernel
theorem dX7_init_76 : decode cX7_init 76 = .ok (.newarray .int, 2) := by decide +kernel
theorem dX7_init_78 : decode cX7_init 78 = .ok (.putfield 40, 3) := by decide +kernel
theorem dX7_init_81 : decode cX7_init 81 = .ok (.return_, 1) := by decide +kernel
theorem dX7_clear_0 : decode cX7_clear 0 = .ok (.aload_n 0, 1) := by decide +kernel
theorem dX7_clear_1 : decode cX7_clear 1 = .ok (.iconst 0, 1) := by decide +kernel
theorem dX7_clear_2 : decode cX7_clear 2 = .ok (.putfield 43, 3) := by decide +kernel
theorem dX7_clear_5 : decode cX7_clear 5 = .ok (.aload_n 0, 1) := by decide +kernel
theorem dX7_clear_6 : decode cX7_clear 6 = .ok (.iconst 0, 1) := by decide +kernel
theorem dX7_clear_7 : decode cX7_clear 7 = .ok (.putfield 46, 3) := by decide +kernel
theorem dX7_clear_10 : decode cX7_clear 10 = .ok (.aload_n 0, 1) := by decide +kernel
theorem dX7_clear_11 : decode cX7_clear 11 = .ok (.iconst 3, 1) := by decide +kernel
theorem dX7_clear_12 : decode cX7_clear 12 = .ok (.putfield 11, 3) := by decide +kernel
theorem dX7_clear_15 : decode cX7_clear 15 = .ok (.aload_n 0, 1) := by decide +kernel
theorem dX7_clear_16 : decode cX7_clear 16 = .ok (.getfield 40, 3) := by decide +kernel
theorem dX7_clear_19 : decode cX7_clear 19 = .ok (.iconst 0, 1) := by decide +kernel
theorem dX7_clear_20 : decode cX7_clear 20 = .ok (.invokestatic 49, 3) := by decide +kernel
theorem dX7_clear_23 : decode cX7_clear 23 = .ok (.return_, 1) := by decide +kernel
theorem dX7_copy_0 : decode cX7_copy 0 = .ok (.aload_n 0, 1) := by decide +kernel
theorem dX7_copy_1 : decode cX7_copy 1 = .ok (.aload_n 1, 1) := by decide +kernel
theorem dX7_copy_2 : decode cX7_copy 2 = .ok (.getfield 43, 3) := by decide +kernel
theorem dX7_copy_5 : decode cX7_copy 5 = .ok (.putfield 43, 3) := by decide +kernel
theorem dX7_copy_8 : decode cX7_copy 8 = .ok (.aload_n 0, 1) := by decide +kernel
theorem dX7_copy_9 : decode cX7_copy 9 = .ok (.aload_n 1, 1) := by decide +kernel
theorem dX7_copy_10 : decode cX7_copy 10 = .ok (.getfield 46, 3) := by decide +kernel
theorem dX7_copy_13 : decode cX7_copy 13 = .ok (.putfield 46, 3) := by decide +kernel
theorem dX7_copy_16 : decode cX7_copy 16 = .ok (.aload_n 0, 1) := by decide +kernel
theorem dX7_copy_17 : decode cX7_copy 17 = .ok (.aload_n 1, 1) := by decide +kernel
theorem dX7_copy_18 : decode cX7_copy 18 = .ok (.getfield 11, 3) := by decide +kernel
theorem dX7_copy_21 : decode cX7_copy 21 = .ok (.putfield 11, 3) := by decide +kernel
theorem dX7_copy_24 : decode cX7_copy 24 = .ok (.aload_n 1, 1) := by decide +kernel
theorem dX7_copy_25 : decode cX7_copy 25 = .ok (.getfield 15, 3) := by decide +kernel
theorem dX7_copy_28 : decode cX7_copy 28 = .ok (.iconst 0, 1) := by decide +kernel
theorem dX7_copy_29 : decode cX7_copy 29 = .ok (.aload_n 0, 1) := by decide +kernel
theorem dX7_copy_30 : decode cX7_copy 30 = .ok (.getfield 15, 3) := by decide +kernel
theorem dX7_copy_33 : decode cX7_copy 33 = .ok (.iconst 0, 1) := by decide +kernel
theorem dX7_copy_34 : decode cX7_copy 34 = .ok (.bipush 16, 2) := by decide +kernel
theorem dX7_copy_36 : decode cX7_copy 36 = .ok (.invokestatic 55, 3) := by decide +kernel
theorem dX7_copy_39 : decode cX7_copy 39 = .ok (.aload_n 1, 1) := by decide +kernel
theorem dX7_copy_40 : decode cX7_copy 40 = .ok (.getfield 19, 3) := by decide +kernel
theorem dX7_copy_43 : decode cX7_copy 43 = .ok (.iconst 0, 1) := by decide +kernel
theorem dX7_copy_44 : decode cX7_copy 44 = .ok (.aload_n 0, 1) := by decide +kernel
theorem dX7_copy_45 : decode cX7_copy 45 = .ok (.getfield 19, 3) := by decide +kernel
theorem dX7_copy_48 : decode cX7_copy 48 = .ok (.iconst 0, 1) := by decide +kernel
theorem dX7_copy_49 : decode cX7_copy 49 = .ok (.bipush 16, 2) := by decide +kernel
theorem dX7_copy_51 : decode cX7_copy 51 = .ok (.invokestatic 55, 3) := by decide +kernel
theorem dX7_copy_54 : decode cX7_copy 54 = .ok (.aload_n 1, 1) := by decide +kernel
theorem dX7_copy_55 : decode cX7_copy 55 = .ok (.getfield 22, 3) := by decide +kernel
theorem dX7_copy_58 : decode cX7_copy 58 = .ok (.iconst 0, 1) := by decide +kernel
theorem dX7_copy_59 : decode cX7_copy 59 = .ok (.aload_n 0, 1) := by decide +kernel
theorem dX7_copy_60 : decode cX7_copy 60 = .ok (.getfield 22, 3) := by decide +kernel
theorem dX7_copy_63 : decode cX7_copy 63 = .ok (.iconst 0, 1) := by decide +kernel
theorem dX7_copy_64 : decode cX7_copy 64 = .ok (.bipush 16, 2) := by decide +kernel
theorem dX7_copy_66 : decode cX7_copy 66 = .ok (.invokestatic 55, 3) := by decide +kernel
theorem dX7_copy_69 : decode cX7_copy 69 = .ok (.aload_n 1, 1) := by decide +kernel
theorem dX7_copy_70 : decode cX7_copy 70 = .ok (.getfield 25, 3) := by decide +kernel
theorem dX7_copy_73 : decode cX7_copy 73 = .ok (.iconst 0, 1) := by decide +kernel
theorem dX7_copy_74 : decode cX7_copy 74 = .ok (.aload_n 0, 1) := by decide +kernel
theorem dX7_copy_75 : decode cX7_copy 75 = .ok (.getfield 25, 3) := by decide +kernel
theorem dX7_copy_78 : decode cX7_copy 78 = .ok (.iconst 0, 1) := by decide +kernel
theorem dX7_copy_79 : decode cX7_copy 79 = .ok (.bipush 16, 2) := by decide +kernel
theorem dX7_copy_81 : decode cX7_copy 81 = .ok (.invokestatic 55, 3) := by decide +kernel
theorem dX7_copy_84 : decode cX7_copy 84 = .ok (.aload_n 1, 1) := by decide +kernel
theorem dX7_copy_85 : decode cX7_copy 85 = .ok (.getfield 28, 3) := by decide +kernel
theorem dX7_copy_88 : decode cX7_copy 88 = .ok (.iconst 0, 1) := by decide +kernel
theorem dX7_copy_89 : decode cX7_copy 89 = .ok (.aload_n 0, 1) := by decide +kernel
theorem dX7_copy_90 : decode cX7_copy 90 = .ok (.getfield 28, 3) := by decide +kernel
theorem dX7_copy_93 : decode cX7_copy 93 = .ok (.iconst 0, 1) := by decide +kernel
theorem dX7_copy_94 : decode cX7_copy 94 = .ok (.bipush 16, 2) := by decide +kernel
theorem dX7_copy_96 : decode cX7_copy 96 = .ok (.invokestatic 55, 3) := by decide +kernel
theorem dX7_copy_99 : decode cX7_copy 99 = .ok (.aload_n 1, 1) := by decide +kernel
theorem dX7_copy_100 : decode cX7_copy 100 = .ok (.getfield 31, 3) := by decide +kernel
theorem dX7_copy_103 : decode cX7_copy 103 = .ok (.iconst 0, 1) := by decide +kernel
theorem dX7_copy_104 : decode cX7_copy 104 = .ok (.aload_n 0, 1) := by decide +kernel
theorem dX7_copy_105 : decode cX7_copy 105 = .ok (.getfield 31, 3) := by decide +kernel
theorem dX7_copy_108 : decode cX7_copy 108 = .ok (.iconst 0, 1) := by decide +kernel
theorem dX7_copy_109 : decode cX7_copy 109 = .ok (.bipush 16, 2) := by decide +kernel
theorem dX7_copy_111 : decode cX7_copy 111 = .ok (.invokestatic 55, 3) := by decide +kernel
theorem dX7_copy_114 : decode cX7_copy 114 = .ok (.aload_n 1, 1) := by decide +kernel
theorem dX7_copy_115 : decode cX7_copy 115 = .ok (.getfield 34, 3) := by decide +kernel
theorem dX7_copy_118 : decode cX7_copy 118 = .ok (.iconst 0, 1) := by decide +kernel
theorem dX7_copy_119 : decode cX7_copy 119 = .ok (.aload_n 0, 1) := by decide +kernel
theorem dX7_copy_120 : decode cX7_copy 120 = .ok (.getfield 34, 3) := by decide +kernel
theorem dX7_copy_123 : decode cX7_copy 123 = .ok (.iconst 0, 1) := by decide +kernel
theorem dX7_copy_124 : decode cX7_copy 124 = .ok (.bipush 16, 2) := by decide +kernel
theorem dX7_copy_126 : decode cX7_copy 126 = .ok (.invokestatic 55, 3) := by decide +kernel
theorem dX7_copy_129 : decode cX7_copy 129 = .ok (.aload_n 1, 1) := by decide +kernel
theorem dX7_copy_130 : decode cX7_copy 130 = .ok (.getfield 37, 3) := by decide +kernel
theorem dX7_copy_133 : decode cX7_copy 133 = .ok (.iconst 0, 1) := by decide +kernel
theorem dX7_copy_134 : decode cX7_copy 134 = .ok (.aload_n 0, 1) := by decide +kernel
theorem dX7_copy_135 : decode cX7_copy 135 = .ok (.getfield 37, 3) := by decide +kernel
theorem dX7_copy_138 : decode cX7_copy 138 = .ok (.iconst 0, 1) := by decide +kernel
theorem dX7_copy_139 : decode cX7_copy 139 = .ok (.bipush 16, 2) := by decide +kernel
theorem dX7_copy_141 : decode cX7_copy 141 = .ok (.invokestatic 55, 3) := by decide +kernel
theorem dX7_copy_144 : decode cX7_copy 144 = .ok (.aload_n 1, 1) := by decide +kernel
theorem dX7_copy_145 : decode cX7_copy 145 = .ok (.getfield 40, 3) := by decide +kernel
theorem dX7_copy_148 : decode cX7_copy 148 = .ok (.iconst 0, 1) := by decide +kernel
theorem dX7_copy_149 : decode cX7_copy 149 = .ok (.aload_n 0, 1) := by decide +kernel
theorem dX7_copy_150 : decode cX7_copy 150 = .ok (.getfield 40, 3) := by decide +kernel
theorem dX7_copy_153 : decode cX7_copy 153 = .ok (.iconst 0, 1) := by decide +kernel
theorem dX7_copy_154 : decode cX7_copy 154 = .ok (.bipush 16, 2) := by decide +kernel
theorem dX7_copy_156 : decode cX7_copy 156 = .ok (.invokestatic 55, 3) := by decide +kernel
theorem dX7_copy_159 : decode cX7_copy 159 = .ok (.return_, 1) := by decide +kernel
theorem dX7_has_0 : decode cX7_has 0 = .ok (.iload_n 1, 1) := by decide +kernel
theorem dX7_has_1 : decode cX7_has 1 = .ok (.ifCond .lt 15, 3) := by decide +kernel
theorem dX7_has_4 : decode cX7_has 4 = .ok (.iload_n 1, 1) := by decide +kernel
theorem dX7_has_5 : decode cX7_has 5 = .ok (.aload_n 0, 1) := by decide +kernel
theorem dX7_has_6 : decode cX7_has 6 = .ok (.getfield 43, 3) := by decide +kernel
theorem dX7_has_9 : decode cX7_has 9 = .ok (.if_icmp .ge 7, 3) := by decide +kernel
theorem dX7_has_16 : decode cX7_has 16 = .ok (.iconst 0, 1) := by decide +kernel
theorem dX7_has_17 : decode cX7_has 17 = .ok (.ireturn, 1) := by decide +kernel
theorem dX7_hasPair_0 : decode cX7_hasPair 0 = .ok (.aload_n 0, 1) := by decide +kernel
theorem dX7_hasPair_1 : decode cX7_hasPair 1 = .ok (.iload_n 1, 1) := by decide +kernel
theorem dX7_hasPair_2 : decode cX7_hasPair 2 = .ok (.invokevirtual 61, 3) := by decide +kernel
theorem dX7_hasPair_5 : decode cX7_hasPair 5 = .ok (.ifCond .eq 20, 3) := by decide +kernel
theorem dX7_hasPair_25 : decode cX7_hasPair 25 = .ok (.iconst 0, 1) := by decide +kernel
theorem dX7_hasPair_26 : decode cX7_hasPair 26 = .ok (.ireturn, 1) := by decide +kernel
theorem dX8_init_0 : decode cX8_init 0 = .ok (.aload_n 0, 1) := by decide +kernel
theorem dX8_init_1 : decode cX8_init 1 = .ok (.invokespecial 5, 3) := by decide +kernel
theorem dX8_init_4 : decode cX8_init 4 = .ok (.aload_n 0, 1) := by decide +kernel
theorem dX8_init_5 : decode cX8_init 5 = .ok (.bipush 16, 2) := by decide +kernel
theorem dX8_init_7 : decode cX8_init 7 = .ok (.newarray .int, 2) := by decide +kernel
theorem dX8_init_9 : decode cX8_init 9 = .ok (.putfield 11, 3) := by decide +kernel
theorem dX8_init_12 : decode cX8_init 12 = .ok (.aload_n 0, 1) := by decide +kernel
theorem dX8_init_13 : decode cX8_init 13 = .ok (.iconst (-1), 1) := by decide +kernel
theorem dX8_init_14 : decode cX8_init 14 = .ok (.putfield 15, 3) := by decide +kernel
theorem dX8_init_17 : decode cX8_init 17 = .ok (.aload_n 0, 1) := by decide +kernel
theorem dX8_init_18 : decode cX8_init 18 = .ok (.iconst (-1), 1) := by decide +kernel
theorem dX8_init_19 : decode cX8_init 19 = .ok (.putfield 19, 3) := by decide +kernel
theorem dX8_init_22 : decode cX8_init 22 = .ok (.aload_n 0, 1) := by decide +kernel
theorem dX8_init_23 : decode cX8_init 23 = .ok (.bipush 13, 2) := by decide +kernel
theorem dX8_init_25 : decode cX8_init 25 = .ok (.newarray .int, 2) := by decide +kernel
theorem dX8_init_27 : decode cX8_init 27 = .ok (.putfield 22, 3) := by decide +kernel
theorem dX8_init_30 : decode cX8_init 30 = .ok (.aload_n 0, 1) := by decide +kernel
theorem dX8_init_31 : decode cX8_init 31 = .ok (.bipush 13, 2) := by decide +kernel
theorem dX8_init_33 : decode cX8_init 33 = .ok (.newarray .int, 2) := by decide +kernel
theorem dX8_init_35 : decode cX8_init 35 = .ok (.putfield 25, 3) := by decide +kernel
theorem dX8_init_38 : decode cX8_init 38 = .ok (.aload_n 0, 1) := by decide +kernel
theorem dX8_init_39 : decode cX8_init 39 = .ok (.bipush 13, 2) := by decide +kernel
theorem dX8_init_41 : decode cX8_init 41 = .ok (.newarray .int, 2) := by decide +kernel
theorem dX8_init_43 : decode cX8_init 43 = .ok (.putfield 28, 3) := by decide +kernel
theorem dX8_init_46 : decode cX8_init 46 = .ok (.aload_n 0, 1) := by decide +kernel
theorem dX8_init_47 : decode cX8_init 47 = .ok (.sipush 8192, 3) := by decide +kernel
theorem dX8_init_50 : decode cX8_init 50 = .ok (.newarray .int, 2) := by decide +kernel
theorem dX8_init_52 : decode cX8_init 52 = .ok (.putfield 31, 3) := by decide +kernel
theorem dX8_init_55 : decode cX8_init 55 = .ok (.aload_n 0, 1) := by decide +kernel
theorem dX8_init_56 : decode cX8_init 56 = .ok (.sipush 8192, 3) := by decide +kernel
theorem dX8_init_59 : decode cX8_init 59 = .ok (.newarray .int, 2) := by decide +kernel
theorem dX8_init_61 : decode cX8_init 61 = .ok (.putfield 34, 3) := by decide +kernel
theorem dX8_init_64 : decode cX8_init 64 = .ok (.return_, 1) := by decide +kernel
theorem dX9_init_0 : decode cX9_init 0 = .ok (.aload_n 0, 1) := by decide +kernel
theorem dX9_init_1 : decode cX9_init 1 = .ok (.invokespecial 1, 3) := by decide +kernel
theorem dX9_init_4 : decode cX9_init 4 = .ok (.aload_n 0, 1) := by decide +kernel
theorem dX9_init_5 : decode cX9_init 5 = .ok (.sipush 1400, 3) := by decide +kernel
theorem dX9_init_8 : decode cX9_init 8 = .ok (.newarray .byte, 2) := by decide +kernel
theorem dX9_init_10 : decode cX9_init 10 = .ok (.putfield 9, 3) := by decide +kernel
theorem dX9_init_13 : decode cX9_init 13 = .ok (.aload_n 0, 1) := by decide +kernel
theorem dX9_init_14 : decode cX9_init 14 = .ok (.new 13, 3) := by decide +kernel
theorem dX9_init_17 : decode cX9_init 17 = .ok (.dup, 1) := by decide +kernel
theorem dX9_init_18 : decode cX9_init 18 = .ok (.invokespecial 15, 3) := by decide +kernel
theorem dX9_init_21 : decode cX9_init 21 = .ok (.putfield 16, 3) := by decide +kernel
theorem dX9_init_24 : decode cX9_init 24 = .ok (.aload_n 0, 1) := by decide +kernel
theorem dX9_init_25 : decode cX9_init 25 = .ok (.new 20, 3) := by decide +kernel
theorem dX9_init_28 : decode cX9_init 28 = .ok (.dup, 1) := by decide +kernel
theorem dX9_init_29 : decode cX9_init 29 = .ok (.invokespecial 22, 3) := by decide +kernel
theorem dX9_init_32 : decode cX9_init 32 = .ok (.putfield 23, 3) := by decide +kernel
theorem dX9_init_35 : decode cX9_init 35 = .ok (.aload_n 0, 1) := by decide +kernel
theorem dX9_init_36 : decode cX9_init 36 = .ok (.iconst 3, 1) := by decide +kernel
theorem dX9_init_37 : decode cX9_init 37 = .ok (.anewarray 20, 3) := by decide +kernel
theorem dX9_init_40 : decode cX9_init 40 = .ok (.putfield 27, 3) := by decide +kernel
theorem dX9_init_43 : decode cX9_init 43 = .ok (.aload_n 0, 1) := by decide +kernel
theorem dX9_init_44 : decode cX9_init 44 = .ok (.iconst 4, 1) := by decide +kernel
theorem dX9_init_45 : decode cX9_init 45 = .ok (.anewarray 31, 3) := by decide +kernel
theorem dX9_init_48 : decode cX9_init 48 = .ok (.putfield 33, 3) := by decide +kernel
theorem dX9_init_51 : decode cX9_init 51 = .ok (.aload_n 0, 1) := by decide +kernel
theorem dX9_init_52 : decode cX9_init 52 = .ok (.new 37, 3) := by decide +kernel
theorem dX9_init_55 : decode cX9_init 55 = .ok (.dup, 1) := by decide +kernel
theorem dX9_init_56 : decode cX9_init 56 = .ok (.invokespecial 39, 3) := by decide +kernel
theorem dX9_init_59 : decode cX9_init 59 = .ok (.putfield 40, 3) := by decide +kernel
