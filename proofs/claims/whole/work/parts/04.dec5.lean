theorem d_Z_cylinder_20 : decode b_Z_cylinder 20 = .ok (.putfield 30, 3) := by decide +kernel
theorem d_Z_cylinder_23 : decode b_Z_cylinder 23 = .ok (.iconst 1, 1) := by decide +kernel
theorem d_Z_cylinder_24 : decode b_Z_cylinder 24 = .ok (.ireturn, 1) := by decide +kernel
theorem d_Z_period_0 : decode b_Z_period 0 = .ok (.aload_n 0, 1) := by decide +kernel
theorem d_Z_period_1 : decode b_Z_period 1 = .ok (.iconst 0, 1) := by decide +kernel
theorem d_Z_period_2 : decode b_Z_period 2 = .ok (.putfield 33, 3) := by decide +kernel
theorem d_Z_period_5 : decode b_Z_period 5 = .ok (.lload_n 1, 1) := by decide +kernel
theorem d_Z_period_6 : decode b_Z_period 6 = .ok (.lconst 0, 1) := by decide +kernel
theorem d_Z_period_7 : decode b_Z_period 7 = .ok (.lcmp, 1) := by decide +kernel
theorem d_Z_period_8 : decode b_Z_period 8 = .ok (.ifCond .lt 11, 3) := by decide +kernel
theorem d_Z_period_11 : decode b_Z_period 11 = .ok (.lload_n 1, 1) := by decide +kernel
theorem d_Z_period_12 : decode b_Z_period 12 = .ok (.ldc2_w 73, 3) := by decide +kernel
theorem d_Z_period_15 : decode b_Z_period 15 = .ok (.lcmp, 1) := by decide +kernel
theorem d_Z_period_16 : decode b_Z_period 16 = .ok (.ifCond .le 7, 3) := by decide +kernel
theorem d_Z_period_19 : decode b_Z_period 19 = .ok (.ldc2_w 125, 3) := by decide +kernel
theorem d_Z_period_22 : decode b_Z_period 22 = .ok (.lreturn, 1) := by decide +kernel
theorem d_Z_period_23 : decode b_Z_period 23 = .ok (.aload_n 0, 1) := by decide +kernel
theorem d_Z_period_24 : decode b_Z_period 24 = .ok (.lload_n 1, 1) := by decide +kernel
theorem d_Z_period_25 : decode b_Z_period 25 = .ok (.lconst 0, 1) := by decide +kernel
theorem d_Z_period_26 : decode b_Z_period 26 = .ok (.lcmp, 1) := by decide +kernel
theorem d_Z_period_27 : decode b_Z_period 27 = .ok (.ifCond .ne 7, 3) := by decide +kernel
theorem d_Z_period_30 : decode b_Z_period 30 = .ok (.iconst 1, 1) := by decide +kernel
theorem d_Z_period_31 : decode b_Z_period 31 = .ok (.goto 4, 3) := by decide +kernel
theorem d_Z_period_34 : decode b_Z_period 34 = .ok (.iconst 0, 1) := by decide +kernel
theorem d_Z_period_35 : decode b_Z_period 35 = .ok (.putfield 33, 3) := by decide +kernel
theorem d_Z_period_38 : decode b_Z_period 38 = .ok (.aload_n 0, 1) := by decide +kernel
theorem d_Z_period_39 : decode b_Z_period 39 = .ok (.getfield 33, 3) := by decide +kernel
theorem d_Z_period_42 : decode b_Z_period 42 = .ok (.ifCond .le 7, 3) := by decide +kernel
theorem d_Z_period_45 : decode b_Z_period 45 = .ok (.lconst 0, 1) := by decide +kernel
theorem d_Z_period_46 : decode b_Z_period 46 = .ok (.goto 14, 3) := by decide +kernel
theorem d_Z_period_49 : decode b_Z_period 49 = .ok (.ldc2_w 130, 3) := by decide +kernel
theorem d_Z_period_52 : decode b_Z_period 52 = .ok (.lload_n 1, 1) := by decide +kernel
theorem d_Z_period_53 : decode b_Z_period 53 = .ok (.aload_n 0, 1) := by decide +kernel
theorem d_Z_period_54 : decode b_Z_period 54 = .ok (.getfield 30, 3) := by decide +kernel
theorem d_Z_period_57 : decode b_Z_period 57 = .ok (.i2l, 1) := by decide +kernel
theorem d_Z_period_58 : decode b_Z_period 58 = .ok (.lmul, 1) := by decide +kernel
theorem d_Z_period_59 : decode b_Z_period 59 = .ok (.ldiv, 1) := by decide +kernel
theorem d_Z_period_60 : decode b_Z_period 60 = .ok (.lreturn, 1) := by decide +kernel
theorem d_Z_idle_0 : decode b_Z_idle 0 = .ok (.aload_n 0, 1) := by decide +kernel
theorem d_Z_idle_1 : decode b_Z_idle 1 = .ok (.iconst 0, 1) := by decide +kernel
theorem d_Z_idle_2 : decode b_Z_idle 2 = .ok (.putfield 33, 3) := by decide +kernel
theorem d_Z_idle_5 : decode b_Z_idle 5 = .ok (.lload_n 1, 1) := by decide +kernel
theorem d_Z_idle_6 : decode b_Z_idle 6 = .ok (.lconst 0, 1) := by decide +kernel
theorem d_Z_idle_7 : decode b_Z_idle 7 = .ok (.lcmp, 1) := by decide +kernel
theorem d_Z_idle_8 : decode b_Z_idle 8 = .ok (.ifCond .lt 11, 3) := by decide +kernel
theorem d_Z_idle_11 : decode b_Z_idle 11 = .ok (.lload_n 1, 1) := by decide +kernel
theorem d_Z_idle_12 : decode b_Z_idle 12 = .ok (.ldc2_w 132, 3) := by decide +kernel
theorem d_Z_idle_15 : decode b_Z_idle 15 = .ok (.lcmp, 1) := by decide +kernel
theorem d_Z_idle_16 : decode b_Z_idle 16 = .ok (.ifCond .le 6, 3) := by decide +kernel
theorem d_Z_idle_19 : decode b_Z_idle 19 = .ok (.bipush (-2), 2) := by decide +kernel
theorem d_Z_idle_21 : decode b_Z_idle 21 = .ok (.ireturn, 1) := by decide +kernel
theorem d_Z_idle_22 : decode b_Z_idle 22 = .ok (.aload_n 0, 1) := by decide +kernel
theorem d_Z_idle_23 : decode b_Z_idle 23 = .ok (.getfield 23, 3) := by decide +kernel
theorem d_Z_idle_26 : decode b_Z_idle 26 = .ok (.istore_n 3, 1) := by decide +kernel
theorem d_Z_idle_27 : decode b_Z_idle 27 = .ok (.aload_n 0, 1) := by decide +kernel
theorem d_Z_idle_28 : decode b_Z_idle 28 = .ok (.lload_n 1, 1) := by decide +kernel
theorem d_Z_idle_29 : decode b_Z_idle 29 = .ok (.l2i, 1) := by decide +kernel
theorem d_Z_idle_30 : decode b_Z_idle 30 = .ok (.putfield 23, 3) := by decide +kernel
theorem d_Z_idle_33 : decode b_Z_idle 33 = .ok (.iload_n 3, 1) := by decide +kernel
theorem d_Z_idle_34 : decode b_Z_idle 34 = .ok (.ireturn, 1) := by decide +kernel
theorem d_Z_sum_0 : decode b_Z_sum 0 = .ok (.aload_n 0, 1) := by decide +kernel
theorem d_Z_sum_1 : decode b_Z_sum 1 = .ok (.iconst 0, 1) := by decide +kernel
theorem d_Z_sum_2 : decode b_Z_sum 2 = .ok (.putfield 33, 3) := by decide +kernel
theorem d_Z_sum_5 : decode b_Z_sum 5 = .ok (.iload_n 1, 1) := by decide +kernel
theorem d_Z_sum_6 : decode b_Z_sum 6 = .ok (.ifCond .ne 10, 3) := by decide +kernel
theorem d_Z_sum_9 : decode b_Z_sum 9 = .ok (.aload_n 0, 1) := by decide +kernel
theorem d_Z_sum_10 : decode b_Z_sum 10 = .ok (.getfield 113, 3) := by decide +kernel
theorem d_Z_sum_13 : decode b_Z_sum 13 = .ok (.goto 42, 3) := by decide +kernel
theorem d_Z_sum_16 : decode b_Z_sum 16 = .ok (.iload_n 1, 1) := by decide +kernel
theorem d_Z_sum_17 : decode b_Z_sum 17 = .ok (.iconst 1, 1) := by decide +kernel
theorem d_Z_sum_18 : decode b_Z_sum 18 = .ok (.if_icmp .ne 10, 3) := by decide +kernel
theorem d_Z_sum_21 : decode b_Z_sum 21 = .ok (.aload_n 0, 1) := by decide +kernel
theorem d_Z_sum_22 : decode b_Z_sum 22 = .ok (.getfield 116, 3) := by decide +kernel
theorem d_Z_sum_25 : decode b_Z_sum 25 = .ok (.goto 30, 3) := by decide +kernel
theorem d_Z_sum_28 : decode b_Z_sum 28 = .ok (.iload_n 1, 1) := by decide +kernel
theorem d_Z_sum_29 : decode b_Z_sum 29 = .ok (.iconst 2, 1) := by decide +kernel
theorem d_Z_sum_30 : decode b_Z_sum 30 = .ok (.if_icmp .ne 10, 3) := by decide +kernel
theorem d_Z_sum_33 : decode b_Z_sum 33 = .ok (.aload_n 0, 1) := by decide +kernel
theorem d_Z_sum_34 : decode b_Z_sum 34 = .ok (.getfield 119, 3) := by decide +kernel
theorem d_Z_sum_37 : decode b_Z_sum 37 = .ok (.goto 18, 3) := by decide +kernel
theorem d_Z_sum_40 : decode b_Z_sum 40 = .ok (.iload_n 1, 1) := by decide +kernel
theorem d_Z_sum_41 : decode b_Z_sum 41 = .ok (.iconst 3, 1) := by decide +kernel
theorem d_Z_sum_42 : decode b_Z_sum 42 = .ok (.if_icmp .ne 10, 3) := by decide +kernel
theorem d_Z_sum_45 : decode b_Z_sum 45 = .ok (.aload_n 0, 1) := by decide +kernel
theorem d_Z_sum_46 : decode b_Z_sum 46 = .ok (.getfield 122, 3) := by decide +kernel
theorem d_Z_sum_49 : decode b_Z_sum 49 = .ok (.goto 6, 3) := by decide +kernel
theorem d_Z_sum_52 : decode b_Z_sum 52 = .ok (.ldc2_w 125, 3) := by decide +kernel
theorem d_Z_sum_55 : decode b_Z_sum 55 = .ok (.lreturn, 1) := by decide +kernel
theorem d_Z_split_0 : decode b_Z_split 0 = .ok (.aload_n 0, 1) := by decide +kernel
theorem d_Z_split_1 : decode b_Z_split 1 = .ok (.iconst 0, 1) := by decide +kernel
theorem d_Z_split_2 : decode b_Z_split 2 = .ok (.putfield 33, 3) := by decide +kernel
theorem d_Z_split_5 : decode b_Z_split 5 = .ok (.lload_n 1, 1) := by decide +kernel
theorem d_Z_split_6 : decode b_Z_split 6 = .ok (.lconst 0, 1) := by decide +kernel
theorem d_Z_split_7 : decode b_Z_split 7 = .ok (.lcmp, 1) := by decide +kernel
theorem d_Z_split_8 : decode b_Z_split 8 = .ok (.ifCond .lt 20, 3) := by decide +kernel
theorem d_Z_split_11 : decode b_Z_split 11 = .ok (.lload_n 1, 1) := by decide +kernel
theorem d_Z_split_12 : decode b_Z_split 12 = .ok (.ldc2_w 46, 3) := by decide +kernel
theorem d_Z_split_15 : decode b_Z_split 15 = .ok (.lcmp, 1) := by decide +kernel
theorem d_Z_split_16 : decode b_Z_split 16 = .ok (.ifCond .gt 12, 3) := by decide +kernel
theorem d_Z_split_19 : decode b_Z_split 19 = .ok (.iload_n 3, 1) := by decide +kernel
theorem d_Z_split_20 : decode b_Z_split 20 = .ok (.ifCond .lt 8, 3) := by decide +kernel
theorem d_Z_split_23 : decode b_Z_split 23 = .ok (.iload_n 3, 1) := by decide +kernel
theorem d_Z_split_24 : decode b_Z_split 24 = .ok (.iconst 2, 1) := by decide +kernel
theorem d_Z_split_25 : decode b_Z_split 25 = .ok (.if_icmp .le 6, 3) := by decide +kernel
theorem d_Z_split_28 : decode b_Z_split 28 = .ok (.bipush (-2), 2) := by decide +kernel
theorem d_Z_split_30 : decode b_Z_split 30 = .ok (.ireturn, 1) := by decide +kernel
theorem d_Z_split_31 : decode b_Z_split 31 = .ok (.lload_n 1, 1) := by decide +kernel
theorem d_Z_split_32 : decode b_Z_split 32 = .ok (.l2i, 1) := by decide +kernel
theorem d_Z_split_33 : decode b_Z_split 33 = .ok (.istore 4, 2) := by decide +kernel
theorem d_Z_split_35 : decode b_Z_split 35 = .ok (.iconst 0, 1) := by decide +kernel
theorem d_Z_split_36 : decode b_Z_split 36 = .ok (.istore 5, 2) := by decide +kernel
theorem d_Z_split_38 : decode b_Z_split 38 = .ok (.aload_n 0, 1) := by decide +kernel
theorem d_Z_split_39 : decode b_Z_split 39 = .ok (.iconst 4, 1) := by decide +kernel
theorem d_Z_split_40 : decode b_Z_split 40 = .ok (.iload 4, 2) := by decide +kernel
theorem d_Z_split_42 : decode b_Z_split 42 = .ok (.i2l, 1) := by decide +kernel
theorem d_Z_split_43 : decode b_Z_split 43 = .ok (.aload_n 0, 1) := by decide +kernel
theorem d_Z_split_44 : decode b_Z_split 44 = .ok (.getfield 56, 3) := by decide +kernel
theorem d_Z_split_47 : decode b_Z_split 47 = .ok (.i2l, 1) := by decide +kernel
theorem d_Z_split_48 : decode b_Z_split 48 = .ok (.invokevirtual 91, 3) := by decide +kernel
theorem d_Z_split_51 : decode b_Z_split 51 = .ok (.istore 6, 2) := by decide +kernel
theorem d_Z_split_53 : decode b_Z_split 53 = .ok (.bipush 50, 2) := by decide +kernel
theorem d_Z_split_55 : decode b_Z_split 55 = .ok (.istore 7, 2) := by decide +kernel
theorem d_Z_split_57 : decode b_Z_split 57 = .ok (.iload 7, 2) := by decide +kernel
theorem d_Z_split_59 : decode b_Z_split 59 = .ok (.sipush 401, 3) := by decide +kernel
theorem d_Z_split_62 : decode b_Z_split 62 = .ok (.if_icmp .ge 62, 3) := by decide +kernel
theorem d_Z_split_65 : decode b_Z_split 65 = .ok (.iload 7, 2) := by decide +kernel
theorem d_Z_split_67 : decode b_Z_split 67 = .ok (.iload 4, 2) := by decide +kernel
theorem d_Z_split_69 : decode b_Z_split 69 = .ok (.if_icmp .gt 55, 3) := by decide +kernel
theorem d_Z_split_72 : decode b_Z_split 72 = .ok (.iload 7, 2) := by decide +kernel
theorem d_Z_split_74 : decode b_Z_split 74 = .ok (.iload 7, 2) := by decide +kernel
theorem d_Z_split_76 : decode b_Z_split 76 = .ok (.iload 7, 2) := by decide +kernel
theorem d_Z_split_78 : decode b_Z_split 78 = .ok (.imul, 1) := by decide +kernel
theorem d_Z_split_79 : decode b_Z_split 79 = .ok (.sipush 200, 3) := by decide +kernel
theorem d_Z_split_82 : decode b_Z_split 82 = .ok (.idiv, 1) := by decide +kernel
theorem d_Z_split_83 : decode b_Z_split 83 = .ok (.iadd, 1) := by decide +kernel
theorem d_Z_split_84 : decode b_Z_split 84 = .ok (.aload_n 0, 1) := by decide +kernel
theorem d_Z_split_85 : decode b_Z_split 85 = .ok (.iconst 4, 1) := by decide +kernel
theorem d_Z_split_86 : decode b_Z_split 86 = .ok (.iload 4, 2) := by decide +kernel
theorem d_Z_split_88 : decode b_Z_split 88 = .ok (.iload 7, 2) := by decide +kernel
theorem d_Z_split_90 : decode b_Z_split 90 = .ok (.isub, 1) := by decide +kernel
theorem d_Z_split_91 : decode b_Z_split 91 = .ok (.i2l, 1) := by decide +kernel
theorem d_Z_split_92 : decode b_Z_split 92 = .ok (.aload_n 0, 1) := by decide +kernel
theorem d_Z_split_93 : decode b_Z_split 93 = .ok (.getfield 56, 3) := by decide +kernel
theorem d_Z_split_96 : decode b_Z_split 96 = .ok (.i2l, 1) := by decide +kernel
theorem d_Z_split_97 : decode b_Z_split 97 = .ok (.invokevirtual 91, 3) := by decide +kernel
theorem d_Z_split_100 : decode b_Z_split 100 = .ok (.iadd, 1) := by decide +kernel
theorem d_Z_split_101 : decode b_Z_split 101 = .ok (.istore 8, 2) := by decide +kernel
theorem d_Z_split_103 : decode b_Z_split 103 = .ok (.iload 8, 2) := by decide +kernel
theorem d_Z_split_105 : decode b_Z_split 105 = .ok (.iload 6, 2) := by decide +kernel
theorem d_Z_split_107 : decode b_Z_split 107 = .ok (.if_icmp .ge 11, 3) := by decide +kernel
theorem d_Z_split_110 : decode b_Z_split 110 = .ok (.iload 7, 2) := by decide +kernel
theorem d_Z_split_112 : decode b_Z_split 112 = .ok (.istore 5, 2) := by decide +kernel
theorem d_Z_split_114 : decode b_Z_split 114 = .ok (.iload 8, 2) := by decide +kernel
theorem d_Z_split_116 : decode b_Z_split 116 = .ok (.istore 6, 2) := by decide +kernel
theorem d_Z_split_118 : decode b_Z_split 118 = .ok (.iinc 7 50, 3) := by decide +kernel
theorem d_Z_split_121 : decode b_Z_split 121 = .ok (.goto (-64), 3) := by decide +kernel
theorem d_Z_split_124 : decode b_Z_split 124 = .ok (.iload_n 3, 1) := by decide +kernel
theorem d_Z_split_125 : decode b_Z_split 125 = .ok (.ifCond .ne 11, 3) := by decide +kernel
theorem d_Z_split_128 : decode b_Z_split 128 = .ok (.iload 4, 2) := by decide +kernel
theorem d_Z_split_130 : decode b_Z_split 130 = .ok (.iload 5, 2) := by decide +kernel
theorem d_Z_split_132 : decode b_Z_split 132 = .ok (.isub, 1) := by decide +kernel
theorem d_Z_split_133 : decode b_Z_split 133 = .ok (.goto 15, 3) := by decide +kernel
theorem d_Z_split_136 : decode b_Z_split 136 = .ok (.iload_n 3, 1) := by decide +kernel
theorem d_Z_split_137 : decode b_Z_split 137 = .ok (.iconst 1, 1) := by decide +kernel
theorem d_Z_split_138 : decode b_Z_split 138 = .ok (.if_icmp .ne 8, 3) := by decide +kernel
theorem d_Z_split_141 : decode b_Z_split 141 = .ok (.iload 5, 2) := by decide +kernel
theorem d_Z_split_143 : decode b_Z_split 143 = .ok (.goto 5, 3) := by decide +kernel
theorem d_Z_split_146 : decode b_Z_split 146 = .ok (.iload 6, 2) := by decide +kernel
theorem d_Z_split_148 : decode b_Z_split 148 = .ok (.ireturn, 1) := by decide +kernel
theorem d_Z_limp_0 : decode b_Z_limp 0 = .ok (.aload_n 0, 1) := by decide +kernel
theorem d_Z_limp_1 : decode b_Z_limp 1 = .ok (.iconst 0, 1) := by decide +kernel
theorem d_Z_limp_2 : decode b_Z_limp 2 = .ok (.putfield 33, 3) := by decide +kernel
theorem d_Z_limp_5 : decode b_Z_limp 5 = .ok (.aload_n 0, 1) := by decide +kernel
theorem d_Z_limp_6 : decode b_Z_limp 6 = .ok (.getfield 85, 3) := by decide +kernel
theorem d_Z_limp_9 : decode b_Z_limp 9 = .ok (.istore_n 2, 1) := by decide +kernel
theorem d_Z_limp_10 : decode b_Z_limp 10 = .ok (.aload_n 0, 1) := by decide +kernel
theorem d_Z_limp_11 : decode b_Z_limp 11 = .ok (.getfield 78, 3) := by decide +kernel
theorem d_Z_limp_14 : decode b_Z_limp 14 = .ok (.istore_n 3, 1) := by decide +kernel
theorem d_Z_limp_15 : decode b_Z_limp 15 = .ok (.aload_n 0, 1) := by decide +kernel
theorem d_Z_limp_16 : decode b_Z_limp 16 = .ok (.iload_n 1, 1) := by decide +kernel
theorem d_Z_limp_17 : decode b_Z_limp 17 = .ok (.putfield 85, 3) := by decide +kernel
theorem d_Z_limp_20 : decode b_Z_limp 20 = .ok (.iload_n 1, 1) := by decide +kernel
theorem d_Z_limp_21 : decode b_Z_limp 21 = .ok (.ifCond .ne 18, 3) := by decide +kernel
theorem d_Z_limp_24 : decode b_Z_limp 24 = .ok (.aload_n 0, 1) := by decide +kernel
theorem d_Z_limp_25 : decode b_Z_limp 25 = .ok (.iconst 0, 1) := by decide +kernel
theorem d_Z_limp_26 : decode b_Z_limp 26 = .ok (.putfield 78, 3) := by decide +kernel
theorem d_Z_limp_29 : decode b_Z_limp 29 = .ok (.aload_n 0, 1) := by decide +kernel
theorem d_Z_limp_30 : decode b_Z_limp 30 = .ok (.iconst 0, 1) := by decide +kernel
theorem d_Z_limp_31 : decode b_Z_limp 31 = .ok (.putfield 75, 3) := by decide +kernel
theorem d_Z_limp_34 : decode b_Z_limp 34 = .ok (.aload_n 0, 1) := by decide +kernel
theorem d_Z_limp_35 : decode b_Z_limp 35 = .ok (.iconst 0, 1) := by decide +kernel
theorem d_Z_limp_36 : decode b_Z_limp 36 = .ok (.putfield 127, 3) := by decide +kernel
theorem d_Z_limp_39 : decode b_Z_limp 39 = .ok (.iload_n 2, 1) := by decide +kernel
theorem d_Z_limp_40 : decode b_Z_limp 40 = .ok (.iload_n 1, 1) := by decide +kernel
theorem d_Z_limp_41 : decode b_Z_limp 41 = .ok (.if_icmp .ne 11, 3) := by decide +kernel
theorem d_Z_limp_44 : decode b_Z_limp 44 = .ok (.iload_n 1, 1) := by decide +kernel
theorem d_Z_limp_45 : decode b_Z_limp 45 = .ok (.ifCond .ne 11, 3) := by decide +kernel
theorem d_Z_limp_48 : decode b_Z_limp 48 = .ok (.iload_n 3, 1) := by decide +kernel
theorem d_Z_limp_49 : decode b_Z_limp 49 = .ok (.ifCond .eq 7, 3) := by decide +kernel
theorem d_Z_limp_52 : decode b_Z_limp 52 = .ok (.iconst 1, 1) := by decide +kernel
theorem d_Z_limp_53 : decode b_Z_limp 53 = .ok (.goto 4, 3) := by decide +kernel
theorem d_Z_limp_56 : decode b_Z_limp 56 = .ok (.iconst 0, 1) := by decide +kernel
theorem d_Z_limp_57 : decode b_Z_limp 57 = .ok (.ireturn, 1) := by decide +kernel
theorem d_Z_init_0 : decode b_Z_init 0 = .ok (.aload_n 0, 1) := by decide +kernel
theorem d_Z_init_1 : decode b_Z_init 1 = .ok (.invokespecial 1, 3) := by decide +kernel
theorem d_Z_init_4 : decode b_Z_init 4 = .ok (.aload_n 0, 1) := by decide +kernel
theorem d_Z_init_5 : decode b_Z_init 5 = .ok (.sipush 320, 3) := by decide +kernel
theorem d_Z_init_8 : decode b_Z_init 8 = .ok (.newarray .int, 2) := by decide +kernel
theorem d_Z_init_10 : decode b_Z_init 10 = .ok (.putfield 7, 3) := by decide +kernel
theorem d_Z_init_13 : decode b_Z_init 13 = .ok (.aload_n 0, 1) := by decide +kernel
theorem d_Z_init_14 : decode b_Z_init 14 = .ok (.iconst 3, 1) := by decide +kernel
theorem d_Z_init_15 : decode b_Z_init 15 = .ok (.newarray .boolean, 2) := by decide +kernel
theorem d_Z_init_17 : decode b_Z_init 17 = .ok (.putfield 13, 3) := by decide +kernel
theorem d_Z_init_20 : decode b_Z_init 20 = .ok (.aload_n 0, 1) := by decide +kernel
theorem d_Z_init_21 : decode b_Z_init 21 = .ok (.bipush 16, 2) := by decide +kernel
theorem d_Z_init_23 : decode b_Z_init 23 = .ok (.newarray .int, 2) := by decide +kernel
theorem d_Z_init_25 : decode b_Z_init 25 = .ok (.putfield 17, 3) := by decide +kernel
theorem d_Z_init_28 : decode b_Z_init 28 = .ok (.aload_n 0, 1) := by decide +kernel
theorem d_Z_init_29 : decode b_Z_init 29 = .ok (.bipush 16, 2) := by decide +kernel
theorem d_Z_init_31 : decode b_Z_init 31 = .ok (.newarray .int, 2) := by decide +kernel
theorem d_Z_init_33 : decode b_Z_init 33 = .ok (.putfield 20, 3) := by decide +kernel
theorem d_Z_init_36 : decode b_Z_init 36 = .ok (.aload_n 0, 1) := by decide +kernel
theorem d_Z_init_37 : decode b_Z_init 37 = .ok (.sipush 800, 3) := by decide +kernel
theorem d_Z_init_40 : decode b_Z_init 40 = .ok (.putfield 23, 3) := by decide +kernel
theorem d_Z_init_43 : decode b_Z_init 43 = .ok (.aload_n 0, 1) := by decide +kernel
theorem d_Z_init_44 : decode b_Z_init 44 = .ok (.sipush 1000, 3) := by decide +kernel
theorem d_Z_init_47 : decode b_Z_init 47 = .ok (.putfield 27, 3) := by decide +kernel
theorem d_Z_init_50 : decode b_Z_init 50 = .ok (.aload_n 0, 1) := by decide +kernel
theorem d_Z_init_51 : decode b_Z_init 51 = .ok (.iconst 4, 1) := by decide +kernel
theorem d_Z_init_52 : decode b_Z_init 52 = .ok (.putfield 30, 3) := by decide +kernel
theorem d_Z_init_55 : decode b_Z_init 55 = .ok (.return_, 1) := by decide +kernel
