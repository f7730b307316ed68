theorem d_X_wish_12 : decode b_X_wish 12 = .ok (.lload_n 2, 1) := by decide +kernel
theorem d_X_wish_13 : decode b_X_wish 13 = .ok (.ldc2_w 52, 3) := by decide +kernel
theorem d_X_wish_16 : decode b_X_wish 16 = .ok (.invokestatic 54, 3) := by decide +kernel
theorem d_X_wish_19 : decode b_X_wish 19 = .ok (.ifCond .ne 6, 3) := by decide +kernel
theorem d_X_wish_22 : decode b_X_wish 22 = .ok (.bipush (-2), 2) := by decide +kernel
theorem d_X_wish_24 : decode b_X_wish 24 = .ok (.ireturn, 1) := by decide +kernel
theorem d_X_wish_25 : decode b_X_wish 25 = .ok (.aload_n 0, 1) := by decide +kernel
theorem d_X_wish_26 : decode b_X_wish 26 = .ok (.getfield 19, 3) := by decide +kernel
theorem d_X_wish_29 : decode b_X_wish 29 = .ok (.getfield 135, 3) := by decide +kernel
theorem d_X_wish_32 : decode b_X_wish 32 = .ok (.bipush 16, 2) := by decide +kernel
theorem d_X_wish_34 : decode b_X_wish 34 = .ok (.if_icmp .lt 6, 3) := by decide +kernel
theorem d_X_wish_37 : decode b_X_wish 37 = .ok (.bipush (-4), 2) := by decide +kernel
theorem d_X_wish_39 : decode b_X_wish 39 = .ok (.ireturn, 1) := by decide +kernel
theorem d_X_wish_40 : decode b_X_wish 40 = .ok (.aload_n 0, 1) := by decide +kernel
theorem d_X_wish_41 : decode b_X_wish 41 = .ok (.getfield 19, 3) := by decide +kernel
theorem d_X_wish_44 : decode b_X_wish 44 = .ok (.iload_n 1, 1) := by decide +kernel
theorem d_X_wish_45 : decode b_X_wish 45 = .ok (.lload_n 2, 1) := by decide +kernel
theorem d_X_wish_46 : decode b_X_wish 46 = .ok (.l2i, 1) := by decide +kernel
theorem d_X_wish_47 : decode b_X_wish 47 = .ok (.invokevirtual 138, 3) := by decide +kernel
theorem d_X_wish_50 : decode b_X_wish 50 = .ok (.ireturn, 1) := by decide +kernel
theorem d_X_bound_0 : decode b_X_bound 0 = .ok (.lload_n 1, 1) := by decide +kernel
theorem d_X_bound_1 : decode b_X_bound 1 = .ok (.ldc2_w 52, 3) := by decide +kernel
theorem d_X_bound_4 : decode b_X_bound 4 = .ok (.invokestatic 54, 3) := by decide +kernel
theorem d_X_bound_7 : decode b_X_bound 7 = .ok (.ifCond .ne 6, 3) := by decide +kernel
theorem d_X_bound_10 : decode b_X_bound 10 = .ok (.bipush (-2), 2) := by decide +kernel
theorem d_X_bound_12 : decode b_X_bound 12 = .ok (.ireturn, 1) := by decide +kernel
theorem d_X_bound_13 : decode b_X_bound 13 = .ok (.aload_n 0, 1) := by decide +kernel
theorem d_X_bound_14 : decode b_X_bound 14 = .ok (.getfield 41, 3) := by decide +kernel
theorem d_X_bound_17 : decode b_X_bound 17 = .ok (.istore_n 3, 1) := by decide +kernel
theorem d_X_bound_18 : decode b_X_bound 18 = .ok (.aload_n 0, 1) := by decide +kernel
theorem d_X_bound_19 : decode b_X_bound 19 = .ok (.lload_n 1, 1) := by decide +kernel
theorem d_X_bound_20 : decode b_X_bound 20 = .ok (.l2i, 1) := by decide +kernel
theorem d_X_bound_21 : decode b_X_bound 21 = .ok (.putfield 41, 3) := by decide +kernel
theorem d_X_bound_24 : decode b_X_bound 24 = .ok (.iload_n 3, 1) := by decide +kernel
theorem d_X_bound_25 : decode b_X_bound 25 = .ok (.ireturn, 1) := by decide +kernel
theorem d_X_monitor_0 : decode b_X_monitor 0 = .ok (.aload_n 0, 1) := by decide +kernel
theorem d_X_monitor_1 : decode b_X_monitor 1 = .ok (.getfield 141, 3) := by decide +kernel
theorem d_X_monitor_4 : decode b_X_monitor 4 = .ok (.ifCond .eq 6, 3) := by decide +kernel
theorem d_X_monitor_7 : decode b_X_monitor 7 = .ok (.bipush (-3), 2) := by decide +kernel
theorem d_X_monitor_9 : decode b_X_monitor 9 = .ok (.ireturn, 1) := by decide +kernel
theorem d_X_monitor_10 : decode b_X_monitor 10 = .ok (.aload_n 0, 1) := by decide +kernel
theorem d_X_monitor_11 : decode b_X_monitor 11 = .ok (.aload_n 0, 1) := by decide +kernel
theorem d_X_monitor_12 : decode b_X_monitor 12 = .ok (.lload_n 1, 1) := by decide +kernel
theorem d_X_monitor_13 : decode b_X_monitor 13 = .ok (.invokevirtual 145, 3) := by decide +kernel
theorem d_X_monitor_16 : decode b_X_monitor 16 = .ok (.ifCond .eq 12, 3) := by decide +kernel
theorem d_X_monitor_19 : decode b_X_monitor 19 = .ok (.aload_n 0, 1) := by decide +kernel
theorem d_X_monitor_20 : decode b_X_monitor 20 = .ok (.getfield 149, 3) := by decide +kernel
theorem d_X_monitor_23 : decode b_X_monitor 23 = .ok (.iconst 1, 1) := by decide +kernel
theorem d_X_monitor_24 : decode b_X_monitor 24 = .ok (.iadd, 1) := by decide +kernel
theorem d_X_monitor_25 : decode b_X_monitor 25 = .ok (.goto 4, 3) := by decide +kernel
theorem d_X_monitor_28 : decode b_X_monitor 28 = .ok (.iconst 0, 1) := by decide +kernel
theorem d_X_monitor_29 : decode b_X_monitor 29 = .ok (.putfield 149, 3) := by decide +kernel
theorem d_X_monitor_32 : decode b_X_monitor 32 = .ok (.aload_n 0, 1) := by decide +kernel
theorem d_X_monitor_33 : decode b_X_monitor 33 = .ok (.getfield 149, 3) := by decide +kernel
theorem d_X_monitor_36 : decode b_X_monitor 36 = .ok (.bipush 8, 2) := by decide +kernel
theorem d_X_monitor_38 : decode b_X_monitor 38 = .ok (.if_icmp .lt 8, 3) := by decide +kernel
theorem d_X_monitor_41 : decode b_X_monitor 41 = .ok (.aload_n 0, 1) := by decide +kernel
theorem d_X_monitor_42 : decode b_X_monitor 42 = .ok (.iconst 1, 1) := by decide +kernel
theorem d_X_monitor_43 : decode b_X_monitor 43 = .ok (.putfield 141, 3) := by decide +kernel
theorem d_X_monitor_46 : decode b_X_monitor 46 = .ok (.aload_n 0, 1) := by decide +kernel
theorem d_X_monitor_47 : decode b_X_monitor 47 = .ok (.getfield 149, 3) := by decide +kernel
theorem d_X_monitor_50 : decode b_X_monitor 50 = .ok (.ireturn, 1) := by decide +kernel
theorem d_X_sensor_0 : decode b_X_sensor 0 = .ok (.iload_n 1, 1) := by decide +kernel
theorem d_X_sensor_1 : decode b_X_sensor 1 = .ok (.ifCond .lt 8, 3) := by decide +kernel
theorem d_X_sensor_4 : decode b_X_sensor 4 = .ok (.iload_n 1, 1) := by decide +kernel
theorem d_X_sensor_5 : decode b_X_sensor 5 = .ok (.iconst 3, 1) := by decide +kernel
theorem d_X_sensor_6 : decode b_X_sensor 6 = .ok (.if_icmp .lt 5, 3) := by decide +kernel
theorem d_X_sensor_9 : decode b_X_sensor 9 = .ok (.iconst (-1), 1) := by decide +kernel
theorem d_X_sensor_10 : decode b_X_sensor 10 = .ok (.ireturn, 1) := by decide +kernel
theorem d_X_sensor_11 : decode b_X_sensor 11 = .ok (.iload_n 2, 1) := by decide +kernel
theorem d_X_sensor_12 : decode b_X_sensor 12 = .ok (.ifCond .eq 11, 3) := by decide +kernel
theorem d_X_sensor_15 : decode b_X_sensor 15 = .ok (.iload_n 2, 1) := by decide +kernel
theorem d_X_sensor_16 : decode b_X_sensor 16 = .ok (.iconst 1, 1) := by decide +kernel
theorem d_X_sensor_17 : decode b_X_sensor 17 = .ok (.if_icmp .eq 6, 3) := by decide +kernel
theorem d_X_sensor_20 : decode b_X_sensor 20 = .ok (.bipush (-2), 2) := by decide +kernel
theorem d_X_sensor_22 : decode b_X_sensor 22 = .ok (.ireturn, 1) := by decide +kernel
theorem d_X_sensor_23 : decode b_X_sensor 23 = .ok (.aload_n 0, 1) := by decide +kernel
theorem d_X_sensor_24 : decode b_X_sensor 24 = .ok (.getfield 37, 3) := by decide +kernel
theorem d_X_sensor_27 : decode b_X_sensor 27 = .ok (.iload_n 1, 1) := by decide +kernel
theorem d_X_sensor_28 : decode b_X_sensor 28 = .ok (.baload, 1) := by decide +kernel
theorem d_X_sensor_29 : decode b_X_sensor 29 = .ok (.ifCond .eq 7, 3) := by decide +kernel
theorem d_X_sensor_32 : decode b_X_sensor 32 = .ok (.iconst 1, 1) := by decide +kernel
theorem d_X_sensor_33 : decode b_X_sensor 33 = .ok (.goto 4, 3) := by decide +kernel
theorem d_X_sensor_36 : decode b_X_sensor 36 = .ok (.iconst 0, 1) := by decide +kernel
theorem d_X_sensor_37 : decode b_X_sensor 37 = .ok (.istore_n 3, 1) := by decide +kernel
theorem d_X_sensor_38 : decode b_X_sensor 38 = .ok (.aload_n 0, 1) := by decide +kernel
theorem d_X_sensor_39 : decode b_X_sensor 39 = .ok (.getfield 37, 3) := by decide +kernel
theorem d_X_sensor_42 : decode b_X_sensor 42 = .ok (.iload_n 1, 1) := by decide +kernel
theorem d_X_sensor_43 : decode b_X_sensor 43 = .ok (.iload_n 2, 1) := by decide +kernel
theorem d_X_sensor_44 : decode b_X_sensor 44 = .ok (.iconst 1, 1) := by decide +kernel
theorem d_X_sensor_45 : decode b_X_sensor 45 = .ok (.if_icmp .ne 7, 3) := by decide +kernel
theorem d_X_sensor_48 : decode b_X_sensor 48 = .ok (.iconst 1, 1) := by decide +kernel
theorem d_X_sensor_49 : decode b_X_sensor 49 = .ok (.goto 4, 3) := by decide +kernel
theorem d_X_sensor_52 : decode b_X_sensor 52 = .ok (.iconst 0, 1) := by decide +kernel
theorem d_X_sensor_53 : decode b_X_sensor 53 = .ok (.bastore, 1) := by decide +kernel
theorem d_X_sensor_54 : decode b_X_sensor 54 = .ok (.iload_n 3, 1) := by decide +kernel
theorem d_X_sensor_55 : decode b_X_sensor 55 = .ok (.ireturn, 1) := by decide +kernel
theorem d_X_cylinder_0 : decode b_X_cylinder 0 = .ok (.iload_n 1, 1) := by decide +kernel
theorem d_X_cylinder_1 : decode b_X_cylinder 1 = .ok (.iconst 1, 1) := by decide +kernel
theorem d_X_cylinder_2 : decode b_X_cylinder 2 = .ok (.if_icmp .lt 9, 3) := by decide +kernel
theorem d_X_cylinder_5 : decode b_X_cylinder 5 = .ok (.iload_n 1, 1) := by decide +kernel
theorem d_X_cylinder_6 : decode b_X_cylinder 6 = .ok (.bipush 12, 2) := by decide +kernel
theorem d_X_cylinder_8 : decode b_X_cylinder 8 = .ok (.if_icmp .le 5, 3) := by decide +kernel
theorem d_X_cylinder_11 : decode b_X_cylinder 11 = .ok (.iconst 0, 1) := by decide +kernel
theorem d_X_cylinder_12 : decode b_X_cylinder 12 = .ok (.ireturn, 1) := by decide +kernel
theorem d_X_cylinder_13 : decode b_X_cylinder 13 = .ok (.aload_n 0, 1) := by decide +kernel
theorem d_X_cylinder_14 : decode b_X_cylinder 14 = .ok (.iload_n 1, 1) := by decide +kernel
theorem d_X_cylinder_15 : decode b_X_cylinder 15 = .ok (.putfield 45, 3) := by decide +kernel
theorem d_X_cylinder_18 : decode b_X_cylinder 18 = .ok (.iconst 1, 1) := by decide +kernel
theorem d_X_cylinder_19 : decode b_X_cylinder 19 = .ok (.ireturn, 1) := by decide +kernel
theorem d_X_idle_0 : decode b_X_idle 0 = .ok (.lload_n 1, 1) := by decide +kernel
theorem d_X_idle_1 : decode b_X_idle 1 = .ok (.ldc2_w 161, 3) := by decide +kernel
theorem d_X_idle_4 : decode b_X_idle 4 = .ok (.invokestatic 54, 3) := by decide +kernel
theorem d_X_idle_7 : decode b_X_idle 7 = .ok (.ifCond .ne 6, 3) := by decide +kernel
theorem d_X_idle_10 : decode b_X_idle 10 = .ok (.bipush (-2), 2) := by decide +kernel
theorem d_X_idle_12 : decode b_X_idle 12 = .ok (.ireturn, 1) := by decide +kernel
theorem d_X_idle_13 : decode b_X_idle 13 = .ok (.aload_n 0, 1) := by decide +kernel
theorem d_X_idle_14 : decode b_X_idle 14 = .ok (.getfield 26, 3) := by decide +kernel
theorem d_X_idle_17 : decode b_X_idle 17 = .ok (.getfield 163, 3) := by decide +kernel
theorem d_X_idle_20 : decode b_X_idle 20 = .ok (.istore_n 3, 1) := by decide +kernel
theorem d_X_idle_21 : decode b_X_idle 21 = .ok (.aload_n 0, 1) := by decide +kernel
theorem d_X_idle_22 : decode b_X_idle 22 = .ok (.getfield 26, 3) := by decide +kernel
theorem d_X_idle_25 : decode b_X_idle 25 = .ok (.lload_n 1, 1) := by decide +kernel
theorem d_X_idle_26 : decode b_X_idle 26 = .ok (.l2i, 1) := by decide +kernel
theorem d_X_idle_27 : decode b_X_idle 27 = .ok (.putfield 163, 3) := by decide +kernel
theorem d_X_idle_30 : decode b_X_idle 30 = .ok (.iload_n 3, 1) := by decide +kernel
theorem d_X_idle_31 : decode b_X_idle 31 = .ok (.ireturn, 1) := by decide +kernel
theorem d_X_sum_0 : decode b_X_sum 0 = .ok (.iload_n 1, 1) := by decide +kernel
theorem d_X_sum_1 : decode b_X_sum 1 = .ok (.tableswitch 63 0 3 #[31, 39, 47, 55], 31) := by decide +kernel
theorem d_X_sum_32 : decode b_X_sum 32 = .ok (.aload_n 0, 1) := by decide +kernel
theorem d_X_sum_33 : decode b_X_sum 33 = .ok (.getfield 33, 3) := by decide +kernel
theorem d_X_sum_36 : decode b_X_sum 36 = .ok (.getfield 166, 3) := by decide +kernel
theorem d_X_sum_39 : decode b_X_sum 39 = .ok (.lreturn, 1) := by decide +kernel
theorem d_X_sum_40 : decode b_X_sum 40 = .ok (.aload_n 0, 1) := by decide +kernel
theorem d_X_sum_41 : decode b_X_sum 41 = .ok (.getfield 33, 3) := by decide +kernel
theorem d_X_sum_44 : decode b_X_sum 44 = .ok (.getfield 170, 3) := by decide +kernel
theorem d_X_sum_47 : decode b_X_sum 47 = .ok (.lreturn, 1) := by decide +kernel
theorem d_X_sum_48 : decode b_X_sum 48 = .ok (.aload_n 0, 1) := by decide +kernel
theorem d_X_sum_49 : decode b_X_sum 49 = .ok (.getfield 33, 3) := by decide +kernel
theorem d_X_sum_52 : decode b_X_sum 52 = .ok (.getfield 173, 3) := by decide +kernel
theorem d_X_sum_55 : decode b_X_sum 55 = .ok (.lreturn, 1) := by decide +kernel
theorem d_X_sum_56 : decode b_X_sum 56 = .ok (.aload_n 0, 1) := by decide +kernel
theorem d_X_sum_57 : decode b_X_sum 57 = .ok (.getfield 33, 3) := by decide +kernel
theorem d_X_sum_60 : decode b_X_sum 60 = .ok (.getfield 176, 3) := by decide +kernel
theorem d_X_sum_63 : decode b_X_sum 63 = .ok (.lreturn, 1) := by decide +kernel
theorem d_X_sum_64 : decode b_X_sum 64 = .ok (.ldc2_w 133, 3) := by decide +kernel
theorem d_X_sum_67 : decode b_X_sum 67 = .ok (.lreturn, 1) := by decide +kernel
theorem d_X_split_0 : decode b_X_split 0 = .ok (.lload_n 1, 1) := by decide +kernel
theorem d_X_split_1 : decode b_X_split 1 = .ok (.ldc2_w 52, 3) := by decide +kernel
theorem d_X_split_4 : decode b_X_split 4 = .ok (.invokestatic 54, 3) := by decide +kernel
theorem d_X_split_7 : decode b_X_split 7 = .ok (.ifCond .eq 12, 3) := by decide +kernel
theorem d_X_split_10 : decode b_X_split 10 = .ok (.iload_n 3, 1) := by decide +kernel
theorem d_X_split_11 : decode b_X_split 11 = .ok (.ifCond .lt 8, 3) := by decide +kernel
theorem d_X_split_14 : decode b_X_split 14 = .ok (.iload_n 3, 1) := by decide +kernel
theorem d_X_split_15 : decode b_X_split 15 = .ok (.iconst 2, 1) := by decide +kernel
theorem d_X_split_16 : decode b_X_split 16 = .ok (.if_icmp .le 6, 3) := by decide +kernel
theorem d_X_split_19 : decode b_X_split 19 = .ok (.bipush (-2), 2) := by decide +kernel
theorem d_X_split_21 : decode b_X_split 21 = .ok (.ireturn, 1) := by decide +kernel
theorem d_X_split_22 : decode b_X_split 22 = .ok (.lload_n 1, 1) := by decide +kernel
theorem d_X_split_23 : decode b_X_split 23 = .ok (.l2i, 1) := by decide +kernel
theorem d_X_split_24 : decode b_X_split 24 = .ok (.istore 4, 2) := by decide +kernel
theorem d_X_split_26 : decode b_X_split 26 = .ok (.aload_n 0, 1) := by decide +kernel
theorem d_X_split_27 : decode b_X_split 27 = .ok (.iload 4, 2) := by decide +kernel
theorem d_X_split_29 : decode b_X_split 29 = .ok (.invokevirtual 179, 3) := by decide +kernel
theorem d_X_split_32 : decode b_X_split 32 = .ok (.istore 5, 2) := by decide +kernel
theorem d_X_split_34 : decode b_X_split 34 = .ok (.iload_n 3, 1) := by decide +kernel
theorem d_X_split_35 : decode b_X_split 35 = .ok (.ifCond .ne 9, 3) := by decide +kernel
theorem d_X_split_38 : decode b_X_split 38 = .ok (.iload 4, 2) := by decide +kernel
theorem d_X_split_40 : decode b_X_split 40 = .ok (.iload 5, 2) := by decide +kernel
theorem d_X_split_42 : decode b_X_split 42 = .ok (.isub, 1) := by decide +kernel
theorem d_X_split_43 : decode b_X_split 43 = .ok (.ireturn, 1) := by decide +kernel
theorem d_X_split_44 : decode b_X_split 44 = .ok (.iload_n 3, 1) := by decide +kernel
theorem d_X_split_45 : decode b_X_split 45 = .ok (.iconst 1, 1) := by decide +kernel
theorem d_X_split_46 : decode b_X_split 46 = .ok (.if_icmp .ne 8, 3) := by decide +kernel
theorem d_X_split_49 : decode b_X_split 49 = .ok (.iload 5, 2) := by decide +kernel
theorem d_X_split_51 : decode b_X_split 51 = .ok (.goto 11, 3) := by decide +kernel
theorem d_X_split_54 : decode b_X_split 54 = .ok (.aload_n 0, 1) := by decide +kernel
theorem d_X_split_55 : decode b_X_split 55 = .ok (.iload 4, 2) := by decide +kernel
theorem d_X_split_57 : decode b_X_split 57 = .ok (.iload 5, 2) := by decide +kernel
theorem d_X_split_59 : decode b_X_split 59 = .ok (.invokevirtual 183, 3) := by decide +kernel
theorem d_X_split_62 : decode b_X_split 62 = .ok (.ireturn, 1) := by decide +kernel
theorem d_X_limp_0 : decode b_X_limp 0 = .ok (.aload_n 0, 1) := by decide +kernel
theorem d_X_limp_1 : decode b_X_limp 1 = .ok (.getfield 186, 3) := by decide +kernel
theorem d_X_limp_4 : decode b_X_limp 4 = .ok (.iload_n 1, 1) := by decide +kernel
theorem d_X_limp_5 : decode b_X_limp 5 = .ok (.if_icmp .eq 7, 3) := by decide +kernel
theorem d_X_limp_8 : decode b_X_limp 8 = .ok (.iconst 1, 1) := by decide +kernel
theorem d_X_limp_9 : decode b_X_limp 9 = .ok (.goto 4, 3) := by decide +kernel
theorem d_X_limp_12 : decode b_X_limp 12 = .ok (.iconst 0, 1) := by decide +kernel
theorem d_X_limp_13 : decode b_X_limp 13 = .ok (.istore_n 2, 1) := by decide +kernel
theorem d_X_limp_14 : decode b_X_limp 14 = .ok (.aload_n 0, 1) := by decide +kernel
theorem d_X_limp_15 : decode b_X_limp 15 = .ok (.iload_n 1, 1) := by decide +kernel
theorem d_X_limp_16 : decode b_X_limp 16 = .ok (.putfield 186, 3) := by decide +kernel
theorem d_X_limp_19 : decode b_X_limp 19 = .ok (.iload_n 1, 1) := by decide +kernel
theorem d_X_limp_20 : decode b_X_limp 20 = .ok (.ifCond .ne 35, 3) := by decide +kernel
theorem d_X_limp_23 : decode b_X_limp 23 = .ok (.iload_n 2, 1) := by decide +kernel
theorem d_X_limp_24 : decode b_X_limp 24 = .ok (.ifCond .ne 10, 3) := by decide +kernel
theorem d_X_limp_27 : decode b_X_limp 27 = .ok (.aload_n 0, 1) := by decide +kernel
theorem d_X_limp_28 : decode b_X_limp 28 = .ok (.getfield 141, 3) := by decide +kernel
theorem d_X_limp_31 : decode b_X_limp 31 = .ok (.ifCond .eq 7, 3) := by decide +kernel
theorem d_X_limp_34 : decode b_X_limp 34 = .ok (.iconst 1, 1) := by decide +kernel
theorem d_X_limp_35 : decode b_X_limp 35 = .ok (.goto 4, 3) := by decide +kernel
theorem d_X_limp_38 : decode b_X_limp 38 = .ok (.iconst 0, 1) := by decide +kernel
theorem d_X_limp_39 : decode b_X_limp 39 = .ok (.istore_n 2, 1) := by decide +kernel
theorem d_X_limp_40 : decode b_X_limp 40 = .ok (.aload_n 0, 1) := by decide +kernel
theorem d_X_limp_41 : decode b_X_limp 41 = .ok (.iconst 0, 1) := by decide +kernel
theorem d_X_limp_42 : decode b_X_limp 42 = .ok (.putfield 141, 3) := by decide +kernel
theorem d_X_limp_45 : decode b_X_limp 45 = .ok (.aload_n 0, 1) := by decide +kernel
theorem d_X_limp_46 : decode b_X_limp 46 = .ok (.iconst 0, 1) := by decide +kernel
theorem d_X_limp_47 : decode b_X_limp 47 = .ok (.putfield 130, 3) := by decide +kernel
theorem d_X_limp_50 : decode b_X_limp 50 = .ok (.aload_n 0, 1) := by decide +kernel
theorem d_X_limp_51 : decode b_X_limp 51 = .ok (.iconst 0, 1) := by decide +kernel
theorem d_X_limp_52 : decode b_X_limp 52 = .ok (.putfield 149, 3) := by decide +kernel
theorem d_X_limp_55 : decode b_X_limp 55 = .ok (.iload_n 2, 1) := by decide +kernel
theorem d_X_limp_56 : decode b_X_limp 56 = .ok (.ifCond .eq 7, 3) := by decide +kernel
theorem d_X_limp_59 : decode b_X_limp 59 = .ok (.iconst 1, 1) := by decide +kernel
theorem d_X_limp_60 : decode b_X_limp 60 = .ok (.goto 4, 3) := by decide +kernel
theorem d_X_limp_63 : decode b_X_limp 63 = .ok (.iconst 0, 1) := by decide +kernel
theorem d_X_limp_64 : decode b_X_limp 64 = .ok (.ireturn, 1) := by decide +kernel
theorem d_Ta_init_0 : decode b_Ta_init 0 = .ok (.aload_n 0, 1) := by decide +kernel
theorem d_Ta_init_1 : decode b_Ta_init 1 = .ok (.invokespecial 1, 3) := by decide +kernel
theorem d_Ta_init_4 : decode b_Ta_init 4 = .ok (.aload_n 0, 1) := by decide +kernel
theorem d_Ta_init_5 : decode b_Ta_init 5 = .ok (.sipush 320, 3) := by decide +kernel
theorem d_Ta_init_8 : decode b_Ta_init 8 = .ok (.newarray .int, 2) := by decide +kernel
theorem d_Ta_init_10 : decode b_Ta_init 10 = .ok (.putfield 9, 3) := by decide +kernel
theorem d_Ta_init_13 : decode b_Ta_init 13 = .ok (.return_, 1) := by decide +kernel
theorem d_Wi_init_0 : decode b_Wi_init 0 = .ok (.aload_n 0, 1) := by decide +kernel
theorem d_Wi_init_1 : decode b_Wi_init 1 = .ok (.invokespecial 1, 3) := by decide +kernel
theorem d_Wi_init_4 : decode b_Wi_init 4 = .ok (.aload_n 0, 1) := by decide +kernel
theorem d_Wi_init_5 : decode b_Wi_init 5 = .ok (.bipush 6, 2) := by decide +kernel
theorem d_Wi_init_7 : decode b_Wi_init 7 = .ok (.newarray .int, 2) := by decide +kernel
theorem d_Wi_init_9 : decode b_Wi_init 9 = .ok (.putfield 9, 3) := by decide +kernel
theorem d_Wi_init_12 : decode b_Wi_init 12 = .ok (.aload_n 0, 1) := by decide +kernel
theorem d_Wi_init_13 : decode b_Wi_init 13 = .ok (.invokevirtual 13, 3) := by decide +kernel
theorem d_Wi_init_16 : decode b_Wi_init 16 = .ok (.return_, 1) := by decide +kernel
theorem d_Id_init_0 : decode b_Id_init 0 = .ok (.aload_n 0, 1) := by decide +kernel
theorem d_Id_init_1 : decode b_Id_init 1 = .ok (.invokespecial 1, 3) := by decide +kernel
theorem d_Id_init_4 : decode b_Id_init 4 = .ok (.aload_n 0, 1) := by decide +kernel
theorem d_Id_init_5 : decode b_Id_init 5 = .ok (.sipush 800, 3) := by decide +kernel
theorem d_Id_init_8 : decode b_Id_init 8 = .ok (.putfield 7, 3) := by decide +kernel
theorem d_Id_init_11 : decode b_Id_init 11 = .ok (.return_, 1) := by decide +kernel
theorem d_To_init_0 : decode b_To_init 0 = .ok (.aload_n 0, 1) := by decide +kernel
theorem d_To_init_1 : decode b_To_init 1 = .ok (.invokespecial 1, 3) := by decide +kernel
theorem d_To_init_4 : decode b_To_init 4 = .ok (.return_, 1) := by decide +kernel
theorem d_X_init_0 : decode b_X_init 0 = .ok (.aload_n 0, 1) := by decide +kernel
theorem d_X_init_1 : decode b_X_init 1 = .ok (.invokespecial 1, 3) := by decide +kernel
theorem d_X_init_4 : decode b_X_init 4 = .ok (.aload_n 0, 1) := by decide +kernel
theorem d_X_init_5 : decode b_X_init 5 = .ok (.new 7, 3) := by decide +kernel
theorem d_X_init_8 : decode b_X_init 8 = .ok (.dup, 1) := by decide +kernel
theorem d_X_init_9 : decode b_X_init 9 = .ok (.invokespecial 9, 3) := by decide +kernel
theorem d_X_init_12 : decode b_X_init 12 = .ok (.putfield 10, 3) := by decide +kernel
theorem d_X_init_15 : decode b_X_init 15 = .ok (.aload_n 0, 1) := by decide +kernel
theorem d_X_init_16 : decode b_X_init 16 = .ok (.new 16, 3) := by decide +kernel
theorem d_X_init_19 : decode b_X_init 19 = .ok (.dup, 1) := by decide +kernel
theorem d_X_init_20 : decode b_X_init 20 = .ok (.invokespecial 18, 3) := by decide +kernel
theorem d_X_init_23 : decode b_X_init 23 = .ok (.putfield 19, 3) := by decide +kernel
theorem d_X_init_26 : decode b_X_init 26 = .ok (.aload_n 0, 1) := by decide +kernel
theorem d_X_init_27 : decode b_X_init 27 = .ok (.new 23, 3) := by decide +kernel
theorem d_X_init_30 : decode b_X_init 30 = .ok (.dup, 1) := by decide +kernel
theorem d_X_init_31 : decode b_X_init 31 = .ok (.invokespecial 25, 3) := by decide +kernel
theorem d_X_init_34 : decode b_X_init 34 = .ok (.putfield 26, 3) := by decide +kernel
theorem d_X_init_37 : decode b_X_init 37 = .ok (.aload_n 0, 1) := by decide +kernel
theorem d_X_init_38 : decode b_X_init 38 = .ok (.new 30, 3) := by decide +kernel
theorem d_X_init_41 : decode b_X_init 41 = .ok (.dup, 1) := by decide +kernel
theorem d_X_init_42 : decode b_X_init 42 = .ok (.invokespecial 32, 3) := by decide +kernel
theorem d_X_init_45 : decode b_X_init 45 = .ok (.putfield 33, 3) := by decide +kernel
theorem d_X_init_48 : decode b_X_init 48 = .ok (.aload_n 0, 1) := by decide +kernel
theorem d_X_init_49 : decode b_X_init 49 = .ok (.iconst 3, 1) := by decide +kernel
theorem d_X_init_50 : decode b_X_init 50 = .ok (.newarray .boolean, 2) := by decide +kernel
theorem d_X_init_52 : decode b_X_init 52 = .ok (.putfield 37, 3) := by decide +kernel
theorem d_X_init_55 : decode b_X_init 55 = .ok (.aload_n 0, 1) := by decide +kernel
theorem d_X_init_56 : decode b_X_init 56 = .ok (.sipush 1000, 3) := by decide +kernel
theorem d_X_init_59 : decode b_X_init 59 = .ok (.putfield 41, 3) := by decide +kernel
theorem d_X_init_62 : decode b_X_init 62 = .ok (.aload_n 0, 1) := by decide +kernel
theorem d_X_init_63 : decode b_X_init 63 = .ok (.iconst 4, 1) := by decide +kernel
theorem d_X_init_64 : decode b_X_init 64 = .ok (.putfield 45, 3) := by decide +kernel
theorem d_X_init_67 : decode b_X_init 67 = .ok (.return_, 1) := by decide +kernel
theorem d_Z_down_0 : decode b_Z_down 0 = .ok (.lload_n 0, 1) := by decide +kernel
theorem d_Z_down_1 : decode b_Z_down 1 = .ok (.lload_n 2, 1) := by decide +kernel
theorem d_Z_down_2 : decode b_Z_down 2 = .ok (.ldiv, 1) := by decide +kernel
theorem d_Z_down_3 : decode b_Z_down 3 = .ok (.lstore 4, 2) := by decide +kernel
theorem d_Z_down_5 : decode b_Z_down 5 = .ok (.lload 4, 2) := by decide +kernel
theorem d_Z_down_7 : decode b_Z_down 7 = .ok (.lload_n 2, 1) := by decide +kernel
theorem d_Z_down_8 : decode b_Z_down 8 = .ok (.lmul, 1) := by decide +kernel
theorem d_Z_down_9 : decode b_Z_down 9 = .ok (.lload_n 0, 1) := by decide +kernel
theorem d_Z_down_10 : decode b_Z_down 10 = .ok (.lcmp, 1) := by decide +kernel
theorem d_Z_down_11 : decode b_Z_down 11 = .ok (.ifCond .le 10, 3) := by decide +kernel
theorem d_Z_down_14 : decode b_Z_down 14 = .ok (.lload 4, 2) := by decide +kernel
theorem d_Z_down_16 : decode b_Z_down 16 = .ok (.lconst 1, 1) := by decide +kernel
theorem d_Z_down_17 : decode b_Z_down 17 = .ok (.lsub, 1) := by decide +kernel
theorem d_Z_down_18 : decode b_Z_down 18 = .ok (.goto 5, 3) := by decide +kernel
theorem d_Z_down_21 : decode b_Z_down 21 = .ok (.lload 4, 2) := by decide +kernel
theorem d_Z_down_23 : decode b_Z_down 23 = .ok (.lreturn, 1) := by decide +kernel
theorem d_Z_v_0 : decode b_Z_v 0 = .ok (.aload_n 0, 1) := by decide +kernel
theorem d_Z_v_1 : decode b_Z_v 1 = .ok (.getfield 7, 3) := by decide +kernel
theorem d_Z_v_4 : decode b_Z_v 4 = .ok (.bipush 64, 2) := by decide +kernel
theorem d_Z_v_6 : decode b_Z_v 6 = .ok (.iload_n 1, 1) := by decide +kernel
theorem d_Z_v_7 : decode b_Z_v 7 = .ok (.imul, 1) := by decide +kernel
theorem d_Z_v_8 : decode b_Z_v 8 = .ok (.bipush 8, 2) := by decide +kernel
theorem d_Z_v_10 : decode b_Z_v 10 = .ok (.iload_n 2, 1) := by decide +kernel
theorem d_Z_v_11 : decode b_Z_v 11 = .ok (.imul, 1) := by decide +kernel
theorem d_Z_v_12 : decode b_Z_v 12 = .ok (.iadd, 1) := by decide +kernel
theorem d_Z_v_13 : decode b_Z_v 13 = .ok (.iload_n 3, 1) := by decide +kernel
theorem d_Z_v_14 : decode b_Z_v 14 = .ok (.iadd, 1) := by decide +kernel
theorem d_Z_v_15 : decode b_Z_v 15 = .ok (.iaload, 1) := by decide +kernel
theorem d_Z_v_16 : decode b_Z_v 16 = .ok (.ireturn, 1) := by decide +kernel
theorem d_Z_valueAt_0 : decode b_Z_valueAt 0 = .ok (.lload_n 2, 1) := by decide +kernel
theorem d_Z_valueAt_1 : decode b_Z_valueAt 1 = .ok (.lconst 0, 1) := by decide +kernel
theorem d_Z_valueAt_2 : decode b_Z_valueAt 2 = .ok (.lcmp, 1) := by decide +kernel
theorem d_Z_valueAt_3 : decode b_Z_valueAt 3 = .ok (.ifCond .ge 7, 3) := by decide +kernel
theorem d_Z_valueAt_6 : decode b_Z_valueAt 6 = .ok (.iconst 0, 1) := by decide +kernel
theorem d_Z_valueAt_7 : decode b_Z_valueAt 7 = .ok (.goto 19, 3) := by decide +kernel
theorem d_Z_valueAt_10 : decode b_Z_valueAt 10 = .ok (.lload_n 2, 1) := by decide +kernel
theorem d_Z_valueAt_11 : decode b_Z_valueAt 11 = .ok (.ldc2_w 36, 3) := by decide +kernel
theorem d_Z_valueAt_14 : decode b_Z_valueAt 14 = .ok (.lcmp, 1) := by decide +kernel
theorem d_Z_valueAt_15 : decode b_Z_valueAt 15 = .ok (.ifCond .le 9, 3) := by decide +kernel
theorem d_Z_valueAt_18 : decode b_Z_valueAt 18 = .ok (.sipush 896, 3) := by decide +kernel
theorem d_Z_valueAt_21 : decode b_Z_valueAt 21 = .ok (.goto 5, 3) := by decide +kernel
theorem d_Z_valueAt_24 : decode b_Z_valueAt 24 = .ok (.lload_n 2, 1) := by decide +kernel
theorem d_Z_valueAt_25 : decode b_Z_valueAt 25 = .ok (.l2i, 1) := by decide +kernel
theorem d_Z_valueAt_26 : decode b_Z_valueAt 26 = .ok (.istore 6, 2) := by decide +kernel
theorem d_Z_valueAt_28 : decode b_Z_valueAt 28 = .ok (.lload 4, 2) := by decide +kernel
theorem d_Z_valueAt_30 : decode b_Z_valueAt 30 = .ok (.lconst 0, 1) := by decide +kernel
theorem d_Z_valueAt_31 : decode b_Z_valueAt 31 = .ok (.lcmp, 1) := by decide +kernel
theorem d_Z_valueAt_32 : decode b_Z_valueAt 32 = .ok (.ifCond .ge 7, 3) := by decide +kernel
theorem d_Z_valueAt_35 : decode b_Z_valueAt 35 = .ok (.iconst 0, 1) := by decide +kernel
theorem d_Z_valueAt_36 : decode b_Z_valueAt 36 = .ok (.goto 21, 3) := by decide +kernel
theorem d_Z_valueAt_39 : decode b_Z_valueAt 39 = .ok (.lload 4, 2) := by decide +kernel
theorem d_Z_valueAt_41 : decode b_Z_valueAt 41 = .ok (.ldc2_w 38, 3) := by decide +kernel
theorem d_Z_valueAt_44 : decode b_Z_valueAt 44 = .ok (.lcmp, 1) := by decide +kernel
theorem d_Z_valueAt_45 : decode b_Z_valueAt 45 = .ok (.ifCond .le 9, 3) := by decide +kernel
theorem d_Z_valueAt_48 : decode b_Z_valueAt 48 = .ok (.sipush 7000, 3) := by decide +kernel
theorem d_Z_valueAt_51 : decode b_Z_valueAt 51 = .ok (.goto 6, 3) := by decide +kernel
theorem d_Z_valueAt_54 : decode b_Z_valueAt 54 = .ok (.lload 4, 2) := by decide +kernel
theorem d_Z_valueAt_56 : decode b_Z_valueAt 56 = .ok (.l2i, 1) := by decide +kernel
theorem d_Z_valueAt_57 : decode b_Z_valueAt 57 = .ok (.istore 7, 2) := by decide +kernel
theorem d_Z_valueAt_59 : decode b_Z_valueAt 59 = .ok (.iload 6, 2) := by decide +kernel
theorem d_Z_valueAt_61 : decode b_Z_valueAt 61 = .ok (.sipush 128, 3) := by decide +kernel
theorem d_Z_valueAt_64 : decode b_Z_valueAt 64 = .ok (.idiv, 1) := by decide +kernel
theorem d_Z_valueAt_65 : decode b_Z_valueAt 65 = .ok (.bipush 6, 2) := by decide +kernel
theorem d_Z_valueAt_67 : decode b_Z_valueAt 67 = .ok (.if_icmp .le 8, 3) := by decide +kernel
theorem d_Z_valueAt_70 : decode b_Z_valueAt 70 = .ok (.bipush 6, 2) := by decide +kernel
theorem d_Z_valueAt_72 : decode b_Z_valueAt 72 = .ok (.goto 9, 3) := by decide +kernel
theorem d_Z_valueAt_75 : decode b_Z_valueAt 75 = .ok (.iload 6, 2) := by decide +kernel
theorem d_Z_valueAt_77 : decode b_Z_valueAt 77 = .ok (.sipush 128, 3) := by decide +kernel
theorem d_Z_valueAt_80 : decode b_Z_valueAt 80 = .ok (.idiv, 1) := by decide +kernel
theorem d_Z_valueAt_81 : decode b_Z_valueAt 81 = .ok (.istore 8, 2) := by decide +kernel
theorem d_Z_valueAt_83 : decode b_Z_valueAt 83 = .ok (.iload 7, 2) := by decide +kernel
theorem d_Z_valueAt_85 : decode b_Z_valueAt 85 = .ok (.sipush 1000, 3) := by decide +kernel
theorem d_Z_valueAt_88 : decode b_Z_valueAt 88 = .ok (.idiv, 1) := by decide +kernel
theorem d_Z_valueAt_89 : decode b_Z_valueAt 89 = .ok (.bipush 6, 2) := by decide +kernel
theorem d_Z_valueAt_91 : decode b_Z_valueAt 91 = .ok (.if_icmp .le 8, 3) := by decide +kernel
theorem d_Z_valueAt_94 : decode b_Z_valueAt 94 = .ok (.bipush 6, 2) := by decide +kernel
theorem d_Z_valueAt_96 : decode b_Z_valueAt 96 = .ok (.goto 9, 3) := by decide +kernel
theorem d_Z_valueAt_99 : decode b_Z_valueAt 99 = .ok (.iload 7, 2) := by decide +kernel
theorem d_Z_valueAt_101 : decode b_Z_valueAt 101 = .ok (.sipush 1000, 3) := by decide +kernel
theorem d_Z_valueAt_104 : decode b_Z_valueAt 104 = .ok (.idiv, 1) := by decide +kernel
theorem d_Z_valueAt_105 : decode b_Z_valueAt 105 = .ok (.istore 9, 2) := by decide +kernel
theorem d_Z_valueAt_107 : decode b_Z_valueAt 107 = .ok (.iload 6, 2) := by decide +kernel
theorem d_Z_valueAt_109 : decode b_Z_valueAt 109 = .ok (.sipush 128, 3) := by decide +kernel
theorem d_Z_valueAt_112 : decode b_Z_valueAt 112 = .ok (.iload 8, 2) := by decide +kernel
theorem d_Z_valueAt_114 : decode b_Z_valueAt 114 = .ok (.imul, 1) := by decide +kernel
theorem d_Z_valueAt_115 : decode b_Z_valueAt 115 = .ok (.isub, 1) := by decide +kernel
theorem d_Z_valueAt_116 : decode b_Z_valueAt 116 = .ok (.i2l, 1) := by decide +kernel
theorem d_Z_valueAt_117 : decode b_Z_valueAt 117 = .ok (.lstore 10, 2) := by decide +kernel
theorem d_Z_valueAt_119 : decode b_Z_valueAt 119 = .ok (.iload 7, 2) := by decide +kernel
theorem d_Z_valueAt_121 : decode b_Z_valueAt 121 = .ok (.sipush 1000, 3) := by decide +kernel
theorem d_Z_valueAt_124 : decode b_Z_valueAt 124 = .ok (.iload 9, 2) := by decide +kernel
theorem d_Z_valueAt_126 : decode b_Z_valueAt 126 = .ok (.imul, 1) := by decide +kernel
theorem d_Z_valueAt_127 : decode b_Z_valueAt 127 = .ok (.isub, 1) := by decide +kernel
theorem d_Z_valueAt_128 : decode b_Z_valueAt 128 = .ok (.i2l, 1) := by decide +kernel
theorem d_Z_valueAt_129 : decode b_Z_valueAt 129 = .ok (.lstore 12, 2) := by decide +kernel
theorem d_Z_valueAt_131 : decode b_Z_valueAt 131 = .ok (.aload_n 0, 1) := by decide +kernel
theorem d_Z_valueAt_132 : decode b_Z_valueAt 132 = .ok (.iload_n 1, 1) := by decide +kernel
theorem d_Z_valueAt_133 : decode b_Z_valueAt 133 = .ok (.iload 8, 2) := by decide +kernel
theorem d_Z_valueAt_135 : decode b_Z_valueAt 135 = .ok (.iload 9, 2) := by decide +kernel
theorem d_Z_valueAt_137 : decode b_Z_valueAt 137 = .ok (.invokevirtual 40, 3) := by decide +kernel
theorem d_Z_valueAt_140 : decode b_Z_valueAt 140 = .ok (.i2l, 1) := by decide +kernel
theorem d_Z_valueAt_141 : decode b_Z_valueAt 141 = .ok (.ldc2_w 44, 3) := by decide +kernel
theorem d_Z_valueAt_144 : decode b_Z_valueAt 144 = .ok (.lload 10, 2) := by decide +kernel
theorem d_Z_valueAt_146 : decode b_Z_valueAt 146 = .ok (.lsub, 1) := by decide +kernel
theorem d_Z_valueAt_147 : decode b_Z_valueAt 147 = .ok (.lmul, 1) := by decide +kernel
theorem d_Z_valueAt_148 : decode b_Z_valueAt 148 = .ok (.ldc2_w 46, 3) := by decide +kernel
theorem d_Z_valueAt_151 : decode b_Z_valueAt 151 = .ok (.lload 12, 2) := by decide +kernel
theorem d_Z_valueAt_153 : decode b_Z_valueAt 153 = .ok (.lsub, 1) := by decide +kernel
theorem d_Z_valueAt_154 : decode b_Z_valueAt 154 = .ok (.lmul, 1) := by decide +kernel
theorem d_Z_valueAt_155 : decode b_Z_valueAt 155 = .ok (.aload_n 0, 1) := by decide +kernel
theorem d_Z_valueAt_156 : decode b_Z_valueAt 156 = .ok (.iload_n 1, 1) := by decide +kernel
theorem d_Z_valueAt_157 : decode b_Z_valueAt 157 = .ok (.iload 8, 2) := by decide +kernel
theorem d_Z_valueAt_159 : decode b_Z_valueAt 159 = .ok (.iconst 1, 1) := by decide +kernel
theorem d_Z_valueAt_160 : decode b_Z_valueAt 160 = .ok (.iadd, 1) := by decide +kernel
theorem d_Z_valueAt_161 : decode b_Z_valueAt 161 = .ok (.iload 9, 2) := by decide +kernel
theorem d_Z_valueAt_163 : decode b_Z_valueAt 163 = .ok (.invokevirtual 40, 3) := by decide +kernel
theorem d_Z_valueAt_166 : decode b_Z_valueAt 166 = .ok (.i2l, 1) := by decide +kernel
theorem d_Z_valueAt_167 : decode b_Z_valueAt 167 = .ok (.lload 10, 2) := by decide +kernel
theorem d_Z_valueAt_169 : decode b_Z_valueAt 169 = .ok (.lmul, 1) := by decide +kernel
theorem d_Z_valueAt_170 : decode b_Z_valueAt 170 = .ok (.ldc2_w 46, 3) := by decide +kernel
theorem d_Z_valueAt_173 : decode b_Z_valueAt 173 = .ok (.lload 12, 2) := by decide +kernel
theorem d_Z_valueAt_175 : decode b_Z_valueAt 175 = .ok (.lsub, 1) := by decide +kernel
theorem d_Z_valueAt_176 : decode b_Z_valueAt 176 = .ok (.lmul, 1) := by decide +kernel
theorem d_Z_valueAt_177 : decode b_Z_valueAt 177 = .ok (.ladd, 1) := by decide +kernel
