theorem d_X_takeTracks_37 : decode b_X_takeTracks 37 = .ok (.ifCond .ne 16, 3) := by decide +kernel
theorem d_X_takeTracks_40 : decode b_X_takeTracks 40 = .ok (.aload_n 0, 1) := by decide +kernel
theorem d_X_takeTracks_41 : decode b_X_takeTracks 41 = .ok (.getfield 37, 3) := by decide +kernel
theorem d_X_takeTracks_44 : decode b_X_takeTracks 44 = .ok (.iconst 1, 1) := by decide +kernel
theorem d_X_takeTracks_45 : decode b_X_takeTracks 45 = .ok (.baload, 1) := by decide +kernel
theorem d_X_takeTracks_46 : decode b_X_takeTracks 46 = .ok (.ifCond .ne 7, 3) := by decide +kernel
theorem d_X_takeTracks_49 : decode b_X_takeTracks 49 = .ok (.iconst 1, 1) := by decide +kernel
theorem d_X_takeTracks_50 : decode b_X_takeTracks 50 = .ok (.goto 4, 3) := by decide +kernel
theorem d_X_takeTracks_53 : decode b_X_takeTracks 53 = .ok (.iconst 0, 1) := by decide +kernel
theorem d_X_takeTracks_54 : decode b_X_takeTracks 54 = .ok (.istore 5, 2) := by decide +kernel
theorem d_X_takeTracks_56 : decode b_X_takeTracks 56 = .ok (.aload_n 0, 1) := by decide +kernel
theorem d_X_takeTracks_57 : decode b_X_takeTracks 57 = .ok (.iload 5, 2) := by decide +kernel
theorem d_X_takeTracks_59 : decode b_X_takeTracks 59 = .ok (.ifCond .eq 24, 3) := by decide +kernel
theorem d_X_takeTracks_62 : decode b_X_takeTracks 62 = .ok (.iload_n 3, 1) := by decide +kernel
theorem d_X_takeTracks_63 : decode b_X_takeTracks 63 = .ok (.iload 4, 2) := by decide +kernel
theorem d_X_takeTracks_65 : decode b_X_takeTracks 65 = .ok (.isub, 1) := by decide +kernel
theorem d_X_takeTracks_66 : decode b_X_takeTracks 66 = .ok (.invokestatic 189, 3) := by decide +kernel
theorem d_X_takeTracks_69 : decode b_X_takeTracks 69 = .ok (.bipush 50, 2) := by decide +kernel
theorem d_X_takeTracks_71 : decode b_X_takeTracks 71 = .ok (.if_icmp .le 12, 3) := by decide +kernel
theorem d_X_takeTracks_74 : decode b_X_takeTracks 74 = .ok (.aload_n 0, 1) := by decide +kernel
theorem d_X_takeTracks_75 : decode b_X_takeTracks 75 = .ok (.getfield 130, 3) := by decide +kernel
theorem d_X_takeTracks_78 : decode b_X_takeTracks 78 = .ok (.iconst 1, 1) := by decide +kernel
theorem d_X_takeTracks_79 : decode b_X_takeTracks 79 = .ok (.iadd, 1) := by decide +kernel
theorem d_X_takeTracks_80 : decode b_X_takeTracks 80 = .ok (.goto 4, 3) := by decide +kernel
theorem d_X_takeTracks_83 : decode b_X_takeTracks 83 = .ok (.iconst 0, 1) := by decide +kernel
theorem d_X_takeTracks_84 : decode b_X_takeTracks 84 = .ok (.putfield 130, 3) := by decide +kernel
theorem d_X_takeTracks_87 : decode b_X_takeTracks 87 = .ok (.aload_n 0, 1) := by decide +kernel
theorem d_X_takeTracks_88 : decode b_X_takeTracks 88 = .ok (.getfield 130, 3) := by decide +kernel
theorem d_X_takeTracks_91 : decode b_X_takeTracks 91 = .ok (.iconst 5, 1) := by decide +kernel
theorem d_X_takeTracks_92 : decode b_X_takeTracks 92 = .ok (.if_icmp .lt 8, 3) := by decide +kernel
theorem d_X_takeTracks_95 : decode b_X_takeTracks 95 = .ok (.aload_n 0, 1) := by decide +kernel
theorem d_X_takeTracks_96 : decode b_X_takeTracks 96 = .ok (.iconst 1, 1) := by decide +kernel
theorem d_X_takeTracks_97 : decode b_X_takeTracks 97 = .ok (.putfield 141, 3) := by decide +kernel
theorem d_X_takeTracks_100 : decode b_X_takeTracks 100 = .ok (.aload_n 0, 1) := by decide +kernel
theorem d_X_takeTracks_101 : decode b_X_takeTracks 101 = .ok (.iload_n 3, 1) := by decide +kernel
theorem d_X_takeTracks_102 : decode b_X_takeTracks 102 = .ok (.iload 4, 2) := by decide +kernel
theorem d_X_takeTracks_104 : decode b_X_takeTracks 104 = .ok (.invokestatic 91, 3) := by decide +kernel
theorem d_X_takeTracks_107 : decode b_X_takeTracks 107 = .ok (.putfield 85, 3) := by decide +kernel
theorem d_X_takeTracks_110 : decode b_X_takeTracks 110 = .ok (.return_, 1) := by decide +kernel
theorem d_X_chooseMode_0 : decode b_X_chooseMode 0 = .ok (.aload_n 0, 1) := by decide +kernel
theorem d_X_chooseMode_1 : decode b_X_chooseMode 1 = .ok (.getfield 141, 3) := by decide +kernel
theorem d_X_chooseMode_4 : decode b_X_chooseMode 4 = .ok (.ifCond .ne 21, 3) := by decide +kernel
theorem d_X_chooseMode_7 : decode b_X_chooseMode 7 = .ok (.aload_n 0, 1) := by decide +kernel
theorem d_X_chooseMode_8 : decode b_X_chooseMode 8 = .ok (.getfield 37, 3) := by decide +kernel
theorem d_X_chooseMode_11 : decode b_X_chooseMode 11 = .ok (.iconst 0, 1) := by decide +kernel
theorem d_X_chooseMode_12 : decode b_X_chooseMode 12 = .ok (.baload, 1) := by decide +kernel
theorem d_X_chooseMode_13 : decode b_X_chooseMode 13 = .ok (.ifCond .eq 14, 3) := by decide +kernel
theorem d_X_chooseMode_16 : decode b_X_chooseMode 16 = .ok (.aload_n 0, 1) := by decide +kernel
theorem d_X_chooseMode_17 : decode b_X_chooseMode 17 = .ok (.getfield 37, 3) := by decide +kernel
theorem d_X_chooseMode_20 : decode b_X_chooseMode 20 = .ok (.iconst 1, 1) := by decide +kernel
theorem d_X_chooseMode_21 : decode b_X_chooseMode 21 = .ok (.baload, 1) := by decide +kernel
theorem d_X_chooseMode_22 : decode b_X_chooseMode 22 = .ok (.ifCond .eq 5, 3) := by decide +kernel
theorem d_X_chooseMode_25 : decode b_X_chooseMode 25 = .ok (.iconst 4, 1) := by decide +kernel
theorem d_X_chooseMode_26 : decode b_X_chooseMode 26 = .ok (.ireturn, 1) := by decide +kernel
theorem d_X_chooseMode_27 : decode b_X_chooseMode 27 = .ok (.aload_n 0, 1) := by decide +kernel
theorem d_X_chooseMode_28 : decode b_X_chooseMode 28 = .ok (.getfield 107, 3) := by decide +kernel
theorem d_X_chooseMode_31 : decode b_X_chooseMode 31 = .ok (.ifCond .ne 5, 3) := by decide +kernel
theorem d_X_chooseMode_34 : decode b_X_chooseMode 34 = .ok (.iconst 3, 1) := by decide +kernel
theorem d_X_chooseMode_35 : decode b_X_chooseMode 35 = .ok (.ireturn, 1) := by decide +kernel
theorem d_X_chooseMode_36 : decode b_X_chooseMode 36 = .ok (.aload_n 0, 1) := by decide +kernel
theorem d_X_chooseMode_37 : decode b_X_chooseMode 37 = .ok (.getfield 186, 3) := by decide +kernel
theorem d_X_chooseMode_40 : decode b_X_chooseMode 40 = .ok (.ifCond .ne 30, 3) := by decide +kernel
theorem d_X_chooseMode_43 : decode b_X_chooseMode 43 = .ok (.aload_n 0, 1) := by decide +kernel
theorem d_X_chooseMode_44 : decode b_X_chooseMode 44 = .ok (.getfield 37, 3) := by decide +kernel
theorem d_X_chooseMode_47 : decode b_X_chooseMode 47 = .ok (.iconst 0, 1) := by decide +kernel
theorem d_X_chooseMode_48 : decode b_X_chooseMode 48 = .ok (.baload, 1) := by decide +kernel
theorem d_X_chooseMode_49 : decode b_X_chooseMode 49 = .ok (.ifCond .ne 21, 3) := by decide +kernel
theorem d_X_chooseMode_52 : decode b_X_chooseMode 52 = .ok (.aload_n 0, 1) := by decide +kernel
theorem d_X_chooseMode_53 : decode b_X_chooseMode 53 = .ok (.getfield 37, 3) := by decide +kernel
theorem d_X_chooseMode_56 : decode b_X_chooseMode 56 = .ok (.iconst 1, 1) := by decide +kernel
theorem d_X_chooseMode_57 : decode b_X_chooseMode 57 = .ok (.baload, 1) := by decide +kernel
theorem d_X_chooseMode_58 : decode b_X_chooseMode 58 = .ok (.ifCond .ne 12, 3) := by decide +kernel
theorem d_X_chooseMode_61 : decode b_X_chooseMode 61 = .ok (.aload_n 0, 1) := by decide +kernel
theorem d_X_chooseMode_62 : decode b_X_chooseMode 62 = .ok (.getfield 37, 3) := by decide +kernel
theorem d_X_chooseMode_65 : decode b_X_chooseMode 65 = .ok (.iconst 2, 1) := by decide +kernel
theorem d_X_chooseMode_66 : decode b_X_chooseMode 66 = .ok (.baload, 1) := by decide +kernel
theorem d_X_chooseMode_67 : decode b_X_chooseMode 67 = .ok (.ifCond .eq 5, 3) := by decide +kernel
theorem d_X_chooseMode_70 : decode b_X_chooseMode 70 = .ok (.iconst 2, 1) := by decide +kernel
theorem d_X_chooseMode_71 : decode b_X_chooseMode 71 = .ok (.ireturn, 1) := by decide +kernel
theorem d_X_chooseMode_72 : decode b_X_chooseMode 72 = .ok (.aload_n 0, 1) := by decide +kernel
theorem d_X_chooseMode_73 : decode b_X_chooseMode 73 = .ok (.getfield 130, 3) := by decide +kernel
theorem d_X_chooseMode_76 : decode b_X_chooseMode 76 = .ok (.ifCond .le 7, 3) := by decide +kernel
theorem d_X_chooseMode_79 : decode b_X_chooseMode 79 = .ok (.iconst 1, 1) := by decide +kernel
theorem d_X_chooseMode_80 : decode b_X_chooseMode 80 = .ok (.goto 4, 3) := by decide +kernel
theorem d_X_chooseMode_83 : decode b_X_chooseMode 83 = .ok (.iconst 0, 1) := by decide +kernel
theorem d_X_chooseMode_84 : decode b_X_chooseMode 84 = .ok (.ireturn, 1) := by decide +kernel
theorem d_X_pedalWanted_0 : decode b_X_pedalWanted 0 = .ok (.aload_n 0, 1) := by decide +kernel
theorem d_X_pedalWanted_1 : decode b_X_pedalWanted 1 = .ok (.getfield 82, 3) := by decide +kernel
theorem d_X_pedalWanted_4 : decode b_X_pedalWanted 4 = .ok (.iconst 2, 1) := by decide +kernel
theorem d_X_pedalWanted_5 : decode b_X_pedalWanted 5 = .ok (.if_icmp .ne 20, 3) := by decide +kernel
theorem d_X_pedalWanted_8 : decode b_X_pedalWanted 8 = .ok (.aload_n 0, 1) := by decide +kernel
theorem d_X_pedalWanted_9 : decode b_X_pedalWanted 9 = .ok (.getfield 10, 3) := by decide +kernel
theorem d_X_pedalWanted_12 : decode b_X_pedalWanted 12 = .ok (.iconst 1, 1) := by decide +kernel
theorem d_X_pedalWanted_13 : decode b_X_pedalWanted 13 = .ok (.aload_n 0, 1) := by decide +kernel
theorem d_X_pedalWanted_14 : decode b_X_pedalWanted 14 = .ok (.getfield 85, 3) := by decide +kernel
theorem d_X_pedalWanted_17 : decode b_X_pedalWanted 17 = .ok (.aload_n 0, 1) := by decide +kernel
theorem d_X_pedalWanted_18 : decode b_X_pedalWanted 18 = .ok (.getfield 107, 3) := by decide +kernel
theorem d_X_pedalWanted_21 : decode b_X_pedalWanted 21 = .ok (.invokevirtual 110, 3) := by decide +kernel
theorem d_X_pedalWanted_24 : decode b_X_pedalWanted 24 = .ok (.ireturn, 1) := by decide +kernel
theorem d_X_pedalWanted_25 : decode b_X_pedalWanted 25 = .ok (.aload_n 0, 1) := by decide +kernel
theorem d_X_pedalWanted_26 : decode b_X_pedalWanted 26 = .ok (.getfield 10, 3) := by decide +kernel
theorem d_X_pedalWanted_29 : decode b_X_pedalWanted 29 = .ok (.iconst 0, 1) := by decide +kernel
theorem d_X_pedalWanted_30 : decode b_X_pedalWanted 30 = .ok (.aload_n 0, 1) := by decide +kernel
theorem d_X_pedalWanted_31 : decode b_X_pedalWanted 31 = .ok (.getfield 85, 3) := by decide +kernel
theorem d_X_pedalWanted_34 : decode b_X_pedalWanted 34 = .ok (.aload_n 0, 1) := by decide +kernel
theorem d_X_pedalWanted_35 : decode b_X_pedalWanted 35 = .ok (.getfield 107, 3) := by decide +kernel
theorem d_X_pedalWanted_38 : decode b_X_pedalWanted 38 = .ok (.invokevirtual 110, 3) := by decide +kernel
theorem d_X_pedalWanted_41 : decode b_X_pedalWanted 41 = .ok (.istore_n 1, 1) := by decide +kernel
theorem d_X_pedalWanted_42 : decode b_X_pedalWanted 42 = .ok (.aload_n 0, 1) := by decide +kernel
theorem d_X_pedalWanted_43 : decode b_X_pedalWanted 43 = .ok (.getfield 82, 3) := by decide +kernel
theorem d_X_pedalWanted_46 : decode b_X_pedalWanted 46 = .ok (.iconst 1, 1) := by decide +kernel
theorem d_X_pedalWanted_47 : decode b_X_pedalWanted 47 = .ok (.if_icmp .ne 9, 3) := by decide +kernel
theorem d_X_pedalWanted_50 : decode b_X_pedalWanted 50 = .ok (.iload_n 1, 1) := by decide +kernel
theorem d_X_pedalWanted_51 : decode b_X_pedalWanted 51 = .ok (.iconst 2, 1) := by decide +kernel
theorem d_X_pedalWanted_52 : decode b_X_pedalWanted 52 = .ok (.idiv, 1) := by decide +kernel
theorem d_X_pedalWanted_53 : decode b_X_pedalWanted 53 = .ok (.goto 4, 3) := by decide +kernel
theorem d_X_pedalWanted_56 : decode b_X_pedalWanted 56 = .ok (.iload_n 1, 1) := by decide +kernel
theorem d_X_pedalWanted_57 : decode b_X_pedalWanted 57 = .ok (.ireturn, 1) := by decide +kernel
theorem d_X_chooseWanted_0 : decode b_X_chooseWanted 0 = .ok (.aload_n 0, 1) := by decide +kernel
theorem d_X_chooseWanted_1 : decode b_X_chooseWanted 1 = .ok (.invokevirtual 100, 3) := by decide +kernel
theorem d_X_chooseWanted_4 : decode b_X_chooseWanted 4 = .ok (.ifCond .eq 17, 3) := by decide +kernel
theorem d_X_chooseWanted_7 : decode b_X_chooseWanted 7 = .ok (.aload_n 0, 1) := by decide +kernel
theorem d_X_chooseWanted_8 : decode b_X_chooseWanted 8 = .ok (.getfield 19, 3) := by decide +kernel
theorem d_X_chooseWanted_11 : decode b_X_chooseWanted 11 = .ok (.aload_n 0, 1) := by decide +kernel
theorem d_X_chooseWanted_12 : decode b_X_chooseWanted 12 = .ok (.invokevirtual 192, 3) := by decide +kernel
theorem d_X_chooseWanted_15 : decode b_X_chooseWanted 15 = .ok (.invokevirtual 195, 3) := by decide +kernel
theorem d_X_chooseWanted_18 : decode b_X_chooseWanted 18 = .ok (.goto 4, 3) := by decide +kernel
theorem d_X_chooseWanted_21 : decode b_X_chooseWanted 21 = .ok (.iconst 0, 1) := by decide +kernel
theorem d_X_chooseWanted_22 : decode b_X_chooseWanted 22 = .ok (.istore_n 1, 1) := by decide +kernel
theorem d_X_chooseWanted_23 : decode b_X_chooseWanted 23 = .ok (.aload_n 0, 1) := by decide +kernel
theorem d_X_chooseWanted_24 : decode b_X_chooseWanted 24 = .ok (.getfield 19, 3) := by decide +kernel
theorem d_X_chooseWanted_27 : decode b_X_chooseWanted 27 = .ok (.invokevirtual 198, 3) := by decide +kernel
theorem d_X_chooseWanted_30 : decode b_X_chooseWanted 30 = .ok (.aload_n 0, 1) := by decide +kernel
theorem d_X_chooseWanted_31 : decode b_X_chooseWanted 31 = .ok (.invokevirtual 100, 3) := by decide +kernel
theorem d_X_chooseWanted_34 : decode b_X_chooseWanted 34 = .ok (.ifCond .eq 10, 3) := by decide +kernel
theorem d_X_chooseWanted_37 : decode b_X_chooseWanted 37 = .ok (.aload_n 0, 1) := by decide +kernel
theorem d_X_chooseWanted_38 : decode b_X_chooseWanted 38 = .ok (.getfield 85, 3) := by decide +kernel
theorem d_X_chooseWanted_41 : decode b_X_chooseWanted 41 = .ok (.ifCond .le 12, 3) := by decide +kernel
theorem d_X_chooseWanted_44 : decode b_X_chooseWanted 44 = .ok (.aload_n 0, 1) := by decide +kernel
theorem d_X_chooseWanted_45 : decode b_X_chooseWanted 45 = .ok (.getfield 26, 3) := by decide +kernel
theorem d_X_chooseWanted_48 : decode b_X_chooseWanted 48 = .ok (.invokevirtual 201, 3) := by decide +kernel
theorem d_X_chooseWanted_51 : decode b_X_chooseWanted 51 = .ok (.iload_n 1, 1) := by decide +kernel
theorem d_X_chooseWanted_52 : decode b_X_chooseWanted 52 = .ok (.ireturn, 1) := by decide +kernel
theorem d_X_chooseWanted_53 : decode b_X_chooseWanted 53 = .ok (.iload_n 1, 1) := by decide +kernel
theorem d_X_chooseWanted_54 : decode b_X_chooseWanted 54 = .ok (.aload_n 0, 1) := by decide +kernel
theorem d_X_chooseWanted_55 : decode b_X_chooseWanted 55 = .ok (.getfield 26, 3) := by decide +kernel
theorem d_X_chooseWanted_58 : decode b_X_chooseWanted 58 = .ok (.aload_n 0, 1) := by decide +kernel
theorem d_X_chooseWanted_59 : decode b_X_chooseWanted 59 = .ok (.getfield 107, 3) := by decide +kernel
theorem d_X_chooseWanted_62 : decode b_X_chooseWanted 62 = .ok (.invokevirtual 204, 3) := by decide +kernel
theorem d_X_chooseWanted_65 : decode b_X_chooseWanted 65 = .ok (.invokestatic 207, 3) := by decide +kernel
theorem d_X_chooseWanted_68 : decode b_X_chooseWanted 68 = .ok (.ireturn, 1) := by decide +kernel
theorem d_X_isFuelCut_0 : decode b_X_isFuelCut 0 = .ok (.aload_n 0, 1) := by decide +kernel
theorem d_X_isFuelCut_1 : decode b_X_isFuelCut 1 = .ok (.getfield 85, 3) := by decide +kernel
theorem d_X_isFuelCut_4 : decode b_X_isFuelCut 4 = .ok (.ifCond .ne 24, 3) := by decide +kernel
theorem d_X_isFuelCut_7 : decode b_X_isFuelCut 7 = .ok (.aload_n 0, 1) := by decide +kernel
theorem d_X_isFuelCut_8 : decode b_X_isFuelCut 8 = .ok (.getfield 64, 3) := by decide +kernel
theorem d_X_isFuelCut_11 : decode b_X_isFuelCut 11 = .ok (.ifCond .ne 17, 3) := by decide +kernel
theorem d_X_isFuelCut_14 : decode b_X_isFuelCut 14 = .ok (.aload_n 0, 1) := by decide +kernel
theorem d_X_isFuelCut_15 : decode b_X_isFuelCut 15 = .ok (.getfield 107, 3) := by decide +kernel
theorem d_X_isFuelCut_18 : decode b_X_isFuelCut 18 = .ok (.sipush 1500, 3) := by decide +kernel
theorem d_X_isFuelCut_21 : decode b_X_isFuelCut 21 = .ok (.if_icmp .le 7, 3) := by decide +kernel
theorem d_X_isFuelCut_24 : decode b_X_isFuelCut 24 = .ok (.iconst 1, 1) := by decide +kernel
theorem d_X_isFuelCut_25 : decode b_X_isFuelCut 25 = .ok (.goto 4, 3) := by decide +kernel
theorem d_X_isFuelCut_28 : decode b_X_isFuelCut 28 = .ok (.iconst 0, 1) := by decide +kernel
theorem d_X_isFuelCut_29 : decode b_X_isFuelCut 29 = .ok (.istore_n 1, 1) := by decide +kernel
theorem d_X_isFuelCut_30 : decode b_X_isFuelCut 30 = .ok (.iload_n 1, 1) := by decide +kernel
theorem d_X_isFuelCut_31 : decode b_X_isFuelCut 31 = .ok (.ifCond .ne 10, 3) := by decide +kernel
theorem d_X_isFuelCut_34 : decode b_X_isFuelCut 34 = .ok (.aload_n 0, 1) := by decide +kernel
theorem d_X_isFuelCut_35 : decode b_X_isFuelCut 35 = .ok (.invokevirtual 100, 3) := by decide +kernel
theorem d_X_isFuelCut_38 : decode b_X_isFuelCut 38 = .ok (.ifCond .ne 7, 3) := by decide +kernel
theorem d_X_isFuelCut_41 : decode b_X_isFuelCut 41 = .ok (.iconst 1, 1) := by decide +kernel
theorem d_X_isFuelCut_42 : decode b_X_isFuelCut 42 = .ok (.goto 4, 3) := by decide +kernel
theorem d_X_isFuelCut_45 : decode b_X_isFuelCut 45 = .ok (.iconst 0, 1) := by decide +kernel
theorem d_X_isFuelCut_46 : decode b_X_isFuelCut 46 = .ok (.ireturn, 1) := by decide +kernel
theorem d_X_costTogether_0 : decode b_X_costTogether 0 = .ok (.iload_n 2, 1) := by decide +kernel
theorem d_X_costTogether_1 : decode b_X_costTogether 1 = .ok (.iload_n 2, 1) := by decide +kernel
theorem d_X_costTogether_2 : decode b_X_costTogether 2 = .ok (.iload_n 2, 1) := by decide +kernel
theorem d_X_costTogether_3 : decode b_X_costTogether 3 = .ok (.imul, 1) := by decide +kernel
theorem d_X_costTogether_4 : decode b_X_costTogether 4 = .ok (.sipush 200, 3) := by decide +kernel
theorem d_X_costTogether_7 : decode b_X_costTogether 7 = .ok (.idiv, 1) := by decide +kernel
theorem d_X_costTogether_8 : decode b_X_costTogether 8 = .ok (.iadd, 1) := by decide +kernel
theorem d_X_costTogether_9 : decode b_X_costTogether 9 = .ok (.aload_n 0, 1) := by decide +kernel
theorem d_X_costTogether_10 : decode b_X_costTogether 10 = .ok (.getfield 10, 3) := by decide +kernel
theorem d_X_costTogether_13 : decode b_X_costTogether 13 = .ok (.iconst 4, 1) := by decide +kernel
theorem d_X_costTogether_14 : decode b_X_costTogether 14 = .ok (.iload_n 1, 1) := by decide +kernel
theorem d_X_costTogether_15 : decode b_X_costTogether 15 = .ok (.iload_n 2, 1) := by decide +kernel
theorem d_X_costTogether_16 : decode b_X_costTogether 16 = .ok (.isub, 1) := by decide +kernel
theorem d_X_costTogether_17 : decode b_X_costTogether 17 = .ok (.aload_n 0, 1) := by decide +kernel
theorem d_X_costTogether_18 : decode b_X_costTogether 18 = .ok (.getfield 107, 3) := by decide +kernel
theorem d_X_costTogether_21 : decode b_X_costTogether 21 = .ok (.invokevirtual 110, 3) := by decide +kernel
theorem d_X_costTogether_24 : decode b_X_costTogether 24 = .ok (.iadd, 1) := by decide +kernel
theorem d_X_costTogether_25 : decode b_X_costTogether 25 = .ok (.ireturn, 1) := by decide +kernel
theorem d_X_cheapestMotor_0 : decode b_X_cheapestMotor 0 = .ok (.iconst 0, 1) := by decide +kernel
theorem d_X_cheapestMotor_1 : decode b_X_cheapestMotor 1 = .ok (.istore_n 2, 1) := by decide +kernel
theorem d_X_cheapestMotor_2 : decode b_X_cheapestMotor 2 = .ok (.aload_n 0, 1) := by decide +kernel
theorem d_X_cheapestMotor_3 : decode b_X_cheapestMotor 3 = .ok (.iload_n 1, 1) := by decide +kernel
theorem d_X_cheapestMotor_4 : decode b_X_cheapestMotor 4 = .ok (.iconst 0, 1) := by decide +kernel
theorem d_X_cheapestMotor_5 : decode b_X_cheapestMotor 5 = .ok (.invokevirtual 183, 3) := by decide +kernel
theorem d_X_cheapestMotor_8 : decode b_X_cheapestMotor 8 = .ok (.istore_n 3, 1) := by decide +kernel
theorem d_X_cheapestMotor_9 : decode b_X_cheapestMotor 9 = .ok (.bipush 50, 2) := by decide +kernel
theorem d_X_cheapestMotor_11 : decode b_X_cheapestMotor 11 = .ok (.istore 4, 2) := by decide +kernel
theorem d_X_cheapestMotor_13 : decode b_X_cheapestMotor 13 = .ok (.iload 4, 2) := by decide +kernel
theorem d_X_cheapestMotor_15 : decode b_X_cheapestMotor 15 = .ok (.sipush 400, 3) := by decide +kernel
theorem d_X_cheapestMotor_18 : decode b_X_cheapestMotor 18 = .ok (.if_icmp .gt 36, 3) := by decide +kernel
theorem d_X_cheapestMotor_21 : decode b_X_cheapestMotor 21 = .ok (.iload 4, 2) := by decide +kernel
theorem d_X_cheapestMotor_23 : decode b_X_cheapestMotor 23 = .ok (.iload_n 1, 1) := by decide +kernel
theorem d_X_cheapestMotor_24 : decode b_X_cheapestMotor 24 = .ok (.if_icmp .gt 30, 3) := by decide +kernel
theorem d_X_cheapestMotor_27 : decode b_X_cheapestMotor 27 = .ok (.aload_n 0, 1) := by decide +kernel
theorem d_X_cheapestMotor_28 : decode b_X_cheapestMotor 28 = .ok (.iload_n 1, 1) := by decide +kernel
theorem d_X_cheapestMotor_29 : decode b_X_cheapestMotor 29 = .ok (.iload 4, 2) := by decide +kernel
theorem d_X_cheapestMotor_31 : decode b_X_cheapestMotor 31 = .ok (.invokevirtual 183, 3) := by decide +kernel
theorem d_X_cheapestMotor_34 : decode b_X_cheapestMotor 34 = .ok (.istore 5, 2) := by decide +kernel
theorem d_X_cheapestMotor_36 : decode b_X_cheapestMotor 36 = .ok (.iload 5, 2) := by decide +kernel
theorem d_X_cheapestMotor_38 : decode b_X_cheapestMotor 38 = .ok (.iload_n 3, 1) := by decide +kernel
theorem d_X_cheapestMotor_39 : decode b_X_cheapestMotor 39 = .ok (.if_icmp .ge 9, 3) := by decide +kernel
theorem d_X_cheapestMotor_42 : decode b_X_cheapestMotor 42 = .ok (.iload 4, 2) := by decide +kernel
theorem d_X_cheapestMotor_44 : decode b_X_cheapestMotor 44 = .ok (.istore_n 2, 1) := by decide +kernel
theorem d_X_cheapestMotor_45 : decode b_X_cheapestMotor 45 = .ok (.iload 5, 2) := by decide +kernel
theorem d_X_cheapestMotor_47 : decode b_X_cheapestMotor 47 = .ok (.istore_n 3, 1) := by decide +kernel
theorem d_X_cheapestMotor_48 : decode b_X_cheapestMotor 48 = .ok (.iinc 4 50, 3) := by decide +kernel
theorem d_X_cheapestMotor_51 : decode b_X_cheapestMotor 51 = .ok (.goto (-38), 3) := by decide +kernel
theorem d_X_cheapestMotor_54 : decode b_X_cheapestMotor 54 = .ok (.iload_n 2, 1) := by decide +kernel
theorem d_X_cheapestMotor_55 : decode b_X_cheapestMotor 55 = .ok (.ireturn, 1) := by decide +kernel
theorem d_X_table_0 : decode b_X_table 0 = .ok (.iload_n 1, 1) := by decide +kernel
theorem d_X_table_1 : decode b_X_table 1 = .ok (.ifCond .lt 8, 3) := by decide +kernel
theorem d_X_table_4 : decode b_X_table 4 = .ok (.iload_n 1, 1) := by decide +kernel
theorem d_X_table_5 : decode b_X_table 5 = .ok (.iconst 5, 1) := by decide +kernel
theorem d_X_table_6 : decode b_X_table 6 = .ok (.if_icmp .lt 5, 3) := by decide +kernel
theorem d_X_table_9 : decode b_X_table 9 = .ok (.iconst (-1), 1) := by decide +kernel
theorem d_X_table_10 : decode b_X_table 10 = .ok (.ireturn, 1) := by decide +kernel
theorem d_X_table_11 : decode b_X_table 11 = .ok (.iload_n 2, 1) := by decide +kernel
theorem d_X_table_12 : decode b_X_table 12 = .ok (.iload_n 3, 1) := by decide +kernel
theorem d_X_table_13 : decode b_X_table 13 = .ok (.invokestatic 48, 3) := by decide +kernel
theorem d_X_table_16 : decode b_X_table 16 = .ok (.ifCond .eq 14, 3) := by decide +kernel
theorem d_X_table_19 : decode b_X_table 19 = .ok (.lload 4, 2) := by decide +kernel
theorem d_X_table_21 : decode b_X_table 21 = .ok (.ldc2_w 52, 3) := by decide +kernel
theorem d_X_table_24 : decode b_X_table 24 = .ok (.invokestatic 54, 3) := by decide +kernel
theorem d_X_table_27 : decode b_X_table 27 = .ok (.ifCond .ne 6, 3) := by decide +kernel
theorem d_X_table_30 : decode b_X_table 30 = .ok (.bipush (-2), 2) := by decide +kernel
theorem d_X_table_32 : decode b_X_table 32 = .ok (.ireturn, 1) := by decide +kernel
theorem d_X_table_33 : decode b_X_table 33 = .ok (.aload_n 0, 1) := by decide +kernel
theorem d_X_table_34 : decode b_X_table 34 = .ok (.getfield 10, 3) := by decide +kernel
theorem d_X_table_37 : decode b_X_table 37 = .ok (.iload_n 1, 1) := by decide +kernel
theorem d_X_table_38 : decode b_X_table 38 = .ok (.iload_n 2, 1) := by decide +kernel
theorem d_X_table_39 : decode b_X_table 39 = .ok (.iload_n 3, 1) := by decide +kernel
theorem d_X_table_40 : decode b_X_table 40 = .ok (.lload 4, 2) := by decide +kernel
theorem d_X_table_42 : decode b_X_table 42 = .ok (.l2i, 1) := by decide +kernel
theorem d_X_table_43 : decode b_X_table 43 = .ok (.invokevirtual 58, 3) := by decide +kernel
theorem d_X_table_46 : decode b_X_table 46 = .ok (.ireturn, 1) := by decide +kernel
theorem d_X_step_0 : decode b_X_step 0 = .ok (.lload_n 1, 1) := by decide +kernel
theorem d_X_step_1 : decode b_X_step 1 = .ok (.ldc2_w 52, 3) := by decide +kernel
theorem d_X_step_4 : decode b_X_step 4 = .ok (.invokestatic 54, 3) := by decide +kernel
theorem d_X_step_7 : decode b_X_step 7 = .ok (.ifCond .eq 24, 3) := by decide +kernel
theorem d_X_step_10 : decode b_X_step 10 = .ok (.lload_n 3, 1) := by decide +kernel
theorem d_X_step_11 : decode b_X_step 11 = .ok (.ldc2_w 52, 3) := by decide +kernel
theorem d_X_step_14 : decode b_X_step 14 = .ok (.invokestatic 54, 3) := by decide +kernel
theorem d_X_step_17 : decode b_X_step 17 = .ok (.ifCond .eq 14, 3) := by decide +kernel
theorem d_X_step_20 : decode b_X_step 20 = .ok (.lload 5, 2) := by decide +kernel
theorem d_X_step_22 : decode b_X_step 22 = .ok (.ldc2_w 62, 3) := by decide +kernel
theorem d_X_step_25 : decode b_X_step 25 = .ok (.invokestatic 54, 3) := by decide +kernel
theorem d_X_step_28 : decode b_X_step 28 = .ok (.ifCond .ne 6, 3) := by decide +kernel
theorem d_X_step_31 : decode b_X_step 31 = .ok (.bipush (-2), 2) := by decide +kernel
theorem d_X_step_33 : decode b_X_step 33 = .ok (.ireturn, 1) := by decide +kernel
theorem d_X_step_34 : decode b_X_step 34 = .ok (.aload_n 0, 1) := by decide +kernel
theorem d_X_step_35 : decode b_X_step 35 = .ok (.aload_n 0, 1) := by decide +kernel
theorem d_X_step_36 : decode b_X_step 36 = .ok (.getfield 64, 3) := by decide +kernel
theorem d_X_step_39 : decode b_X_step 39 = .ok (.putfield 67, 3) := by decide +kernel
theorem d_X_step_42 : decode b_X_step 42 = .ok (.aload_n 0, 1) := by decide +kernel
theorem d_X_step_43 : decode b_X_step 43 = .ok (.lload 5, 2) := by decide +kernel
theorem d_X_step_45 : decode b_X_step 45 = .ok (.l2i, 1) := by decide +kernel
theorem d_X_step_46 : decode b_X_step 46 = .ok (.invokevirtual 70, 3) := by decide +kernel
theorem d_X_step_49 : decode b_X_step 49 = .ok (.aload_n 0, 1) := by decide +kernel
theorem d_X_step_50 : decode b_X_step 50 = .ok (.lload_n 1, 1) := by decide +kernel
theorem d_X_step_51 : decode b_X_step 51 = .ok (.l2i, 1) := by decide +kernel
theorem d_X_step_52 : decode b_X_step 52 = .ok (.lload_n 3, 1) := by decide +kernel
theorem d_X_step_53 : decode b_X_step 53 = .ok (.l2i, 1) := by decide +kernel
theorem d_X_step_54 : decode b_X_step 54 = .ok (.invokevirtual 74, 3) := by decide +kernel
theorem d_X_step_57 : decode b_X_step 57 = .ok (.aload_n 0, 1) := by decide +kernel
theorem d_X_step_58 : decode b_X_step 58 = .ok (.aload_n 0, 1) := by decide +kernel
theorem d_X_step_59 : decode b_X_step 59 = .ok (.invokevirtual 78, 3) := by decide +kernel
theorem d_X_step_62 : decode b_X_step 62 = .ok (.putfield 82, 3) := by decide +kernel
theorem d_X_step_65 : decode b_X_step 65 = .ok (.aload_n 0, 1) := by decide +kernel
theorem d_X_step_66 : decode b_X_step 66 = .ok (.getfield 82, 3) := by decide +kernel
theorem d_X_step_69 : decode b_X_step 69 = .ok (.iconst 4, 1) := by decide +kernel
theorem d_X_step_70 : decode b_X_step 70 = .ok (.if_icmp .ne 8, 3) := by decide +kernel
theorem d_X_step_73 : decode b_X_step 73 = .ok (.aload_n 0, 1) := by decide +kernel
theorem d_X_step_74 : decode b_X_step 74 = .ok (.iconst 0, 1) := by decide +kernel
theorem d_X_step_75 : decode b_X_step 75 = .ok (.putfield 85, 3) := by decide +kernel
theorem d_X_step_78 : decode b_X_step 78 = .ok (.aload_n 0, 1) := by decide +kernel
theorem d_X_step_79 : decode b_X_step 79 = .ok (.aload_n 0, 1) := by decide +kernel
theorem d_X_step_80 : decode b_X_step 80 = .ok (.invokevirtual 88, 3) := by decide +kernel
theorem d_X_step_83 : decode b_X_step 83 = .ok (.aload_n 0, 1) := by decide +kernel
theorem d_X_step_84 : decode b_X_step 84 = .ok (.getfield 41, 3) := by decide +kernel
theorem d_X_step_87 : decode b_X_step 87 = .ok (.invokestatic 91, 3) := by decide +kernel
theorem d_X_step_90 : decode b_X_step 90 = .ok (.putfield 97, 3) := by decide +kernel
theorem d_X_step_93 : decode b_X_step 93 = .ok (.aload_n 0, 1) := by decide +kernel
theorem d_X_step_94 : decode b_X_step 94 = .ok (.aload_n 0, 1) := by decide +kernel
theorem d_X_step_95 : decode b_X_step 95 = .ok (.invokevirtual 100, 3) := by decide +kernel
theorem d_X_step_98 : decode b_X_step 98 = .ok (.ifCond .eq 17, 3) := by decide +kernel
theorem d_X_step_101 : decode b_X_step 101 = .ok (.aload_n 0, 1) := by decide +kernel
theorem d_X_step_102 : decode b_X_step 102 = .ok (.getfield 64, 3) := by decide +kernel
theorem d_X_step_105 : decode b_X_step 105 = .ok (.aload_n 0, 1) := by decide +kernel
theorem d_X_step_106 : decode b_X_step 106 = .ok (.getfield 97, 3) := by decide +kernel
theorem d_X_step_109 : decode b_X_step 109 = .ok (.invokestatic 104, 3) := by decide +kernel
theorem d_X_step_112 : decode b_X_step 112 = .ok (.goto 4, 3) := by decide +kernel
theorem d_X_step_115 : decode b_X_step 115 = .ok (.iconst 0, 1) := by decide +kernel
theorem d_X_step_116 : decode b_X_step 116 = .ok (.putfield 64, 3) := by decide +kernel
theorem d_X_step_119 : decode b_X_step 119 = .ok (.aload_n 0, 1) := by decide +kernel
theorem d_X_step_120 : decode b_X_step 120 = .ok (.aload_n 0, 1) := by decide +kernel
theorem d_X_step_121 : decode b_X_step 121 = .ok (.getfield 10, 3) := by decide +kernel
theorem d_X_step_124 : decode b_X_step 124 = .ok (.iconst 2, 1) := by decide +kernel
theorem d_X_step_125 : decode b_X_step 125 = .ok (.aload_n 0, 1) := by decide +kernel
theorem d_X_step_126 : decode b_X_step 126 = .ok (.getfield 64, 3) := by decide +kernel
theorem d_X_step_129 : decode b_X_step 129 = .ok (.aload_n 0, 1) := by decide +kernel
theorem d_X_step_130 : decode b_X_step 130 = .ok (.getfield 107, 3) := by decide +kernel
theorem d_X_step_133 : decode b_X_step 133 = .ok (.invokevirtual 110, 3) := by decide +kernel
theorem d_X_step_136 : decode b_X_step 136 = .ok (.putfield 114, 3) := by decide +kernel
theorem d_X_step_139 : decode b_X_step 139 = .ok (.aload_n 0, 1) := by decide +kernel
theorem d_X_step_140 : decode b_X_step 140 = .ok (.aload_n 0, 1) := by decide +kernel
theorem d_X_step_141 : decode b_X_step 141 = .ok (.invokevirtual 117, 3) := by decide +kernel
theorem d_X_step_144 : decode b_X_step 144 = .ok (.ifCond .eq 7, 3) := by decide +kernel
theorem d_X_step_147 : decode b_X_step 147 = .ok (.iconst 0, 1) := by decide +kernel
theorem d_X_step_148 : decode b_X_step 148 = .ok (.goto 19, 3) := by decide +kernel
theorem d_X_step_151 : decode b_X_step 151 = .ok (.aload_n 0, 1) := by decide +kernel
theorem d_X_step_152 : decode b_X_step 152 = .ok (.getfield 10, 3) := by decide +kernel
theorem d_X_step_155 : decode b_X_step 155 = .ok (.iconst 3, 1) := by decide +kernel
theorem d_X_step_156 : decode b_X_step 156 = .ok (.aload_n 0, 1) := by decide +kernel
theorem d_X_step_157 : decode b_X_step 157 = .ok (.getfield 114, 3) := by decide +kernel
theorem d_X_step_160 : decode b_X_step 160 = .ok (.aload_n 0, 1) := by decide +kernel
theorem d_X_step_161 : decode b_X_step 161 = .ok (.getfield 107, 3) := by decide +kernel
theorem d_X_step_164 : decode b_X_step 164 = .ok (.invokevirtual 110, 3) := by decide +kernel
theorem d_X_step_167 : decode b_X_step 167 = .ok (.putfield 120, 3) := by decide +kernel
theorem d_X_step_170 : decode b_X_step 170 = .ok (.aload_n 0, 1) := by decide +kernel
theorem d_X_step_171 : decode b_X_step 171 = .ok (.getfield 33, 3) := by decide +kernel
theorem d_X_step_174 : decode b_X_step 174 = .ok (.aload_n 0, 1) := by decide +kernel
theorem d_X_step_175 : decode b_X_step 175 = .ok (.getfield 64, 3) := by decide +kernel
theorem d_X_step_178 : decode b_X_step 178 = .ok (.aload_n 0, 1) := by decide +kernel
theorem d_X_step_179 : decode b_X_step 179 = .ok (.getfield 107, 3) := by decide +kernel
theorem d_X_step_182 : decode b_X_step 182 = .ok (.aload_n 0, 1) := by decide +kernel
theorem d_X_step_183 : decode b_X_step 183 = .ok (.getfield 120, 3) := by decide +kernel
theorem d_X_step_186 : decode b_X_step 186 = .ok (.aload_n 0, 1) := by decide +kernel
theorem d_X_step_187 : decode b_X_step 187 = .ok (.getfield 82, 3) := by decide +kernel
theorem d_X_step_190 : decode b_X_step 190 = .ok (.iconst 4, 1) := by decide +kernel
theorem d_X_step_191 : decode b_X_step 191 = .ok (.if_icmp .ne 7, 3) := by decide +kernel
theorem d_X_step_194 : decode b_X_step 194 = .ok (.iconst 1, 1) := by decide +kernel
theorem d_X_step_195 : decode b_X_step 195 = .ok (.goto 4, 3) := by decide +kernel
theorem d_X_step_198 : decode b_X_step 198 = .ok (.iconst 0, 1) := by decide +kernel
theorem d_X_step_199 : decode b_X_step 199 = .ok (.invokevirtual 123, 3) := by decide +kernel
theorem d_X_step_202 : decode b_X_step 202 = .ok (.aload_n 0, 1) := by decide +kernel
theorem d_X_step_203 : decode b_X_step 203 = .ok (.getfield 82, 3) := by decide +kernel
theorem d_X_step_206 : decode b_X_step 206 = .ok (.ireturn, 1) := by decide +kernel
theorem d_X_torque_0 : decode b_X_torque 0 = .ok (.aload_n 0, 1) := by decide +kernel
theorem d_X_torque_1 : decode b_X_torque 1 = .ok (.getfield 64, 3) := by decide +kernel
theorem d_X_torque_4 : decode b_X_torque 4 = .ok (.i2l, 1) := by decide +kernel
theorem d_X_torque_5 : decode b_X_torque 5 = .ok (.lreturn, 1) := by decide +kernel
theorem d_X_value_0 : decode b_X_value 0 = .ok (.iload_n 1, 1) := by decide +kernel
theorem d_X_value_1 : decode b_X_value 1 = .ok (.tableswitch 98 0 7 #[47, 53, 59, 65, 71, 80, 86, 92], 47) := by decide +kernel
theorem d_X_value_48 : decode b_X_value 48 = .ok (.aload_n 0, 1) := by decide +kernel
theorem d_X_value_49 : decode b_X_value 49 = .ok (.getfield 85, 3) := by decide +kernel
theorem d_X_value_52 : decode b_X_value 52 = .ok (.i2l, 1) := by decide +kernel
theorem d_X_value_53 : decode b_X_value 53 = .ok (.lreturn, 1) := by decide +kernel
theorem d_X_value_54 : decode b_X_value 54 = .ok (.aload_n 0, 1) := by decide +kernel
theorem d_X_value_55 : decode b_X_value 55 = .ok (.getfield 97, 3) := by decide +kernel
theorem d_X_value_58 : decode b_X_value 58 = .ok (.i2l, 1) := by decide +kernel
theorem d_X_value_59 : decode b_X_value 59 = .ok (.lreturn, 1) := by decide +kernel
theorem d_X_value_60 : decode b_X_value 60 = .ok (.aload_n 0, 1) := by decide +kernel
theorem d_X_value_61 : decode b_X_value 61 = .ok (.getfield 114, 3) := by decide +kernel
theorem d_X_value_64 : decode b_X_value 64 = .ok (.i2l, 1) := by decide +kernel
theorem d_X_value_65 : decode b_X_value 65 = .ok (.lreturn, 1) := by decide +kernel
theorem d_X_value_66 : decode b_X_value 66 = .ok (.aload_n 0, 1) := by decide +kernel
theorem d_X_value_67 : decode b_X_value 67 = .ok (.getfield 120, 3) := by decide +kernel
theorem d_X_value_70 : decode b_X_value 70 = .ok (.i2l, 1) := by decide +kernel
theorem d_X_value_71 : decode b_X_value 71 = .ok (.lreturn, 1) := by decide +kernel
theorem d_X_value_72 : decode b_X_value 72 = .ok (.aload_n 0, 1) := by decide +kernel
theorem d_X_value_73 : decode b_X_value 73 = .ok (.getfield 26, 3) := by decide +kernel
theorem d_X_value_76 : decode b_X_value 76 = .ok (.getfield 127, 3) := by decide +kernel
theorem d_X_value_79 : decode b_X_value 79 = .ok (.i2l, 1) := by decide +kernel
theorem d_X_value_80 : decode b_X_value 80 = .ok (.lreturn, 1) := by decide +kernel
theorem d_X_value_81 : decode b_X_value 81 = .ok (.aload_n 0, 1) := by decide +kernel
theorem d_X_value_82 : decode b_X_value 82 = .ok (.getfield 130, 3) := by decide +kernel
theorem d_X_value_85 : decode b_X_value 85 = .ok (.i2l, 1) := by decide +kernel
theorem d_X_value_86 : decode b_X_value 86 = .ok (.lreturn, 1) := by decide +kernel
theorem d_X_value_87 : decode b_X_value 87 = .ok (.aload_n 0, 1) := by decide +kernel
theorem d_X_value_88 : decode b_X_value 88 = .ok (.getfield 82, 3) := by decide +kernel
theorem d_X_value_91 : decode b_X_value 91 = .ok (.i2l, 1) := by decide +kernel
theorem d_X_value_92 : decode b_X_value 92 = .ok (.lreturn, 1) := by decide +kernel
theorem d_X_value_93 : decode b_X_value 93 = .ok (.aload_n 0, 1) := by decide +kernel
theorem d_X_value_94 : decode b_X_value 94 = .ok (.getfield 107, 3) := by decide +kernel
theorem d_X_value_97 : decode b_X_value 97 = .ok (.i2l, 1) := by decide +kernel
theorem d_X_value_98 : decode b_X_value 98 = .ok (.lreturn, 1) := by decide +kernel
theorem d_X_value_99 : decode b_X_value 99 = .ok (.ldc2_w 133, 3) := by decide +kernel
theorem d_X_value_102 : decode b_X_value 102 = .ok (.lreturn, 1) := by decide +kernel
theorem d_X_wish_0 : decode b_X_wish 0 = .ok (.iload_n 1, 1) := by decide +kernel
theorem d_X_wish_1 : decode b_X_wish 1 = .ok (.iconst 1, 1) := by decide +kernel
theorem d_X_wish_2 : decode b_X_wish 2 = .ok (.if_icmp .lt 8, 3) := by decide +kernel
theorem d_X_wish_5 : decode b_X_wish 5 = .ok (.iload_n 1, 1) := by decide +kernel
theorem d_X_wish_6 : decode b_X_wish 6 = .ok (.iconst 5, 1) := by decide +kernel
theorem d_X_wish_7 : decode b_X_wish 7 = .ok (.if_icmp .le 5, 3) := by decide +kernel
theorem d_X_wish_10 : decode b_X_wish 10 = .ok (.iconst (-1), 1) := by decide +kernel
theorem d_X_wish_11 : decode b_X_wish 11 = .ok (.ireturn, 1) := by decide +kernel
