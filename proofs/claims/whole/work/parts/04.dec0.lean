theorem d_Ta_isPlace_0 : decode b_Ta_isPlace 0 = .ok (.iload_n 0, 1) := by decide +kernel
theorem d_Ta_isPlace_1 : decode b_Ta_isPlace 1 = .ok (.ifCond .lt 23, 3) := by decide +kernel
theorem d_Ta_isPlace_4 : decode b_Ta_isPlace 4 = .ok (.iload_n 0, 1) := by decide +kernel
theorem d_Ta_isPlace_5 : decode b_Ta_isPlace 5 = .ok (.bipush 8, 2) := by decide +kernel
theorem d_Ta_isPlace_7 : decode b_Ta_isPlace 7 = .ok (.if_icmp .ge 17, 3) := by decide +kernel
theorem d_Ta_isPlace_10 : decode b_Ta_isPlace 10 = .ok (.iload_n 1, 1) := by decide +kernel
theorem d_Ta_isPlace_11 : decode b_Ta_isPlace 11 = .ok (.ifCond .lt 13, 3) := by decide +kernel
theorem d_Ta_isPlace_14 : decode b_Ta_isPlace 14 = .ok (.iload_n 1, 1) := by decide +kernel
theorem d_Ta_isPlace_15 : decode b_Ta_isPlace 15 = .ok (.bipush 8, 2) := by decide +kernel
theorem d_Ta_isPlace_17 : decode b_Ta_isPlace 17 = .ok (.if_icmp .ge 7, 3) := by decide +kernel
theorem d_Ta_isPlace_20 : decode b_Ta_isPlace 20 = .ok (.iconst 1, 1) := by decide +kernel
theorem d_Ta_isPlace_21 : decode b_Ta_isPlace 21 = .ok (.goto 4, 3) := by decide +kernel
theorem d_Ta_isPlace_24 : decode b_Ta_isPlace 24 = .ok (.iconst 0, 1) := by decide +kernel
theorem d_Ta_isPlace_25 : decode b_Ta_isPlace 25 = .ok (.ireturn, 1) := by decide +kernel
theorem d_Ta_between_0 : decode b_Ta_between 0 = .ok (.iconst 0, 1) := by decide +kernel
theorem d_Ta_between_1 : decode b_Ta_between 1 = .ok (.iload_n 0, 1) := by decide +kernel
theorem d_Ta_between_2 : decode b_Ta_between 2 = .ok (.iload_n 1, 1) := by decide +kernel
theorem d_Ta_between_3 : decode b_Ta_between 3 = .ok (.invokestatic 21, 3) := by decide +kernel
theorem d_Ta_between_6 : decode b_Ta_between 6 = .ok (.invokestatic 27, 3) := by decide +kernel
theorem d_Ta_between_9 : decode b_Ta_between 9 = .ok (.ireturn, 1) := by decide +kernel
theorem d_Ta_indexOf_0 : decode b_Ta_indexOf 0 = .ok (.iload_n 0, 1) := by decide +kernel
theorem d_Ta_indexOf_1 : decode b_Ta_indexOf 1 = .ok (.bipush 8, 2) := by decide +kernel
theorem d_Ta_indexOf_3 : decode b_Ta_indexOf 3 = .ok (.imul, 1) := by decide +kernel
theorem d_Ta_indexOf_4 : decode b_Ta_indexOf 4 = .ok (.iload_n 1, 1) := by decide +kernel
theorem d_Ta_indexOf_5 : decode b_Ta_indexOf 5 = .ok (.iadd, 1) := by decide +kernel
theorem d_Ta_indexOf_6 : decode b_Ta_indexOf 6 = .ok (.bipush 8, 2) := by decide +kernel
theorem d_Ta_indexOf_8 : decode b_Ta_indexOf 8 = .ok (.imul, 1) := by decide +kernel
theorem d_Ta_indexOf_9 : decode b_Ta_indexOf 9 = .ok (.iload_n 2, 1) := by decide +kernel
theorem d_Ta_indexOf_10 : decode b_Ta_indexOf 10 = .ok (.iadd, 1) := by decide +kernel
theorem d_Ta_indexOf_11 : decode b_Ta_indexOf 11 = .ok (.ireturn, 1) := by decide +kernel
theorem d_Ta_put_0 : decode b_Ta_put 0 = .ok (.iload_n 1, 1) := by decide +kernel
theorem d_Ta_put_1 : decode b_Ta_put 1 = .ok (.iload_n 2, 1) := by decide +kernel
theorem d_Ta_put_2 : decode b_Ta_put 2 = .ok (.iload_n 3, 1) := by decide +kernel
theorem d_Ta_put_3 : decode b_Ta_put 3 = .ok (.invokestatic 13, 3) := by decide +kernel
theorem d_Ta_put_6 : decode b_Ta_put 6 = .ok (.istore 5, 2) := by decide +kernel
theorem d_Ta_put_8 : decode b_Ta_put 8 = .ok (.aload_n 0, 1) := by decide +kernel
theorem d_Ta_put_9 : decode b_Ta_put 9 = .ok (.getfield 9, 3) := by decide +kernel
theorem d_Ta_put_12 : decode b_Ta_put 12 = .ok (.iload 5, 2) := by decide +kernel
theorem d_Ta_put_14 : decode b_Ta_put 14 = .ok (.iaload, 1) := by decide +kernel
theorem d_Ta_put_15 : decode b_Ta_put 15 = .ok (.istore 6, 2) := by decide +kernel
theorem d_Ta_put_17 : decode b_Ta_put 17 = .ok (.aload_n 0, 1) := by decide +kernel
theorem d_Ta_put_18 : decode b_Ta_put 18 = .ok (.getfield 9, 3) := by decide +kernel
theorem d_Ta_put_21 : decode b_Ta_put 21 = .ok (.iload 5, 2) := by decide +kernel
theorem d_Ta_put_23 : decode b_Ta_put 23 = .ok (.iload 4, 2) := by decide +kernel
theorem d_Ta_put_25 : decode b_Ta_put 25 = .ok (.iastore, 1) := by decide +kernel
theorem d_Ta_put_26 : decode b_Ta_put 26 = .ok (.iload 6, 2) := by decide +kernel
theorem d_Ta_put_28 : decode b_Ta_put 28 = .ok (.ireturn, 1) := by decide +kernel
theorem d_Ta_joined_0 : decode b_Ta_joined 0 = .ok (.iload_n 2, 1) := by decide +kernel
theorem d_Ta_joined_1 : decode b_Ta_joined 1 = .ok (.sipush 896, 3) := by decide +kernel
theorem d_Ta_joined_4 : decode b_Ta_joined 4 = .ok (.invokestatic 17, 3) := by decide +kernel
theorem d_Ta_joined_7 : decode b_Ta_joined 7 = .ok (.istore 4, 2) := by decide +kernel
theorem d_Ta_joined_9 : decode b_Ta_joined 9 = .ok (.iload_n 3, 1) := by decide +kernel
theorem d_Ta_joined_10 : decode b_Ta_joined 10 = .ok (.sipush 7000, 3) := by decide +kernel
theorem d_Ta_joined_13 : decode b_Ta_joined 13 = .ok (.invokestatic 17, 3) := by decide +kernel
theorem d_Ta_joined_16 : decode b_Ta_joined 16 = .ok (.istore 5, 2) := by decide +kernel
theorem d_Ta_joined_18 : decode b_Ta_joined 18 = .ok (.iload 4, 2) := by decide +kernel
theorem d_Ta_joined_20 : decode b_Ta_joined 20 = .ok (.sipush 128, 3) := by decide +kernel
theorem d_Ta_joined_23 : decode b_Ta_joined 23 = .ok (.idiv, 1) := by decide +kernel
theorem d_Ta_joined_24 : decode b_Ta_joined 24 = .ok (.bipush 6, 2) := by decide +kernel
theorem d_Ta_joined_26 : decode b_Ta_joined 26 = .ok (.invokestatic 21, 3) := by decide +kernel
theorem d_Ta_joined_29 : decode b_Ta_joined 29 = .ok (.istore 6, 2) := by decide +kernel
theorem d_Ta_joined_31 : decode b_Ta_joined 31 = .ok (.iload 5, 2) := by decide +kernel
theorem d_Ta_joined_33 : decode b_Ta_joined 33 = .ok (.sipush 1000, 3) := by decide +kernel
theorem d_Ta_joined_36 : decode b_Ta_joined 36 = .ok (.idiv, 1) := by decide +kernel
theorem d_Ta_joined_37 : decode b_Ta_joined 37 = .ok (.bipush 6, 2) := by decide +kernel
theorem d_Ta_joined_39 : decode b_Ta_joined 39 = .ok (.invokestatic 21, 3) := by decide +kernel
theorem d_Ta_joined_42 : decode b_Ta_joined 42 = .ok (.istore 7, 2) := by decide +kernel
theorem d_Ta_joined_44 : decode b_Ta_joined 44 = .ok (.iload 4, 2) := by decide +kernel
theorem d_Ta_joined_46 : decode b_Ta_joined 46 = .ok (.sipush 128, 3) := by decide +kernel
theorem d_Ta_joined_49 : decode b_Ta_joined 49 = .ok (.iload 6, 2) := by decide +kernel
theorem d_Ta_joined_51 : decode b_Ta_joined 51 = .ok (.imul, 1) := by decide +kernel
theorem d_Ta_joined_52 : decode b_Ta_joined 52 = .ok (.isub, 1) := by decide +kernel
theorem d_Ta_joined_53 : decode b_Ta_joined 53 = .ok (.istore 8, 2) := by decide +kernel
theorem d_Ta_joined_55 : decode b_Ta_joined 55 = .ok (.iload 5, 2) := by decide +kernel
theorem d_Ta_joined_57 : decode b_Ta_joined 57 = .ok (.sipush 1000, 3) := by decide +kernel
theorem d_Ta_joined_60 : decode b_Ta_joined 60 = .ok (.iload 7, 2) := by decide +kernel
theorem d_Ta_joined_62 : decode b_Ta_joined 62 = .ok (.imul, 1) := by decide +kernel
theorem d_Ta_joined_63 : decode b_Ta_joined 63 = .ok (.isub, 1) := by decide +kernel
theorem d_Ta_joined_64 : decode b_Ta_joined 64 = .ok (.istore 9, 2) := by decide +kernel
theorem d_Ta_joined_66 : decode b_Ta_joined 66 = .ok (.aload_n 0, 1) := by decide +kernel
theorem d_Ta_joined_67 : decode b_Ta_joined 67 = .ok (.getfield 9, 3) := by decide +kernel
theorem d_Ta_joined_70 : decode b_Ta_joined 70 = .ok (.iload_n 1, 1) := by decide +kernel
theorem d_Ta_joined_71 : decode b_Ta_joined 71 = .ok (.iload 6, 2) := by decide +kernel
theorem d_Ta_joined_73 : decode b_Ta_joined 73 = .ok (.iload 7, 2) := by decide +kernel
theorem d_Ta_joined_75 : decode b_Ta_joined 75 = .ok (.invokestatic 13, 3) := by decide +kernel
theorem d_Ta_joined_78 : decode b_Ta_joined 78 = .ok (.iaload, 1) := by decide +kernel
theorem d_Ta_joined_79 : decode b_Ta_joined 79 = .ok (.sipush 128, 3) := by decide +kernel
theorem d_Ta_joined_82 : decode b_Ta_joined 82 = .ok (.iload 8, 2) := by decide +kernel
theorem d_Ta_joined_84 : decode b_Ta_joined 84 = .ok (.isub, 1) := by decide +kernel
theorem d_Ta_joined_85 : decode b_Ta_joined 85 = .ok (.imul, 1) := by decide +kernel
theorem d_Ta_joined_86 : decode b_Ta_joined 86 = .ok (.aload_n 0, 1) := by decide +kernel
theorem d_Ta_joined_87 : decode b_Ta_joined 87 = .ok (.getfield 9, 3) := by decide +kernel
theorem d_Ta_joined_90 : decode b_Ta_joined 90 = .ok (.iload_n 1, 1) := by decide +kernel
theorem d_Ta_joined_91 : decode b_Ta_joined 91 = .ok (.iload 6, 2) := by decide +kernel
theorem d_Ta_joined_93 : decode b_Ta_joined 93 = .ok (.iconst 1, 1) := by decide +kernel
theorem d_Ta_joined_94 : decode b_Ta_joined 94 = .ok (.iadd, 1) := by decide +kernel
theorem d_Ta_joined_95 : decode b_Ta_joined 95 = .ok (.iload 7, 2) := by decide +kernel
theorem d_Ta_joined_97 : decode b_Ta_joined 97 = .ok (.invokestatic 13, 3) := by decide +kernel
theorem d_Ta_joined_100 : decode b_Ta_joined 100 = .ok (.iaload, 1) := by decide +kernel
theorem d_Ta_joined_101 : decode b_Ta_joined 101 = .ok (.iload 8, 2) := by decide +kernel
theorem d_Ta_joined_103 : decode b_Ta_joined 103 = .ok (.imul, 1) := by decide +kernel
theorem d_Ta_joined_104 : decode b_Ta_joined 104 = .ok (.iadd, 1) := by decide +kernel
theorem d_Ta_joined_105 : decode b_Ta_joined 105 = .ok (.istore 10, 2) := by decide +kernel
theorem d_Ta_joined_107 : decode b_Ta_joined 107 = .ok (.aload_n 0, 1) := by decide +kernel
theorem d_Ta_joined_108 : decode b_Ta_joined 108 = .ok (.getfield 9, 3) := by decide +kernel
theorem d_Ta_joined_111 : decode b_Ta_joined 111 = .ok (.iload_n 1, 1) := by decide +kernel
theorem d_Ta_joined_112 : decode b_Ta_joined 112 = .ok (.iload 6, 2) := by decide +kernel
theorem d_Ta_joined_114 : decode b_Ta_joined 114 = .ok (.iload 7, 2) := by decide +kernel
theorem d_Ta_joined_116 : decode b_Ta_joined 116 = .ok (.iconst 1, 1) := by decide +kernel
theorem d_Ta_joined_117 : decode b_Ta_joined 117 = .ok (.iadd, 1) := by decide +kernel
theorem d_Ta_joined_118 : decode b_Ta_joined 118 = .ok (.invokestatic 13, 3) := by decide +kernel
theorem d_Ta_joined_121 : decode b_Ta_joined 121 = .ok (.iaload, 1) := by decide +kernel
theorem d_Ta_joined_122 : decode b_Ta_joined 122 = .ok (.sipush 128, 3) := by decide +kernel
theorem d_Ta_joined_125 : decode b_Ta_joined 125 = .ok (.iload 8, 2) := by decide +kernel
theorem d_Ta_joined_127 : decode b_Ta_joined 127 = .ok (.isub, 1) := by decide +kernel
theorem d_Ta_joined_128 : decode b_Ta_joined 128 = .ok (.imul, 1) := by decide +kernel
theorem d_Ta_joined_129 : decode b_Ta_joined 129 = .ok (.aload_n 0, 1) := by decide +kernel
theorem d_Ta_joined_130 : decode b_Ta_joined 130 = .ok (.getfield 9, 3) := by decide +kernel
theorem d_Ta_joined_133 : decode b_Ta_joined 133 = .ok (.iload_n 1, 1) := by decide +kernel
theorem d_Ta_joined_134 : decode b_Ta_joined 134 = .ok (.iload 6, 2) := by decide +kernel
theorem d_Ta_joined_136 : decode b_Ta_joined 136 = .ok (.iconst 1, 1) := by decide +kernel
theorem d_Ta_joined_137 : decode b_Ta_joined 137 = .ok (.iadd, 1) := by decide +kernel
theorem d_Ta_joined_138 : decode b_Ta_joined 138 = .ok (.iload 7, 2) := by decide +kernel
theorem d_Ta_joined_140 : decode b_Ta_joined 140 = .ok (.iconst 1, 1) := by decide +kernel
theorem d_Ta_joined_141 : decode b_Ta_joined 141 = .ok (.iadd, 1) := by decide +kernel
theorem d_Ta_joined_142 : decode b_Ta_joined 142 = .ok (.invokestatic 13, 3) := by decide +kernel
theorem d_Ta_joined_145 : decode b_Ta_joined 145 = .ok (.iaload, 1) := by decide +kernel
theorem d_Ta_joined_146 : decode b_Ta_joined 146 = .ok (.iload 8, 2) := by decide +kernel
theorem d_Ta_joined_148 : decode b_Ta_joined 148 = .ok (.imul, 1) := by decide +kernel
theorem d_Ta_joined_149 : decode b_Ta_joined 149 = .ok (.iadd, 1) := by decide +kernel
theorem d_Ta_joined_150 : decode b_Ta_joined 150 = .ok (.istore 11, 2) := by decide +kernel
theorem d_Ta_joined_152 : decode b_Ta_joined 152 = .ok (.iload 10, 2) := by decide +kernel
theorem d_Ta_joined_154 : decode b_Ta_joined 154 = .ok (.sipush 1000, 3) := by decide +kernel
theorem d_Ta_joined_157 : decode b_Ta_joined 157 = .ok (.iload 9, 2) := by decide +kernel
theorem d_Ta_joined_159 : decode b_Ta_joined 159 = .ok (.isub, 1) := by decide +kernel
theorem d_Ta_joined_160 : decode b_Ta_joined 160 = .ok (.imul, 1) := by decide +kernel
theorem d_Ta_joined_161 : decode b_Ta_joined 161 = .ok (.iload 11, 2) := by decide +kernel
theorem d_Ta_joined_163 : decode b_Ta_joined 163 = .ok (.iload 9, 2) := by decide +kernel
theorem d_Ta_joined_165 : decode b_Ta_joined 165 = .ok (.imul, 1) := by decide +kernel
theorem d_Ta_joined_166 : decode b_Ta_joined 166 = .ok (.iadd, 1) := by decide +kernel
theorem d_Ta_joined_167 : decode b_Ta_joined 167 = .ok (.ldc 26, 2) := by decide +kernel
theorem d_Ta_joined_169 : decode b_Ta_joined 169 = .ok (.idiv, 1) := by decide +kernel
theorem d_Ta_joined_170 : decode b_Ta_joined 170 = .ok (.ireturn, 1) := by decide +kernel
theorem d_Wi_clear_0 : decode b_Wi_clear 0 = .ok (.iconst 0, 1) := by decide +kernel
theorem d_Wi_clear_1 : decode b_Wi_clear 1 = .ok (.istore_n 1, 1) := by decide +kernel
theorem d_Wi_clear_2 : decode b_Wi_clear 2 = .ok (.iload_n 1, 1) := by decide +kernel
theorem d_Wi_clear_3 : decode b_Wi_clear 3 = .ok (.iconst 5, 1) := by decide +kernel
theorem d_Wi_clear_4 : decode b_Wi_clear 4 = .ok (.if_icmp .gt 16, 3) := by decide +kernel
theorem d_Wi_clear_7 : decode b_Wi_clear 7 = .ok (.aload_n 0, 1) := by decide +kernel
theorem d_Wi_clear_8 : decode b_Wi_clear 8 = .ok (.getfield 9, 3) := by decide +kernel
theorem d_Wi_clear_11 : decode b_Wi_clear 11 = .ok (.iload_n 1, 1) := by decide +kernel
theorem d_Wi_clear_12 : decode b_Wi_clear 12 = .ok (.iconst (-1), 1) := by decide +kernel
theorem d_Wi_clear_13 : decode b_Wi_clear 13 = .ok (.iastore, 1) := by decide +kernel
theorem d_Wi_clear_14 : decode b_Wi_clear 14 = .ok (.iinc 1 1, 3) := by decide +kernel
theorem d_Wi_clear_17 : decode b_Wi_clear 17 = .ok (.goto (-15), 3) := by decide +kernel
theorem d_Wi_clear_20 : decode b_Wi_clear 20 = .ok (.aload_n 0, 1) := by decide +kernel
theorem d_Wi_clear_21 : decode b_Wi_clear 21 = .ok (.iconst 0, 1) := by decide +kernel
theorem d_Wi_clear_22 : decode b_Wi_clear 22 = .ok (.putfield 16, 3) := by decide +kernel
theorem d_Wi_clear_25 : decode b_Wi_clear 25 = .ok (.return_, 1) := by decide +kernel
theorem d_Wi_add_0 : decode b_Wi_add 0 = .ok (.aload_n 0, 1) := by decide +kernel
theorem d_Wi_add_1 : decode b_Wi_add 1 = .ok (.getfield 9, 3) := by decide +kernel
theorem d_Wi_add_4 : decode b_Wi_add 4 = .ok (.iload_n 1, 1) := by decide +kernel
theorem d_Wi_add_5 : decode b_Wi_add 5 = .ok (.iaload, 1) := by decide +kernel
theorem d_Wi_add_6 : decode b_Wi_add 6 = .ok (.iconst (-1), 1) := by decide +kernel
theorem d_Wi_add_7 : decode b_Wi_add 7 = .ok (.if_icmp .eq 13, 3) := by decide +kernel
theorem d_Wi_add_10 : decode b_Wi_add 10 = .ok (.iload_n 2, 1) := by decide +kernel
theorem d_Wi_add_11 : decode b_Wi_add 11 = .ok (.aload_n 0, 1) := by decide +kernel
theorem d_Wi_add_12 : decode b_Wi_add 12 = .ok (.getfield 9, 3) := by decide +kernel
theorem d_Wi_add_15 : decode b_Wi_add 15 = .ok (.iload_n 1, 1) := by decide +kernel
theorem d_Wi_add_16 : decode b_Wi_add 16 = .ok (.iaload, 1) := by decide +kernel
theorem d_Wi_add_17 : decode b_Wi_add 17 = .ok (.if_icmp .ge 10, 3) := by decide +kernel
theorem d_Wi_add_20 : decode b_Wi_add 20 = .ok (.aload_n 0, 1) := by decide +kernel
theorem d_Wi_add_21 : decode b_Wi_add 21 = .ok (.getfield 9, 3) := by decide +kernel
theorem d_Wi_add_24 : decode b_Wi_add 24 = .ok (.iload_n 1, 1) := by decide +kernel
theorem d_Wi_add_25 : decode b_Wi_add 25 = .ok (.iload_n 2, 1) := by decide +kernel
theorem d_Wi_add_26 : decode b_Wi_add 26 = .ok (.iastore, 1) := by decide +kernel
theorem d_Wi_add_27 : decode b_Wi_add 27 = .ok (.aload_n 0, 1) := by decide +kernel
theorem d_Wi_add_28 : decode b_Wi_add 28 = .ok (.dup, 1) := by decide +kernel
theorem d_Wi_add_29 : decode b_Wi_add 29 = .ok (.getfield 16, 3) := by decide +kernel
theorem d_Wi_add_32 : decode b_Wi_add 32 = .ok (.iconst 1, 1) := by decide +kernel
theorem d_Wi_add_33 : decode b_Wi_add 33 = .ok (.iadd, 1) := by decide +kernel
theorem d_Wi_add_34 : decode b_Wi_add 34 = .ok (.putfield 16, 3) := by decide +kernel
theorem d_Wi_add_37 : decode b_Wi_add 37 = .ok (.aload_n 0, 1) := by decide +kernel
theorem d_Wi_add_38 : decode b_Wi_add 38 = .ok (.getfield 16, 3) := by decide +kernel
theorem d_Wi_add_41 : decode b_Wi_add 41 = .ok (.ireturn, 1) := by decide +kernel
theorem d_Wi_appliedTo_0 : decode b_Wi_appliedTo 0 = .ok (.iload_n 1, 1) := by decide +kernel
theorem d_Wi_appliedTo_1 : decode b_Wi_appliedTo 1 = .ok (.istore_n 2, 1) := by decide +kernel
theorem d_Wi_appliedTo_2 : decode b_Wi_appliedTo 2 = .ok (.iconst 1, 1) := by decide +kernel
theorem d_Wi_appliedTo_3 : decode b_Wi_appliedTo 3 = .ok (.istore_n 3, 1) := by decide +kernel
theorem d_Wi_appliedTo_4 : decode b_Wi_appliedTo 4 = .ok (.iload_n 3, 1) := by decide +kernel
theorem d_Wi_appliedTo_5 : decode b_Wi_appliedTo 5 = .ok (.iconst 5, 1) := by decide +kernel
theorem d_Wi_appliedTo_6 : decode b_Wi_appliedTo 6 = .ok (.if_icmp .gt 50, 3) := by decide +kernel
theorem d_Wi_appliedTo_9 : decode b_Wi_appliedTo 9 = .ok (.aload_n 0, 1) := by decide +kernel
theorem d_Wi_appliedTo_10 : decode b_Wi_appliedTo 10 = .ok (.getfield 9, 3) := by decide +kernel
theorem d_Wi_appliedTo_13 : decode b_Wi_appliedTo 13 = .ok (.iload_n 3, 1) := by decide +kernel
theorem d_Wi_appliedTo_14 : decode b_Wi_appliedTo 14 = .ok (.iaload, 1) := by decide +kernel
theorem d_Wi_appliedTo_15 : decode b_Wi_appliedTo 15 = .ok (.iconst (-1), 1) := by decide +kernel
theorem d_Wi_appliedTo_16 : decode b_Wi_appliedTo 16 = .ok (.if_icmp .eq 34, 3) := by decide +kernel
theorem d_Wi_appliedTo_19 : decode b_Wi_appliedTo 19 = .ok (.iload_n 3, 1) := by decide +kernel
theorem d_Wi_appliedTo_20 : decode b_Wi_appliedTo 20 = .ok (.iconst 2, 1) := by decide +kernel
theorem d_Wi_appliedTo_21 : decode b_Wi_appliedTo 21 = .ok (.irem, 1) := by decide +kernel
theorem d_Wi_appliedTo_22 : decode b_Wi_appliedTo 22 = .ok (.iconst 1, 1) := by decide +kernel
theorem d_Wi_appliedTo_23 : decode b_Wi_appliedTo 23 = .ok (.if_icmp .ne 16, 3) := by decide +kernel
theorem d_Wi_appliedTo_26 : decode b_Wi_appliedTo 26 = .ok (.iload_n 2, 1) := by decide +kernel
theorem d_Wi_appliedTo_27 : decode b_Wi_appliedTo 27 = .ok (.aload_n 0, 1) := by decide +kernel
theorem d_Wi_appliedTo_28 : decode b_Wi_appliedTo 28 = .ok (.getfield 9, 3) := by decide +kernel
theorem d_Wi_appliedTo_31 : decode b_Wi_appliedTo 31 = .ok (.iload_n 3, 1) := by decide +kernel
theorem d_Wi_appliedTo_32 : decode b_Wi_appliedTo 32 = .ok (.iaload, 1) := by decide +kernel
theorem d_Wi_appliedTo_33 : decode b_Wi_appliedTo 33 = .ok (.invokestatic 20, 3) := by decide +kernel
theorem d_Wi_appliedTo_36 : decode b_Wi_appliedTo 36 = .ok (.goto 13, 3) := by decide +kernel
theorem d_Wi_appliedTo_39 : decode b_Wi_appliedTo 39 = .ok (.iload_n 2, 1) := by decide +kernel
theorem d_Wi_appliedTo_40 : decode b_Wi_appliedTo 40 = .ok (.aload_n 0, 1) := by decide +kernel
theorem d_Wi_appliedTo_41 : decode b_Wi_appliedTo 41 = .ok (.getfield 9, 3) := by decide +kernel
theorem d_Wi_appliedTo_44 : decode b_Wi_appliedTo 44 = .ok (.iload_n 3, 1) := by decide +kernel
theorem d_Wi_appliedTo_45 : decode b_Wi_appliedTo 45 = .ok (.iaload, 1) := by decide +kernel
theorem d_Wi_appliedTo_46 : decode b_Wi_appliedTo 46 = .ok (.invokestatic 26, 3) := by decide +kernel
theorem d_Wi_appliedTo_49 : decode b_Wi_appliedTo 49 = .ok (.istore_n 2, 1) := by decide +kernel
theorem d_Wi_appliedTo_50 : decode b_Wi_appliedTo 50 = .ok (.iinc 3 1, 3) := by decide +kernel
theorem d_Wi_appliedTo_53 : decode b_Wi_appliedTo 53 = .ok (.goto (-49), 3) := by decide +kernel
theorem d_Wi_appliedTo_56 : decode b_Wi_appliedTo 56 = .ok (.iload_n 2, 1) := by decide +kernel
theorem d_Wi_appliedTo_57 : decode b_Wi_appliedTo 57 = .ok (.ireturn, 1) := by decide +kernel
theorem d_Ma_floorDiv_0 : decode b_Ma_floorDiv 0 = .ok (.iload_n 0, 1) := by decide +kernel
theorem d_Ma_floorDiv_1 : decode b_Ma_floorDiv 1 = .ok (.iload_n 1, 1) := by decide +kernel
theorem d_Ma_floorDiv_2 : decode b_Ma_floorDiv 2 = .ok (.idiv, 1) := by decide +kernel
theorem d_Ma_floorDiv_3 : decode b_Ma_floorDiv 3 = .ok (.istore_n 2, 1) := by decide +kernel
theorem d_Ma_floorDiv_4 : decode b_Ma_floorDiv 4 = .ok (.iload_n 0, 1) := by decide +kernel
theorem d_Ma_floorDiv_5 : decode b_Ma_floorDiv 5 = .ok (.iload_n 1, 1) := by decide +kernel
theorem d_Ma_floorDiv_6 : decode b_Ma_floorDiv 6 = .ok (.ixor, 1) := by decide +kernel
theorem d_Ma_floorDiv_7 : decode b_Ma_floorDiv 7 = .ok (.ifCond .ge 14, 3) := by decide +kernel
theorem d_Ma_floorDiv_10 : decode b_Ma_floorDiv 10 = .ok (.iload_n 2, 1) := by decide +kernel
theorem d_Ma_floorDiv_11 : decode b_Ma_floorDiv 11 = .ok (.iload_n 1, 1) := by decide +kernel
theorem d_Ma_floorDiv_12 : decode b_Ma_floorDiv 12 = .ok (.imul, 1) := by decide +kernel
theorem d_Ma_floorDiv_13 : decode b_Ma_floorDiv 13 = .ok (.iload_n 0, 1) := by decide +kernel
theorem d_Ma_floorDiv_14 : decode b_Ma_floorDiv 14 = .ok (.if_icmp .eq 7, 3) := by decide +kernel
theorem d_Ma_floorDiv_17 : decode b_Ma_floorDiv 17 = .ok (.iload_n 2, 1) := by decide +kernel
theorem d_Ma_floorDiv_18 : decode b_Ma_floorDiv 18 = .ok (.iconst 1, 1) := by decide +kernel
theorem d_Ma_floorDiv_19 : decode b_Ma_floorDiv 19 = .ok (.isub, 1) := by decide +kernel
theorem d_Ma_floorDiv_20 : decode b_Ma_floorDiv 20 = .ok (.ireturn, 1) := by decide +kernel
theorem d_Ma_floorDiv_21 : decode b_Ma_floorDiv 21 = .ok (.iload_n 2, 1) := by decide +kernel
theorem d_Ma_floorDiv_22 : decode b_Ma_floorDiv 22 = .ok (.ireturn, 1) := by decide +kernel
theorem d_Id_forget_0 : decode b_Id_forget 0 = .ok (.aload_n 0, 1) := by decide +kernel
theorem d_Id_forget_1 : decode b_Id_forget 1 = .ok (.iconst 0, 1) := by decide +kernel
theorem d_Id_forget_2 : decode b_Id_forget 2 = .ok (.putfield 13, 3) := by decide +kernel
theorem d_Id_forget_5 : decode b_Id_forget 5 = .ok (.return_, 1) := by decide +kernel
theorem d_Id_torqueAt_0 : decode b_Id_torqueAt 0 = .ok (.aload_n 0, 1) := by decide +kernel
theorem d_Id_torqueAt_1 : decode b_Id_torqueAt 1 = .ok (.getfield 7, 3) := by decide +kernel
theorem d_Id_torqueAt_4 : decode b_Id_torqueAt 4 = .ok (.iload_n 1, 1) := by decide +kernel
theorem d_Id_torqueAt_5 : decode b_Id_torqueAt 5 = .ok (.isub, 1) := by decide +kernel
theorem d_Id_torqueAt_6 : decode b_Id_torqueAt 6 = .ok (.istore_n 2, 1) := by decide +kernel
theorem d_Id_torqueAt_7 : decode b_Id_torqueAt 7 = .ok (.iconst 4, 1) := by decide +kernel
theorem d_Id_torqueAt_8 : decode b_Id_torqueAt 8 = .ok (.iload_n 2, 1) := by decide +kernel
theorem d_Id_torqueAt_9 : decode b_Id_torqueAt 9 = .ok (.imul, 1) := by decide +kernel
theorem d_Id_torqueAt_10 : decode b_Id_torqueAt 10 = .ok (.aload_n 0, 1) := by decide +kernel
theorem d_Id_torqueAt_11 : decode b_Id_torqueAt 11 = .ok (.getfield 13, 3) := by decide +kernel
theorem d_Id_torqueAt_14 : decode b_Id_torqueAt 14 = .ok (.iadd, 1) := by decide +kernel
theorem d_Id_torqueAt_15 : decode b_Id_torqueAt 15 = .ok (.bipush 16, 2) := by decide +kernel
theorem d_Id_torqueAt_17 : decode b_Id_torqueAt 17 = .ok (.invokestatic 16, 3) := by decide +kernel
theorem d_Id_torqueAt_20 : decode b_Id_torqueAt 20 = .ok (.istore_n 3, 1) := by decide +kernel
theorem d_Id_torqueAt_21 : decode b_Id_torqueAt 21 = .ok (.iload_n 3, 1) := by decide +kernel
theorem d_Id_torqueAt_22 : decode b_Id_torqueAt 22 = .ok (.sipush 200, 3) := by decide +kernel
theorem d_Id_torqueAt_25 : decode b_Id_torqueAt 25 = .ok (.if_icmp .le 7, 3) := by decide +kernel
theorem d_Id_torqueAt_28 : decode b_Id_torqueAt 28 = .ok (.iload_n 2, 1) := by decide +kernel
theorem d_Id_torqueAt_29 : decode b_Id_torqueAt 29 = .ok (.ifCond .gt 11, 3) := by decide +kernel
theorem d_Id_torqueAt_32 : decode b_Id_torqueAt 32 = .ok (.iload_n 3, 1) := by decide +kernel
theorem d_Id_torqueAt_33 : decode b_Id_torqueAt 33 = .ok (.ifCond .ge 11, 3) := by decide +kernel
theorem d_Id_torqueAt_36 : decode b_Id_torqueAt 36 = .ok (.iload_n 2, 1) := by decide +kernel
theorem d_Id_torqueAt_37 : decode b_Id_torqueAt 37 = .ok (.ifCond .ge 7, 3) := by decide +kernel
theorem d_Id_torqueAt_40 : decode b_Id_torqueAt 40 = .ok (.iconst 1, 1) := by decide +kernel
theorem d_Id_torqueAt_41 : decode b_Id_torqueAt 41 = .ok (.goto 4, 3) := by decide +kernel
theorem d_Id_torqueAt_44 : decode b_Id_torqueAt 44 = .ok (.iconst 0, 1) := by decide +kernel
theorem d_Id_torqueAt_45 : decode b_Id_torqueAt 45 = .ok (.istore 4, 2) := by decide +kernel
theorem d_Id_torqueAt_47 : decode b_Id_torqueAt 47 = .ok (.iload 4, 2) := by decide +kernel
theorem d_Id_torqueAt_49 : decode b_Id_torqueAt 49 = .ok (.ifCond .ne 13, 3) := by decide +kernel
theorem d_Id_torqueAt_52 : decode b_Id_torqueAt 52 = .ok (.aload_n 0, 1) := by decide +kernel
theorem d_Id_torqueAt_53 : decode b_Id_torqueAt 53 = .ok (.dup, 1) := by decide +kernel
theorem d_Id_torqueAt_54 : decode b_Id_torqueAt 54 = .ok (.getfield 13, 3) := by decide +kernel
theorem d_Id_torqueAt_57 : decode b_Id_torqueAt 57 = .ok (.iload_n 2, 1) := by decide +kernel
theorem d_Id_torqueAt_58 : decode b_Id_torqueAt 58 = .ok (.iadd, 1) := by decide +kernel
theorem d_Id_torqueAt_59 : decode b_Id_torqueAt 59 = .ok (.putfield 13, 3) := by decide +kernel
theorem d_Id_torqueAt_62 : decode b_Id_torqueAt 62 = .ok (.iconst 0, 1) := by decide +kernel
theorem d_Id_torqueAt_63 : decode b_Id_torqueAt 63 = .ok (.iload_n 3, 1) := by decide +kernel
theorem d_Id_torqueAt_64 : decode b_Id_torqueAt 64 = .ok (.sipush 200, 3) := by decide +kernel
theorem d_Id_torqueAt_67 : decode b_Id_torqueAt 67 = .ok (.invokestatic 22, 3) := by decide +kernel
theorem d_Id_torqueAt_70 : decode b_Id_torqueAt 70 = .ok (.invokestatic 25, 3) := by decide +kernel
theorem d_Id_torqueAt_73 : decode b_Id_torqueAt 73 = .ok (.ireturn, 1) := by decide +kernel
theorem d_To_count_0 : decode b_To_count 0 = .ok (.aload_n 0, 1) := by decide +kernel
theorem d_To_count_1 : decode b_To_count 1 = .ok (.dup, 1) := by decide +kernel
theorem d_To_count_2 : decode b_To_count 2 = .ok (.getfield 7, 3) := by decide +kernel
theorem d_To_count_5 : decode b_To_count 5 = .ok (.lconst 1, 1) := by decide +kernel
theorem d_To_count_6 : decode b_To_count 6 = .ok (.ladd, 1) := by decide +kernel
theorem d_To_count_7 : decode b_To_count 7 = .ok (.putfield 7, 3) := by decide +kernel
theorem d_To_count_10 : decode b_To_count 10 = .ok (.aload_n 0, 1) := by decide +kernel
theorem d_To_count_11 : decode b_To_count 11 = .ok (.dup, 1) := by decide +kernel
theorem d_To_count_12 : decode b_To_count 12 = .ok (.getfield 13, 3) := by decide +kernel
theorem d_To_count_15 : decode b_To_count 15 = .ok (.iload_n 1, 1) := by decide +kernel
theorem d_To_count_16 : decode b_To_count 16 = .ok (.i2l, 1) := by decide +kernel
theorem d_To_count_17 : decode b_To_count 17 = .ok (.iload_n 2, 1) := by decide +kernel
theorem d_To_count_18 : decode b_To_count 18 = .ok (.i2l, 1) := by decide +kernel
theorem d_To_count_19 : decode b_To_count 19 = .ok (.lmul, 1) := by decide +kernel
theorem d_To_count_20 : decode b_To_count 20 = .ok (.ladd, 1) := by decide +kernel
theorem d_To_count_21 : decode b_To_count 21 = .ok (.putfield 13, 3) := by decide +kernel
theorem d_To_count_24 : decode b_To_count 24 = .ok (.aload_n 0, 1) := by decide +kernel
theorem d_To_count_25 : decode b_To_count 25 = .ok (.dup, 1) := by decide +kernel
theorem d_To_count_26 : decode b_To_count 26 = .ok (.getfield 16, 3) := by decide +kernel
theorem d_To_count_29 : decode b_To_count 29 = .ok (.iload_n 3, 1) := by decide +kernel
theorem d_To_count_30 : decode b_To_count 30 = .ok (.i2l, 1) := by decide +kernel
theorem d_To_count_31 : decode b_To_count 31 = .ok (.ladd, 1) := by decide +kernel
theorem d_To_count_32 : decode b_To_count 32 = .ok (.putfield 16, 3) := by decide +kernel
theorem d_To_count_35 : decode b_To_count 35 = .ok (.iload 4, 2) := by decide +kernel
theorem d_To_count_37 : decode b_To_count 37 = .ok (.ifCond .eq 13, 3) := by decide +kernel
theorem d_To_count_40 : decode b_To_count 40 = .ok (.aload_n 0, 1) := by decide +kernel
theorem d_To_count_41 : decode b_To_count 41 = .ok (.dup, 1) := by decide +kernel
theorem d_To_count_42 : decode b_To_count 42 = .ok (.getfield 19, 3) := by decide +kernel
theorem d_To_count_45 : decode b_To_count 45 = .ok (.lconst 1, 1) := by decide +kernel
theorem d_To_count_46 : decode b_To_count 46 = .ok (.ladd, 1) := by decide +kernel
theorem d_To_count_47 : decode b_To_count 47 = .ok (.putfield 19, 3) := by decide +kernel
theorem d_To_count_50 : decode b_To_count 50 = .ok (.return_, 1) := by decide +kernel
theorem d_X_isUpTo_0 : decode b_X_isUpTo 0 = .ok (.lload_n 0, 1) := by decide +kernel
theorem d_X_isUpTo_1 : decode b_X_isUpTo 1 = .ok (.lconst 0, 1) := by decide +kernel
theorem d_X_isUpTo_2 : decode b_X_isUpTo 2 = .ok (.lcmp, 1) := by decide +kernel
theorem d_X_isUpTo_3 : decode b_X_isUpTo 3 = .ok (.ifCond .lt 13, 3) := by decide +kernel
theorem d_X_isUpTo_6 : decode b_X_isUpTo 6 = .ok (.lload_n 0, 1) := by decide +kernel
theorem d_X_isUpTo_7 : decode b_X_isUpTo 7 = .ok (.lload_n 2, 1) := by decide +kernel
theorem d_X_isUpTo_8 : decode b_X_isUpTo 8 = .ok (.lcmp, 1) := by decide +kernel
theorem d_X_isUpTo_9 : decode b_X_isUpTo 9 = .ok (.ifCond .gt 7, 3) := by decide +kernel
theorem d_X_isUpTo_12 : decode b_X_isUpTo 12 = .ok (.iconst 1, 1) := by decide +kernel
theorem d_X_isUpTo_13 : decode b_X_isUpTo 13 = .ok (.goto 4, 3) := by decide +kernel
theorem d_X_isUpTo_16 : decode b_X_isUpTo 16 = .ok (.iconst 0, 1) := by decide +kernel
theorem d_X_isUpTo_17 : decode b_X_isUpTo 17 = .ok (.ireturn, 1) := by decide +kernel
theorem d_X_ramped_0 : decode b_X_ramped 0 = .ok (.iload_n 0, 1) := by decide +kernel
theorem d_X_ramped_1 : decode b_X_ramped 1 = .ok (.bipush 80, 2) := by decide +kernel
theorem d_X_ramped_3 : decode b_X_ramped 3 = .ok (.isub, 1) := by decide +kernel
theorem d_X_ramped_4 : decode b_X_ramped 4 = .ok (.iload_n 0, 1) := by decide +kernel
theorem d_X_ramped_5 : decode b_X_ramped 5 = .ok (.bipush 40, 2) := by decide +kernel
theorem d_X_ramped_7 : decode b_X_ramped 7 = .ok (.iadd, 1) := by decide +kernel
theorem d_X_ramped_8 : decode b_X_ramped 8 = .ok (.iload_n 1, 1) := by decide +kernel
theorem d_X_ramped_9 : decode b_X_ramped 9 = .ok (.invokestatic 91, 3) := by decide +kernel
theorem d_X_ramped_12 : decode b_X_ramped 12 = .ok (.invokestatic 207, 3) := by decide +kernel
theorem d_X_ramped_15 : decode b_X_ramped 15 = .ok (.ireturn, 1) := by decide +kernel
theorem d_X_drives_0 : decode b_X_drives 0 = .ok (.aload_n 0, 1) := by decide +kernel
theorem d_X_drives_1 : decode b_X_drives 1 = .ok (.getfield 82, 3) := by decide +kernel
theorem d_X_drives_4 : decode b_X_drives 4 = .ok (.iconst 3, 1) := by decide +kernel
theorem d_X_drives_5 : decode b_X_drives 5 = .ok (.if_icmp .eq 15, 3) := by decide +kernel
theorem d_X_drives_8 : decode b_X_drives 8 = .ok (.aload_n 0, 1) := by decide +kernel
theorem d_X_drives_9 : decode b_X_drives 9 = .ok (.getfield 82, 3) := by decide +kernel
theorem d_X_drives_12 : decode b_X_drives 12 = .ok (.iconst 4, 1) := by decide +kernel
theorem d_X_drives_13 : decode b_X_drives 13 = .ok (.if_icmp .eq 7, 3) := by decide +kernel
theorem d_X_drives_16 : decode b_X_drives 16 = .ok (.iconst 1, 1) := by decide +kernel
theorem d_X_drives_17 : decode b_X_drives 17 = .ok (.goto 4, 3) := by decide +kernel
theorem d_X_drives_20 : decode b_X_drives 20 = .ok (.iconst 0, 1) := by decide +kernel
theorem d_X_drives_21 : decode b_X_drives 21 = .ok (.ireturn, 1) := by decide +kernel
theorem d_X_isTooMuch_0 : decode b_X_isTooMuch 0 = .ok (.lload_n 1, 1) := by decide +kernel
theorem d_X_isTooMuch_1 : decode b_X_isTooMuch 1 = .ok (.aload_n 0, 1) := by decide +kernel
theorem d_X_isTooMuch_2 : decode b_X_isTooMuch 2 = .ok (.getfield 97, 3) := by decide +kernel
theorem d_X_isTooMuch_5 : decode b_X_isTooMuch 5 = .ok (.bipush 30, 2) := by decide +kernel
theorem d_X_isTooMuch_7 : decode b_X_isTooMuch 7 = .ok (.iadd, 1) := by decide +kernel
theorem d_X_isTooMuch_8 : decode b_X_isTooMuch 8 = .ok (.i2l, 1) := by decide +kernel
theorem d_X_isTooMuch_9 : decode b_X_isTooMuch 9 = .ok (.lcmp, 1) := by decide +kernel
theorem d_X_isTooMuch_10 : decode b_X_isTooMuch 10 = .ok (.ifCond .le 17, 3) := by decide +kernel
theorem d_X_isTooMuch_13 : decode b_X_isTooMuch 13 = .ok (.lload_n 1, 1) := by decide +kernel
theorem d_X_isTooMuch_14 : decode b_X_isTooMuch 14 = .ok (.aload_n 0, 1) := by decide +kernel
theorem d_X_isTooMuch_15 : decode b_X_isTooMuch 15 = .ok (.getfield 67, 3) := by decide +kernel
theorem d_X_isTooMuch_18 : decode b_X_isTooMuch 18 = .ok (.i2l, 1) := by decide +kernel
theorem d_X_isTooMuch_19 : decode b_X_isTooMuch 19 = .ok (.lcmp, 1) := by decide +kernel
theorem d_X_isTooMuch_20 : decode b_X_isTooMuch 20 = .ok (.ifCond .le 7, 3) := by decide +kernel
theorem d_X_isTooMuch_23 : decode b_X_isTooMuch 23 = .ok (.iconst 1, 1) := by decide +kernel
theorem d_X_isTooMuch_24 : decode b_X_isTooMuch 24 = .ok (.goto 4, 3) := by decide +kernel
theorem d_X_isTooMuch_27 : decode b_X_isTooMuch 27 = .ok (.iconst 0, 1) := by decide +kernel
theorem d_X_isTooMuch_28 : decode b_X_isTooMuch 28 = .ok (.ireturn, 1) := by decide +kernel
theorem d_X_takeSpeed_0 : decode b_X_takeSpeed 0 = .ok (.aload_n 0, 1) := by decide +kernel
theorem d_X_takeSpeed_1 : decode b_X_takeSpeed 1 = .ok (.getfield 37, 3) := by decide +kernel
theorem d_X_takeSpeed_4 : decode b_X_takeSpeed 4 = .ok (.iconst 2, 1) := by decide +kernel
theorem d_X_takeSpeed_5 : decode b_X_takeSpeed 5 = .ok (.baload, 1) := by decide +kernel
theorem d_X_takeSpeed_6 : decode b_X_takeSpeed 6 = .ok (.ifCond .ne 8, 3) := by decide +kernel
theorem d_X_takeSpeed_9 : decode b_X_takeSpeed 9 = .ok (.aload_n 0, 1) := by decide +kernel
theorem d_X_takeSpeed_10 : decode b_X_takeSpeed 10 = .ok (.iload_n 1, 1) := by decide +kernel
theorem d_X_takeSpeed_11 : decode b_X_takeSpeed 11 = .ok (.putfield 107, 3) := by decide +kernel
theorem d_X_takeSpeed_14 : decode b_X_takeSpeed 14 = .ok (.return_, 1) := by decide +kernel
theorem d_X_takeTracks_0 : decode b_X_takeTracks 0 = .ok (.aload_n 0, 1) := by decide +kernel
theorem d_X_takeTracks_1 : decode b_X_takeTracks 1 = .ok (.getfield 37, 3) := by decide +kernel
theorem d_X_takeTracks_4 : decode b_X_takeTracks 4 = .ok (.iconst 0, 1) := by decide +kernel
theorem d_X_takeTracks_5 : decode b_X_takeTracks 5 = .ok (.baload, 1) := by decide +kernel
theorem d_X_takeTracks_6 : decode b_X_takeTracks 6 = .ok (.ifCond .eq 7, 3) := by decide +kernel
theorem d_X_takeTracks_9 : decode b_X_takeTracks 9 = .ok (.iload_n 2, 1) := by decide +kernel
theorem d_X_takeTracks_10 : decode b_X_takeTracks 10 = .ok (.goto 4, 3) := by decide +kernel
theorem d_X_takeTracks_13 : decode b_X_takeTracks 13 = .ok (.iload_n 1, 1) := by decide +kernel
theorem d_X_takeTracks_14 : decode b_X_takeTracks 14 = .ok (.istore_n 3, 1) := by decide +kernel
theorem d_X_takeTracks_15 : decode b_X_takeTracks 15 = .ok (.aload_n 0, 1) := by decide +kernel
theorem d_X_takeTracks_16 : decode b_X_takeTracks 16 = .ok (.getfield 37, 3) := by decide +kernel
theorem d_X_takeTracks_19 : decode b_X_takeTracks 19 = .ok (.iconst 1, 1) := by decide +kernel
theorem d_X_takeTracks_20 : decode b_X_takeTracks 20 = .ok (.baload, 1) := by decide +kernel
theorem d_X_takeTracks_21 : decode b_X_takeTracks 21 = .ok (.ifCond .eq 7, 3) := by decide +kernel
theorem d_X_takeTracks_24 : decode b_X_takeTracks 24 = .ok (.iload_n 1, 1) := by decide +kernel
theorem d_X_takeTracks_25 : decode b_X_takeTracks 25 = .ok (.goto 4, 3) := by decide +kernel
theorem d_X_takeTracks_28 : decode b_X_takeTracks 28 = .ok (.iload_n 2, 1) := by decide +kernel
theorem d_X_takeTracks_29 : decode b_X_takeTracks 29 = .ok (.istore 4, 2) := by decide +kernel
theorem d_X_takeTracks_31 : decode b_X_takeTracks 31 = .ok (.aload_n 0, 1) := by decide +kernel
theorem d_X_takeTracks_32 : decode b_X_takeTracks 32 = .ok (.getfield 37, 3) := by decide +kernel
theorem d_X_takeTracks_35 : decode b_X_takeTracks 35 = .ok (.iconst 0, 1) := by decide +kernel
theorem d_X_takeTracks_36 : decode b_X_takeTracks 36 = .ok (.baload, 1) := by decide +kernel
