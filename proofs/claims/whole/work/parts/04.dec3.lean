theorem d_Z_valueAt_178 : decode b_Z_valueAt 178 = .ok (.aload_n 0, 1) := by decide +kernel
theorem d_Z_valueAt_179 : decode b_Z_valueAt 179 = .ok (.iload_n 1, 1) := by decide +kernel
theorem d_Z_valueAt_180 : decode b_Z_valueAt 180 = .ok (.iload 8, 2) := by decide +kernel
theorem d_Z_valueAt_182 : decode b_Z_valueAt 182 = .ok (.iload 9, 2) := by decide +kernel
theorem d_Z_valueAt_184 : decode b_Z_valueAt 184 = .ok (.iconst 1, 1) := by decide +kernel
theorem d_Z_valueAt_185 : decode b_Z_valueAt 185 = .ok (.iadd, 1) := by decide +kernel
theorem d_Z_valueAt_186 : decode b_Z_valueAt 186 = .ok (.invokevirtual 40, 3) := by decide +kernel
theorem d_Z_valueAt_189 : decode b_Z_valueAt 189 = .ok (.i2l, 1) := by decide +kernel
theorem d_Z_valueAt_190 : decode b_Z_valueAt 190 = .ok (.ldc2_w 44, 3) := by decide +kernel
theorem d_Z_valueAt_193 : decode b_Z_valueAt 193 = .ok (.lload 10, 2) := by decide +kernel
theorem d_Z_valueAt_195 : decode b_Z_valueAt 195 = .ok (.lsub, 1) := by decide +kernel
theorem d_Z_valueAt_196 : decode b_Z_valueAt 196 = .ok (.lmul, 1) := by decide +kernel
theorem d_Z_valueAt_197 : decode b_Z_valueAt 197 = .ok (.lload 12, 2) := by decide +kernel
theorem d_Z_valueAt_199 : decode b_Z_valueAt 199 = .ok (.lmul, 1) := by decide +kernel
theorem d_Z_valueAt_200 : decode b_Z_valueAt 200 = .ok (.ladd, 1) := by decide +kernel
theorem d_Z_valueAt_201 : decode b_Z_valueAt 201 = .ok (.aload_n 0, 1) := by decide +kernel
theorem d_Z_valueAt_202 : decode b_Z_valueAt 202 = .ok (.iload_n 1, 1) := by decide +kernel
theorem d_Z_valueAt_203 : decode b_Z_valueAt 203 = .ok (.iload 8, 2) := by decide +kernel
theorem d_Z_valueAt_205 : decode b_Z_valueAt 205 = .ok (.iconst 1, 1) := by decide +kernel
theorem d_Z_valueAt_206 : decode b_Z_valueAt 206 = .ok (.iadd, 1) := by decide +kernel
theorem d_Z_valueAt_207 : decode b_Z_valueAt 207 = .ok (.iload 9, 2) := by decide +kernel
theorem d_Z_valueAt_209 : decode b_Z_valueAt 209 = .ok (.iconst 1, 1) := by decide +kernel
theorem d_Z_valueAt_210 : decode b_Z_valueAt 210 = .ok (.iadd, 1) := by decide +kernel
theorem d_Z_valueAt_211 : decode b_Z_valueAt 211 = .ok (.invokevirtual 40, 3) := by decide +kernel
theorem d_Z_valueAt_214 : decode b_Z_valueAt 214 = .ok (.i2l, 1) := by decide +kernel
theorem d_Z_valueAt_215 : decode b_Z_valueAt 215 = .ok (.lload 10, 2) := by decide +kernel
theorem d_Z_valueAt_217 : decode b_Z_valueAt 217 = .ok (.lmul, 1) := by decide +kernel
theorem d_Z_valueAt_218 : decode b_Z_valueAt 218 = .ok (.lload 12, 2) := by decide +kernel
theorem d_Z_valueAt_220 : decode b_Z_valueAt 220 = .ok (.lmul, 1) := by decide +kernel
theorem d_Z_valueAt_221 : decode b_Z_valueAt 221 = .ok (.ladd, 1) := by decide +kernel
theorem d_Z_valueAt_222 : decode b_Z_valueAt 222 = .ok (.lstore 14, 2) := by decide +kernel
theorem d_Z_valueAt_224 : decode b_Z_valueAt 224 = .ok (.lload 14, 2) := by decide +kernel
theorem d_Z_valueAt_226 : decode b_Z_valueAt 226 = .ok (.ldc2_w 48, 3) := by decide +kernel
theorem d_Z_valueAt_229 : decode b_Z_valueAt 229 = .ok (.ldiv, 1) := by decide +kernel
theorem d_Z_valueAt_230 : decode b_Z_valueAt 230 = .ok (.l2i, 1) := by decide +kernel
theorem d_Z_valueAt_231 : decode b_Z_valueAt 231 = .ok (.ireturn, 1) := by decide +kernel
theorem d_Z_takeWishes_0 : decode b_Z_takeWishes 0 = .ok (.iconst 1, 1) := by decide +kernel
theorem d_Z_takeWishes_1 : decode b_Z_takeWishes 1 = .ok (.istore_n 1, 1) := by decide +kernel
theorem d_Z_takeWishes_2 : decode b_Z_takeWishes 2 = .ok (.iload_n 1, 1) := by decide +kernel
theorem d_Z_takeWishes_3 : decode b_Z_takeWishes 3 = .ok (.bipush 6, 2) := by decide +kernel
theorem d_Z_takeWishes_5 : decode b_Z_takeWishes 5 = .ok (.if_icmp .ge 96, 3) := by decide +kernel
theorem d_Z_takeWishes_8 : decode b_Z_takeWishes 8 = .ok (.iconst (-1), 1) := by decide +kernel
theorem d_Z_takeWishes_9 : decode b_Z_takeWishes 9 = .ok (.istore_n 2, 1) := by decide +kernel
theorem d_Z_takeWishes_10 : decode b_Z_takeWishes 10 = .ok (.iconst 0, 1) := by decide +kernel
theorem d_Z_takeWishes_11 : decode b_Z_takeWishes 11 = .ok (.istore_n 3, 1) := by decide +kernel
theorem d_Z_takeWishes_12 : decode b_Z_takeWishes 12 = .ok (.iload_n 3, 1) := by decide +kernel
theorem d_Z_takeWishes_13 : decode b_Z_takeWishes 13 = .ok (.aload_n 0, 1) := by decide +kernel
theorem d_Z_takeWishes_14 : decode b_Z_takeWishes 14 = .ok (.getfield 50, 3) := by decide +kernel
theorem d_Z_takeWishes_17 : decode b_Z_takeWishes 17 = .ok (.if_icmp .ge 40, 3) := by decide +kernel
theorem d_Z_takeWishes_20 : decode b_Z_takeWishes 20 = .ok (.aload_n 0, 1) := by decide +kernel
theorem d_Z_takeWishes_21 : decode b_Z_takeWishes 21 = .ok (.getfield 17, 3) := by decide +kernel
theorem d_Z_takeWishes_24 : decode b_Z_takeWishes 24 = .ok (.iload_n 3, 1) := by decide +kernel
theorem d_Z_takeWishes_25 : decode b_Z_takeWishes 25 = .ok (.iaload, 1) := by decide +kernel
theorem d_Z_takeWishes_26 : decode b_Z_takeWishes 26 = .ok (.iload_n 1, 1) := by decide +kernel
theorem d_Z_takeWishes_27 : decode b_Z_takeWishes 27 = .ok (.if_icmp .ne 24, 3) := by decide +kernel
theorem d_Z_takeWishes_30 : decode b_Z_takeWishes 30 = .ok (.iload_n 2, 1) := by decide +kernel
theorem d_Z_takeWishes_31 : decode b_Z_takeWishes 31 = .ok (.ifCond .lt 13, 3) := by decide +kernel
theorem d_Z_takeWishes_34 : decode b_Z_takeWishes 34 = .ok (.aload_n 0, 1) := by decide +kernel
theorem d_Z_takeWishes_35 : decode b_Z_takeWishes 35 = .ok (.getfield 20, 3) := by decide +kernel
theorem d_Z_takeWishes_38 : decode b_Z_takeWishes 38 = .ok (.iload_n 3, 1) := by decide +kernel
theorem d_Z_takeWishes_39 : decode b_Z_takeWishes 39 = .ok (.iaload, 1) := by decide +kernel
theorem d_Z_takeWishes_40 : decode b_Z_takeWishes 40 = .ok (.iload_n 2, 1) := by decide +kernel
theorem d_Z_takeWishes_41 : decode b_Z_takeWishes 41 = .ok (.if_icmp .ge 10, 3) := by decide +kernel
theorem d_Z_takeWishes_44 : decode b_Z_takeWishes 44 = .ok (.aload_n 0, 1) := by decide +kernel
theorem d_Z_takeWishes_45 : decode b_Z_takeWishes 45 = .ok (.getfield 20, 3) := by decide +kernel
theorem d_Z_takeWishes_48 : decode b_Z_takeWishes 48 = .ok (.iload_n 3, 1) := by decide +kernel
theorem d_Z_takeWishes_49 : decode b_Z_takeWishes 49 = .ok (.iaload, 1) := by decide +kernel
theorem d_Z_takeWishes_50 : decode b_Z_takeWishes 50 = .ok (.istore_n 2, 1) := by decide +kernel
theorem d_Z_takeWishes_51 : decode b_Z_takeWishes 51 = .ok (.iinc 3 1, 3) := by decide +kernel
theorem d_Z_takeWishes_54 : decode b_Z_takeWishes 54 = .ok (.goto (-42), 3) := by decide +kernel
theorem d_Z_takeWishes_57 : decode b_Z_takeWishes 57 = .ok (.iload_n 2, 1) := by decide +kernel
theorem d_Z_takeWishes_58 : decode b_Z_takeWishes 58 = .ok (.ifCond .ge 6, 3) := by decide +kernel
theorem d_Z_takeWishes_61 : decode b_Z_takeWishes 61 = .ok (.goto 34, 3) := by decide +kernel
theorem d_Z_takeWishes_64 : decode b_Z_takeWishes 64 = .ok (.iload_n 1, 1) := by decide +kernel
theorem d_Z_takeWishes_65 : decode b_Z_takeWishes 65 = .ok (.iconst 2, 1) := by decide +kernel
theorem d_Z_takeWishes_66 : decode b_Z_takeWishes 66 = .ok (.irem, 1) := by decide +kernel
theorem d_Z_takeWishes_67 : decode b_Z_takeWishes 67 = .ok (.iconst 1, 1) := by decide +kernel
theorem d_Z_takeWishes_68 : decode b_Z_takeWishes 68 = .ok (.if_icmp .ne 14, 3) := by decide +kernel
theorem d_Z_takeWishes_71 : decode b_Z_takeWishes 71 = .ok (.aload_n 0, 1) := by decide +kernel
theorem d_Z_takeWishes_72 : decode b_Z_takeWishes 72 = .ok (.getfield 53, 3) := by decide +kernel
theorem d_Z_takeWishes_75 : decode b_Z_takeWishes 75 = .ok (.iload_n 2, 1) := by decide +kernel
theorem d_Z_takeWishes_76 : decode b_Z_takeWishes 76 = .ok (.if_icmp .ge 19, 3) := by decide +kernel
theorem d_Z_takeWishes_79 : decode b_Z_takeWishes 79 = .ok (.goto 11, 3) := by decide +kernel
theorem d_Z_takeWishes_82 : decode b_Z_takeWishes 82 = .ok (.aload_n 0, 1) := by decide +kernel
theorem d_Z_takeWishes_83 : decode b_Z_takeWishes 83 = .ok (.getfield 53, 3) := by decide +kernel
theorem d_Z_takeWishes_86 : decode b_Z_takeWishes 86 = .ok (.iload_n 2, 1) := by decide +kernel
theorem d_Z_takeWishes_87 : decode b_Z_takeWishes 87 = .ok (.if_icmp .le 8, 3) := by decide +kernel
theorem d_Z_takeWishes_90 : decode b_Z_takeWishes 90 = .ok (.aload_n 0, 1) := by decide +kernel
theorem d_Z_takeWishes_91 : decode b_Z_takeWishes 91 = .ok (.iload_n 2, 1) := by decide +kernel
theorem d_Z_takeWishes_92 : decode b_Z_takeWishes 92 = .ok (.putfield 53, 3) := by decide +kernel
theorem d_Z_takeWishes_95 : decode b_Z_takeWishes 95 = .ok (.iinc 1 1, 3) := by decide +kernel
theorem d_Z_takeWishes_98 : decode b_Z_takeWishes 98 = .ok (.goto (-96), 3) := by decide +kernel
theorem d_Z_takeWishes_101 : decode b_Z_takeWishes 101 = .ok (.return_, 1) := by decide +kernel
theorem d_Z_idles_0 : decode b_Z_idles 0 = .ok (.aload_n 0, 1) := by decide +kernel
theorem d_Z_idles_1 : decode b_Z_idles 1 = .ok (.getfield 23, 3) := by decide +kernel
theorem d_Z_idles_4 : decode b_Z_idles 4 = .ok (.aload_n 0, 1) := by decide +kernel
theorem d_Z_idles_5 : decode b_Z_idles 5 = .ok (.getfield 56, 3) := by decide +kernel
theorem d_Z_idles_8 : decode b_Z_idles 8 = .ok (.isub, 1) := by decide +kernel
theorem d_Z_idles_9 : decode b_Z_idles 9 = .ok (.i2l, 1) := by decide +kernel
theorem d_Z_idles_10 : decode b_Z_idles 10 = .ok (.lstore_n 1, 1) := by decide +kernel
theorem d_Z_idles_11 : decode b_Z_idles 11 = .ok (.ldc2_w 59, 3) := by decide +kernel
theorem d_Z_idles_14 : decode b_Z_idles 14 = .ok (.lload_n 1, 1) := by decide +kernel
theorem d_Z_idles_15 : decode b_Z_idles 15 = .ok (.lmul, 1) := by decide +kernel
theorem d_Z_idles_16 : decode b_Z_idles 16 = .ok (.aload_n 0, 1) := by decide +kernel
theorem d_Z_idles_17 : decode b_Z_idles 17 = .ok (.getfield 61, 3) := by decide +kernel
theorem d_Z_idles_20 : decode b_Z_idles 20 = .ok (.ladd, 1) := by decide +kernel
theorem d_Z_idles_21 : decode b_Z_idles 21 = .ok (.ldc2_w 65, 3) := by decide +kernel
theorem d_Z_idles_24 : decode b_Z_idles 24 = .ok (.invokestatic 67, 3) := by decide +kernel
theorem d_Z_idles_27 : decode b_Z_idles 27 = .ok (.lstore_n 3, 1) := by decide +kernel
theorem d_Z_idles_28 : decode b_Z_idles 28 = .ok (.lload_n 3, 1) := by decide +kernel
theorem d_Z_idles_29 : decode b_Z_idles 29 = .ok (.ldc2_w 71, 3) := by decide +kernel
theorem d_Z_idles_32 : decode b_Z_idles 32 = .ok (.lcmp, 1) := by decide +kernel
theorem d_Z_idles_33 : decode b_Z_idles 33 = .ok (.ifCond .le 9, 3) := by decide +kernel
theorem d_Z_idles_36 : decode b_Z_idles 36 = .ok (.lload_n 1, 1) := by decide +kernel
theorem d_Z_idles_37 : decode b_Z_idles 37 = .ok (.lconst 0, 1) := by decide +kernel
theorem d_Z_idles_38 : decode b_Z_idles 38 = .ok (.lcmp, 1) := by decide +kernel
theorem d_Z_idles_39 : decode b_Z_idles 39 = .ok (.ifCond .gt 25, 3) := by decide +kernel
theorem d_Z_idles_42 : decode b_Z_idles 42 = .ok (.lload_n 3, 1) := by decide +kernel
theorem d_Z_idles_43 : decode b_Z_idles 43 = .ok (.lconst 0, 1) := by decide +kernel
theorem d_Z_idles_44 : decode b_Z_idles 44 = .ok (.lcmp, 1) := by decide +kernel
theorem d_Z_idles_45 : decode b_Z_idles 45 = .ok (.ifCond .ge 9, 3) := by decide +kernel
theorem d_Z_idles_48 : decode b_Z_idles 48 = .ok (.lload_n 1, 1) := by decide +kernel
theorem d_Z_idles_49 : decode b_Z_idles 49 = .ok (.lconst 0, 1) := by decide +kernel
theorem d_Z_idles_50 : decode b_Z_idles 50 = .ok (.lcmp, 1) := by decide +kernel
theorem d_Z_idles_51 : decode b_Z_idles 51 = .ok (.ifCond .lt 13, 3) := by decide +kernel
theorem d_Z_idles_54 : decode b_Z_idles 54 = .ok (.aload_n 0, 1) := by decide +kernel
theorem d_Z_idles_55 : decode b_Z_idles 55 = .ok (.dup, 1) := by decide +kernel
theorem d_Z_idles_56 : decode b_Z_idles 56 = .ok (.getfield 61, 3) := by decide +kernel
theorem d_Z_idles_59 : decode b_Z_idles 59 = .ok (.lload_n 1, 1) := by decide +kernel
theorem d_Z_idles_60 : decode b_Z_idles 60 = .ok (.ladd, 1) := by decide +kernel
theorem d_Z_idles_61 : decode b_Z_idles 61 = .ok (.putfield 61, 3) := by decide +kernel
theorem d_Z_idles_64 : decode b_Z_idles 64 = .ok (.lload_n 3, 1) := by decide +kernel
theorem d_Z_idles_65 : decode b_Z_idles 65 = .ok (.lconst 0, 1) := by decide +kernel
theorem d_Z_idles_66 : decode b_Z_idles 66 = .ok (.lcmp, 1) := by decide +kernel
theorem d_Z_idles_67 : decode b_Z_idles 67 = .ok (.ifCond .ge 7, 3) := by decide +kernel
theorem d_Z_idles_70 : decode b_Z_idles 70 = .ok (.iconst 0, 1) := by decide +kernel
theorem d_Z_idles_71 : decode b_Z_idles 71 = .ok (.goto 19, 3) := by decide +kernel
theorem d_Z_idles_74 : decode b_Z_idles 74 = .ok (.lload_n 3, 1) := by decide +kernel
theorem d_Z_idles_75 : decode b_Z_idles 75 = .ok (.ldc2_w 71, 3) := by decide +kernel
theorem d_Z_idles_78 : decode b_Z_idles 78 = .ok (.lcmp, 1) := by decide +kernel
theorem d_Z_idles_79 : decode b_Z_idles 79 = .ok (.ifCond .le 9, 3) := by decide +kernel
theorem d_Z_idles_82 : decode b_Z_idles 82 = .ok (.sipush 200, 3) := by decide +kernel
theorem d_Z_idles_85 : decode b_Z_idles 85 = .ok (.goto 5, 3) := by decide +kernel
theorem d_Z_idles_88 : decode b_Z_idles 88 = .ok (.lload_n 3, 1) := by decide +kernel
theorem d_Z_idles_89 : decode b_Z_idles 89 = .ok (.l2i, 1) := by decide +kernel
theorem d_Z_idles_90 : decode b_Z_idles 90 = .ok (.istore 5, 2) := by decide +kernel
theorem d_Z_idles_92 : decode b_Z_idles 92 = .ok (.aload_n 0, 1) := by decide +kernel
theorem d_Z_idles_93 : decode b_Z_idles 93 = .ok (.aload_n 0, 1) := by decide +kernel
theorem d_Z_idles_94 : decode b_Z_idles 94 = .ok (.getfield 53, 3) := by decide +kernel
theorem d_Z_idles_97 : decode b_Z_idles 97 = .ok (.iload 5, 2) := by decide +kernel
theorem d_Z_idles_99 : decode b_Z_idles 99 = .ok (.if_icmp .ge 8, 3) := by decide +kernel
theorem d_Z_idles_102 : decode b_Z_idles 102 = .ok (.iload 5, 2) := by decide +kernel
theorem d_Z_idles_104 : decode b_Z_idles 104 = .ok (.goto 7, 3) := by decide +kernel
theorem d_Z_idles_107 : decode b_Z_idles 107 = .ok (.aload_n 0, 1) := by decide +kernel
theorem d_Z_idles_108 : decode b_Z_idles 108 = .ok (.getfield 53, 3) := by decide +kernel
theorem d_Z_idles_111 : decode b_Z_idles 111 = .ok (.putfield 53, 3) := by decide +kernel
theorem d_Z_idles_114 : decode b_Z_idles 114 = .ok (.return_, 1) := by decide +kernel
theorem d_Z_thrown_0 : decode b_Z_thrown 0 = .ok (.aload_n 0, 1) := by decide +kernel
theorem d_Z_thrown_1 : decode b_Z_thrown 1 = .ok (.getfield 33, 3) := by decide +kernel
theorem d_Z_thrown_4 : decode b_Z_thrown 4 = .ok (.ireturn, 1) := by decide +kernel
theorem d_Z_table_0 : decode b_Z_table 0 = .ok (.aload_n 0, 1) := by decide +kernel
theorem d_Z_table_1 : decode b_Z_table 1 = .ok (.iconst 0, 1) := by decide +kernel
theorem d_Z_table_2 : decode b_Z_table 2 = .ok (.putfield 33, 3) := by decide +kernel
theorem d_Z_table_5 : decode b_Z_table 5 = .ok (.iload_n 1, 1) := by decide +kernel
theorem d_Z_table_6 : decode b_Z_table 6 = .ok (.ifCond .lt 8, 3) := by decide +kernel
theorem d_Z_table_9 : decode b_Z_table 9 = .ok (.iload_n 1, 1) := by decide +kernel
theorem d_Z_table_10 : decode b_Z_table 10 = .ok (.iconst 4, 1) := by decide +kernel
theorem d_Z_table_11 : decode b_Z_table 11 = .ok (.if_icmp .le 5, 3) := by decide +kernel
theorem d_Z_table_14 : decode b_Z_table 14 = .ok (.iconst (-1), 1) := by decide +kernel
theorem d_Z_table_15 : decode b_Z_table 15 = .ok (.ireturn, 1) := by decide +kernel
theorem d_Z_table_16 : decode b_Z_table 16 = .ok (.iload_n 2, 1) := by decide +kernel
theorem d_Z_table_17 : decode b_Z_table 17 = .ok (.ifCond .lt 35, 3) := by decide +kernel
theorem d_Z_table_20 : decode b_Z_table 20 = .ok (.iload_n 2, 1) := by decide +kernel
theorem d_Z_table_21 : decode b_Z_table 21 = .ok (.bipush 7, 2) := by decide +kernel
theorem d_Z_table_23 : decode b_Z_table 23 = .ok (.if_icmp .gt 29, 3) := by decide +kernel
theorem d_Z_table_26 : decode b_Z_table 26 = .ok (.iload_n 3, 1) := by decide +kernel
theorem d_Z_table_27 : decode b_Z_table 27 = .ok (.ifCond .lt 25, 3) := by decide +kernel
theorem d_Z_table_30 : decode b_Z_table 30 = .ok (.iload_n 3, 1) := by decide +kernel
theorem d_Z_table_31 : decode b_Z_table 31 = .ok (.bipush 7, 2) := by decide +kernel
theorem d_Z_table_33 : decode b_Z_table 33 = .ok (.if_icmp .gt 19, 3) := by decide +kernel
theorem d_Z_table_36 : decode b_Z_table 36 = .ok (.lload 4, 2) := by decide +kernel
theorem d_Z_table_38 : decode b_Z_table 38 = .ok (.lconst 0, 1) := by decide +kernel
theorem d_Z_table_39 : decode b_Z_table 39 = .ok (.lcmp, 1) := by decide +kernel
theorem d_Z_table_40 : decode b_Z_table 40 = .ok (.ifCond .lt 12, 3) := by decide +kernel
theorem d_Z_table_43 : decode b_Z_table 43 = .ok (.lload 4, 2) := by decide +kernel
theorem d_Z_table_45 : decode b_Z_table 45 = .ok (.ldc2_w 46, 3) := by decide +kernel
theorem d_Z_table_48 : decode b_Z_table 48 = .ok (.lcmp, 1) := by decide +kernel
theorem d_Z_table_49 : decode b_Z_table 49 = .ok (.ifCond .le 6, 3) := by decide +kernel
theorem d_Z_table_52 : decode b_Z_table 52 = .ok (.bipush (-2), 2) := by decide +kernel
theorem d_Z_table_54 : decode b_Z_table 54 = .ok (.ireturn, 1) := by decide +kernel
theorem d_Z_table_55 : decode b_Z_table 55 = .ok (.aload_n 0, 1) := by decide +kernel
theorem d_Z_table_56 : decode b_Z_table 56 = .ok (.iload_n 1, 1) := by decide +kernel
theorem d_Z_table_57 : decode b_Z_table 57 = .ok (.iload_n 2, 1) := by decide +kernel
theorem d_Z_table_58 : decode b_Z_table 58 = .ok (.iload_n 3, 1) := by decide +kernel
theorem d_Z_table_59 : decode b_Z_table 59 = .ok (.invokevirtual 40, 3) := by decide +kernel
theorem d_Z_table_62 : decode b_Z_table 62 = .ok (.istore 6, 2) := by decide +kernel
theorem d_Z_table_64 : decode b_Z_table 64 = .ok (.aload_n 0, 1) := by decide +kernel
theorem d_Z_table_65 : decode b_Z_table 65 = .ok (.getfield 7, 3) := by decide +kernel
theorem d_Z_table_68 : decode b_Z_table 68 = .ok (.bipush 64, 2) := by decide +kernel
theorem d_Z_table_70 : decode b_Z_table 70 = .ok (.iload_n 1, 1) := by decide +kernel
theorem d_Z_table_71 : decode b_Z_table 71 = .ok (.imul, 1) := by decide +kernel
theorem d_Z_table_72 : decode b_Z_table 72 = .ok (.bipush 8, 2) := by decide +kernel
theorem d_Z_table_74 : decode b_Z_table 74 = .ok (.iload_n 2, 1) := by decide +kernel
theorem d_Z_table_75 : decode b_Z_table 75 = .ok (.imul, 1) := by decide +kernel
theorem d_Z_table_76 : decode b_Z_table 76 = .ok (.iadd, 1) := by decide +kernel
theorem d_Z_table_77 : decode b_Z_table 77 = .ok (.iload_n 3, 1) := by decide +kernel
theorem d_Z_table_78 : decode b_Z_table 78 = .ok (.iadd, 1) := by decide +kernel
theorem d_Z_table_79 : decode b_Z_table 79 = .ok (.lload 4, 2) := by decide +kernel
theorem d_Z_table_81 : decode b_Z_table 81 = .ok (.l2i, 1) := by decide +kernel
theorem d_Z_table_82 : decode b_Z_table 82 = .ok (.iastore, 1) := by decide +kernel
theorem d_Z_table_83 : decode b_Z_table 83 = .ok (.iload 6, 2) := by decide +kernel
theorem d_Z_table_85 : decode b_Z_table 85 = .ok (.ireturn, 1) := by decide +kernel
theorem d_Z_step_0 : decode b_Z_step 0 = .ok (.aload_n 0, 1) := by decide +kernel
theorem d_Z_step_1 : decode b_Z_step 1 = .ok (.iconst 0, 1) := by decide +kernel
theorem d_Z_step_2 : decode b_Z_step 2 = .ok (.putfield 33, 3) := by decide +kernel
theorem d_Z_step_5 : decode b_Z_step 5 = .ok (.lload_n 1, 1) := by decide +kernel
theorem d_Z_step_6 : decode b_Z_step 6 = .ok (.lconst 0, 1) := by decide +kernel
theorem d_Z_step_7 : decode b_Z_step 7 = .ok (.lcmp, 1) := by decide +kernel
theorem d_Z_step_8 : decode b_Z_step 8 = .ok (.ifCond .lt 41, 3) := by decide +kernel
theorem d_Z_step_11 : decode b_Z_step 11 = .ok (.lload_n 1, 1) := by decide +kernel
theorem d_Z_step_12 : decode b_Z_step 12 = .ok (.ldc2_w 46, 3) := by decide +kernel
theorem d_Z_step_15 : decode b_Z_step 15 = .ok (.lcmp, 1) := by decide +kernel
theorem d_Z_step_16 : decode b_Z_step 16 = .ok (.ifCond .gt 33, 3) := by decide +kernel
theorem d_Z_step_19 : decode b_Z_step 19 = .ok (.lload_n 3, 1) := by decide +kernel
theorem d_Z_step_20 : decode b_Z_step 20 = .ok (.lconst 0, 1) := by decide +kernel
theorem d_Z_step_21 : decode b_Z_step 21 = .ok (.lcmp, 1) := by decide +kernel
theorem d_Z_step_22 : decode b_Z_step 22 = .ok (.ifCond .lt 27, 3) := by decide +kernel
theorem d_Z_step_25 : decode b_Z_step 25 = .ok (.lload_n 3, 1) := by decide +kernel
theorem d_Z_step_26 : decode b_Z_step 26 = .ok (.ldc2_w 46, 3) := by decide +kernel
theorem d_Z_step_29 : decode b_Z_step 29 = .ok (.lcmp, 1) := by decide +kernel
theorem d_Z_step_30 : decode b_Z_step 30 = .ok (.ifCond .gt 19, 3) := by decide +kernel
theorem d_Z_step_33 : decode b_Z_step 33 = .ok (.lload 5, 2) := by decide +kernel
theorem d_Z_step_35 : decode b_Z_step 35 = .ok (.lconst 0, 1) := by decide +kernel
theorem d_Z_step_36 : decode b_Z_step 36 = .ok (.lcmp, 1) := by decide +kernel
theorem d_Z_step_37 : decode b_Z_step 37 = .ok (.ifCond .lt 12, 3) := by decide +kernel
theorem d_Z_step_40 : decode b_Z_step 40 = .ok (.lload 5, 2) := by decide +kernel
theorem d_Z_step_42 : decode b_Z_step 42 = .ok (.ldc2_w 73, 3) := by decide +kernel
theorem d_Z_step_45 : decode b_Z_step 45 = .ok (.lcmp, 1) := by decide +kernel
theorem d_Z_step_46 : decode b_Z_step 46 = .ok (.ifCond .le 6, 3) := by decide +kernel
theorem d_Z_step_49 : decode b_Z_step 49 = .ok (.bipush (-2), 2) := by decide +kernel
theorem d_Z_step_51 : decode b_Z_step 51 = .ok (.ireturn, 1) := by decide +kernel
theorem d_Z_step_52 : decode b_Z_step 52 = .ok (.aload_n 0, 1) := by decide +kernel
theorem d_Z_step_53 : decode b_Z_step 53 = .ok (.aload_n 0, 1) := by decide +kernel
theorem d_Z_step_54 : decode b_Z_step 54 = .ok (.getfield 13, 3) := by decide +kernel
theorem d_Z_step_57 : decode b_Z_step 57 = .ok (.iconst 2, 1) := by decide +kernel
theorem d_Z_step_58 : decode b_Z_step 58 = .ok (.baload, 1) := by decide +kernel
theorem d_Z_step_59 : decode b_Z_step 59 = .ok (.ifCond .eq 10, 3) := by decide +kernel
theorem d_Z_step_62 : decode b_Z_step 62 = .ok (.aload_n 0, 1) := by decide +kernel
theorem d_Z_step_63 : decode b_Z_step 63 = .ok (.getfield 56, 3) := by decide +kernel
theorem d_Z_step_66 : decode b_Z_step 66 = .ok (.goto 6, 3) := by decide +kernel
theorem d_Z_step_69 : decode b_Z_step 69 = .ok (.lload 5, 2) := by decide +kernel
theorem d_Z_step_71 : decode b_Z_step 71 = .ok (.l2i, 1) := by decide +kernel
theorem d_Z_step_72 : decode b_Z_step 72 = .ok (.putfield 56, 3) := by decide +kernel
theorem d_Z_step_75 : decode b_Z_step 75 = .ok (.aload_n 0, 1) := by decide +kernel
theorem d_Z_step_76 : decode b_Z_step 76 = .ok (.getfield 13, 3) := by decide +kernel
theorem d_Z_step_79 : decode b_Z_step 79 = .ok (.iconst 0, 1) := by decide +kernel
theorem d_Z_step_80 : decode b_Z_step 80 = .ok (.baload, 1) := by decide +kernel
theorem d_Z_step_81 : decode b_Z_step 81 = .ok (.ifCond .eq 7, 3) := by decide +kernel
theorem d_Z_step_84 : decode b_Z_step 84 = .ok (.lload_n 3, 1) := by decide +kernel
theorem d_Z_step_85 : decode b_Z_step 85 = .ok (.goto 4, 3) := by decide +kernel
theorem d_Z_step_88 : decode b_Z_step 88 = .ok (.lload_n 1, 1) := by decide +kernel
theorem d_Z_step_89 : decode b_Z_step 89 = .ok (.l2i, 1) := by decide +kernel
theorem d_Z_step_90 : decode b_Z_step 90 = .ok (.istore 7, 2) := by decide +kernel
theorem d_Z_step_92 : decode b_Z_step 92 = .ok (.aload_n 0, 1) := by decide +kernel
theorem d_Z_step_93 : decode b_Z_step 93 = .ok (.getfield 13, 3) := by decide +kernel
theorem d_Z_step_96 : decode b_Z_step 96 = .ok (.iconst 1, 1) := by decide +kernel
theorem d_Z_step_97 : decode b_Z_step 97 = .ok (.baload, 1) := by decide +kernel
theorem d_Z_step_98 : decode b_Z_step 98 = .ok (.ifCond .eq 7, 3) := by decide +kernel
theorem d_Z_step_101 : decode b_Z_step 101 = .ok (.lload_n 1, 1) := by decide +kernel
theorem d_Z_step_102 : decode b_Z_step 102 = .ok (.goto 4, 3) := by decide +kernel
theorem d_Z_step_105 : decode b_Z_step 105 = .ok (.lload_n 3, 1) := by decide +kernel
theorem d_Z_step_106 : decode b_Z_step 106 = .ok (.l2i, 1) := by decide +kernel
theorem d_Z_step_107 : decode b_Z_step 107 = .ok (.istore 8, 2) := by decide +kernel
theorem d_Z_step_109 : decode b_Z_step 109 = .ok (.aload_n 0, 1) := by decide +kernel
theorem d_Z_step_110 : decode b_Z_step 110 = .ok (.getfield 13, 3) := by decide +kernel
theorem d_Z_step_113 : decode b_Z_step 113 = .ok (.iconst 0, 1) := by decide +kernel
theorem d_Z_step_114 : decode b_Z_step 114 = .ok (.baload, 1) := by decide +kernel
theorem d_Z_step_115 : decode b_Z_step 115 = .ok (.ifCond .ne 36, 3) := by decide +kernel
theorem d_Z_step_118 : decode b_Z_step 118 = .ok (.aload_n 0, 1) := by decide +kernel
theorem d_Z_step_119 : decode b_Z_step 119 = .ok (.getfield 13, 3) := by decide +kernel
theorem d_Z_step_122 : decode b_Z_step 122 = .ok (.iconst 1, 1) := by decide +kernel
theorem d_Z_step_123 : decode b_Z_step 123 = .ok (.baload, 1) := by decide +kernel
theorem d_Z_step_124 : decode b_Z_step 124 = .ok (.ifCond .ne 27, 3) := by decide +kernel
theorem d_Z_step_127 : decode b_Z_step 127 = .ok (.iload 7, 2) := by decide +kernel
theorem d_Z_step_129 : decode b_Z_step 129 = .ok (.iload 8, 2) := by decide +kernel
theorem d_Z_step_131 : decode b_Z_step 131 = .ok (.isub, 1) := by decide +kernel
theorem d_Z_step_132 : decode b_Z_step 132 = .ok (.bipush 50, 2) := by decide +kernel
theorem d_Z_step_134 : decode b_Z_step 134 = .ok (.if_icmp .gt 13, 3) := by decide +kernel
theorem d_Z_step_137 : decode b_Z_step 137 = .ok (.iload 8, 2) := by decide +kernel
theorem d_Z_step_139 : decode b_Z_step 139 = .ok (.iload 7, 2) := by decide +kernel
theorem d_Z_step_141 : decode b_Z_step 141 = .ok (.isub, 1) := by decide +kernel
theorem d_Z_step_142 : decode b_Z_step 142 = .ok (.bipush 50, 2) := by decide +kernel
theorem d_Z_step_144 : decode b_Z_step 144 = .ok (.if_icmp .le 7, 3) := by decide +kernel
theorem d_Z_step_147 : decode b_Z_step 147 = .ok (.iconst 1, 1) := by decide +kernel
theorem d_Z_step_148 : decode b_Z_step 148 = .ok (.goto 4, 3) := by decide +kernel
theorem d_Z_step_151 : decode b_Z_step 151 = .ok (.iconst 0, 1) := by decide +kernel
theorem d_Z_step_152 : decode b_Z_step 152 = .ok (.istore 9, 2) := by decide +kernel
theorem d_Z_step_154 : decode b_Z_step 154 = .ok (.aload_n 0, 1) := by decide +kernel
theorem d_Z_step_155 : decode b_Z_step 155 = .ok (.iload 9, 2) := by decide +kernel
theorem d_Z_step_157 : decode b_Z_step 157 = .ok (.ifCond .eq 12, 3) := by decide +kernel
theorem d_Z_step_160 : decode b_Z_step 160 = .ok (.aload_n 0, 1) := by decide +kernel
theorem d_Z_step_161 : decode b_Z_step 161 = .ok (.getfield 75, 3) := by decide +kernel
theorem d_Z_step_164 : decode b_Z_step 164 = .ok (.iconst 1, 1) := by decide +kernel
theorem d_Z_step_165 : decode b_Z_step 165 = .ok (.iadd, 1) := by decide +kernel
theorem d_Z_step_166 : decode b_Z_step 166 = .ok (.goto 4, 3) := by decide +kernel
theorem d_Z_step_169 : decode b_Z_step 169 = .ok (.iconst 0, 1) := by decide +kernel
theorem d_Z_step_170 : decode b_Z_step 170 = .ok (.putfield 75, 3) := by decide +kernel
theorem d_Z_step_173 : decode b_Z_step 173 = .ok (.aload_n 0, 1) := by decide +kernel
theorem d_Z_step_174 : decode b_Z_step 174 = .ok (.aload_n 0, 1) := by decide +kernel
theorem d_Z_step_175 : decode b_Z_step 175 = .ok (.getfield 78, 3) := by decide +kernel
theorem d_Z_step_178 : decode b_Z_step 178 = .ok (.ifCond .ne 11, 3) := by decide +kernel
theorem d_Z_step_181 : decode b_Z_step 181 = .ok (.aload_n 0, 1) := by decide +kernel
theorem d_Z_step_182 : decode b_Z_step 182 = .ok (.getfield 75, 3) := by decide +kernel
theorem d_Z_step_185 : decode b_Z_step 185 = .ok (.iconst 5, 1) := by decide +kernel
theorem d_Z_step_186 : decode b_Z_step 186 = .ok (.if_icmp .ne 7, 3) := by decide +kernel
theorem d_Z_step_189 : decode b_Z_step 189 = .ok (.iconst 1, 1) := by decide +kernel
theorem d_Z_step_190 : decode b_Z_step 190 = .ok (.goto 4, 3) := by decide +kernel
theorem d_Z_step_193 : decode b_Z_step 193 = .ok (.iconst 0, 1) := by decide +kernel
theorem d_Z_step_194 : decode b_Z_step 194 = .ok (.putfield 78, 3) := by decide +kernel
theorem d_Z_step_197 : decode b_Z_step 197 = .ok (.aload_n 0, 1) := by decide +kernel
theorem d_Z_step_198 : decode b_Z_step 198 = .ok (.iload 7, 2) := by decide +kernel
theorem d_Z_step_200 : decode b_Z_step 200 = .ok (.iload 8, 2) := by decide +kernel
theorem d_Z_step_202 : decode b_Z_step 202 = .ok (.if_icmp .ge 8, 3) := by decide +kernel
theorem d_Z_step_205 : decode b_Z_step 205 = .ok (.iload 7, 2) := by decide +kernel
theorem d_Z_step_207 : decode b_Z_step 207 = .ok (.goto 5, 3) := by decide +kernel
theorem d_Z_step_210 : decode b_Z_step 210 = .ok (.iload 8, 2) := by decide +kernel
theorem d_Z_step_212 : decode b_Z_step 212 = .ok (.putfield 82, 3) := by decide +kernel
theorem d_Z_step_215 : decode b_Z_step 215 = .ok (.aload_n 0, 1) := by decide +kernel
theorem d_Z_step_216 : decode b_Z_step 216 = .ok (.getfield 13, 3) := by decide +kernel
theorem d_Z_step_219 : decode b_Z_step 219 = .ok (.iconst 0, 1) := by decide +kernel
theorem d_Z_step_220 : decode b_Z_step 220 = .ok (.baload, 1) := by decide +kernel
theorem d_Z_step_221 : decode b_Z_step 221 = .ok (.ifCond .eq 16, 3) := by decide +kernel
theorem d_Z_step_224 : decode b_Z_step 224 = .ok (.aload_n 0, 1) := by decide +kernel
theorem d_Z_step_225 : decode b_Z_step 225 = .ok (.getfield 13, 3) := by decide +kernel
theorem d_Z_step_228 : decode b_Z_step 228 = .ok (.iconst 1, 1) := by decide +kernel
theorem d_Z_step_229 : decode b_Z_step 229 = .ok (.baload, 1) := by decide +kernel
theorem d_Z_step_230 : decode b_Z_step 230 = .ok (.ifCond .eq 7, 3) := by decide +kernel
theorem d_Z_step_233 : decode b_Z_step 233 = .ok (.iconst 1, 1) := by decide +kernel
theorem d_Z_step_234 : decode b_Z_step 234 = .ok (.goto 4, 3) := by decide +kernel
theorem d_Z_step_237 : decode b_Z_step 237 = .ok (.iconst 0, 1) := by decide +kernel
theorem d_Z_step_238 : decode b_Z_step 238 = .ok (.istore 10, 2) := by decide +kernel
theorem d_Z_step_240 : decode b_Z_step 240 = .ok (.aload_n 0, 1) := by decide +kernel
theorem d_Z_step_241 : decode b_Z_step 241 = .ok (.getfield 85, 3) := by decide +kernel
theorem d_Z_step_244 : decode b_Z_step 244 = .ok (.ifCond .ne 30, 3) := by decide +kernel
theorem d_Z_step_247 : decode b_Z_step 247 = .ok (.aload_n 0, 1) := by decide +kernel
theorem d_Z_step_248 : decode b_Z_step 248 = .ok (.getfield 13, 3) := by decide +kernel
theorem d_Z_step_251 : decode b_Z_step 251 = .ok (.iconst 0, 1) := by decide +kernel
theorem d_Z_step_252 : decode b_Z_step 252 = .ok (.baload, 1) := by decide +kernel
theorem d_Z_step_253 : decode b_Z_step 253 = .ok (.ifCond .ne 21, 3) := by decide +kernel
theorem d_Z_step_256 : decode b_Z_step 256 = .ok (.aload_n 0, 1) := by decide +kernel
theorem d_Z_step_257 : decode b_Z_step 257 = .ok (.getfield 13, 3) := by decide +kernel
theorem d_Z_step_260 : decode b_Z_step 260 = .ok (.iconst 1, 1) := by decide +kernel
theorem d_Z_step_261 : decode b_Z_step 261 = .ok (.baload, 1) := by decide +kernel
theorem d_Z_step_262 : decode b_Z_step 262 = .ok (.ifCond .ne 12, 3) := by decide +kernel
theorem d_Z_step_265 : decode b_Z_step 265 = .ok (.aload_n 0, 1) := by decide +kernel
theorem d_Z_step_266 : decode b_Z_step 266 = .ok (.getfield 13, 3) := by decide +kernel
theorem d_Z_step_269 : decode b_Z_step 269 = .ok (.iconst 2, 1) := by decide +kernel
theorem d_Z_step_270 : decode b_Z_step 270 = .ok (.baload, 1) := by decide +kernel
theorem d_Z_step_271 : decode b_Z_step 271 = .ok (.ifCond .eq 7, 3) := by decide +kernel
theorem d_Z_step_274 : decode b_Z_step 274 = .ok (.iconst 1, 1) := by decide +kernel
theorem d_Z_step_275 : decode b_Z_step 275 = .ok (.goto 4, 3) := by decide +kernel
theorem d_Z_step_278 : decode b_Z_step 278 = .ok (.iconst 0, 1) := by decide +kernel
theorem d_Z_step_279 : decode b_Z_step 279 = .ok (.istore 11, 2) := by decide +kernel
theorem d_Z_step_281 : decode b_Z_step 281 = .ok (.aload_n 0, 1) := by decide +kernel
theorem d_Z_step_282 : decode b_Z_step 282 = .ok (.aload_n 0, 1) := by decide +kernel
theorem d_Z_step_283 : decode b_Z_step 283 = .ok (.getfield 78, 3) := by decide +kernel
theorem d_Z_step_286 : decode b_Z_step 286 = .ok (.ifCond .ne 8, 3) := by decide +kernel
theorem d_Z_step_289 : decode b_Z_step 289 = .ok (.iload 10, 2) := by decide +kernel
theorem d_Z_step_291 : decode b_Z_step 291 = .ok (.ifCond .eq 7, 3) := by decide +kernel
theorem d_Z_step_294 : decode b_Z_step 294 = .ok (.iconst 4, 1) := by decide +kernel
theorem d_Z_step_295 : decode b_Z_step 295 = .ok (.goto 35, 3) := by decide +kernel
theorem d_Z_step_298 : decode b_Z_step 298 = .ok (.aload_n 0, 1) := by decide +kernel
theorem d_Z_step_299 : decode b_Z_step 299 = .ok (.getfield 56, 3) := by decide +kernel
theorem d_Z_step_302 : decode b_Z_step 302 = .ok (.ifCond .ne 7, 3) := by decide +kernel
theorem d_Z_step_305 : decode b_Z_step 305 = .ok (.iconst 3, 1) := by decide +kernel
theorem d_Z_step_306 : decode b_Z_step 306 = .ok (.goto 24, 3) := by decide +kernel
theorem d_Z_step_309 : decode b_Z_step 309 = .ok (.iload 11, 2) := by decide +kernel
theorem d_Z_step_311 : decode b_Z_step 311 = .ok (.ifCond .eq 7, 3) := by decide +kernel
theorem d_Z_step_314 : decode b_Z_step 314 = .ok (.iconst 2, 1) := by decide +kernel
theorem d_Z_step_315 : decode b_Z_step 315 = .ok (.goto 15, 3) := by decide +kernel
theorem d_Z_step_318 : decode b_Z_step 318 = .ok (.aload_n 0, 1) := by decide +kernel
theorem d_Z_step_319 : decode b_Z_step 319 = .ok (.getfield 75, 3) := by decide +kernel
theorem d_Z_step_322 : decode b_Z_step 322 = .ok (.ifCond .le 7, 3) := by decide +kernel
theorem d_Z_step_325 : decode b_Z_step 325 = .ok (.iconst 1, 1) := by decide +kernel
theorem d_Z_step_326 : decode b_Z_step 326 = .ok (.goto 4, 3) := by decide +kernel
theorem d_Z_step_329 : decode b_Z_step 329 = .ok (.iconst 0, 1) := by decide +kernel
theorem d_Z_step_330 : decode b_Z_step 330 = .ok (.putfield 88, 3) := by decide +kernel
theorem d_Z_step_333 : decode b_Z_step 333 = .ok (.aload_n 0, 1) := by decide +kernel
theorem d_Z_step_334 : decode b_Z_step 334 = .ok (.aload_n 0, 1) := by decide +kernel
theorem d_Z_step_335 : decode b_Z_step 335 = .ok (.getfield 88, 3) := by decide +kernel
theorem d_Z_step_338 : decode b_Z_step 338 = .ok (.iconst 4, 1) := by decide +kernel
theorem d_Z_step_339 : decode b_Z_step 339 = .ok (.if_icmp .ne 7, 3) := by decide +kernel
theorem d_Z_step_342 : decode b_Z_step 342 = .ok (.iconst 0, 1) := by decide +kernel
theorem d_Z_step_343 : decode b_Z_step 343 = .ok (.goto 7, 3) := by decide +kernel
theorem d_Z_step_346 : decode b_Z_step 346 = .ok (.aload_n 0, 1) := by decide +kernel
theorem d_Z_step_347 : decode b_Z_step 347 = .ok (.getfield 82, 3) := by decide +kernel
theorem d_Z_step_350 : decode b_Z_step 350 = .ok (.putfield 82, 3) := by decide +kernel
theorem d_Z_step_353 : decode b_Z_step 353 = .ok (.aload_n 0, 1) := by decide +kernel
theorem d_Z_step_354 : decode b_Z_step 354 = .ok (.getfield 88, 3) := by decide +kernel
theorem d_Z_step_357 : decode b_Z_step 357 = .ok (.iconst 3, 1) := by decide +kernel
