theorem dX9_does_230 : decode cX9_does 230 = .ok (.aload_n 0, 1) := by decide +kernel
theorem dX9_does_231 : decode cX9_does 231 = .ok (.getfield 9, 3) := by decide +kernel
theorem dX9_does_234 : decode cX9_does 234 = .ok (.bipush 8, 2) := by decide +kernel
theorem dX9_does_236 : decode cX9_does 236 = .ok (.iload_n 2, 1) := by decide +kernel
theorem dX9_does_237 : decode cX9_does 237 = .ok (.iastore, 1) := by decide +kernel
theorem dX9_does_238 : decode cX9_does 238 = .ok (.iload 8, 2) := by decide +kernel
theorem dX9_does_240 : decode cX9_does 240 = .ok (.ireturn, 1) := by decide +kernel
theorem dX9_does_241 : decode cX9_does 241 = .ok (.aload_n 0, 1) := by decide +kernel
theorem dX9_does_242 : decode cX9_does 242 = .ok (.getfield 9, 3) := by decide +kernel
theorem dX9_does_245 : decode cX9_does 245 = .ok (.aload_n 0, 1) := by decide +kernel
theorem dX9_does_246 : decode cX9_does 246 = .ok (.getfield 9, 3) := by decide +kernel
theorem dX9_does_249 : decode cX9_does 249 = .ok (.iconst 4, 1) := by decide +kernel
theorem dX9_does_250 : decode cX9_does 250 = .ok (.iaload, 1) := by decide +kernel
theorem dX9_does_251 : decode cX9_does 251 = .ok (.iconst 0, 1) := by decide +kernel
theorem dX9_does_252 : decode cX9_does 252 = .ok (.invokestatic 62, 3) := by decide +kernel
theorem dX9_does_255 : decode cX9_does 255 = .ok (.iaload, 1) := by decide +kernel
theorem dX9_does_256 : decode cX9_does 256 = .ok (.istore 8, 2) := by decide +kernel
theorem dX9_does_258 : decode cX9_does 258 = .ok (.aload_n 0, 1) := by decide +kernel
theorem dX9_does_259 : decode cX9_does 259 = .ok (.iconst 0, 1) := by decide +kernel
theorem dX9_does_260 : decode cX9_does 260 = .ok (.iconst 1, 1) := by decide +kernel
theorem dX9_does_261 : decode cX9_does 261 = .ok (.invokevirtual 139, 3) := by decide +kernel
theorem dX9_does_264 : decode cX9_does 264 = .ok (.iload 8, 2) := by decide +kernel
theorem dX9_does_266 : decode cX9_does 266 = .ok (.ireturn, 1) := by decide +kernel
theorem dX9_does_267 : decode cX9_does 267 = .ok (.aload_n 0, 1) := by decide +kernel
theorem dX9_does_268 : decode cX9_does 268 = .ok (.iload_n 2, 1) := by decide +kernel
theorem dX9_does_269 : decode cX9_does 269 = .ok (.invokevirtual 143, 3) := by decide +kernel
theorem dX9_does_272 : decode cX9_does 272 = .ok (.ireturn, 1) := by decide +kernel
theorem dX9_changesEnds_0 : decode cX9_changesEnds 0 = .ok (.aload_n 0, 1) := by decide +kernel
theorem dX9_changesEnds_1 : decode cX9_changesEnds 1 = .ok (.getfield 9, 3) := by decide +kernel
theorem dX9_changesEnds_4 : decode cX9_changesEnds 4 = .ok (.bipush 6, 2) := by decide +kernel
theorem dX9_changesEnds_6 : decode cX9_changesEnds 6 = .ok (.iaload, 1) := by decide +kernel
theorem dX9_changesEnds_7 : decode cX9_changesEnds 7 = .ok (.istore_n 1, 1) := by decide +kernel
theorem dX9_changesEnds_8 : decode cX9_changesEnds 8 = .ok (.aload_n 0, 1) := by decide +kernel
theorem dX9_changesEnds_9 : decode cX9_changesEnds 9 = .ok (.getfield 9, 3) := by decide +kernel
theorem dX9_changesEnds_12 : decode cX9_changesEnds 12 = .ok (.bipush 6, 2) := by decide +kernel
theorem dX9_changesEnds_14 : decode cX9_changesEnds 14 = .ok (.aload_n 0, 1) := by decide +kernel
theorem dX9_changesEnds_15 : decode cX9_changesEnds 15 = .ok (.getfield 9, 3) := by decide +kernel
theorem dX9_changesEnds_18 : decode cX9_changesEnds 18 = .ok (.bipush 7, 2) := by decide +kernel
theorem dX9_changesEnds_20 : decode cX9_changesEnds 20 = .ok (.iaload, 1) := by decide +kernel
theorem dX9_changesEnds_21 : decode cX9_changesEnds 21 = .ok (.iastore, 1) := by decide +kernel
theorem dX9_changesEnds_22 : decode cX9_changesEnds 22 = .ok (.aload_n 0, 1) := by decide +kernel
theorem dX9_changesEnds_23 : decode cX9_changesEnds 23 = .ok (.getfield 9, 3) := by decide +kernel
theorem dX9_changesEnds_26 : decode cX9_changesEnds 26 = .ok (.bipush 7, 2) := by decide +kernel
theorem dX9_changesEnds_28 : decode cX9_changesEnds 28 = .ok (.iload_n 1, 1) := by decide +kernel
theorem dX9_changesEnds_29 : decode cX9_changesEnds 29 = .ok (.iastore, 1) := by decide +kernel
theorem dX9_changesEnds_30 : decode cX9_changesEnds 30 = .ok (.return_, 1) := by decide +kernel
theorem dX9_mayCome_0 : decode cX9_mayCome 0 = .ok (.aload_n 0, 1) := by decide +kernel
theorem dX9_mayCome_1 : decode cX9_mayCome 1 = .ok (.getfield 9, 3) := by decide +kernel
theorem dX9_mayCome_4 : decode cX9_mayCome 4 = .ok (.aload_n 0, 1) := by decide +kernel
theorem dX9_mayCome_5 : decode cX9_mayCome 5 = .ok (.getfield 9, 3) := by decide +kernel
theorem dX9_mayCome_8 : decode cX9_mayCome 8 = .ok (.iconst 4, 1) := by decide +kernel
theorem dX9_mayCome_9 : decode cX9_mayCome 9 = .ok (.iaload, 1) := by decide +kernel
theorem dX9_mayCome_10 : decode cX9_mayCome 10 = .ok (.iload_n 1, 1) := by decide +kernel
theorem dX9_mayCome_11 : decode cX9_mayCome 11 = .ok (.iconst 4, 1) := by decide +kernel
theorem dX9_mayCome_12 : decode cX9_mayCome 12 = .ok (.invokestatic 65, 3) := by decide +kernel
theorem dX9_mayCome_15 : decode cX9_mayCome 15 = .ok (.iaload, 1) := by decide +kernel
theorem dX9_mayCome_16 : decode cX9_mayCome 16 = .ok (.istore_n 2, 1) := by decide +kernel
theorem dX9_mayCome_17 : decode cX9_mayCome 17 = .ok (.iload_n 2, 1) := by decide +kernel
theorem dX9_mayCome_18 : decode cX9_mayCome 18 = .ok (.bipush (-2), 2) := by decide +kernel
theorem dX9_mayCome_20 : decode cX9_mayCome 20 = .ok (.if_icmp .eq 9, 3) := by decide +kernel
theorem dX9_mayCome_23 : decode cX9_mayCome 23 = .ok (.iload_n 2, 1) := by decide +kernel
theorem dX9_mayCome_24 : decode cX9_mayCome 24 = .ok (.bipush 6, 2) := by decide +kernel
theorem dX9_mayCome_26 : decode cX9_mayCome 26 = .ok (.if_icmp .ne 7, 3) := by decide +kernel
theorem dX9_mayCome_29 : decode cX9_mayCome 29 = .ok (.iconst 1, 1) := by decide +kernel
theorem dX9_mayCome_30 : decode cX9_mayCome 30 = .ok (.goto 4, 3) := by decide +kernel
theorem dX9_mayCome_33 : decode cX9_mayCome 33 = .ok (.iconst 0, 1) := by decide +kernel
theorem dX9_mayCome_34 : decode cX9_mayCome 34 = .ok (.ireturn, 1) := by decide +kernel
theorem dX9_lowest_0 : decode cX9_lowest 0 = .ok (.iconst 0, 1) := by decide +kernel
theorem dX9_lowest_1 : decode cX9_lowest 1 = .ok (.istore_n 2, 1) := by decide +kernel
theorem dX9_lowest_2 : decode cX9_lowest 2 = .ok (.iload_n 2, 1) := by decide +kernel
theorem dX9_lowest_3 : decode cX9_lowest 3 = .ok (.bipush 11, 2) := by decide +kernel
theorem dX9_lowest_5 : decode cX9_lowest 5 = .ok (.if_icmp .ge 31, 3) := by decide +kernel
theorem dX9_lowest_8 : decode cX9_lowest 8 = .ok (.aload_n 0, 1) := by decide +kernel
theorem dX9_lowest_9 : decode cX9_lowest 9 = .ok (.getfield 9, 3) := by decide +kernel
theorem dX9_lowest_12 : decode cX9_lowest 12 = .ok (.aload_n 0, 1) := by decide +kernel
theorem dX9_lowest_13 : decode cX9_lowest 13 = .ok (.getfield 9, 3) := by decide +kernel
theorem dX9_lowest_16 : decode cX9_lowest 16 = .ok (.iconst 4, 1) := by decide +kernel
theorem dX9_lowest_17 : decode cX9_lowest 17 = .ok (.iaload, 1) := by decide +kernel
theorem dX9_lowest_18 : decode cX9_lowest 18 = .ok (.iload_n 2, 1) := by decide +kernel
theorem dX9_lowest_19 : decode cX9_lowest 19 = .ok (.iconst 4, 1) := by decide +kernel
theorem dX9_lowest_20 : decode cX9_lowest 20 = .ok (.invokestatic 65, 3) := by decide +kernel
theorem dX9_lowest_23 : decode cX9_lowest 23 = .ok (.iaload, 1) := by decide +kernel
theorem dX9_lowest_24 : decode cX9_lowest 24 = .ok (.iload_n 1, 1) := by decide +kernel
theorem dX9_lowest_25 : decode cX9_lowest 25 = .ok (.if_icmp .ne 5, 3) := by decide +kernel
theorem dX9_lowest_28 : decode cX9_lowest 28 = .ok (.iload_n 2, 1) := by decide +kernel
theorem dX9_lowest_29 : decode cX9_lowest 29 = .ok (.ireturn, 1) := by decide +kernel
theorem dX9_lowest_30 : decode cX9_lowest 30 = .ok (.iinc 2 1, 3) := by decide +kernel
theorem dX9_lowest_33 : decode cX9_lowest 33 = .ok (.goto (-31), 3) := by decide +kernel
theorem dX9_lowest_36 : decode cX9_lowest 36 = .ok (.iconst (-1), 1) := by decide +kernel
theorem dX9_lowest_37 : decode cX9_lowest 37 = .ok (.ireturn, 1) := by decide +kernel
theorem dX9_next_0 : decode cX9_next 0 = .ok (.aload_n 0, 1) := by decide +kernel
theorem dX9_next_1 : decode cX9_next 1 = .ok (.getfield 9, 3) := by decide +kernel
theorem dX9_next_4 : decode cX9_next 4 = .ok (.bipush 8, 2) := by decide +kernel
theorem dX9_next_6 : decode cX9_next 6 = .ok (.iaload, 1) := by decide +kernel
theorem dX9_next_7 : decode cX9_next 7 = .ok (.ifCond .lt 11, 3) := by decide +kernel
theorem dX9_next_10 : decode cX9_next 10 = .ok (.aload_n 0, 1) := by decide +kernel
theorem dX9_next_11 : decode cX9_next 11 = .ok (.getfield 9, 3) := by decide +kernel
theorem dX9_next_14 : decode cX9_next 14 = .ok (.bipush 8, 2) := by decide +kernel
theorem dX9_next_16 : decode cX9_next 16 = .ok (.iaload, 1) := by decide +kernel
theorem dX9_next_17 : decode cX9_next 17 = .ok (.ireturn, 1) := by decide +kernel
theorem dX9_next_18 : decode cX9_next 18 = .ok (.aload_n 0, 1) := by decide +kernel
theorem dX9_next_19 : decode cX9_next 19 = .ok (.bipush (-2), 2) := by decide +kernel
theorem dX9_next_21 : decode cX9_next 21 = .ok (.invokevirtual 146, 3) := by decide +kernel
theorem dX9_next_24 : decode cX9_next 24 = .ok (.istore_n 1, 1) := by decide +kernel
theorem dX9_next_25 : decode cX9_next 25 = .ok (.iload_n 1, 1) := by decide +kernel
theorem dX9_next_26 : decode cX9_next 26 = .ok (.ifCond .lt 7, 3) := by decide +kernel
theorem dX9_next_29 : decode cX9_next 29 = .ok (.iload_n 1, 1) := by decide +kernel
theorem dX9_next_30 : decode cX9_next 30 = .ok (.goto 9, 3) := by decide +kernel
theorem dX9_next_33 : decode cX9_next 33 = .ok (.aload_n 0, 1) := by decide +kernel
theorem dX9_next_34 : decode cX9_next 34 = .ok (.bipush 6, 2) := by decide +kernel
theorem dX9_next_36 : decode cX9_next 36 = .ok (.invokevirtual 146, 3) := by decide +kernel
theorem dX9_next_39 : decode cX9_next 39 = .ok (.ireturn, 1) := by decide +kernel
theorem dX9_begun_0 : decode cX9_begun 0 = .ok (.aload_n 0, 1) := by decide +kernel
theorem dX9_begun_1 : decode cX9_begun 1 = .ok (.getfield 9, 3) := by decide +kernel
theorem dX9_begun_4 : decode cX9_begun 4 = .ok (.aload_n 0, 1) := by decide +kernel
theorem dX9_begun_5 : decode cX9_begun 5 = .ok (.getfield 9, 3) := by decide +kernel
theorem dX9_begun_8 : decode cX9_begun 8 = .ok (.iconst 4, 1) := by decide +kernel
theorem dX9_begun_9 : decode cX9_begun 9 = .ok (.iaload, 1) := by decide +kernel
theorem dX9_begun_10 : decode cX9_begun 10 = .ok (.bipush 8, 2) := by decide +kernel
theorem dX9_begun_12 : decode cX9_begun 12 = .ok (.invokestatic 62, 3) := by decide +kernel
theorem dX9_begun_15 : decode cX9_begun 15 = .ok (.iaload, 1) := by decide +kernel
theorem dX9_begun_16 : decode cX9_begun 16 = .ok (.aload_n 0, 1) := by decide +kernel
theorem dX9_begun_17 : decode cX9_begun 17 = .ok (.getfield 9, 3) := by decide +kernel
theorem dX9_begun_20 : decode cX9_begun 20 = .ok (.aload_n 0, 1) := by decide +kernel
theorem dX9_begun_21 : decode cX9_begun 21 = .ok (.getfield 9, 3) := by decide +kernel
theorem dX9_begun_24 : decode cX9_begun 24 = .ok (.iconst 4, 1) := by decide +kernel
theorem dX9_begun_25 : decode cX9_begun 25 = .ok (.iaload, 1) := by decide +kernel
theorem dX9_begun_26 : decode cX9_begun 26 = .ok (.bipush 10, 2) := by decide +kernel
theorem dX9_begun_28 : decode cX9_begun 28 = .ok (.invokestatic 62, 3) := by decide +kernel
theorem dX9_begun_31 : decode cX9_begun 31 = .ok (.iaload, 1) := by decide +kernel
theorem dX9_begun_32 : decode cX9_begun 32 = .ok (.iadd, 1) := by decide +kernel
theorem dX9_begun_33 : decode cX9_begun 33 = .ok (.ireturn, 1) := by decide +kernel
theorem dX9_scores_0 : decode cX9_scores 0 = .ok (.aload_n 0, 1) := by decide +kernel
theorem dX9_scores_1 : decode cX9_scores 1 = .ok (.getfield 9, 3) := by decide +kernel
theorem dX9_scores_4 : decode cX9_scores 4 = .ok (.iconst 4, 1) := by decide +kernel
theorem dX9_scores_5 : decode cX9_scores 5 = .ok (.iaload, 1) := by decide +kernel
theorem dX9_scores_6 : decode cX9_scores 6 = .ok (.istore 4, 2) := by decide +kernel
theorem dX9_scores_8 : decode cX9_scores 8 = .ok (.aload_n 0, 1) := by decide +kernel
theorem dX9_scores_9 : decode cX9_scores 9 = .ok (.getfield 9, 3) := by decide +kernel
theorem dX9_scores_12 : decode cX9_scores 12 = .ok (.bipush 6, 2) := by decide +kernel
theorem dX9_scores_14 : decode cX9_scores 14 = .ok (.iaload, 1) := by decide +kernel
theorem dX9_scores_15 : decode cX9_scores 15 = .ok (.istore 5, 2) := by decide +kernel
theorem dX9_scores_17 : decode cX9_scores 17 = .ok (.iload_n 1, 1) := by decide +kernel
theorem dX9_scores_18 : decode cX9_scores 18 = .ok (.iconst 1, 1) := by decide +kernel
theorem dX9_scores_19 : decode cX9_scores 19 = .ok (.if_icmp .eq 8, 3) := by decide +kernel
theorem dX9_scores_22 : decode cX9_scores 22 = .ok (.iload_n 1, 1) := by decide +kernel
theorem dX9_scores_23 : decode cX9_scores 23 = .ok (.iconst 2, 1) := by decide +kernel
theorem dX9_scores_24 : decode cX9_scores 24 = .ok (.if_icmp .ne 9, 3) := by decide +kernel
theorem dX9_scores_27 : decode cX9_scores 27 = .ok (.iload_n 2, 1) := by decide +kernel
theorem dX9_scores_28 : decode cX9_scores 28 = .ok (.iconst 1, 1) := by decide +kernel
theorem dX9_scores_29 : decode cX9_scores 29 = .ok (.iadd, 1) := by decide +kernel
theorem dX9_scores_30 : decode cX9_scores 30 = .ok (.goto 4, 3) := by decide +kernel
theorem dX9_scores_33 : decode cX9_scores 33 = .ok (.iload_n 2, 1) := by decide +kernel
theorem dX9_scores_34 : decode cX9_scores 34 = .ok (.istore 6, 2) := by decide +kernel
theorem dX9_scores_36 : decode cX9_scores 36 = .ok (.iload_n 1, 1) := by decide +kernel
theorem dX9_scores_37 : decode cX9_scores 37 = .ok (.ifCond .eq 8, 3) := by decide +kernel
theorem dX9_scores_40 : decode cX9_scores 40 = .ok (.iload_n 1, 1) := by decide +kernel
theorem dX9_scores_41 : decode cX9_scores 41 = .ok (.iconst 2, 1) := by decide +kernel
theorem dX9_scores_42 : decode cX9_scores 42 = .ok (.if_icmp .ne 7, 3) := by decide +kernel
theorem dX9_scores_45 : decode cX9_scores 45 = .ok (.iconst 1, 1) := by decide +kernel
theorem dX9_scores_46 : decode cX9_scores 46 = .ok (.goto 4, 3) := by decide +kernel
theorem dX9_scores_49 : decode cX9_scores 49 = .ok (.iconst 0, 1) := by decide +kernel
theorem dX9_scores_50 : decode cX9_scores 50 = .ok (.istore 7, 2) := by decide +kernel
theorem dX9_scores_52 : decode cX9_scores 52 = .ok (.iload_n 1, 1) := by decide +kernel
theorem dX9_scores_53 : decode cX9_scores 53 = .ok (.iconst 1, 1) := by decide +kernel
theorem dX9_scores_54 : decode cX9_scores 54 = .ok (.if_icmp .eq 8, 3) := by decide +kernel
theorem dX9_scores_57 : decode cX9_scores 57 = .ok (.iload_n 1, 1) := by decide +kernel
theorem dX9_scores_58 : decode cX9_scores 58 = .ok (.iconst 2, 1) := by decide +kernel
theorem dX9_scores_59 : decode cX9_scores 59 = .ok (.if_icmp .ne 7, 3) := by decide +kernel
theorem dX9_scores_62 : decode cX9_scores 62 = .ok (.iconst 0, 1) := by decide +kernel
theorem dX9_scores_63 : decode cX9_scores 63 = .ok (.goto 4, 3) := by decide +kernel
theorem dX9_scores_66 : decode cX9_scores 66 = .ok (.iconst 1, 1) := by decide +kernel
theorem dX9_scores_67 : decode cX9_scores 67 = .ok (.istore 8, 2) := by decide +kernel
theorem dX9_scores_69 : decode cX9_scores 69 = .ok (.aload_n 0, 1) := by decide +kernel
theorem dX9_scores_70 : decode cX9_scores 70 = .ok (.getfield 9, 3) := by decide +kernel
theorem dX9_scores_73 : decode cX9_scores 73 = .ok (.iload 4, 2) := by decide +kernel
theorem dX9_scores_75 : decode cX9_scores 75 = .ok (.bipush 10, 2) := by decide +kernel
theorem dX9_scores_77 : decode cX9_scores 77 = .ok (.invokestatic 62, 3) := by decide +kernel
theorem dX9_scores_80 : decode cX9_scores 80 = .ok (.iconst 1, 1) := by decide +kernel
theorem dX9_scores_81 : decode cX9_scores 81 = .ok (.iastore, 1) := by decide +kernel
theorem dX9_scores_82 : decode cX9_scores 82 = .ok (.aload_n 0, 1) := by decide +kernel
theorem dX9_scores_83 : decode cX9_scores 83 = .ok (.getfield 9, 3) := by decide +kernel
theorem dX9_scores_86 : decode cX9_scores 86 = .ok (.iload 4, 2) := by decide +kernel
theorem dX9_scores_88 : decode cX9_scores 88 = .ok (.iconst 0, 1) := by decide +kernel
theorem dX9_scores_89 : decode cX9_scores 89 = .ok (.invokestatic 62, 3) := by decide +kernel
theorem dX9_scores_92 : decode cX9_scores 92 = .ok (.dup2, 1) := by decide +kernel
theorem dX9_scores_93 : decode cX9_scores 93 = .ok (.iaload, 1) := by decide +kernel
theorem dX9_scores_94 : decode cX9_scores 94 = .ok (.iload 6, 2) := by decide +kernel
theorem dX9_scores_96 : decode cX9_scores 96 = .ok (.iadd, 1) := by decide +kernel
theorem dX9_scores_97 : decode cX9_scores 97 = .ok (.iastore, 1) := by decide +kernel
theorem dX9_scores_98 : decode cX9_scores 98 = .ok (.aload_n 0, 1) := by decide +kernel
theorem dX9_scores_99 : decode cX9_scores 99 = .ok (.getfield 9, 3) := by decide +kernel
theorem dX9_scores_102 : decode cX9_scores 102 = .ok (.iload 4, 2) := by decide +kernel
theorem dX9_scores_104 : decode cX9_scores 104 = .ok (.iconst 2, 1) := by decide +kernel
theorem dX9_scores_105 : decode cX9_scores 105 = .ok (.invokestatic 62, 3) := by decide +kernel
theorem dX9_scores_108 : decode cX9_scores 108 = .ok (.dup2, 1) := by decide +kernel
theorem dX9_scores_109 : decode cX9_scores 109 = .ok (.iaload, 1) := by decide +kernel
theorem dX9_scores_110 : decode cX9_scores 110 = .ok (.iload 8, 2) := by decide +kernel
theorem dX9_scores_112 : decode cX9_scores 112 = .ok (.iadd, 1) := by decide +kernel
theorem dX9_scores_113 : decode cX9_scores 113 = .ok (.iastore, 1) := by decide +kernel
theorem dX9_scores_114 : decode cX9_scores 114 = .ok (.iload_n 1, 1) := by decide +kernel
theorem dX9_scores_115 : decode cX9_scores 115 = .ok (.ifCond .le 30, 3) := by decide +kernel
theorem dX9_scores_118 : decode cX9_scores 118 = .ok (.aload_n 0, 1) := by decide +kernel
theorem dX9_scores_119 : decode cX9_scores 119 = .ok (.getfield 9, 3) := by decide +kernel
theorem dX9_scores_122 : decode cX9_scores 122 = .ok (.iload 4, 2) := by decide +kernel
theorem dX9_scores_124 : decode cX9_scores 124 = .ok (.iconst 2, 1) := by decide +kernel
theorem dX9_scores_125 : decode cX9_scores 125 = .ok (.iload_n 1, 1) := by decide +kernel
theorem dX9_scores_126 : decode cX9_scores 126 = .ok (.iadd, 1) := by decide +kernel
theorem dX9_scores_127 : decode cX9_scores 127 = .ok (.invokestatic 62, 3) := by decide +kernel
theorem dX9_scores_130 : decode cX9_scores 130 = .ok (.dup2, 1) := by decide +kernel
theorem dX9_scores_131 : decode cX9_scores 131 = .ok (.iaload, 1) := by decide +kernel
theorem dX9_scores_132 : decode cX9_scores 132 = .ok (.iload_n 1, 1) := by decide +kernel
theorem dX9_scores_133 : decode cX9_scores 133 = .ok (.iconst 2, 1) := by decide +kernel
theorem dX9_scores_134 : decode cX9_scores 134 = .ok (.if_icmp .ne 7, 3) := by decide +kernel
theorem dX9_scores_137 : decode cX9_scores 137 = .ok (.iconst 1, 1) := by decide +kernel
theorem dX9_scores_138 : decode cX9_scores 138 = .ok (.goto 5, 3) := by decide +kernel
theorem dX9_scores_141 : decode cX9_scores 141 = .ok (.iload 6, 2) := by decide +kernel
theorem dX9_scores_143 : decode cX9_scores 143 = .ok (.iadd, 1) := by decide +kernel
theorem dX9_scores_144 : decode cX9_scores 144 = .ok (.iastore, 1) := by decide +kernel
theorem dX9_scores_145 : decode cX9_scores 145 = .ok (.aload_n 0, 1) := by decide +kernel
theorem dX9_scores_146 : decode cX9_scores 146 = .ok (.getfield 9, 3) := by decide +kernel
theorem dX9_scores_149 : decode cX9_scores 149 = .ok (.iload 4, 2) := by decide +kernel
theorem dX9_scores_151 : decode cX9_scores 151 = .ok (.iload 5, 2) := by decide +kernel
theorem dX9_scores_153 : decode cX9_scores 153 = .ok (.iconst 1, 1) := by decide +kernel
theorem dX9_scores_154 : decode cX9_scores 154 = .ok (.invokestatic 65, 3) := by decide +kernel
theorem dX9_scores_157 : decode cX9_scores 157 = .ok (.dup2, 1) := by decide +kernel
theorem dX9_scores_158 : decode cX9_scores 158 = .ok (.iaload, 1) := by decide +kernel
theorem dX9_scores_159 : decode cX9_scores 159 = .ok (.iload_n 1, 1) := by decide +kernel
theorem dX9_scores_160 : decode cX9_scores 160 = .ok (.iconst 1, 1) := by decide +kernel
theorem dX9_scores_161 : decode cX9_scores 161 = .ok (.if_icmp .ne 7, 3) := by decide +kernel
theorem dX9_scores_164 : decode cX9_scores 164 = .ok (.iconst 0, 1) := by decide +kernel
theorem dX9_scores_165 : decode cX9_scores 165 = .ok (.goto 4, 3) := by decide +kernel
theorem dX9_scores_168 : decode cX9_scores 168 = .ok (.iconst 1, 1) := by decide +kernel
theorem dX9_scores_169 : decode cX9_scores 169 = .ok (.iadd, 1) := by decide +kernel
theorem dX9_scores_170 : decode cX9_scores 170 = .ok (.iastore, 1) := by decide +kernel
theorem dX9_scores_171 : decode cX9_scores 171 = .ok (.aload_n 0, 1) := by decide +kernel
theorem dX9_scores_172 : decode cX9_scores 172 = .ok (.getfield 9, 3) := by decide +kernel
theorem dX9_scores_175 : decode cX9_scores 175 = .ok (.iload 4, 2) := by decide +kernel
theorem dX9_scores_177 : decode cX9_scores 177 = .ok (.iload 5, 2) := by decide +kernel
theorem dX9_scores_179 : decode cX9_scores 179 = .ok (.iconst 0, 1) := by decide +kernel
theorem dX9_scores_180 : decode cX9_scores 180 = .ok (.invokestatic 65, 3) := by decide +kernel
theorem dX9_scores_183 : decode cX9_scores 183 = .ok (.dup2, 1) := by decide +kernel
theorem dX9_scores_184 : decode cX9_scores 184 = .ok (.iaload, 1) := by decide +kernel
theorem dX9_scores_185 : decode cX9_scores 185 = .ok (.iload 7, 2) := by decide +kernel
theorem dX9_scores_187 : decode cX9_scores 187 = .ok (.ifCond .eq 7, 3) := by decide +kernel
theorem dX9_scores_190 : decode cX9_scores 190 = .ok (.iload_n 2, 1) := by decide +kernel
theorem dX9_scores_191 : decode cX9_scores 191 = .ok (.goto 4, 3) := by decide +kernel
theorem dX9_scores_194 : decode cX9_scores 194 = .ok (.iconst 0, 1) := by decide +kernel
theorem dX9_scores_195 : decode cX9_scores 195 = .ok (.iadd, 1) := by decide +kernel
theorem dX9_scores_196 : decode cX9_scores 196 = .ok (.iastore, 1) := by decide +kernel
theorem dX9_scores_197 : decode cX9_scores 197 = .ok (.iload_n 3, 1) := by decide +kernel
theorem dX9_scores_198 : decode cX9_scores 198 = .ok (.ifCond .eq 29, 3) := by decide +kernel
theorem dX9_scores_201 : decode cX9_scores 201 = .ok (.aload_n 0, 1) := by decide +kernel
theorem dX9_scores_202 : decode cX9_scores 202 = .ok (.getfield 9, 3) := by decide +kernel
theorem dX9_scores_205 : decode cX9_scores 205 = .ok (.iload 4, 2) := by decide +kernel
theorem dX9_scores_207 : decode cX9_scores 207 = .ok (.iload 5, 2) := by decide +kernel
theorem dX9_scores_209 : decode cX9_scores 209 = .ok (.iload_n 2, 1) := by decide +kernel
theorem dX9_scores_210 : decode cX9_scores 210 = .ok (.iconst 4, 1) := by decide +kernel
theorem dX9_scores_211 : decode cX9_scores 211 = .ok (.if_icmp .ne 7, 3) := by decide +kernel
theorem dX9_scores_214 : decode cX9_scores 214 = .ok (.iconst 2, 1) := by decide +kernel
theorem dX9_scores_215 : decode cX9_scores 215 = .ok (.goto 4, 3) := by decide +kernel
theorem dX9_scores_218 : decode cX9_scores 218 = .ok (.iconst 3, 1) := by decide +kernel
theorem dX9_scores_219 : decode cX9_scores 219 = .ok (.invokestatic 65, 3) := by decide +kernel
theorem dX9_scores_222 : decode cX9_scores 222 = .ok (.dup2, 1) := by decide +kernel
theorem dX9_scores_223 : decode cX9_scores 223 = .ok (.iaload, 1) := by decide +kernel
theorem dX9_scores_224 : decode cX9_scores 224 = .ok (.iconst 1, 1) := by decide +kernel
theorem dX9_scores_225 : decode cX9_scores 225 = .ok (.iadd, 1) := by decide +kernel
theorem dX9_scores_226 : decode cX9_scores 226 = .ok (.iastore, 1) := by decide +kernel
theorem dX9_scores_227 : decode cX9_scores 227 = .ok (.aload_n 0, 1) := by decide +kernel
theorem dX9_scores_228 : decode cX9_scores 228 = .ok (.getfield 9, 3) := by decide +kernel
theorem dX9_scores_231 : decode cX9_scores 231 = .ok (.bipush 9, 2) := by decide +kernel
theorem dX9_scores_233 : decode cX9_scores 233 = .ok (.iaload, 1) := by decide +kernel
theorem dX9_scores_234 : decode cX9_scores 234 = .ok (.istore 9, 2) := by decide +kernel
theorem dX9_scores_236 : decode cX9_scores 236 = .ok (.aload_n 0, 1) := by decide +kernel
theorem dX9_scores_237 : decode cX9_scores 237 = .ok (.getfield 9, 3) := by decide +kernel
theorem dX9_scores_240 : decode cX9_scores 240 = .ok (.iload 4, 2) := by decide +kernel
theorem dX9_scores_242 : decode cX9_scores 242 = .ok (.iload 9, 2) := by decide +kernel
theorem dX9_scores_244 : decode cX9_scores 244 = .ok (.iconst 0, 1) := by decide +kernel
theorem dX9_scores_245 : decode cX9_scores 245 = .ok (.invokestatic 105, 3) := by decide +kernel
theorem dX9_scores_248 : decode cX9_scores 248 = .ok (.dup2, 1) := by decide +kernel
theorem dX9_scores_249 : decode cX9_scores 249 = .ok (.iaload, 1) := by decide +kernel
theorem dX9_scores_250 : decode cX9_scores 250 = .ok (.iload 8, 2) := by decide +kernel
theorem dX9_scores_252 : decode cX9_scores 252 = .ok (.iadd, 1) := by decide +kernel
theorem dX9_scores_253 : decode cX9_scores 253 = .ok (.iastore, 1) := by decide +kernel
theorem dX9_scores_254 : decode cX9_scores 254 = .ok (.aload_n 0, 1) := by decide +kernel
theorem dX9_scores_255 : decode cX9_scores 255 = .ok (.getfield 9, 3) := by decide +kernel
theorem dX9_scores_258 : decode cX9_scores 258 = .ok (.iload 4, 2) := by decide +kernel
theorem dX9_scores_260 : decode cX9_scores 260 = .ok (.iload 9, 2) := by decide +kernel
theorem dX9_scores_262 : decode cX9_scores 262 = .ok (.iconst 1, 1) := by decide +kernel
theorem dX9_scores_263 : decode cX9_scores 263 = .ok (.invokestatic 105, 3) := by decide +kernel
theorem dX9_scores_266 : decode cX9_scores 266 = .ok (.dup2, 1) := by decide +kernel
theorem dX9_scores_267 : decode cX9_scores 267 = .ok (.iaload, 1) := by decide +kernel
theorem dX9_scores_268 : decode cX9_scores 268 = .ok (.iload_n 1, 1) := by decide +kernel
theorem dX9_scores_269 : decode cX9_scores 269 = .ok (.iconst 3, 1) := by decide +kernel
theorem dX9_scores_270 : decode cX9_scores 270 = .ok (.if_icmp .ge 8, 3) := by decide +kernel
theorem dX9_scores_273 : decode cX9_scores 273 = .ok (.iload 6, 2) := by decide +kernel
theorem dX9_scores_275 : decode cX9_scores 275 = .ok (.goto 4, 3) := by decide +kernel
theorem dX9_scores_278 : decode cX9_scores 278 = .ok (.iconst 0, 1) := by decide +kernel
theorem dX9_scores_279 : decode cX9_scores 279 = .ok (.iadd, 1) := by decide +kernel
theorem dX9_scores_280 : decode cX9_scores 280 = .ok (.iastore, 1) := by decide +kernel
theorem dX9_scores_281 : decode cX9_scores 281 = .ok (.aload_n 0, 1) := by decide +kernel
theorem dX9_scores_282 : decode cX9_scores 282 = .ok (.getfield 9, 3) := by decide +kernel
theorem dX9_scores_285 : decode cX9_scores 285 = .ok (.bipush 11, 2) := by decide +kernel
theorem dX9_scores_287 : decode cX9_scores 287 = .ok (.dup2, 1) := by decide +kernel
theorem dX9_scores_288 : decode cX9_scores 288 = .ok (.iaload, 1) := by decide +kernel
theorem dX9_scores_289 : decode cX9_scores 289 = .ok (.iload_n 1, 1) := by decide +kernel
theorem dX9_scores_290 : decode cX9_scores 290 = .ok (.iconst 3, 1) := by decide +kernel
theorem dX9_scores_291 : decode cX9_scores 291 = .ok (.if_icmp .ge 8, 3) := by decide +kernel
theorem dX9_scores_294 : decode cX9_scores 294 = .ok (.iload 6, 2) := by decide +kernel
theorem dX9_scores_296 : decode cX9_scores 296 = .ok (.goto 4, 3) := by decide +kernel
theorem dX9_scores_299 : decode cX9_scores 299 = .ok (.iconst 0, 1) := by decide +kernel
theorem dX9_scores_300 : decode cX9_scores 300 = .ok (.iadd, 1) := by decide +kernel
theorem dX9_scores_301 : decode cX9_scores 301 = .ok (.iastore, 1) := by decide +kernel
theorem dX9_scores_302 : decode cX9_scores 302 = .ok (.iload 8, 2) := by decide +kernel
theorem dX9_scores_304 : decode cX9_scores 304 = .ok (.ifCond .ne 22, 3) := by decide +kernel
theorem dX9_scores_307 : decode cX9_scores 307 = .ok (.aload_n 0, 1) := by decide +kernel
theorem dX9_scores_308 : decode cX9_scores 308 = .ok (.getfield 9, 3) := by decide +kernel
theorem dX9_scores_311 : decode cX9_scores 311 = .ok (.iload 4, 2) := by decide +kernel
theorem dX9_scores_313 : decode cX9_scores 313 = .ok (.iload 9, 2) := by decide +kernel
theorem dX9_scores_315 : decode cX9_scores 315 = .ok (.iconst 3, 1) := by decide +kernel
theorem dX9_scores_316 : decode cX9_scores 316 = .ok (.iload_n 1, 1) := by decide +kernel
theorem dX9_scores_317 : decode cX9_scores 317 = .ok (.iadd, 1) := by decide +kernel
theorem dX9_scores_318 : decode cX9_scores 318 = .ok (.invokestatic 105, 3) := by decide +kernel
theorem dX9_scores_321 : decode cX9_scores 321 = .ok (.dup2, 1) := by decide +kernel
theorem dX9_scores_322 : decode cX9_scores 322 = .ok (.iaload, 1) := by decide +kernel
theorem dX9_scores_323 : decode cX9_scores 323 = .ok (.iconst 1, 1) := by decide +kernel
theorem dX9_scores_324 : decode cX9_scores 324 = .ok (.iadd, 1) := by decide +kernel
theorem dX9_scores_325 : decode cX9_scores 325 = .ok (.iastore, 1) := by decide +kernel
theorem dX9_scores_326 : decode cX9_scores 326 = .ok (.aload_n 0, 1) := by decide +kernel
theorem dX9_scores_327 : decode cX9_scores 327 = .ok (.getfield 9, 3) := by decide +kernel
theorem dX9_scores_330 : decode cX9_scores 330 = .ok (.bipush 10, 2) := by decide +kernel
theorem dX9_scores_332 : decode cX9_scores 332 = .ok (.dup2, 1) := by decide +kernel
theorem dX9_scores_333 : decode cX9_scores 333 = .ok (.iaload, 1) := by decide +kernel
theorem dX9_scores_334 : decode cX9_scores 334 = .ok (.iload 8, 2) := by decide +kernel
theorem dX9_scores_336 : decode cX9_scores 336 = .ok (.iadd, 1) := by decide +kernel
theorem dX9_scores_337 : decode cX9_scores 337 = .ok (.iastore, 1) := by decide +kernel
theorem dX9_scores_338 : decode cX9_scores 338 = .ok (.sipush 841, 3) := by decide +kernel
theorem dX9_scores_341 : decode cX9_scores 341 = .ok (.bipush 8, 2) := by decide +kernel
theorem dX9_scores_343 : decode cX9_scores 343 = .ok (.aload_n 0, 1) := by decide +kernel
theorem dX9_scores_344 : decode cX9_scores 344 = .ok (.getfield 9, 3) := by decide +kernel
theorem dX9_scores_347 : decode cX9_scores 347 = .ok (.bipush 22, 2) := by decide +kernel
theorem dX9_scores_349 : decode cX9_scores 349 = .ok (.iaload, 1) := by decide +kernel
theorem dX9_scores_350 : decode cX9_scores 350 = .ok (.iconst 1, 1) := by decide +kernel
theorem dX9_scores_351 : decode cX9_scores 351 = .ok (.isub, 1) := by decide +kernel
theorem dX9_scores_352 : decode cX9_scores 352 = .ok (.imul, 1) := by decide +kernel
theorem dX9_scores_353 : decode cX9_scores 353 = .ok (.iadd, 1) := by decide +kernel
theorem dX9_scores_354 : decode cX9_scores 354 = .ok (.istore 10, 2) := by decide +kernel
theorem dX9_scores_356 : decode cX9_scores 356 = .ok (.aload_n 0, 1) := by decide +kernel
theorem dX9_scores_357 : decode cX9_scores 357 = .ok (.getfield 9, 3) := by decide +kernel
theorem dX9_scores_360 : decode cX9_scores 360 = .ok (.iload 10, 2) := by decide +kernel
theorem dX9_scores_362 : decode cX9_scores 362 = .ok (.dup2, 1) := by decide +kernel
theorem dX9_scores_363 : decode cX9_scores 363 = .ok (.iaload, 1) := by decide +kernel
theorem dX9_scores_364 : decode cX9_scores 364 = .ok (.iload 6, 2) := by decide +kernel
theorem dX9_scores_366 : decode cX9_scores 366 = .ok (.iadd, 1) := by decide +kernel
theorem dX9_scores_367 : decode cX9_scores 367 = .ok (.iastore, 1) := by decide +kernel
theorem dX9_scores_368 : decode cX9_scores 368 = .ok (.aload_n 0, 1) := by decide +kernel
theorem dX9_scores_369 : decode cX9_scores 369 = .ok (.getfield 9, 3) := by decide +kernel
theorem dX9_scores_372 : decode cX9_scores 372 = .ok (.iload 10, 2) := by decide +kernel
theorem dX9_scores_374 : decode cX9_scores 374 = .ok (.iconst 1, 1) := by decide +kernel
theorem dX9_scores_375 : decode cX9_scores 375 = .ok (.iadd, 1) := by decide +kernel
theorem dX9_scores_376 : decode cX9_scores 376 = .ok (.dup2, 1) := by decide +kernel
theorem dX9_scores_377 : decode cX9_scores 377 = .ok (.iaload, 1) := by decide +kernel
theorem dX9_scores_378 : decode cX9_scores 378 = .ok (.iload 8, 2) := by decide +kernel
theorem dX9_scores_380 : decode cX9_scores 380 = .ok (.iadd, 1) := by decide +kernel
theorem dX9_scores_381 : decode cX9_scores 381 = .ok (.iastore, 1) := by decide +kernel
theorem dX9_scores_382 : decode cX9_scores 382 = .ok (.iload 7, 2) := by decide +kernel
theorem dX9_scores_384 : decode cX9_scores 384 = .ok (.ifCond .eq 34, 3) := by decide +kernel
theorem dX9_scores_387 : decode cX9_scores 387 = .ok (.aload_n 0, 1) := by decide +kernel
theorem dX9_scores_388 : decode cX9_scores 388 = .ok (.getfield 9, 3) := by decide +kernel
theorem dX9_scores_391 : decode cX9_scores 391 = .ok (.iload 10, 2) := by decide +kernel
theorem dX9_scores_393 : decode cX9_scores 393 = .ok (.aload_n 0, 1) := by decide +kernel
theorem dX9_scores_394 : decode cX9_scores 394 = .ok (.getfield 9, 3) := by decide +kernel
theorem dX9_scores_397 : decode cX9_scores 397 = .ok (.iload 10, 2) := by decide +kernel
theorem dX9_scores_399 : decode cX9_scores 399 = .ok (.iconst 2, 1) := by decide +kernel
theorem dX9_scores_400 : decode cX9_scores 400 = .ok (.iadd, 1) := by decide +kernel
theorem dX9_scores_401 : decode cX9_scores 401 = .ok (.iaload, 1) := by decide +kernel
theorem dX9_scores_402 : decode cX9_scores 402 = .ok (.iload 5, 2) := by decide +kernel
theorem dX9_scores_404 : decode cX9_scores 404 = .ok (.if_icmp .ne 7, 3) := by decide +kernel
theorem dX9_scores_407 : decode cX9_scores 407 = .ok (.iconst 4, 1) := by decide +kernel
theorem dX9_scores_408 : decode cX9_scores 408 = .ok (.goto 4, 3) := by decide +kernel
theorem dX9_scores_411 : decode cX9_scores 411 = .ok (.iconst 5, 1) := by decide +kernel
theorem dX9_scores_412 : decode cX9_scores 412 = .ok (.iadd, 1) := by decide +kernel
theorem dX9_scores_413 : decode cX9_scores 413 = .ok (.dup2, 1) := by decide +kernel
theorem dX9_scores_414 : decode cX9_scores 414 = .ok (.iaload, 1) := by decide +kernel
theorem dX9_scores_415 : decode cX9_scores 415 = .ok (.iload_n 2, 1) := by decide +kernel
theorem dX9_scores_416 : decode cX9_scores 416 = .ok (.iadd, 1) := by decide +kernel
theorem dX9_scores_417 : decode cX9_scores 417 = .ok (.iastore, 1) := by decide +kernel
theorem dX9_scores_418 : decode cX9_scores 418 = .ok (.aload_n 0, 1) := by decide +kernel
theorem dX9_scores_419 : decode cX9_scores 419 = .ok (.getfield 9, 3) := by decide +kernel
theorem dX9_scores_422 : decode cX9_scores 422 = .ok (.iload 10, 2) := by decide +kernel
theorem dX9_scores_424 : decode cX9_scores 424 = .ok (.bipush 6, 2) := by decide +kernel
theorem dX9_scores_426 : decode cX9_scores 426 = .ok (.iadd, 1) := by decide +kernel
theorem dX9_scores_427 : decode cX9_scores 427 = .ok (.dup2, 1) := by decide +kernel
theorem dX9_scores_428 : decode cX9_scores 428 = .ok (.iaload, 1) := by decide +kernel
theorem dX9_scores_429 : decode cX9_scores 429 = .ok (.iload 7, 2) := by decide +kernel
theorem dX9_scores_431 : decode cX9_scores 431 = .ok (.ifCond .eq 10, 3) := by decide +kernel
theorem dX9_scores_434 : decode cX9_scores 434 = .ok (.iload 6, 2) := by decide +kernel
theorem dX9_scores_436 : decode cX9_scores 436 = .ok (.iload_n 2, 1) := by decide +kernel
theorem dX9_scores_437 : decode cX9_scores 437 = .ok (.isub, 1) := by decide +kernel
theorem dX9_scores_438 : decode cX9_scores 438 = .ok (.goto 5, 3) := by decide +kernel
theorem dX9_scores_441 : decode cX9_scores 441 = .ok (.iload 6, 2) := by decide +kernel
theorem dX9_scores_443 : decode cX9_scores 443 = .ok (.iadd, 1) := by decide +kernel
theorem dX9_scores_444 : decode cX9_scores 444 = .ok (.iastore, 1) := by decide +kernel
theorem dX9_scores_445 : decode cX9_scores 445 = .ok (.iload 6, 2) := by decide +kernel
theorem dX9_scores_447 : decode cX9_scores 447 = .ok (.ireturn, 1) := by decide +kernel
theorem dX9_completes_0 : decode cX9_completes 0 = .ok (.aload_n 0, 1) := by decide +kernel
theorem dX9_completes_1 : decode cX9_completes 1 = .ok (.getfield 9, 3) := by decide +kernel
theorem dX9_completes_4 : decode cX9_completes 4 = .ok (.bipush 10, 2) := by decide +kernel
theorem dX9_completes_6 : decode cX9_completes 6 = .ok (.iaload, 1) := by decide +kernel
theorem dX9_completes_7 : decode cX9_completes 7 = .ok (.bipush 6, 2) := by decide +kernel
theorem dX9_completes_9 : decode cX9_completes 9 = .ok (.if_icmp .ge 4, 3) := by decide +kernel
theorem dX9_completes_12 : decode cX9_completes 12 = .ok (.return_, 1) := by decide +kernel
theorem dX9_completes_13 : decode cX9_completes 13 = .ok (.aload_n 0, 1) := by decide +kernel
theorem dX9_completes_14 : decode cX9_completes 14 = .ok (.getfield 9, 3) := by decide +kernel
theorem dX9_completes_17 : decode cX9_completes 17 = .ok (.iconst 4, 1) := by decide +kernel
theorem dX9_completes_18 : decode cX9_completes 18 = .ok (.iaload, 1) := by decide +kernel
theorem dX9_completes_19 : decode cX9_completes 19 = .ok (.istore_n 1, 1) := by decide +kernel
theorem dX9_completes_20 : decode cX9_completes 20 = .ok (.aload_n 0, 1) := by decide +kernel
theorem dX9_completes_21 : decode cX9_completes 21 = .ok (.getfield 9, 3) := by decide +kernel
theorem dX9_completes_24 : decode cX9_completes 24 = .ok (.bipush 9, 2) := by decide +kernel
theorem dX9_completes_26 : decode cX9_completes 26 = .ok (.iaload, 1) := by decide +kernel
theorem dX9_completes_27 : decode cX9_completes 27 = .ok (.istore_n 2, 1) := by decide +kernel
theorem dX9_completes_28 : decode cX9_completes 28 = .ok (.aload_n 0, 1) := by decide +kernel
theorem dX9_completes_29 : decode cX9_completes 29 = .ok (.getfield 9, 3) := by decide +kernel
theorem dX9_completes_32 : decode cX9_completes 32 = .ok (.sipush 761, 3) := by decide +kernel
theorem dX9_completes_35 : decode cX9_completes 35 = .ok (.bipush 20, 2) := by decide +kernel
theorem dX9_completes_37 : decode cX9_completes 37 = .ok (.iload_n 1, 1) := by decide +kernel
theorem dX9_completes_38 : decode cX9_completes 38 = .ok (.imul, 1) := by decide +kernel
theorem dX9_completes_39 : decode cX9_completes 39 = .ok (.iadd, 1) := by decide +kernel
theorem dX9_completes_40 : decode cX9_completes 40 = .ok (.aload_n 0, 1) := by decide +kernel
theorem dX9_completes_41 : decode cX9_completes 41 = .ok (.getfield 9, 3) := by decide +kernel
theorem dX9_completes_44 : decode cX9_completes 44 = .ok (.iload_n 1, 1) := by decide +kernel
theorem dX9_completes_45 : decode cX9_completes 45 = .ok (.bipush 8, 2) := by decide +kernel
theorem dX9_completes_47 : decode cX9_completes 47 = .ok (.invokestatic 62, 3) := by decide +kernel
theorem dX9_completes_50 : decode cX9_completes 50 = .ok (.iaload, 1) := by decide +kernel
theorem dX9_completes_51 : decode cX9_completes 51 = .ok (.iadd, 1) := by decide +kernel
theorem dX9_completes_52 : decode cX9_completes 52 = .ok (.aload_n 0, 1) := by decide +kernel
theorem dX9_completes_53 : decode cX9_completes 53 = .ok (.getfield 9, 3) := by decide +kernel
theorem dX9_completes_56 : decode cX9_completes 56 = .ok (.iload_n 1, 1) := by decide +kernel
theorem dX9_completes_57 : decode cX9_completes 57 = .ok (.iconst 0, 1) := by decide +kernel
theorem dX9_completes_58 : decode cX9_completes 58 = .ok (.invokestatic 62, 3) := by decide +kernel
theorem dX9_completes_61 : decode cX9_completes 61 = .ok (.iaload, 1) := by decide +kernel
theorem dX9_completes_62 : decode cX9_completes 62 = .ok (.iastore, 1) := by decide +kernel
theorem dX9_completes_63 : decode cX9_completes 63 = .ok (.aload_n 0, 1) := by decide +kernel
theorem dX9_completes_64 : decode cX9_completes 64 = .ok (.getfield 9, 3) := by decide +kernel
theorem dX9_completes_67 : decode cX9_completes 67 = .ok (.iload_n 1, 1) := by decide +kernel
theorem dX9_completes_68 : decode cX9_completes 68 = .ok (.bipush 8, 2) := by decide +kernel
theorem dX9_completes_70 : decode cX9_completes 70 = .ok (.invokestatic 62, 3) := by decide +kernel
theorem dX9_completes_73 : decode cX9_completes 73 = .ok (.dup2, 1) := by decide +kernel
theorem dX9_completes_74 : decode cX9_completes 74 = .ok (.iaload, 1) := by decide +kernel
theorem dX9_completes_75 : decode cX9_completes 75 = .ok (.iconst 1, 1) := by decide +kernel
theorem dX9_completes_76 : decode cX9_completes 76 = .ok (.iadd, 1) := by decide +kernel
theorem dX9_completes_77 : decode cX9_completes 77 = .ok (.iastore, 1) := by decide +kernel
theorem dX9_completes_78 : decode cX9_completes 78 = .ok (.aload_n 0, 1) := by decide +kernel
theorem dX9_completes_79 : decode cX9_completes 79 = .ok (.getfield 9, 3) := by decide +kernel
theorem dX9_completes_82 : decode cX9_completes 82 = .ok (.iload_n 1, 1) := by decide +kernel
theorem dX9_completes_83 : decode cX9_completes 83 = .ok (.iload_n 2, 1) := by decide +kernel
theorem dX9_completes_84 : decode cX9_completes 84 = .ok (.bipush 6, 2) := by decide +kernel
theorem dX9_completes_86 : decode cX9_completes 86 = .ok (.invokestatic 105, 3) := by decide +kernel
theorem dX9_completes_89 : decode cX9_completes 89 = .ok (.dup2, 1) := by decide +kernel
theorem dX9_completes_90 : decode cX9_completes 90 = .ok (.iaload, 1) := by decide +kernel
theorem dX9_completes_91 : decode cX9_completes 91 = .ok (.iconst 1, 1) := by decide +kernel
theorem dX9_completes_92 : decode cX9_completes 92 = .ok (.iadd, 1) := by decide +kernel
theorem dX9_completes_93 : decode cX9_completes 93 = .ok (.iastore, 1) := by decide +kernel
theorem dX9_completes_94 : decode cX9_completes 94 = .ok (.aload_n 0, 1) := by decide +kernel
theorem dX9_completes_95 : decode cX9_completes 95 = .ok (.getfield 9, 3) := by decide +kernel
theorem dX9_completes_98 : decode cX9_completes 98 = .ok (.iload_n 1, 1) := by decide +kernel
theorem dX9_completes_99 : decode cX9_completes 99 = .ok (.iload_n 2, 1) := by decide +kernel
theorem dX9_completes_100 : decode cX9_completes 100 = .ok (.iconst 3, 1) := by decide +kernel
theorem dX9_completes_101 : decode cX9_completes 101 = .ok (.invokestatic 105, 3) := by decide +kernel
theorem dX9_completes_104 : decode cX9_completes 104 = .ok (.dup2, 1) := by decide +kernel
theorem dX9_completes_105 : decode cX9_completes 105 = .ok (.iaload, 1) := by decide +kernel
theorem dX9_completes_106 : decode cX9_completes 106 = .ok (.aload_n 0, 1) := by decide +kernel
theorem dX9_completes_107 : decode cX9_completes 107 = .ok (.getfield 9, 3) := by decide +kernel
theorem dX9_completes_110 : decode cX9_completes 110 = .ok (.bipush 11, 2) := by decide +kernel
theorem dX9_completes_112 : decode cX9_completes 112 = .ok (.iaload, 1) := by decide +kernel
theorem dX9_completes_113 : decode cX9_completes 113 = .ok (.ifCond .ne 7, 3) := by decide +kernel
theorem dX9_completes_116 : decode cX9_completes 116 = .ok (.iconst 1, 1) := by decide +kernel
theorem dX9_completes_117 : decode cX9_completes 117 = .ok (.goto 4, 3) := by decide +kernel
theorem dX9_completes_120 : decode cX9_completes 120 = .ok (.iconst 0, 1) := by decide +kernel
theorem dX9_completes_121 : decode cX9_completes 121 = .ok (.iadd, 1) := by decide +kernel
theorem dX9_completes_122 : decode cX9_completes 122 = .ok (.iastore, 1) := by decide +kernel
theorem dX9_completes_123 : decode cX9_completes 123 = .ok (.aload_n 0, 1) := by decide +kernel
theorem dX9_completes_124 : decode cX9_completes 124 = .ok (.getfield 9, 3) := by decide +kernel
theorem dX9_completes_127 : decode cX9_completes 127 = .ok (.iload_n 1, 1) := by decide +kernel
theorem dX9_completes_128 : decode cX9_completes 128 = .ok (.bipush 10, 2) := by decide +kernel
theorem dX9_completes_130 : decode cX9_completes 130 = .ok (.invokestatic 62, 3) := by decide +kernel
theorem dX9_completes_133 : decode cX9_completes 133 = .ok (.iconst 0, 1) := by decide +kernel
theorem dX9_completes_134 : decode cX9_completes 134 = .ok (.iastore, 1) := by decide +kernel
theorem dX9_completes_135 : decode cX9_completes 135 = .ok (.aload_n 0, 1) := by decide +kernel
theorem dX9_completes_136 : decode cX9_completes 136 = .ok (.getfield 9, 3) := by decide +kernel
theorem dX9_completes_139 : decode cX9_completes 139 = .ok (.bipush 12, 2) := by decide +kernel
theorem dX9_completes_141 : decode cX9_completes 141 = .ok (.iload_n 2, 1) := by decide +kernel
theorem dX9_completes_142 : decode cX9_completes 142 = .ok (.iastore, 1) := by decide +kernel
theorem dX9_completes_143 : decode cX9_completes 143 = .ok (.aload_n 0, 1) := by decide +kernel
theorem dX9_completes_144 : decode cX9_completes 144 = .ok (.getfield 9, 3) := by decide +kernel
theorem dX9_completes_147 : decode cX9_completes 147 = .ok (.bipush 9, 2) := by decide +kernel
theorem dX9_completes_149 : decode cX9_completes 149 = .ok (.iconst (-1), 1) := by decide +kernel
theorem dX9_completes_150 : decode cX9_completes 150 = .ok (.iastore, 1) := by decide +kernel
theorem dX9_completes_151 : decode cX9_completes 151 = .ok (.aload_n 0, 1) := by decide +kernel
theorem dX9_completes_152 : decode cX9_completes 152 = .ok (.getfield 9, 3) := by decide +kernel
theorem dX9_completes_155 : decode cX9_completes 155 = .ok (.bipush 10, 2) := by decide +kernel
theorem dX9_completes_157 : decode cX9_completes 157 = .ok (.iconst 0, 1) := by decide +kernel
theorem dX9_completes_158 : decode cX9_completes 158 = .ok (.iastore, 1) := by decide +kernel
theorem dX9_completes_159 : decode cX9_completes 159 = .ok (.aload_n 0, 1) := by decide +kernel
theorem dX9_completes_160 : decode cX9_completes 160 = .ok (.getfield 9, 3) := by decide +kernel
theorem dX9_completes_163 : decode cX9_completes 163 = .ok (.bipush 11, 2) := by decide +kernel
theorem dX9_completes_165 : decode cX9_completes 165 = .ok (.iconst 0, 1) := by decide +kernel
theorem dX9_completes_166 : decode cX9_completes 166 = .ok (.iastore, 1) := by decide +kernel
theorem dX9_completes_167 : decode cX9_completes 167 = .ok (.aload_n 0, 1) := by decide +kernel
theorem dX9_completes_168 : decode cX9_completes 168 = .ok (.invokevirtual 149, 3) := by decide +kernel
theorem dX9_completes_171 : decode cX9_completes 171 = .ok (.return_, 1) := by decide +kernel
theorem dX9_bowled_0 : decode cX9_bowled 0 = .ok (.aload_n 0, 1) := by decide +kernel
theorem dX9_bowled_1 : decode cX9_bowled 1 = .ok (.iload_n 1, 1) := by decide +kernel
theorem dX9_bowled_2 : decode cX9_bowled 2 = .ok (.iload_n 2, 1) := by decide +kernel
theorem dX9_bowled_3 : decode cX9_bowled 3 = .ok (.iload_n 3, 1) := by decide +kernel
theorem dX9_bowled_4 : decode cX9_bowled 4 = .ok (.invokevirtual 152, 3) := by decide +kernel
theorem dX9_bowled_7 : decode cX9_bowled 7 = .ok (.istore 4, 2) := by decide +kernel
theorem dX9_bowled_9 : decode cX9_bowled 9 = .ok (.iload_n 3, 1) := by decide +kernel
theorem dX9_bowled_10 : decode cX9_bowled 10 = .ok (.ifCond .ne 14, 3) := by decide +kernel
theorem dX9_bowled_13 : decode cX9_bowled 13 = .ok (.iload_n 2, 1) := by decide +kernel
theorem dX9_bowled_14 : decode cX9_bowled 14 = .ok (.iconst 2, 1) := by decide +kernel
theorem dX9_bowled_15 : decode cX9_bowled 15 = .ok (.irem, 1) := by decide +kernel
theorem dX9_bowled_16 : decode cX9_bowled 16 = .ok (.iconst 1, 1) := by decide +kernel
theorem dX9_bowled_17 : decode cX9_bowled 17 = .ok (.if_icmp .ne 7, 3) := by decide +kernel
theorem dX9_bowled_20 : decode cX9_bowled 20 = .ok (.aload_n 0, 1) := by decide +kernel
theorem dX9_bowled_21 : decode cX9_bowled 21 = .ok (.invokevirtual 149, 3) := by decide +kernel
theorem dX9_bowled_24 : decode cX9_bowled 24 = .ok (.aload_n 0, 1) := by decide +kernel
theorem dX9_bowled_25 : decode cX9_bowled 25 = .ok (.invokevirtual 155, 3) := by decide +kernel
theorem dX9_bowled_28 : decode cX9_bowled 28 = .ok (.aload_n 0, 1) := by decide +kernel
theorem dX9_bowled_29 : decode cX9_bowled 29 = .ok (.iconst 0, 1) := by decide +kernel
theorem dX9_bowled_30 : decode cX9_bowled 30 = .ok (.iconst 0, 1) := by decide +kernel
theorem dX9_bowled_31 : decode cX9_bowled 31 = .ok (.invokevirtual 139, 3) := by decide +kernel
theorem dX9_bowled_34 : decode cX9_bowled 34 = .ok (.iload 4, 2) := by decide +kernel
theorem dX9_bowled_36 : decode cX9_bowled 36 = .ok (.ireturn, 1) := by decide +kernel
theorem dX9_leaves_0 : decode cX9_leaves 0 = .ok (.aload_n 0, 1) := by decide +kernel
theorem dX9_leaves_1 : decode cX9_leaves 1 = .ok (.getfield 9, 3) := by decide +kernel
theorem dX9_leaves_4 : decode cX9_leaves 4 = .ok (.iconst 4, 1) := by decide +kernel
theorem dX9_leaves_5 : decode cX9_leaves 5 = .ok (.iaload, 1) := by decide +kernel
theorem dX9_leaves_6 : decode cX9_leaves 6 = .ok (.istore 4, 2) := by decide +kernel
theorem dX9_leaves_8 : decode cX9_leaves 8 = .ok (.aload_n 0, 1) := by decide +kernel
theorem dX9_leaves_9 : decode cX9_leaves 9 = .ok (.getfield 9, 3) := by decide +kernel
theorem dX9_leaves_12 : decode cX9_leaves 12 = .ok (.iload 4, 2) := by decide +kernel
theorem dX9_leaves_14 : decode cX9_leaves 14 = .ok (.iload_n 1, 1) := by decide +kernel
theorem dX9_leaves_15 : decode cX9_leaves 15 = .ok (.iconst 4, 1) := by decide +kernel
theorem dX9_leaves_16 : decode cX9_leaves 16 = .ok (.invokestatic 65, 3) := by decide +kernel
theorem dX9_leaves_19 : decode cX9_leaves 19 = .ok (.iload_n 3, 1) := by decide +kernel
theorem dX9_leaves_20 : decode cX9_leaves 20 = .ok (.iastore, 1) := by decide +kernel
theorem dX9_leaves_21 : decode cX9_leaves 21 = .ok (.aload_n 0, 1) := by decide +kernel
theorem dX9_leaves_22 : decode cX9_leaves 22 = .ok (.getfield 9, 3) := by decide +kernel
theorem dX9_leaves_25 : decode cX9_leaves 25 = .ok (.sipush 841, 3) := by decide +kernel
theorem dX9_leaves_28 : decode cX9_leaves 28 = .ok (.bipush 8, 2) := by decide +kernel
theorem dX9_leaves_30 : decode cX9_leaves 30 = .ok (.aload_n 0, 1) := by decide +kernel
theorem dX9_leaves_31 : decode cX9_leaves 31 = .ok (.getfield 9, 3) := by decide +kernel
theorem dX9_leaves_34 : decode cX9_leaves 34 = .ok (.bipush 22, 2) := by decide +kernel
theorem dX9_leaves_36 : decode cX9_leaves 36 = .ok (.iaload, 1) := by decide +kernel
theorem dX9_leaves_37 : decode cX9_leaves 37 = .ok (.iconst 1, 1) := by decide +kernel
theorem dX9_leaves_38 : decode cX9_leaves 38 = .ok (.isub, 1) := by decide +kernel
theorem dX9_leaves_39 : decode cX9_leaves 39 = .ok (.imul, 1) := by decide +kernel
theorem dX9_leaves_40 : decode cX9_leaves 40 = .ok (.iadd, 1) := by decide +kernel
theorem dX9_leaves_41 : decode cX9_leaves 41 = .ok (.bipush 7, 2) := by decide +kernel
theorem dX9_leaves_43 : decode cX9_leaves 43 = .ok (.iadd, 1) := by decide +kernel
theorem dX9_leaves_44 : decode cX9_leaves 44 = .ok (.iconst 0, 1) := by decide +kernel
theorem dX9_leaves_45 : decode cX9_leaves 45 = .ok (.iastore, 1) := by decide +kernel
theorem dX9_leaves_46 : decode cX9_leaves 46 = .ok (.iload_n 2, 1) := by decide +kernel
theorem dX9_leaves_47 : decode cX9_leaves 47 = .ok (.ifCond .ge 4, 3) := by decide +kernel
theorem dX9_leaves_50 : decode cX9_leaves 50 = .ok (.return_, 1) := by decide +kernel
theorem dX9_leaves_51 : decode cX9_leaves 51 = .ok (.aload_n 0, 1) := by decide +kernel
theorem dX9_leaves_52 : decode cX9_leaves 52 = .ok (.getfield 9, 3) := by decide +kernel
theorem dX9_leaves_55 : decode cX9_leaves 55 = .ok (.bipush 6, 2) := by decide +kernel
theorem dX9_leaves_57 : decode cX9_leaves 57 = .ok (.iaload, 1) := by decide +kernel
theorem dX9_leaves_58 : decode cX9_leaves 58 = .ok (.iload_n 1, 1) := by decide +kernel
theorem dX9_leaves_59 : decode cX9_leaves 59 = .ok (.if_icmp .ne 14, 3) := by decide +kernel
theorem dX9_leaves_62 : decode cX9_leaves 62 = .ok (.aload_n 0, 1) := by decide +kernel
theorem dX9_leaves_63 : decode cX9_leaves 63 = .ok (.getfield 9, 3) := by decide +kernel
theorem dX9_leaves_66 : decode cX9_leaves 66 = .ok (.bipush 6, 2) := by decide +kernel
theorem dX9_leaves_68 : decode cX9_leaves 68 = .ok (.iload_n 2, 1) := by decide +kernel
theorem dX9_leaves_69 : decode cX9_leaves 69 = .ok (.iastore, 1) := by decide +kernel
theorem dX9_leaves_70 : decode cX9_leaves 70 = .ok (.goto 11, 3) := by decide +kernel
theorem dX9_leaves_73 : decode cX9_leaves 73 = .ok (.aload_n 0, 1) := by decide +kernel
theorem dX9_leaves_74 : decode cX9_leaves 74 = .ok (.getfield 9, 3) := by decide +kernel
theorem dX9_leaves_77 : decode cX9_leaves 77 = .ok (.bipush 7, 2) := by decide +kernel
theorem dX9_leaves_79 : decode cX9_leaves 79 = .ok (.iload_n 2, 1) := by decide +kernel
theorem dX9_leaves_80 : decode cX9_leaves 80 = .ok (.iastore, 1) := by decide +kernel
theorem dX9_leaves_81 : decode cX9_leaves 81 = .ok (.aload_n 0, 1) := by decide +kernel
theorem dX9_leaves_82 : decode cX9_leaves 82 = .ok (.getfield 9, 3) := by decide +kernel
theorem dX9_leaves_85 : decode cX9_leaves 85 = .ok (.iload 4, 2) := by decide +kernel
theorem dX9_leaves_87 : decode cX9_leaves 87 = .ok (.iload_n 2, 1) := by decide +kernel
theorem dX9_leaves_88 : decode cX9_leaves 88 = .ok (.iconst 4, 1) := by decide +kernel
theorem dX9_leaves_89 : decode cX9_leaves 89 = .ok (.invokestatic 65, 3) := by decide +kernel
theorem dX9_leaves_92 : decode cX9_leaves 92 = .ok (.iconst (-1), 1) := by decide +kernel
theorem dX9_leaves_93 : decode cX9_leaves 93 = .ok (.iastore, 1) := by decide +kernel
theorem dX9_leaves_94 : decode cX9_leaves 94 = .ok (.aload_n 0, 1) := by decide +kernel
theorem dX9_leaves_95 : decode cX9_leaves 95 = .ok (.getfield 9, 3) := by decide +kernel
theorem dX9_leaves_98 : decode cX9_leaves 98 = .ok (.bipush 8, 2) := by decide +kernel
theorem dX9_leaves_100 : decode cX9_leaves 100 = .ok (.iconst (-1), 1) := by decide +kernel
theorem dX9_leaves_101 : decode cX9_leaves 101 = .ok (.iastore, 1) := by decide +kernel
theorem dX9_leaves_102 : decode cX9_leaves 102 = .ok (.aload_n 0, 1) := by decide +kernel
theorem dX9_leaves_103 : decode cX9_leaves 103 = .ok (.invokevirtual 69, 3) := by decide +kernel
theorem dX9_leaves_106 : decode cX9_leaves 106 = .ok (.return_, 1) := by decide +kernel
theorem dX9_falls_0 : decode cX9_falls 0 = .ok (.aload_n 0, 1) := by decide +kernel
theorem dX9_falls_1 : decode cX9_falls 1 = .ok (.getfield 9, 3) := by decide +kernel
theorem dX9_falls_4 : decode cX9_falls 4 = .ok (.iconst 4, 1) := by decide +kernel
theorem dX9_falls_5 : decode cX9_falls 5 = .ok (.iaload, 1) := by decide +kernel
theorem dX9_falls_6 : decode cX9_falls 6 = .ok (.istore 6, 2) := by decide +kernel
theorem dX9_falls_8 : decode cX9_falls 8 = .ok (.aload_n 0, 1) := by decide +kernel
theorem dX9_falls_9 : decode cX9_falls 9 = .ok (.invokevirtual 136, 3) := by decide +kernel
theorem dX9_falls_12 : decode cX9_falls 12 = .ok (.istore 7, 2) := by decide +kernel
theorem dX9_falls_14 : decode cX9_falls 14 = .ok (.iload_n 3, 1) := by decide +kernel
theorem dX9_falls_15 : decode cX9_falls 15 = .ok (.ifCond .eq 13, 3) := by decide +kernel
theorem dX9_falls_18 : decode cX9_falls 18 = .ok (.aload_n 0, 1) := by decide +kernel
theorem dX9_falls_19 : decode cX9_falls 19 = .ok (.getfield 9, 3) := by decide +kernel
theorem dX9_falls_22 : decode cX9_falls 22 = .ok (.bipush 7, 2) := by decide +kernel
theorem dX9_falls_24 : decode cX9_falls 24 = .ok (.iaload, 1) := by decide +kernel
theorem dX9_falls_25 : decode cX9_falls 25 = .ok (.goto 10, 3) := by decide +kernel
theorem dX9_falls_28 : decode cX9_falls 28 = .ok (.aload_n 0, 1) := by decide +kernel
theorem dX9_falls_29 : decode cX9_falls 29 = .ok (.getfield 9, 3) := by decide +kernel
theorem dX9_falls_32 : decode cX9_falls 32 = .ok (.bipush 6, 2) := by decide +kernel
theorem dX9_falls_34 : decode cX9_falls 34 = .ok (.iaload, 1) := by decide +kernel
theorem dX9_falls_35 : decode cX9_falls 35 = .ok (.istore 8, 2) := by decide +kernel
theorem dX9_falls_37 : decode cX9_falls 37 = .ok (.aload_n 0, 1) := by decide +kernel
theorem dX9_falls_38 : decode cX9_falls 38 = .ok (.iload_n 2, 1) := by decide +kernel
theorem dX9_falls_39 : decode cX9_falls 39 = .ok (.iload 4, 2) := by decide +kernel
theorem dX9_falls_41 : decode cX9_falls 41 = .ok (.iconst 0, 1) := by decide +kernel
theorem dX9_falls_42 : decode cX9_falls 42 = .ok (.invokevirtual 152, 3) := by decide +kernel
theorem dX9_falls_45 : decode cX9_falls 45 = .ok (.pop, 1) := by decide +kernel
theorem dX9_falls_46 : decode cX9_falls 46 = .ok (.iload 4, 2) := by decide +kernel
theorem dX9_falls_48 : decode cX9_falls 48 = .ok (.iconst 2, 1) := by decide +kernel
theorem dX9_falls_49 : decode cX9_falls 49 = .ok (.irem, 1) := by decide +kernel
theorem dX9_falls_50 : decode cX9_falls 50 = .ok (.iconst 1, 1) := by decide +kernel
theorem dX9_falls_51 : decode cX9_falls 51 = .ok (.if_icmp .ne 7, 3) := by decide +kernel
theorem dX9_falls_54 : decode cX9_falls 54 = .ok (.aload_n 0, 1) := by decide +kernel
theorem dX9_falls_55 : decode cX9_falls 55 = .ok (.invokevirtual 149, 3) := by decide +kernel
theorem dX9_falls_58 : decode cX9_falls 58 = .ok (.iload 5, 2) := by decide +kernel
theorem dX9_falls_60 : decode cX9_falls 60 = .ok (.ifCond .eq 7, 3) := by decide +kernel
theorem dX9_falls_63 : decode cX9_falls 63 = .ok (.aload_n 0, 1) := by decide +kernel
theorem dX9_falls_64 : decode cX9_falls 64 = .ok (.invokevirtual 149, 3) := by decide +kernel
theorem dX9_falls_67 : decode cX9_falls 67 = .ok (.sipush 641, 3) := by decide +kernel
theorem dX9_falls_70 : decode cX9_falls 70 = .ok (.bipush 30, 2) := by decide +kernel
theorem dX9_falls_72 : decode cX9_falls 72 = .ok (.iload 6, 2) := by decide +kernel
theorem dX9_falls_74 : decode cX9_falls 74 = .ok (.imul, 1) := by decide +kernel
theorem dX9_falls_75 : decode cX9_falls 75 = .ok (.iadd, 1) := by decide +kernel
theorem dX9_falls_76 : decode cX9_falls 76 = .ok (.iconst 3, 1) := by decide +kernel
theorem dX9_falls_77 : decode cX9_falls 77 = .ok (.aload_n 0, 1) := by decide +kernel
theorem dX9_falls_78 : decode cX9_falls 78 = .ok (.getfield 9, 3) := by decide +kernel
theorem dX9_falls_81 : decode cX9_falls 81 = .ok (.iload 6, 2) := by decide +kernel
theorem dX9_falls_83 : decode cX9_falls 83 = .ok (.iconst 1, 1) := by decide +kernel
theorem dX9_falls_84 : decode cX9_falls 84 = .ok (.invokestatic 62, 3) := by decide +kernel
theorem dX9_falls_87 : decode cX9_falls 87 = .ok (.iaload, 1) := by decide +kernel
theorem dX9_falls_88 : decode cX9_falls 88 = .ok (.imul, 1) := by decide +kernel
theorem dX9_falls_89 : decode cX9_falls 89 = .ok (.iadd, 1) := by decide +kernel
theorem dX9_falls_90 : decode cX9_falls 90 = .ok (.istore 9, 2) := by decide +kernel
theorem dX9_falls_92 : decode cX9_falls 92 = .ok (.aload_n 0, 1) := by decide +kernel
theorem dX9_falls_93 : decode cX9_falls 93 = .ok (.getfield 9, 3) := by decide +kernel
theorem dX9_falls_96 : decode cX9_falls 96 = .ok (.iload 9, 2) := by decide +kernel
theorem dX9_falls_98 : decode cX9_falls 98 = .ok (.iload 8, 2) := by decide +kernel
theorem dX9_falls_100 : decode cX9_falls 100 = .ok (.iastore, 1) := by decide +kernel
theorem dX9_falls_101 : decode cX9_falls 101 = .ok (.aload_n 0, 1) := by decide +kernel
theorem dX9_falls_102 : decode cX9_falls 102 = .ok (.getfield 9, 3) := by decide +kernel
theorem dX9_falls_105 : decode cX9_falls 105 = .ok (.iload 9, 2) := by decide +kernel
theorem dX9_falls_107 : decode cX9_falls 107 = .ok (.iconst 1, 1) := by decide +kernel
theorem dX9_falls_108 : decode cX9_falls 108 = .ok (.iadd, 1) := by decide +kernel
theorem dX9_falls_109 : decode cX9_falls 109 = .ok (.aload_n 0, 1) := by decide +kernel
theorem dX9_falls_110 : decode cX9_falls 110 = .ok (.getfield 9, 3) := by decide +kernel
theorem dX9_falls_113 : decode cX9_falls 113 = .ok (.iload 6, 2) := by decide +kernel
theorem dX9_falls_115 : decode cX9_falls 115 = .ok (.iconst 0, 1) := by decide +kernel
theorem dX9_falls_116 : decode cX9_falls 116 = .ok (.invokestatic 62, 3) := by decide +kernel
theorem dX9_falls_119 : decode cX9_falls 119 = .ok (.iaload, 1) := by decide +kernel
theorem dX9_falls_120 : decode cX9_falls 120 = .ok (.iastore, 1) := by decide +kernel
theorem dX9_falls_121 : decode cX9_falls 121 = .ok (.aload_n 0, 1) := by decide +kernel
theorem dX9_falls_122 : decode cX9_falls 122 = .ok (.getfield 9, 3) := by decide +kernel
theorem dX9_falls_125 : decode cX9_falls 125 = .ok (.iload 9, 2) := by decide +kernel
theorem dX9_falls_127 : decode cX9_falls 127 = .ok (.iconst 2, 1) := by decide +kernel
theorem dX9_falls_128 : decode cX9_falls 128 = .ok (.iadd, 1) := by decide +kernel
theorem dX9_falls_129 : decode cX9_falls 129 = .ok (.aload_n 0, 1) := by decide +kernel
theorem dX9_falls_130 : decode cX9_falls 130 = .ok (.getfield 9, 3) := by decide +kernel
theorem dX9_falls_133 : decode cX9_falls 133 = .ok (.iload 6, 2) := by decide +kernel
theorem dX9_falls_135 : decode cX9_falls 135 = .ok (.iconst 2, 1) := by decide +kernel
theorem dX9_falls_136 : decode cX9_falls 136 = .ok (.invokestatic 62, 3) := by decide +kernel
theorem dX9_falls_139 : decode cX9_falls 139 = .ok (.iaload, 1) := by decide +kernel
theorem dX9_falls_140 : decode cX9_falls 140 = .ok (.iastore, 1) := by decide +kernel
theorem dX9_falls_141 : decode cX9_falls 141 = .ok (.aload_n 0, 1) := by decide +kernel
theorem dX9_falls_142 : decode cX9_falls 142 = .ok (.getfield 9, 3) := by decide +kernel
theorem dX9_falls_145 : decode cX9_falls 145 = .ok (.iload 6, 2) := by decide +kernel
theorem dX9_falls_147 : decode cX9_falls 147 = .ok (.iconst 1, 1) := by decide +kernel
theorem dX9_falls_148 : decode cX9_falls 148 = .ok (.invokestatic 62, 3) := by decide +kernel
theorem dX9_falls_151 : decode cX9_falls 151 = .ok (.dup2, 1) := by decide +kernel
theorem dX9_falls_152 : decode cX9_falls 152 = .ok (.iaload, 1) := by decide +kernel
theorem dX9_falls_153 : decode cX9_falls 153 = .ok (.iconst 1, 1) := by decide +kernel
theorem dX9_falls_154 : decode cX9_falls 154 = .ok (.iadd, 1) := by decide +kernel
theorem dX9_falls_155 : decode cX9_falls 155 = .ok (.iastore, 1) := by decide +kernel
theorem dX9_falls_156 : decode cX9_falls 156 = .ok (.aload_n 0, 1) := by decide +kernel
theorem dX9_falls_157 : decode cX9_falls 157 = .ok (.getfield 9, 3) := by decide +kernel
theorem dX9_falls_160 : decode cX9_falls 160 = .ok (.iload 6, 2) := by decide +kernel
theorem dX9_falls_162 : decode cX9_falls 162 = .ok (.iconst 1, 1) := by decide +kernel
theorem dX9_falls_163 : decode cX9_falls 163 = .ok (.invokestatic 62, 3) := by decide +kernel
theorem dX9_falls_166 : decode cX9_falls 166 = .ok (.iaload, 1) := by decide +kernel
theorem dX9_falls_167 : decode cX9_falls 167 = .ok (.istore 10, 2) := by decide +kernel
theorem dX9_falls_169 : decode cX9_falls 169 = .ok (.iload_n 1, 1) := by decide +kernel
theorem dX9_falls_170 : decode cX9_falls 170 = .ok (.iconst 5, 1) := by decide +kernel
theorem dX9_falls_171 : decode cX9_falls 171 = .ok (.if_icmp .eq 45, 3) := by decide +kernel
theorem dX9_falls_174 : decode cX9_falls 174 = .ok (.aload_n 0, 1) := by decide +kernel
theorem dX9_falls_175 : decode cX9_falls 175 = .ok (.getfield 9, 3) := by decide +kernel
theorem dX9_falls_178 : decode cX9_falls 178 = .ok (.iload 6, 2) := by decide +kernel
theorem dX9_falls_180 : decode cX9_falls 180 = .ok (.iload 8, 2) := by decide +kernel
theorem dX9_falls_182 : decode cX9_falls 182 = .ok (.iconst 5, 1) := by decide +kernel
theorem dX9_falls_183 : decode cX9_falls 183 = .ok (.invokestatic 65, 3) := by decide +kernel
theorem dX9_falls_186 : decode cX9_falls 186 = .ok (.aload_n 0, 1) := by decide +kernel
theorem dX9_falls_187 : decode cX9_falls 187 = .ok (.getfield 9, 3) := by decide +kernel
theorem dX9_falls_190 : decode cX9_falls 190 = .ok (.bipush 9, 2) := by decide +kernel
theorem dX9_falls_192 : decode cX9_falls 192 = .ok (.iaload, 1) := by decide +kernel
theorem dX9_falls_193 : decode cX9_falls 193 = .ok (.iastore, 1) := by decide +kernel
theorem dX9_falls_194 : decode cX9_falls 194 = .ok (.aload_n 0, 1) := by decide +kernel
theorem dX9_falls_195 : decode cX9_falls 195 = .ok (.getfield 9, 3) := by decide +kernel
theorem dX9_falls_198 : decode cX9_falls 198 = .ok (.iload 6, 2) := by decide +kernel
theorem dX9_falls_200 : decode cX9_falls 200 = .ok (.aload_n 0, 1) := by decide +kernel
theorem dX9_falls_201 : decode cX9_falls 201 = .ok (.getfield 9, 3) := by decide +kernel
theorem dX9_falls_204 : decode cX9_falls 204 = .ok (.bipush 9, 2) := by decide +kernel
theorem dX9_falls_206 : decode cX9_falls 206 = .ok (.iaload, 1) := by decide +kernel
theorem dX9_falls_207 : decode cX9_falls 207 = .ok (.iconst 2, 1) := by decide +kernel
theorem dX9_falls_208 : decode cX9_falls 208 = .ok (.invokestatic 105, 3) := by decide +kernel
theorem dX9_falls_211 : decode cX9_falls 211 = .ok (.dup2, 1) := by decide +kernel
theorem dX9_falls_212 : decode cX9_falls 212 = .ok (.iaload, 1) := by decide +kernel
theorem dX9_falls_213 : decode cX9_falls 213 = .ok (.iconst 1, 1) := by decide +kernel
theorem dX9_falls_214 : decode cX9_falls 214 = .ok (.iadd, 1) := by decide +kernel
theorem dX9_falls_215 : decode cX9_falls 215 = .ok (.iastore, 1) := by decide +kernel
theorem dX9_falls_216 : decode cX9_falls 216 = .ok (.aload_n 0, 1) := by decide +kernel
theorem dX9_falls_217 : decode cX9_falls 217 = .ok (.iload 8, 2) := by decide +kernel
theorem dX9_falls_219 : decode cX9_falls 219 = .ok (.iload 7, 2) := by decide +kernel
theorem dX9_falls_221 : decode cX9_falls 221 = .ok (.iload_n 1, 1) := by decide +kernel
theorem dX9_falls_222 : decode cX9_falls 222 = .ok (.invokevirtual 158, 3) := by decide +kernel
theorem dX9_falls_225 : decode cX9_falls 225 = .ok (.aload_n 0, 1) := by decide +kernel
theorem dX9_falls_226 : decode cX9_falls 226 = .ok (.invokevirtual 155, 3) := by decide +kernel
theorem dX9_falls_229 : decode cX9_falls 229 = .ok (.aload_n 0, 1) := by decide +kernel
theorem dX9_falls_230 : decode cX9_falls 230 = .ok (.iload 7, 2) := by decide +kernel
theorem dX9_falls_232 : decode cX9_falls 232 = .ok (.ifCond .ge 7, 3) := by decide +kernel
theorem dX9_falls_235 : decode cX9_falls 235 = .ok (.iconst 1, 1) := by decide +kernel
theorem dX9_falls_236 : decode cX9_falls 236 = .ok (.goto 4, 3) := by decide +kernel
theorem dX9_falls_239 : decode cX9_falls 239 = .ok (.iconst 0, 1) := by decide +kernel
theorem dX9_falls_240 : decode cX9_falls 240 = .ok (.iconst 0, 1) := by decide +kernel
theorem dX9_falls_241 : decode cX9_falls 241 = .ok (.invokevirtual 139, 3) := by decide +kernel
theorem dX9_falls_244 : decode cX9_falls 244 = .ok (.iload 10, 2) := by decide +kernel
theorem dX9_falls_246 : decode cX9_falls 246 = .ok (.ireturn, 1) := by decide +kernel
theorem dX9_retires_0 : decode cX9_retires 0 = .ok (.aload_n 0, 1) := by decide +kernel
theorem dX9_retires_1 : decode cX9_retires 1 = .ok (.invokevirtual 136, 3) := by decide +kernel
theorem dX9_retires_4 : decode cX9_retires 4 = .ok (.istore_n 3, 1) := by decide +kernel
theorem dX9_retires_5 : decode cX9_retires 5 = .ok (.aload_n 0, 1) := by decide +kernel
theorem dX9_retires_6 : decode cX9_retires 6 = .ok (.iload_n 1, 1) := by decide +kernel
theorem dX9_retires_7 : decode cX9_retires 7 = .ok (.ifCond .eq 13, 3) := by decide +kernel
theorem dX9_retires_10 : decode cX9_retires 10 = .ok (.aload_n 0, 1) := by decide +kernel
theorem dX9_retires_11 : decode cX9_retires 11 = .ok (.getfield 9, 3) := by decide +kernel
theorem dX9_retires_14 : decode cX9_retires 14 = .ok (.bipush 7, 2) := by decide +kernel
theorem dX9_retires_16 : decode cX9_retires 16 = .ok (.iaload, 1) := by decide +kernel
theorem dX9_retires_17 : decode cX9_retires 17 = .ok (.goto 10, 3) := by decide +kernel
theorem dX9_retires_20 : decode cX9_retires 20 = .ok (.aload_n 0, 1) := by decide +kernel
theorem dX9_retires_21 : decode cX9_retires 21 = .ok (.getfield 9, 3) := by decide +kernel
theorem dX9_retires_24 : decode cX9_retires 24 = .ok (.bipush 6, 2) := by decide +kernel
theorem dX9_retires_26 : decode cX9_retires 26 = .ok (.iaload, 1) := by decide +kernel
theorem dX9_retires_27 : decode cX9_retires 27 = .ok (.iload_n 3, 1) := by decide +kernel
theorem dX9_retires_28 : decode cX9_retires 28 = .ok (.iload_n 2, 1) := by decide +kernel
theorem dX9_retires_29 : decode cX9_retires 29 = .ok (.ifCond .eq 8, 3) := by decide +kernel
theorem dX9_retires_32 : decode cX9_retires 32 = .ok (.bipush 6, 2) := by decide +kernel
theorem dX9_retires_34 : decode cX9_retires 34 = .ok (.goto 5, 3) := by decide +kernel
theorem dX9_retires_37 : decode cX9_retires 37 = .ok (.bipush 7, 2) := by decide +kernel
theorem dX9_retires_39 : decode cX9_retires 39 = .ok (.invokevirtual 158, 3) := by decide +kernel
theorem dX9_retires_42 : decode cX9_retires 42 = .ok (.aload_n 0, 1) := by decide +kernel
theorem dX9_retires_43 : decode cX9_retires 43 = .ok (.iload_n 3, 1) := by decide +kernel
theorem dX9_retires_44 : decode cX9_retires 44 = .ok (.ifCond .ge 7, 3) := by decide +kernel
theorem dX9_retires_47 : decode cX9_retires 47 = .ok (.iconst 1, 1) := by decide +kernel
theorem dX9_retires_48 : decode cX9_retires 48 = .ok (.goto 4, 3) := by decide +kernel
theorem dX9_retires_51 : decode cX9_retires 51 = .ok (.iconst 0, 1) := by decide +kernel
theorem dX9_retires_52 : decode cX9_retires 52 = .ok (.iconst 0, 1) := by decide +kernel
theorem dX9_retires_53 : decode cX9_retires 53 = .ok (.invokevirtual 139, 3) := by decide +kernel
theorem dX9_retires_56 : decode cX9_retires 56 = .ok (.iload_n 3, 1) := by decide +kernel
theorem dX9_retires_57 : decode cX9_retires 57 = .ok (.ireturn, 1) := by decide +kernel
theorem dX9_loses_0 : decode cX9_loses 0 = .ok (.aload_n 0, 1) := by decide +kernel
theorem dX9_loses_1 : decode cX9_loses 1 = .ok (.getfield 9, 3) := by decide +kernel
theorem dX9_loses_4 : decode cX9_loses 4 = .ok (.iconst 4, 1) := by decide +kernel
theorem dX9_loses_5 : decode cX9_loses 5 = .ok (.iaload, 1) := by decide +kernel
theorem dX9_loses_6 : decode cX9_loses 6 = .ok (.istore_n 2, 1) := by decide +kernel
theorem dX9_loses_7 : decode cX9_loses 7 = .ok (.bipush 6, 2) := by decide +kernel
theorem dX9_loses_9 : decode cX9_loses 9 = .ok (.aload_n 0, 1) := by decide +kernel
theorem dX9_loses_10 : decode cX9_loses 10 = .ok (.getfield 9, 3) := by decide +kernel
theorem dX9_loses_13 : decode cX9_loses 13 = .ok (.bipush 13, 2) := by decide +kernel
theorem dX9_loses_15 : decode cX9_loses 15 = .ok (.iaload, 1) := by decide +kernel
theorem dX9_loses_16 : decode cX9_loses 16 = .ok (.imul, 1) := by decide +kernel
theorem dX9_loses_17 : decode cX9_loses 17 = .ok (.aload_n 0, 1) := by decide +kernel
theorem dX9_loses_18 : decode cX9_loses 18 = .ok (.getfield 9, 3) := by decide +kernel
theorem dX9_loses_21 : decode cX9_loses 21 = .ok (.iload_n 2, 1) := by decide +kernel
theorem dX9_loses_22 : decode cX9_loses 22 = .ok (.iconst 2, 1) := by decide +kernel
theorem dX9_loses_23 : decode cX9_loses 23 = .ok (.invokestatic 62, 3) := by decide +kernel
theorem dX9_loses_26 : decode cX9_loses 26 = .ok (.iaload, 1) := by decide +kernel
theorem dX9_loses_27 : decode cX9_loses 27 = .ok (.isub, 1) := by decide +kernel
theorem dX9_loses_28 : decode cX9_loses 28 = .ok (.istore_n 3, 1) := by decide +kernel
theorem dX9_loses_29 : decode cX9_loses 29 = .ok (.iload_n 3, 1) := by decide +kernel
theorem dX9_loses_30 : decode cX9_loses 30 = .ok (.aload_n 0, 1) := by decide +kernel
theorem dX9_loses_31 : decode cX9_loses 31 = .ok (.getfield 9, 3) := by decide +kernel
theorem dX9_loses_34 : decode cX9_loses 34 = .ok (.iload_n 2, 1) := by decide +kernel
theorem dX9_loses_35 : decode cX9_loses 35 = .ok (.iconst 1, 1) := by decide +kernel
theorem dX9_loses_36 : decode cX9_loses 36 = .ok (.invokestatic 62, 3) := by decide +kernel
theorem dX9_loses_39 : decode cX9_loses 39 = .ok (.iaload, 1) := by decide +kernel
theorem dX9_loses_40 : decode cX9_loses 40 = .ok (.invokestatic 58, 3) := by decide +kernel
theorem dX9_loses_43 : decode cX9_loses 43 = .ok (.istore 4, 2) := by decide +kernel
theorem dX9_loses_45 : decode cX9_loses 45 = .ok (.aload_n 0, 1) := by decide +kernel
theorem dX9_loses_46 : decode cX9_loses 46 = .ok (.getfield 9, 3) := by decide +kernel
theorem dX9_loses_49 : decode cX9_loses 49 = .ok (.bipush 13, 2) := by decide +kernel
theorem dX9_loses_51 : decode cX9_loses 51 = .ok (.dup2, 1) := by decide +kernel
theorem dX9_loses_52 : decode cX9_loses 52 = .ok (.iaload, 1) := by decide +kernel
theorem dX9_loses_53 : decode cX9_loses 53 = .ok (.iload_n 1, 1) := by decide +kernel
theorem dX9_loses_54 : decode cX9_loses 54 = .ok (.isub, 1) := by decide +kernel
theorem dX9_loses_55 : decode cX9_loses 55 = .ok (.iastore, 1) := by decide +kernel
theorem dX9_loses_56 : decode cX9_loses 56 = .ok (.aload_n 0, 1) := by decide +kernel
theorem dX9_loses_57 : decode cX9_loses 57 = .ok (.getfield 9, 3) := by decide +kernel
theorem dX9_loses_60 : decode cX9_loses 60 = .ok (.bipush 14, 2) := by decide +kernel
theorem dX9_loses_62 : decode cX9_loses 62 = .ok (.iload_n 2, 1) := by decide +kernel
theorem dX9_loses_63 : decode cX9_loses 63 = .ok (.iadd, 1) := by decide +kernel
theorem dX9_loses_64 : decode cX9_loses 64 = .ok (.dup2, 1) := by decide +kernel
theorem dX9_loses_65 : decode cX9_loses 65 = .ok (.iaload, 1) := by decide +kernel
theorem dX9_loses_66 : decode cX9_loses 66 = .ok (.iload 4, 2) := by decide +kernel
theorem dX9_loses_68 : decode cX9_loses 68 = .ok (.iload_n 3, 1) := by decide +kernel
theorem dX9_loses_69 : decode cX9_loses 69 = .ok (.bipush 6, 2) := by decide +kernel
theorem dX9_loses_71 : decode cX9_loses 71 = .ok (.iload_n 1, 1) := by decide +kernel
theorem dX9_loses_72 : decode cX9_loses 72 = .ok (.imul, 1) := by decide +kernel
theorem dX9_loses_73 : decode cX9_loses 73 = .ok (.isub, 1) := by decide +kernel
theorem dX9_loses_74 : decode cX9_loses 74 = .ok (.aload_n 0, 1) := by decide +kernel
theorem dX9_loses_75 : decode cX9_loses 75 = .ok (.getfield 9, 3) := by decide +kernel
theorem dX9_loses_78 : decode cX9_loses 78 = .ok (.iload_n 2, 1) := by decide +kernel
theorem dX9_loses_79 : decode cX9_loses 79 = .ok (.iconst 1, 1) := by decide +kernel
theorem dX9_loses_80 : decode cX9_loses 80 = .ok (.invokestatic 62, 3) := by decide +kernel
theorem dX9_loses_83 : decode cX9_loses 83 = .ok (.iaload, 1) := by decide +kernel
theorem dX9_loses_84 : decode cX9_loses 84 = .ok (.invokestatic 58, 3) := by decide +kernel
theorem dX9_loses_87 : decode cX9_loses 87 = .ok (.isub, 1) := by decide +kernel
theorem dX9_loses_88 : decode cX9_loses 88 = .ok (.isub, 1) := by decide +kernel
theorem dX9_loses_89 : decode cX9_loses 89 = .ok (.iastore, 1) := by decide +kernel
theorem dX9_loses_90 : decode cX9_loses 90 = .ok (.aload_n 0, 1) := by decide +kernel
theorem dX9_loses_91 : decode cX9_loses 91 = .ok (.getfield 9, 3) := by decide +kernel
theorem dX9_loses_94 : decode cX9_loses 94 = .ok (.bipush 13, 2) := by decide +kernel
theorem dX9_loses_96 : decode cX9_loses 96 = .ok (.iaload, 1) := by decide +kernel
theorem dX9_loses_97 : decode cX9_loses 97 = .ok (.istore 5, 2) := by decide +kernel
theorem dX9_loses_99 : decode cX9_loses 99 = .ok (.aload_n 0, 1) := by decide +kernel
theorem dX9_loses_100 : decode cX9_loses 100 = .ok (.iconst 0, 1) := by decide +kernel
theorem dX9_loses_101 : decode cX9_loses 101 = .ok (.iconst 0, 1) := by decide +kernel
theorem dX9_loses_102 : decode cX9_loses 102 = .ok (.invokevirtual 139, 3) := by decide +kernel
theorem dX9_loses_105 : decode cX9_loses 105 = .ok (.iload 5, 2) := by decide +kernel
theorem dX9_loses_107 : decode cX9_loses 107 = .ok (.ireturn, 1) := by decide +kernel
theorem dX9_keeps_0 : decode cX9_keeps 0 = .ok (.aload_n 0, 1) := by decide +kernel
theorem dX9_keeps_1 : decode cX9_keeps 1 = .ok (.getfield 84, 3) := by decide +kernel
theorem dX9_keeps_4 : decode cX9_keeps 4 = .ok (.bipush 8, 2) := by decide +kernel
theorem dX9_keeps_6 : decode cX9_keeps 6 = .ok (.if_icmp .ne 43, 3) := by decide +kernel
theorem dX9_keeps_9 : decode cX9_keeps 9 = .ok (.iconst 0, 1) := by decide +kernel
theorem dX9_keeps_10 : decode cX9_keeps 10 = .ok (.istore_n 2, 1) := by decide +kernel
theorem dX9_keeps_11 : decode cX9_keeps 11 = .ok (.iload_n 2, 1) := by decide +kernel
theorem dX9_keeps_12 : decode cX9_keeps 12 = .ok (.ldc 161, 2) := by decide +kernel
theorem dX9_keeps_14 : decode cX9_keeps 14 = .ok (.if_icmp .ge 25, 3) := by decide +kernel
theorem dX9_keeps_17 : decode cX9_keeps 17 = .ok (.aload_n 0, 1) := by decide +kernel
theorem dX9_keeps_18 : decode cX9_keeps 18 = .ok (.getfield 20, 3) := by decide +kernel
theorem dX9_keeps_21 : decode cX9_keeps 21 = .ok (.iload_n 2, 1) := by decide +kernel
theorem dX9_keeps_22 : decode cX9_keeps 22 = .ok (.aload_n 0, 1) := by decide +kernel
theorem dX9_keeps_23 : decode cX9_keeps 23 = .ok (.getfield 20, 3) := by decide +kernel
theorem dX9_keeps_26 : decode cX9_keeps 26 = .ok (.iload_n 2, 1) := by decide +kernel
theorem dX9_keeps_27 : decode cX9_keeps 27 = .ok (.sipush 6441, 3) := by decide +kernel
theorem dX9_keeps_30 : decode cX9_keeps 30 = .ok (.iadd, 1) := by decide +kernel
theorem dX9_keeps_31 : decode cX9_keeps 31 = .ok (.iaload, 1) := by decide +kernel
theorem dX9_keeps_32 : decode cX9_keeps 32 = .ok (.iastore, 1) := by decide +kernel
theorem dX9_keeps_33 : decode cX9_keeps 33 = .ok (.iinc 2 1, 3) := by decide +kernel
theorem dX9_keeps_36 : decode cX9_keeps 36 = .ok (.goto (-25), 3) := by decide +kernel
theorem dX9_keeps_39 : decode cX9_keeps 39 = .ok (.aload_n 0, 1) := by decide +kernel
theorem dX9_keeps_40 : decode cX9_keeps 40 = .ok (.dup, 1) := by decide +kernel
theorem dX9_keeps_41 : decode cX9_keeps 41 = .ok (.getfield 84, 3) := by decide +kernel
theorem dX9_keeps_44 : decode cX9_keeps 44 = .ok (.iconst 1, 1) := by decide +kernel
theorem dX9_keeps_45 : decode cX9_keeps 45 = .ok (.isub, 1) := by decide +kernel
theorem dX9_keeps_46 : decode cX9_keeps 46 = .ok (.putfield 84, 3) := by decide +kernel
theorem dX9_keeps_49 : decode cX9_keeps 49 = .ok (.iconst 0, 1) := by decide +kernel
theorem dX9_keeps_50 : decode cX9_keeps 50 = .ok (.istore_n 2, 1) := by decide +kernel
theorem dX9_keeps_51 : decode cX9_keeps 51 = .ok (.iload_n 2, 1) := by decide +kernel
theorem dX9_keeps_52 : decode cX9_keeps 52 = .ok (.sipush 6441, 3) := by decide +kernel
theorem dX9_keeps_55 : decode cX9_keeps 55 = .ok (.if_icmp .ge 27, 3) := by decide +kernel
theorem dX9_keeps_58 : decode cX9_keeps 58 = .ok (.aload_n 0, 1) := by decide +kernel
theorem dX9_keeps_59 : decode cX9_keeps 59 = .ok (.getfield 20, 3) := by decide +kernel
theorem dX9_keeps_62 : decode cX9_keeps 62 = .ok (.aload_n 0, 1) := by decide +kernel
theorem dX9_keeps_63 : decode cX9_keeps 63 = .ok (.getfield 84, 3) := by decide +kernel
theorem dX9_keeps_66 : decode cX9_keeps 66 = .ok (.sipush 6441, 3) := by decide +kernel
theorem dX9_keeps_69 : decode cX9_keeps 69 = .ok (.imul, 1) := by decide +kernel
theorem dX9_keeps_70 : decode cX9_keeps 70 = .ok (.iload_n 2, 1) := by decide +kernel
theorem dX9_keeps_71 : decode cX9_keeps 71 = .ok (.iadd, 1) := by decide +kernel
theorem dX9_keeps_72 : decode cX9_keeps 72 = .ok (.aload_n 1, 1) := by decide +kernel
theorem dX9_keeps_73 : decode cX9_keeps 73 = .ok (.iload_n 2, 1) := by decide +kernel
theorem dX9_keeps_74 : decode cX9_keeps 74 = .ok (.iaload, 1) := by decide +kernel
theorem dX9_keeps_75 : decode cX9_keeps 75 = .ok (.iastore, 1) := by decide +kernel
theorem dX9_keeps_76 : decode cX9_keeps 76 = .ok (.iinc 2 1, 3) := by decide +kernel
theorem dX9_keeps_79 : decode cX9_keeps 79 = .ok (.goto (-28), 3) := by decide +kernel
theorem dX9_keeps_82 : decode cX9_keeps 82 = .ok (.aload_n 0, 1) := by decide +kernel
theorem dX9_keeps_83 : decode cX9_keeps 83 = .ok (.dup, 1) := by decide +kernel
theorem dX9_keeps_84 : decode cX9_keeps 84 = .ok (.getfield 84, 3) := by decide +kernel
theorem dX9_keeps_87 : decode cX9_keeps 87 = .ok (.iconst 1, 1) := by decide +kernel
theorem dX9_keeps_88 : decode cX9_keeps 88 = .ok (.iadd, 1) := by decide +kernel
theorem dX9_keeps_89 : decode cX9_keeps 89 = .ok (.putfield 84, 3) := by decide +kernel
theorem dX9_keeps_92 : decode cX9_keeps 92 = .ok (.return_, 1) := by decide +kernel
theorem dX9_commands_0 : decode cX9_commands 0 = .ok (.aload_n 0, 1) := by decide +kernel
theorem dX9_commands_1 : decode cX9_commands 1 = .ok (.iload_n 2, 1) := by decide +kernel
theorem dX9_commands_2 : decode cX9_commands 2 = .ok (.iload_n 3, 1) := by decide +kernel
