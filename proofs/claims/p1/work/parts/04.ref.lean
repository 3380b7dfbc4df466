theorem dX9_init_0 : decode cX9_init 0 = .ok (.aload_n 0, 1) := by decide +kernel
theorem dX9_init_1 : decode cX9_init 1 = .ok (.invokespecial 3, 3) := by decide +kernel
theorem dX9_init_4 : decode cX9_init 4 = .ok (.aload_n 0, 1) := by decide +kernel
theorem dX9_init_5 : decode cX9_init 5 = .ok (.sipush 6441, 3) := by decide +kernel
theorem dX9_init_8 : decode cX9_init 8 = .ok (.newarray .int, 2) := by decide +kernel
theorem dX9_init_10 : decode cX9_init 10 = .ok (.putfield 9, 3) := by decide +kernel
theorem dX9_init_13 : decode cX9_init 13 = .ok (.aload_n 0, 1) := by decide +kernel
theorem dX9_init_14 : decode cX9_init 14 = .ok (.sipush 6441, 3) := by decide +kernel
theorem dX9_init_17 : decode cX9_init 17 = .ok (.newarray .int, 2) := by decide +kernel
theorem dX9_init_19 : decode cX9_init 19 = .ok (.putfield 13, 3) := by decide +kernel
theorem dX9_init_22 : decode cX9_init 22 = .ok (.aload_n 0, 1) := by decide +kernel
theorem dX9_init_23 : decode cX9_init 23 = .ok (.sipush 6441, 3) := by decide +kernel
theorem dX9_init_26 : decode cX9_init 26 = .ok (.newarray .int, 2) := by decide +kernel
theorem dX9_init_28 : decode cX9_init 28 = .ok (.putfield 16, 3) := by decide +kernel
theorem dX9_init_31 : decode cX9_init 31 = .ok (.aload_n 0, 1) := by decide +kernel
theorem dX9_init_32 : decode cX9_init 32 = .ok (.ldc 19, 2) := by decide +kernel
theorem dX9_init_34 : decode cX9_init 34 = .ok (.newarray .int, 2) := by decide +kernel
theorem dX9_init_36 : decode cX9_init 36 = .ok (.putfield 20, 3) := by decide +kernel
theorem dX9_init_39 : decode cX9_init 39 = .ok (.aload_n 0, 1) := by decide +kernel
theorem dX9_init_40 : decode cX9_init 40 = .ok (.sipush 24000, 3) := by decide +kernel
theorem dX9_init_43 : decode cX9_init 43 = .ok (.newarray .int, 2) := by decide +kernel
theorem dX9_init_45 : decode cX9_init 45 = .ok (.putfield 23, 3) := by decide +kernel
theorem dX9_init_48 : decode cX9_init 48 = .ok (.aload_n 0, 1) := by decide +kernel
theorem dX9_init_49 : decode cX9_init 49 = .ok (.sipush 24000, 3) := by decide +kernel
theorem dX9_init_52 : decode cX9_init 52 = .ok (.newarray .int, 2) := by decide +kernel
theorem dX9_init_54 : decode cX9_init 54 = .ok (.putfield 26, 3) := by decide +kernel
theorem dX9_init_57 : decode cX9_init 57 = .ok (.aload_n 0, 1) := by decide +kernel
theorem dX9_init_58 : decode cX9_init 58 = .ok (.bipush 60, 2) := by decide +kernel
theorem dX9_init_60 : decode cX9_init 60 = .ok (.newarray .int, 2) := by decide +kernel
theorem dX9_init_62 : decode cX9_init 62 = .ok (.putfield 29, 3) := by decide +kernel
theorem dX9_init_65 : decode cX9_init 65 = .ok (.aload_n 0, 1) := by decide +kernel
theorem dX9_init_66 : decode cX9_init 66 = .ok (.iconst (-1), 1) := by decide +kernel
theorem dX9_init_67 : decode cX9_init 67 = .ok (.putfield 32, 3) := by decide +kernel
theorem dX9_init_70 : decode cX9_init 70 = .ok (.aload_n 0, 1) := by decide +kernel
theorem dX9_init_71 : decode cX9_init 71 = .ok (.iconst (-1), 1) := by decide +kernel
theorem dX9_init_72 : decode cX9_init 72 = .ok (.putfield 36, 3) := by decide +kernel
theorem dX9_init_75 : decode cX9_init 75 = .ok (.aload_n 0, 1) := by decide +kernel
theorem dX9_init_76 : decode cX9_init 76 = .ok (.sipush 240, 3) := by decide +kernel
theorem dX9_init_79 : decode cX9_init 79 = .ok (.newarray .int, 2) := by decide +kernel
theorem dX9_init_81 : decode cX9_init 81 = .ok (.putfield 39, 3) := by decide +kernel
theorem dX9_init_84 : decode cX9_init 84 = .ok (.aload_n 0, 1) := by decide +kernel
theorem dX9_init_85 : decode cX9_init 85 = .ok (.iconst 2, 1) := by decide +kernel
theorem dX9_init_86 : decode cX9_init 86 = .ok (.newarray .int, 2) := by decide +kernel
theorem dX9_init_88 : decode cX9_init 88 = .ok (.putfield 42, 3) := by decide +kernel
theorem dX9_init_91 : decode cX9_init 91 = .ok (.aload_n 0, 1) := by decide +kernel
theorem dX9_init_92 : decode cX9_init 92 = .ok (.iconst 2, 1) := by decide +kernel
theorem dX9_init_93 : decode cX9_init 93 = .ok (.newarray .int, 2) := by decide +kernel
theorem dX9_init_95 : decode cX9_init 95 = .ok (.putfield 45, 3) := by decide +kernel
theorem dX9_init_98 : decode cX9_init 98 = .ok (.aload_n 0, 1) := by decide +kernel
theorem dX9_init_99 : decode cX9_init 99 = .ok (.bipush 42, 2) := by decide +kernel
theorem dX9_init_101 : decode cX9_init 101 = .ok (.newarray .int, 2) := by decide +kernel
theorem dX9_init_103 : decode cX9_init 103 = .ok (.putfield 48, 3) := by decide +kernel
theorem dX9_init_106 : decode cX9_init 106 = .ok (.aload_n 0, 1) := by decide +kernel
theorem dX9_init_107 : decode cX9_init 107 = .ok (.bipush 42, 2) := by decide +kernel
theorem dX9_init_109 : decode cX9_init 109 = .ok (.newarray .float, 2) := by decide +kernel
theorem dX9_init_111 : decode cX9_init 111 = .ok (.putfield 51, 3) := by decide +kernel
theorem dX9_init_114 : decode cX9_init 114 = .ok (.return_, 1) := by decide +kernel
theorem dX9_thrown_0 : decode cX9_thrown 0 = .ok (.aload_n 0, 1) := by decide +kernel
theorem dX9_thrown_1 : decode cX9_thrown 1 = .ok (.getfield 55, 3) := by decide +kernel
theorem dX9_thrown_4 : decode cX9_thrown 4 = .ok (.ireturn, 1) := by decide +kernel
theorem dX9_no_0 : decode cX9_no 0 = .ok (.aload_n 0, 1) := by decide +kernel
theorem dX9_no_1 : decode cX9_no 1 = .ok (.iload_n 1, 1) := by decide +kernel
theorem dX9_no_2 : decode cX9_no 2 = .ok (.putfield 55, 3) := by decide +kernel
theorem dX9_no_5 : decode cX9_no 5 = .ok (.iconst 0, 1) := by decide +kernel
theorem dX9_no_6 : decode cX9_no 6 = .ok (.ireturn, 1) := by decide +kernel
theorem dX9_isIn_0 : decode cX9_isIn 0 = .ok (.iload_n 0, 1) := by decide +kernel
theorem dX9_isIn_1 : decode cX9_isIn 1 = .ok (.iload_n 1, 1) := by decide +kernel
theorem dX9_isIn_2 : decode cX9_isIn 2 = .ok (.if_icmp .lt 12, 3) := by decide +kernel
theorem dX9_isIn_5 : decode cX9_isIn 5 = .ok (.iload_n 0, 1) := by decide +kernel
theorem dX9_isIn_6 : decode cX9_isIn 6 = .ok (.iload_n 2, 1) := by decide +kernel
theorem dX9_isIn_7 : decode cX9_isIn 7 = .ok (.if_icmp .gt 7, 3) := by decide +kernel
theorem dX9_isIn_10 : decode cX9_isIn 10 = .ok (.iconst 1, 1) := by decide +kernel
theorem dX9_isIn_11 : decode cX9_isIn 11 = .ok (.goto 4, 3) := by decide +kernel
theorem dX9_isIn_14 : decode cX9_isIn 14 = .ok (.iconst 0, 1) := by decide +kernel
theorem dX9_isIn_15 : decode cX9_isIn 15 = .ok (.ireturn, 1) := by decide +kernel
theorem dX9_copies_0 : decode cX9_copies 0 = .ok (.iconst 0, 1) := by decide +kernel
theorem dX9_copies_1 : decode cX9_copies 1 = .ok (.istore_n 3, 1) := by decide +kernel
theorem dX9_copies_2 : decode cX9_copies 2 = .ok (.iload_n 3, 1) := by decide +kernel
theorem dX9_copies_3 : decode cX9_copies 3 = .ok (.iload_n 2, 1) := by decide +kernel
theorem dX9_copies_4 : decode cX9_copies 4 = .ok (.if_icmp .ge 15, 3) := by decide +kernel
theorem dX9_copies_7 : decode cX9_copies 7 = .ok (.aload_n 1, 1) := by decide +kernel
theorem dX9_copies_8 : decode cX9_copies 8 = .ok (.iload_n 3, 1) := by decide +kernel
theorem dX9_copies_9 : decode cX9_copies 9 = .ok (.aload_n 0, 1) := by decide +kernel
theorem dX9_copies_10 : decode cX9_copies 10 = .ok (.iload_n 3, 1) := by decide +kernel
theorem dX9_copies_11 : decode cX9_copies 11 = .ok (.iaload, 1) := by decide +kernel
theorem dX9_copies_12 : decode cX9_copies 12 = .ok (.iastore, 1) := by decide +kernel
theorem dX9_copies_13 : decode cX9_copies 13 = .ok (.iinc 3 1, 3) := by decide +kernel
theorem dX9_copies_16 : decode cX9_copies 16 = .ok (.goto (-14), 3) := by decide +kernel
theorem dX9_copies_19 : decode cX9_copies 19 = .ok (.return_, 1) := by decide +kernel
theorem dX9_at_0 : decode cX9_at 0 = .ok (.bipush 25, 2) := by decide +kernel
theorem dX9_at_2 : decode cX9_at 2 = .ok (.bipush 11, 2) := by decide +kernel
theorem dX9_at_4 : decode cX9_at 4 = .ok (.iload_n 0, 1) := by decide +kernel
theorem dX9_at_5 : decode cX9_at 5 = .ok (.imul, 1) := by decide +kernel
theorem dX9_at_6 : decode cX9_at 6 = .ok (.iadd, 1) := by decide +kernel
theorem dX9_at_7 : decode cX9_at 7 = .ok (.iload_n 1, 1) := by decide +kernel
theorem dX9_at_8 : decode cX9_at 8 = .ok (.iadd, 1) := by decide +kernel
theorem dX9_at_9 : decode cX9_at 9 = .ok (.ireturn, 1) := by decide +kernel
theorem dX9_batterAt_0 : decode cX9_batterAt 0 = .ok (.bipush 69, 2) := by decide +kernel
theorem dX9_batterAt_2 : decode cX9_batterAt 2 = .ok (.bipush 6, 2) := by decide +kernel
theorem dX9_batterAt_4 : decode cX9_batterAt 4 = .ok (.bipush 11, 2) := by decide +kernel
theorem dX9_batterAt_6 : decode cX9_batterAt 6 = .ok (.iload_n 0, 1) := by decide +kernel
theorem dX9_batterAt_7 : decode cX9_batterAt 7 = .ok (.imul, 1) := by decide +kernel
theorem dX9_batterAt_8 : decode cX9_batterAt 8 = .ok (.iload_n 1, 1) := by decide +kernel
theorem dX9_batterAt_9 : decode cX9_batterAt 9 = .ok (.iadd, 1) := by decide +kernel
theorem dX9_batterAt_10 : decode cX9_batterAt 10 = .ok (.imul, 1) := by decide +kernel
theorem dX9_batterAt_11 : decode cX9_batterAt 11 = .ok (.iadd, 1) := by decide +kernel
theorem dX9_batterAt_12 : decode cX9_batterAt 12 = .ok (.iload_n 2, 1) := by decide +kernel
theorem dX9_batterAt_13 : decode cX9_batterAt 13 = .ok (.iadd, 1) := by decide +kernel
theorem dX9_batterAt_14 : decode cX9_batterAt 14 = .ok (.ireturn, 1) := by decide +kernel
theorem dX9_bowlerAt_0 : decode cX9_bowlerAt 0 = .ok (.sipush 333, 3) := by decide +kernel
theorem dX9_bowlerAt_3 : decode cX9_bowlerAt 3 = .ok (.bipush 7, 2) := by decide +kernel
theorem dX9_bowlerAt_5 : decode cX9_bowlerAt 5 = .ok (.bipush 11, 2) := by decide +kernel
theorem dX9_bowlerAt_7 : decode cX9_bowlerAt 7 = .ok (.iload_n 0, 1) := by decide +kernel
theorem dX9_bowlerAt_8 : decode cX9_bowlerAt 8 = .ok (.imul, 1) := by decide +kernel
theorem dX9_bowlerAt_9 : decode cX9_bowlerAt 9 = .ok (.iload_n 1, 1) := by decide +kernel
theorem dX9_bowlerAt_10 : decode cX9_bowlerAt 10 = .ok (.iadd, 1) := by decide +kernel
theorem dX9_bowlerAt_11 : decode cX9_bowlerAt 11 = .ok (.imul, 1) := by decide +kernel
theorem dX9_bowlerAt_12 : decode cX9_bowlerAt 12 = .ok (.iadd, 1) := by decide +kernel
theorem dX9_bowlerAt_13 : decode cX9_bowlerAt 13 = .ok (.iload_n 2, 1) := by decide +kernel
theorem dX9_bowlerAt_14 : decode cX9_bowlerAt 14 = .ok (.iadd, 1) := by decide +kernel
theorem dX9_bowlerAt_15 : decode cX9_bowlerAt 15 = .ok (.ireturn, 1) := by decide +kernel
theorem dX9_last_0 : decode cX9_last 0 = .ok (.iconst 2, 1) := by decide +kernel
theorem dX9_last_1 : decode cX9_last 1 = .ok (.aload_n 0, 1) := by decide +kernel
theorem dX9_last_2 : decode cX9_last 2 = .ok (.getfield 9, 3) := by decide +kernel
theorem dX9_last_5 : decode cX9_last 5 = .ok (.iconst 1, 1) := by decide +kernel
theorem dX9_last_6 : decode cX9_last 6 = .ok (.iaload, 1) := by decide +kernel
theorem dX9_last_7 : decode cX9_last 7 = .ok (.imul, 1) := by decide +kernel
theorem dX9_last_8 : decode cX9_last 8 = .ok (.iconst 1, 1) := by decide +kernel
theorem dX9_last_9 : decode cX9_last 9 = .ok (.isub, 1) := by decide +kernel
theorem dX9_last_10 : decode cX9_last 10 = .ok (.ireturn, 1) := by decide +kernel
theorem dX9_team_0 : decode cX9_team 0 = .ok (.aload_n 0, 1) := by decide +kernel
theorem dX9_team_1 : decode cX9_team 1 = .ok (.getfield 9, 3) := by decide +kernel
theorem dX9_team_4 : decode cX9_team 4 = .ok (.iconst 2, 1) := by decide +kernel
theorem dX9_team_5 : decode cX9_team 5 = .ok (.iaload, 1) := by decide +kernel
theorem dX9_team_6 : decode cX9_team 6 = .ok (.iload_n 1, 1) := by decide +kernel
theorem dX9_team_7 : decode cX9_team 7 = .ok (.iadd, 1) := by decide +kernel
theorem dX9_team_8 : decode cX9_team 8 = .ok (.iconst 2, 1) := by decide +kernel
theorem dX9_team_9 : decode cX9_team 9 = .ok (.irem, 1) := by decide +kernel
theorem dX9_team_10 : decode cX9_team 10 = .ok (.ireturn, 1) := by decide +kernel
theorem dX9_worth_0 : decode cX9_worth 0 = .ok (.bipush 10, 2) := by decide +kernel
theorem dX9_worth_2 : decode cX9_worth 2 = .ok (.iload_n 1, 1) := by decide +kernel
theorem dX9_worth_3 : decode cX9_worth 3 = .ok (.isub, 1) := by decide +kernel
theorem dX9_worth_4 : decode cX9_worth 4 = .ok (.sipush 240, 3) := by decide +kernel
theorem dX9_worth_7 : decode cX9_worth 7 = .ok (.iload_n 0, 1) := by decide +kernel
theorem dX9_worth_8 : decode cX9_worth 8 = .ok (.imul, 1) := by decide +kernel
theorem dX9_worth_9 : decode cX9_worth 9 = .ok (.iload_n 0, 1) := by decide +kernel
theorem dX9_worth_10 : decode cX9_worth 10 = .ok (.iload_n 0, 1) := by decide +kernel
theorem dX9_worth_11 : decode cX9_worth 11 = .ok (.imul, 1) := by decide +kernel
theorem dX9_worth_12 : decode cX9_worth 12 = .ok (.isub, 1) := by decide +kernel
theorem dX9_worth_13 : decode cX9_worth 13 = .ok (.imul, 1) := by decide +kernel
theorem dX9_worth_14 : decode cX9_worth 14 = .ok (.ireturn, 1) := by decide +kernel
theorem dX9_share_0 : decode cX9_share 0 = .ok (.aload_n 0, 1) := by decide +kernel
theorem dX9_share_1 : decode cX9_share 1 = .ok (.getfield 9, 3) := by decide +kernel
theorem dX9_share_4 : decode cX9_share 4 = .ok (.bipush 6, 2) := by decide +kernel
theorem dX9_share_6 : decode cX9_share 6 = .ok (.iaload, 1) := by decide +kernel
theorem dX9_share_7 : decode cX9_share 7 = .ok (.istore_n 1, 1) := by decide +kernel
theorem dX9_share_8 : decode cX9_share 8 = .ok (.aload_n 0, 1) := by decide +kernel
theorem dX9_share_9 : decode cX9_share 9 = .ok (.getfield 9, 3) := by decide +kernel
theorem dX9_share_12 : decode cX9_share 12 = .ok (.bipush 7, 2) := by decide +kernel
theorem dX9_share_14 : decode cX9_share 14 = .ok (.iaload, 1) := by decide +kernel
theorem dX9_share_15 : decode cX9_share 15 = .ok (.istore_n 2, 1) := by decide +kernel
theorem dX9_share_16 : decode cX9_share 16 = .ok (.sipush 841, 3) := by decide +kernel
theorem dX9_share_19 : decode cX9_share 19 = .ok (.bipush 8, 2) := by decide +kernel
theorem dX9_share_21 : decode cX9_share 21 = .ok (.aload_n 0, 1) := by decide +kernel
theorem dX9_share_22 : decode cX9_share 22 = .ok (.getfield 9, 3) := by decide +kernel
theorem dX9_share_25 : decode cX9_share 25 = .ok (.bipush 22, 2) := by decide +kernel
theorem dX9_share_27 : decode cX9_share 27 = .ok (.iaload, 1) := by decide +kernel
theorem dX9_share_28 : decode cX9_share 28 = .ok (.imul, 1) := by decide +kernel
theorem dX9_share_29 : decode cX9_share 29 = .ok (.iadd, 1) := by decide +kernel
theorem dX9_share_30 : decode cX9_share 30 = .ok (.istore_n 3, 1) := by decide +kernel
theorem dX9_share_31 : decode cX9_share 31 = .ok (.iconst 0, 1) := by decide +kernel
theorem dX9_share_32 : decode cX9_share 32 = .ok (.istore 4, 2) := by decide +kernel
theorem dX9_share_34 : decode cX9_share 34 = .ok (.iload 4, 2) := by decide +kernel
theorem dX9_share_36 : decode cX9_share 36 = .ok (.bipush 8, 2) := by decide +kernel
theorem dX9_share_38 : decode cX9_share 38 = .ok (.if_icmp .ge 19, 3) := by decide +kernel
theorem dX9_share_41 : decode cX9_share 41 = .ok (.aload_n 0, 1) := by decide +kernel
theorem dX9_share_42 : decode cX9_share 42 = .ok (.getfield 9, 3) := by decide +kernel
theorem dX9_share_45 : decode cX9_share 45 = .ok (.iload_n 3, 1) := by decide +kernel
theorem dX9_share_46 : decode cX9_share 46 = .ok (.iload 4, 2) := by decide +kernel
theorem dX9_share_48 : decode cX9_share 48 = .ok (.iadd, 1) := by decide +kernel
theorem dX9_share_49 : decode cX9_share 49 = .ok (.iconst 0, 1) := by decide +kernel
theorem dX9_share_50 : decode cX9_share 50 = .ok (.iastore, 1) := by decide +kernel
theorem dX9_share_51 : decode cX9_share 51 = .ok (.iinc 4 1, 3) := by decide +kernel
theorem dX9_share_54 : decode cX9_share 54 = .ok (.goto (-20), 3) := by decide +kernel
theorem dX9_share_57 : decode cX9_share 57 = .ok (.aload_n 0, 1) := by decide +kernel
theorem dX9_share_58 : decode cX9_share 58 = .ok (.getfield 9, 3) := by decide +kernel
theorem dX9_share_61 : decode cX9_share 61 = .ok (.iload_n 3, 1) := by decide +kernel
theorem dX9_share_62 : decode cX9_share 62 = .ok (.iconst 2, 1) := by decide +kernel
theorem dX9_share_63 : decode cX9_share 63 = .ok (.iadd, 1) := by decide +kernel
theorem dX9_share_64 : decode cX9_share 64 = .ok (.iload_n 1, 1) := by decide +kernel
theorem dX9_share_65 : decode cX9_share 65 = .ok (.iload_n 2, 1) := by decide +kernel
theorem dX9_share_66 : decode cX9_share 66 = .ok (.if_icmp .ge 7, 3) := by decide +kernel
theorem dX9_share_69 : decode cX9_share 69 = .ok (.iload_n 1, 1) := by decide +kernel
theorem dX9_share_70 : decode cX9_share 70 = .ok (.goto 4, 3) := by decide +kernel
theorem dX9_share_73 : decode cX9_share 73 = .ok (.iload_n 2, 1) := by decide +kernel
theorem dX9_share_74 : decode cX9_share 74 = .ok (.iastore, 1) := by decide +kernel
theorem dX9_share_75 : decode cX9_share 75 = .ok (.aload_n 0, 1) := by decide +kernel
theorem dX9_share_76 : decode cX9_share 76 = .ok (.getfield 9, 3) := by decide +kernel
theorem dX9_share_79 : decode cX9_share 79 = .ok (.iload_n 3, 1) := by decide +kernel
theorem dX9_share_80 : decode cX9_share 80 = .ok (.iconst 3, 1) := by decide +kernel
theorem dX9_share_81 : decode cX9_share 81 = .ok (.iadd, 1) := by decide +kernel
theorem dX9_share_82 : decode cX9_share 82 = .ok (.iload_n 1, 1) := by decide +kernel
theorem dX9_share_83 : decode cX9_share 83 = .ok (.iload_n 2, 1) := by decide +kernel
theorem dX9_share_84 : decode cX9_share 84 = .ok (.if_icmp .ge 7, 3) := by decide +kernel
theorem dX9_share_87 : decode cX9_share 87 = .ok (.iload_n 2, 1) := by decide +kernel
theorem dX9_share_88 : decode cX9_share 88 = .ok (.goto 4, 3) := by decide +kernel
theorem dX9_share_91 : decode cX9_share 91 = .ok (.iload_n 1, 1) := by decide +kernel
theorem dX9_share_92 : decode cX9_share 92 = .ok (.iastore, 1) := by decide +kernel
theorem dX9_share_93 : decode cX9_share 93 = .ok (.aload_n 0, 1) := by decide +kernel
theorem dX9_share_94 : decode cX9_share 94 = .ok (.getfield 9, 3) := by decide +kernel
theorem dX9_share_97 : decode cX9_share 97 = .ok (.iload_n 3, 1) := by decide +kernel
theorem dX9_share_98 : decode cX9_share 98 = .ok (.bipush 7, 2) := by decide +kernel
theorem dX9_share_100 : decode cX9_share 100 = .ok (.iadd, 1) := by decide +kernel
theorem dX9_share_101 : decode cX9_share 101 = .ok (.iconst 1, 1) := by decide +kernel
theorem dX9_share_102 : decode cX9_share 102 = .ok (.iastore, 1) := by decide +kernel
theorem dX9_share_103 : decode cX9_share 103 = .ok (.aload_n 0, 1) := by decide +kernel
theorem dX9_share_104 : decode cX9_share 104 = .ok (.getfield 9, 3) := by decide +kernel
theorem dX9_share_107 : decode cX9_share 107 = .ok (.bipush 22, 2) := by decide +kernel
theorem dX9_share_109 : decode cX9_share 109 = .ok (.dup2, 1) := by decide +kernel
theorem dX9_share_110 : decode cX9_share 110 = .ok (.iaload, 1) := by decide +kernel
theorem dX9_share_111 : decode cX9_share 111 = .ok (.iconst 1, 1) := by decide +kernel
theorem dX9_share_112 : decode cX9_share 112 = .ok (.iadd, 1) := by decide +kernel
theorem dX9_share_113 : decode cX9_share 113 = .ok (.iastore, 1) := by decide +kernel
theorem dX9_share_114 : decode cX9_share 114 = .ok (.return_, 1) := by decide +kernel
set_option maxRecDepth 20000 in
theorem ggX9_opens_X9_worth : GoodIn wsX9_opens wsX9_worth := goodIn_r _ [5] (by decide +kernel) (by decide +kernel)
set_option maxRecDepth 20000 in
theorem gX9_opens_X9_worth : GoodIn wsX9_opens (va_wsS RX9 58 yX9_worth wsX9_worth) := goodIn_app (goodIn_of _ (by decide +kernel)) ggX9_opens_X9_worth
set_option maxRecDepth 20000 in
theorem ggX9_opens_X9_at : GoodIn wsX9_opens wsX9_at := goodIn_r _ [8] (by decide +kernel) (by decide +kernel)
set_option maxRecDepth 20000 in
theorem gX9_opens_X9_at : GoodIn wsX9_opens (va_wsS RX9 62 yX9_at wsX9_at) := goodIn_app (goodIn_of _ (by decide +kernel)) ggX9_opens_X9_at
set_option maxRecDepth 20000 in
theorem ggX9_opens_X9_batterAt : GoodIn wsX9_opens wsX9_batterAt := goodIn_r _ [11] (by decide +kernel) (by decide +kernel)
set_option maxRecDepth 20000 in
theorem gX9_opens_X9_batterAt : GoodIn wsX9_opens (va_wsS RX9 65 yX9_batterAt wsX9_batterAt) := goodIn_app (goodIn_of _ (by decide +kernel)) ggX9_opens_X9_batterAt
set_option maxRecDepth 20000 in
theorem ggX9_opens_X9_share : GoodIn wsX9_opens wsX9_share := goodIn_ca (goodIn_r _ [15, 1, 16, 17, 18, 19, 20, 21, 22, 23, 24, 25, 26, 27, 28, 29, 30, 31, 32, 33, 34, 35, 36, 37] (by decide +kernel) (by decide +kernel)) (goodIn_sub (fun _ h => List.mem_cons_of_mem _ (List.mem_append_right _ h)) (by decide +kernel))
set_option maxRecDepth 20000 in
theorem gX9_opens_X9_share : GoodIn wsX9_opens (wsV RX9 69 RX9 yX9_share wsX9_share) := goodIn_app (goodIn_of _ (by decide +kernel)) ggX9_opens_X9_share
theorem dX9_opens_0 : decode cX9_opens 0 = .ok (.aload_n 0, 1) := by decide +kernel
theorem dX9_opens_1 : decode cX9_opens 1 = .ok (.getfield 9, 3) := by decide +kernel
theorem dX9_opens_4 : decode cX9_opens 4 = .ok (.iconst 4, 1) := by decide +kernel
theorem dX9_opens_5 : decode cX9_opens 5 = .ok (.iload_n 1, 1) := by decide +kernel
theorem dX9_opens_6 : decode cX9_opens 6 = .ok (.iastore, 1) := by decide +kernel
theorem dX9_opens_7 : decode cX9_opens 7 = .ok (.aload_n 0, 1) := by decide +kernel
theorem dX9_opens_8 : decode cX9_opens 8 = .ok (.getfield 9, 3) := by decide +kernel
theorem dX9_opens_11 : decode cX9_opens 11 = .ok (.bipush 6, 2) := by decide +kernel
theorem dX9_opens_13 : decode cX9_opens 13 = .ok (.iconst 0, 1) := by decide +kernel
theorem dX9_opens_14 : decode cX9_opens 14 = .ok (.iastore, 1) := by decide +kernel
theorem dX9_opens_15 : decode cX9_opens 15 = .ok (.aload_n 0, 1) := by decide +kernel
theorem dX9_opens_16 : decode cX9_opens 16 = .ok (.getfield 9, 3) := by decide +kernel
theorem dX9_opens_19 : decode cX9_opens 19 = .ok (.bipush 7, 2) := by decide +kernel
theorem dX9_opens_21 : decode cX9_opens 21 = .ok (.iconst 1, 1) := by decide +kernel
theorem dX9_opens_22 : decode cX9_opens 22 = .ok (.iastore, 1) := by decide +kernel
theorem dX9_opens_23 : decode cX9_opens 23 = .ok (.aload_n 0, 1) := by decide +kernel
theorem dX9_opens_24 : decode cX9_opens 24 = .ok (.getfield 9, 3) := by decide +kernel
theorem dX9_opens_27 : decode cX9_opens 27 = .ok (.bipush 8, 2) := by decide +kernel
theorem dX9_opens_29 : decode cX9_opens 29 = .ok (.iconst (-1), 1) := by decide +kernel
theorem dX9_opens_30 : decode cX9_opens 30 = .ok (.iastore, 1) := by decide +kernel
theorem dX9_opens_31 : decode cX9_opens 31 = .ok (.aload_n 0, 1) := by decide +kernel
theorem dX9_opens_32 : decode cX9_opens 32 = .ok (.getfield 9, 3) := by decide +kernel
theorem dX9_opens_35 : decode cX9_opens 35 = .ok (.bipush 9, 2) := by decide +kernel
theorem dX9_opens_37 : decode cX9_opens 37 = .ok (.iconst (-1), 1) := by decide +kernel
theorem dX9_opens_38 : decode cX9_opens 38 = .ok (.iastore, 1) := by decide +kernel
theorem dX9_opens_39 : decode cX9_opens 39 = .ok (.aload_n 0, 1) := by decide +kernel
theorem dX9_opens_40 : decode cX9_opens 40 = .ok (.getfield 9, 3) := by decide +kernel
theorem dX9_opens_43 : decode cX9_opens 43 = .ok (.bipush 10, 2) := by decide +kernel
theorem dX9_opens_45 : decode cX9_opens 45 = .ok (.iconst 0, 1) := by decide +kernel
theorem dX9_opens_46 : decode cX9_opens 46 = .ok (.iastore, 1) := by decide +kernel
theorem dX9_opens_47 : decode cX9_opens 47 = .ok (.aload_n 0, 1) := by decide +kernel
theorem dX9_opens_48 : decode cX9_opens 48 = .ok (.getfield 9, 3) := by decide +kernel
theorem dX9_opens_51 : decode cX9_opens 51 = .ok (.bipush 11, 2) := by decide +kernel
theorem dX9_opens_53 : decode cX9_opens 53 = .ok (.iconst 0, 1) := by decide +kernel
theorem dX9_opens_54 : decode cX9_opens 54 = .ok (.iastore, 1) := by decide +kernel
theorem dX9_opens_55 : decode cX9_opens 55 = .ok (.aload_n 0, 1) := by decide +kernel
theorem dX9_opens_56 : decode cX9_opens 56 = .ok (.getfield 9, 3) := by decide +kernel
theorem dX9_opens_59 : decode cX9_opens 59 = .ok (.bipush 12, 2) := by decide +kernel
theorem dX9_opens_61 : decode cX9_opens 61 = .ok (.iconst (-1), 1) := by decide +kernel
theorem dX9_opens_62 : decode cX9_opens 62 = .ok (.iastore, 1) := by decide +kernel
theorem dX9_opens_63 : decode cX9_opens 63 = .ok (.iload_n 1, 1) := by decide +kernel
theorem dX9_opens_64 : decode cX9_opens 64 = .ok (.ifCond .eq 13, 3) := by decide +kernel
theorem dX9_opens_67 : decode cX9_opens 67 = .ok (.aload_n 0, 1) := by decide +kernel
theorem dX9_opens_68 : decode cX9_opens 68 = .ok (.getfield 9, 3) := by decide +kernel
theorem dX9_opens_71 : decode cX9_opens 71 = .ok (.iconst 1, 1) := by decide +kernel
theorem dX9_opens_72 : decode cX9_opens 72 = .ok (.iaload, 1) := by decide +kernel
theorem dX9_opens_73 : decode cX9_opens 73 = .ok (.iconst 2, 1) := by decide +kernel
theorem dX9_opens_74 : decode cX9_opens 74 = .ok (.if_icmp .ne 16, 3) := by decide +kernel
theorem dX9_opens_77 : decode cX9_opens 77 = .ok (.aload_n 0, 1) := by decide +kernel
theorem dX9_opens_78 : decode cX9_opens 78 = .ok (.getfield 9, 3) := by decide +kernel
theorem dX9_opens_81 : decode cX9_opens 81 = .ok (.bipush 13, 2) := by decide +kernel
theorem dX9_opens_83 : decode cX9_opens 83 = .ok (.aload_n 0, 1) := by decide +kernel
theorem dX9_opens_84 : decode cX9_opens 84 = .ok (.getfield 9, 3) := by decide +kernel
theorem dX9_opens_87 : decode cX9_opens 87 = .ok (.iconst 3, 1) := by decide +kernel
theorem dX9_opens_88 : decode cX9_opens 88 = .ok (.iaload, 1) := by decide +kernel
theorem dX9_opens_89 : decode cX9_opens 89 = .ok (.iastore, 1) := by decide +kernel
theorem dX9_opens_90 : decode cX9_opens 90 = .ok (.aload_n 0, 1) := by decide +kernel
theorem dX9_opens_91 : decode cX9_opens 91 = .ok (.getfield 9, 3) := by decide +kernel
theorem dX9_opens_94 : decode cX9_opens 94 = .ok (.bipush 18, 2) := by decide +kernel
theorem dX9_opens_96 : decode cX9_opens 96 = .ok (.iload_n 1, 1) := by decide +kernel
theorem dX9_opens_97 : decode cX9_opens 97 = .ok (.iadd, 1) := by decide +kernel
theorem dX9_opens_98 : decode cX9_opens 98 = .ok (.aload_n 0, 1) := by decide +kernel
theorem dX9_opens_99 : decode cX9_opens 99 = .ok (.getfield 9, 3) := by decide +kernel
theorem dX9_opens_102 : decode cX9_opens 102 = .ok (.bipush 13, 2) := by decide +kernel
theorem dX9_opens_104 : decode cX9_opens 104 = .ok (.iaload, 1) := by decide +kernel
theorem dX9_opens_105 : decode cX9_opens 105 = .ok (.iastore, 1) := by decide +kernel
theorem dX9_opens_106 : decode cX9_opens 106 = .ok (.aload_n 0, 1) := by decide +kernel
theorem dX9_opens_107 : decode cX9_opens 107 = .ok (.getfield 9, 3) := by decide +kernel
theorem dX9_opens_110 : decode cX9_opens 110 = .ok (.bipush 14, 2) := by decide +kernel
theorem dX9_opens_112 : decode cX9_opens 112 = .ok (.iload_n 1, 1) := by decide +kernel
theorem dX9_opens_113 : decode cX9_opens 113 = .ok (.iadd, 1) := by decide +kernel
theorem dX9_opens_114 : decode cX9_opens 114 = .ok (.aload_n 0, 1) := by decide +kernel
theorem dX9_opens_115 : decode cX9_opens 115 = .ok (.getfield 9, 3) := by decide +kernel
theorem dX9_opens_118 : decode cX9_opens 118 = .ok (.iconst 1, 1) := by decide +kernel
theorem dX9_opens_119 : decode cX9_opens 119 = .ok (.iaload, 1) := by decide +kernel
theorem dX9_opens_120 : decode cX9_opens 120 = .ok (.iconst 1, 1) := by decide +kernel
theorem dX9_opens_121 : decode cX9_opens 121 = .ok (.if_icmp .ne 20, 3) := by decide +kernel
theorem dX9_opens_124 : decode cX9_opens 124 = .ok (.bipush 6, 2) := by decide +kernel
theorem dX9_opens_126 : decode cX9_opens 126 = .ok (.aload_n 0, 1) := by decide +kernel
theorem dX9_opens_127 : decode cX9_opens 127 = .ok (.getfield 9, 3) := by decide +kernel
theorem dX9_opens_130 : decode cX9_opens 130 = .ok (.bipush 13, 2) := by decide +kernel
theorem dX9_opens_132 : decode cX9_opens 132 = .ok (.iaload, 1) := by decide +kernel
theorem dX9_opens_133 : decode cX9_opens 133 = .ok (.imul, 1) := by decide +kernel
theorem dX9_opens_134 : decode cX9_opens 134 = .ok (.iconst 0, 1) := by decide +kernel
theorem dX9_opens_135 : decode cX9_opens 135 = .ok (.invokestatic 58, 3) := by decide +kernel
theorem dX9_opens_138 : decode cX9_opens 138 = .ok (.goto 4, 3) := by decide +kernel
theorem dX9_opens_141 : decode cX9_opens 141 = .ok (.iconst 0, 1) := by decide +kernel
theorem dX9_opens_142 : decode cX9_opens 142 = .ok (.iastore, 1) := by decide +kernel
theorem dX9_opens_143 : decode cX9_opens 143 = .ok (.aload_n 0, 1) := by decide +kernel
theorem dX9_opens_144 : decode cX9_opens 144 = .ok (.getfield 9, 3) := by decide +kernel
theorem dX9_opens_147 : decode cX9_opens 147 = .ok (.iload_n 1, 1) := by decide +kernel
theorem dX9_opens_148 : decode cX9_opens 148 = .ok (.bipush 9, 2) := by decide +kernel
theorem dX9_opens_150 : decode cX9_opens 150 = .ok (.invokestatic 62, 3) := by decide +kernel
theorem dX9_opens_153 : decode cX9_opens 153 = .ok (.aload_n 0, 1) := by decide +kernel
theorem dX9_opens_154 : decode cX9_opens 154 = .ok (.getfield 9, 3) := by decide +kernel
theorem dX9_opens_157 : decode cX9_opens 157 = .ok (.bipush 22, 2) := by decide +kernel
theorem dX9_opens_159 : decode cX9_opens 159 = .ok (.iaload, 1) := by decide +kernel
theorem dX9_opens_160 : decode cX9_opens 160 = .ok (.iastore, 1) := by decide +kernel
theorem dX9_opens_161 : decode cX9_opens 161 = .ok (.iconst 0, 1) := by decide +kernel
theorem dX9_opens_162 : decode cX9_opens 162 = .ok (.istore_n 2, 1) := by decide +kernel
theorem dX9_opens_163 : decode cX9_opens 163 = .ok (.iload_n 2, 1) := by decide +kernel
theorem dX9_opens_164 : decode cX9_opens 164 = .ok (.bipush 11, 2) := by decide +kernel
theorem dX9_opens_166 : decode cX9_opens 166 = .ok (.if_icmp .ge 43, 3) := by decide +kernel
theorem dX9_opens_169 : decode cX9_opens 169 = .ok (.aload_n 0, 1) := by decide +kernel
theorem dX9_opens_170 : decode cX9_opens 170 = .ok (.getfield 9, 3) := by decide +kernel
theorem dX9_opens_173 : decode cX9_opens 173 = .ok (.iload_n 1, 1) := by decide +kernel
theorem dX9_opens_174 : decode cX9_opens 174 = .ok (.iload_n 2, 1) := by decide +kernel
theorem dX9_opens_175 : decode cX9_opens 175 = .ok (.iconst 4, 1) := by decide +kernel
theorem dX9_opens_176 : decode cX9_opens 176 = .ok (.invokestatic 65, 3) := by decide +kernel
theorem dX9_opens_179 : decode cX9_opens 179 = .ok (.iload_n 2, 1) := by decide +kernel
theorem dX9_opens_180 : decode cX9_opens 180 = .ok (.iconst 2, 1) := by decide +kernel
theorem dX9_opens_181 : decode cX9_opens 181 = .ok (.if_icmp .ge 7, 3) := by decide +kernel
theorem dX9_opens_184 : decode cX9_opens 184 = .ok (.iconst (-1), 1) := by decide +kernel
theorem dX9_opens_185 : decode cX9_opens 185 = .ok (.goto 5, 3) := by decide +kernel
theorem dX9_opens_188 : decode cX9_opens 188 = .ok (.bipush (-2), 2) := by decide +kernel
theorem dX9_opens_190 : decode cX9_opens 190 = .ok (.iastore, 1) := by decide +kernel
theorem dX9_opens_191 : decode cX9_opens 191 = .ok (.aload_n 0, 1) := by decide +kernel
theorem dX9_opens_192 : decode cX9_opens 192 = .ok (.getfield 9, 3) := by decide +kernel
theorem dX9_opens_195 : decode cX9_opens 195 = .ok (.iload_n 1, 1) := by decide +kernel
theorem dX9_opens_196 : decode cX9_opens 196 = .ok (.iload_n 2, 1) := by decide +kernel
theorem dX9_opens_197 : decode cX9_opens 197 = .ok (.iconst 5, 1) := by decide +kernel
theorem dX9_opens_198 : decode cX9_opens 198 = .ok (.invokestatic 65, 3) := by decide +kernel
theorem dX9_opens_201 : decode cX9_opens 201 = .ok (.iconst (-1), 1) := by decide +kernel
theorem dX9_opens_202 : decode cX9_opens 202 = .ok (.iastore, 1) := by decide +kernel
theorem dX9_opens_203 : decode cX9_opens 203 = .ok (.iinc 2 1, 3) := by decide +kernel
theorem dX9_opens_206 : decode cX9_opens 206 = .ok (.goto (-43), 3) := by decide +kernel
theorem dX9_opens_209 : decode cX9_opens 209 = .ok (.aload_n 0, 1) := by decide +kernel
theorem dX9_opens_210 : decode cX9_opens 210 = .ok (.invokevirtual 69, 3) := by decide +kernel
theorem dX9_opens_213 : decode cX9_opens 213 = .ok (.return_, 1) := by decide +kernel
set_option maxRecDepth 20000 in
theorem ggX9_begins_X9_opens : GoodIn wsX9_begins wsX9_opens := goodIn_ca (goodIn_r _ [6, 1, 7, 8, 5, 9, 10, 11, 12, 13, 14, 15, 16, 17, 18, 19, 20, 21, 22, 23, 24, 25, 26, 27, 28, 29, 30, 31, 32, 33, 34, 35, 36, 37, 38, 39, 40, 41] (by decide +kernel) (by decide +kernel)) (goodIn_sub (fun _ h => List.mem_cons_of_mem _ (List.mem_append_right _ h)) (by decide +kernel))
set_option maxRecDepth 20000 in
theorem gX9_begins_X9_opens : GoodIn wsX9_begins (wsV RX9 72 RX9 yX9_opens wsX9_opens) := goodIn_app (goodIn_of _ (by decide +kernel)) ggX9_begins_X9_opens
theorem dX9_begins_0 : decode cX9_begins 0 = .ok (.iconst 0, 1) := by decide +kernel
theorem dX9_begins_1 : decode cX9_begins 1 = .ok (.istore 4, 2) := by decide +kernel
theorem dX9_begins_3 : decode cX9_begins 3 = .ok (.iload 4, 2) := by decide +kernel
theorem dX9_begins_5 : decode cX9_begins 5 = .ok (.sipush 6441, 3) := by decide +kernel
theorem dX9_begins_8 : decode cX9_begins 8 = .ok (.if_icmp .ge 17, 3) := by decide +kernel
theorem dX9_begins_11 : decode cX9_begins 11 = .ok (.aload_n 0, 1) := by decide +kernel
theorem dX9_begins_12 : decode cX9_begins 12 = .ok (.getfield 9, 3) := by decide +kernel
theorem dX9_begins_15 : decode cX9_begins 15 = .ok (.iload 4, 2) := by decide +kernel
theorem dX9_begins_17 : decode cX9_begins 17 = .ok (.iconst 0, 1) := by decide +kernel
theorem dX9_begins_18 : decode cX9_begins 18 = .ok (.iastore, 1) := by decide +kernel
theorem dX9_begins_19 : decode cX9_begins 19 = .ok (.iinc 4 1, 3) := by decide +kernel
theorem dX9_begins_22 : decode cX9_begins 22 = .ok (.goto (-19), 3) := by decide +kernel
theorem dX9_begins_25 : decode cX9_begins 25 = .ok (.aload_n 0, 1) := by decide +kernel
theorem dX9_begins_26 : decode cX9_begins 26 = .ok (.getfield 9, 3) := by decide +kernel
theorem dX9_begins_29 : decode cX9_begins 29 = .ok (.iconst 0, 1) := by decide +kernel
theorem dX9_begins_30 : decode cX9_begins 30 = .ok (.iconst 1, 1) := by decide +kernel
theorem dX9_begins_31 : decode cX9_begins 31 = .ok (.iastore, 1) := by decide +kernel
theorem dX9_begins_32 : decode cX9_begins 32 = .ok (.aload_n 0, 1) := by decide +kernel
theorem dX9_begins_33 : decode cX9_begins 33 = .ok (.getfield 9, 3) := by decide +kernel
theorem dX9_begins_36 : decode cX9_begins 36 = .ok (.iconst 1, 1) := by decide +kernel
theorem dX9_begins_37 : decode cX9_begins 37 = .ok (.iload_n 2, 1) := by decide +kernel
theorem dX9_begins_38 : decode cX9_begins 38 = .ok (.iastore, 1) := by decide +kernel
theorem dX9_begins_39 : decode cX9_begins 39 = .ok (.aload_n 0, 1) := by decide +kernel
theorem dX9_begins_40 : decode cX9_begins 40 = .ok (.getfield 9, 3) := by decide +kernel
theorem dX9_begins_43 : decode cX9_begins 43 = .ok (.iconst 2, 1) := by decide +kernel
theorem dX9_begins_44 : decode cX9_begins 44 = .ok (.iload_n 3, 1) := by decide +kernel
theorem dX9_begins_45 : decode cX9_begins 45 = .ok (.iastore, 1) := by decide +kernel
theorem dX9_begins_46 : decode cX9_begins 46 = .ok (.aload_n 0, 1) := by decide +kernel
theorem dX9_begins_47 : decode cX9_begins 47 = .ok (.getfield 9, 3) := by decide +kernel
theorem dX9_begins_50 : decode cX9_begins 50 = .ok (.iconst 3, 1) := by decide +kernel
theorem dX9_begins_51 : decode cX9_begins 51 = .ok (.iload_n 1, 1) := by decide +kernel
theorem dX9_begins_52 : decode cX9_begins 52 = .ok (.iastore, 1) := by decide +kernel
theorem dX9_begins_53 : decode cX9_begins 53 = .ok (.aload_n 0, 1) := by decide +kernel
theorem dX9_begins_54 : decode cX9_begins 54 = .ok (.iconst 0, 1) := by decide +kernel
theorem dX9_begins_55 : decode cX9_begins 55 = .ok (.invokevirtual 72, 3) := by decide +kernel
theorem dX9_begins_58 : decode cX9_begins 58 = .ok (.return_, 1) := by decide +kernel
theorem dX9_fifth_0 : decode cX9_fifth 0 = .ok (.iload_n 0, 1) := by decide +kernel
theorem dX9_fifth_1 : decode cX9_fifth 1 = .ok (.iconst 4, 1) := by decide +kernel
theorem dX9_fifth_2 : decode cX9_fifth 2 = .ok (.iadd, 1) := by decide +kernel
theorem dX9_fifth_3 : decode cX9_fifth 3 = .ok (.iconst 5, 1) := by decide +kernel
theorem dX9_fifth_4 : decode cX9_fifth 4 = .ok (.idiv, 1) := by decide +kernel
theorem dX9_fifth_5 : decode cX9_fifth 5 = .ok (.ireturn, 1) := by decide +kernel
set_option maxRecDepth 20000 in
theorem ggX9_begin_X9_isIn : GoodIn wsX9_begin wsX9_isIn := goodIn_r _ [6] (by decide +kernel) (by decide +kernel)
set_option maxRecDepth 20000 in
theorem gX9_begin_X9_isIn : GoodIn wsX9_begin (va_wsS RX9 76 yX9_isIn wsX9_isIn) := goodIn_app (goodIn_of _ (by decide +kernel)) ggX9_begin_X9_isIn
set_option maxRecDepth 20000 in
theorem ggX9_begin_X9_begins : GoodIn wsX9_begin wsX9_begins := goodIn_ca (goodIn_r _ [10, 11, 12, 13, 14, 5, 15, 16, 17, 18, 19, 20, 21, 22, 23, 24, 25, 26, 27, 28, 32, 33, 34, 35, 36, 37, 38, 39, 40, 41, 42, 43, 44, 45, 46, 47, 48, 49, 50, 51, 52, 53] (by decide +kernel) (by decide +kernel)) (goodIn_sub (fun _ h => List.mem_cons_of_mem _ (List.mem_append_right _ h)) (by decide +kernel))
set_option maxRecDepth 20000 in
theorem gX9_begin_X9_begins : GoodIn wsX9_begin (wsV RX9 80 RX9 yX9_begins wsX9_begins) := goodIn_app (goodIn_of _ (by decide +kernel)) ggX9_begin_X9_begins
set_option maxRecDepth 20000 in
theorem ggX9_begin_X9_fifth : GoodIn wsX9_begin wsX9_fifth := goodIn_r _ [31] (by decide +kernel) (by decide +kernel)
set_option maxRecDepth 20000 in
theorem gX9_begin_X9_fifth : GoodIn wsX9_begin (va_wsS RX9 87 yX9_fifth wsX9_fifth) := goodIn_app (goodIn_of _ (by decide +kernel)) ggX9_begin_X9_fifth
theorem dX9_begin_0 : decode cX9_begin 0 = .ok (.aload_n 0, 1) := by decide +kernel
theorem dX9_begin_1 : decode cX9_begin 1 = .ok (.iload_n 1, 1) := by decide +kernel
theorem dX9_begin_2 : decode cX9_begin 2 = .ok (.iconst 1, 1) := by decide +kernel
theorem dX9_begin_3 : decode cX9_begin 3 = .ok (.bipush 20, 2) := by decide +kernel
theorem dX9_begin_5 : decode cX9_begin 5 = .ok (.invokestatic 76, 3) := by decide +kernel
theorem dX9_begin_8 : decode cX9_begin 8 = .ok (.ifCond .eq 25, 3) := by decide +kernel
theorem dX9_begin_11 : decode cX9_begin 11 = .ok (.iload_n 2, 1) := by decide +kernel
theorem dX9_begin_12 : decode cX9_begin 12 = .ok (.iconst 1, 1) := by decide +kernel
theorem dX9_begin_13 : decode cX9_begin 13 = .ok (.iconst 2, 1) := by decide +kernel
theorem dX9_begin_14 : decode cX9_begin 14 = .ok (.invokestatic 76, 3) := by decide +kernel
theorem dX9_begin_17 : decode cX9_begin 17 = .ok (.ifCond .eq 16, 3) := by decide +kernel
theorem dX9_begin_20 : decode cX9_begin 20 = .ok (.iload_n 3, 1) := by decide +kernel
theorem dX9_begin_21 : decode cX9_begin 21 = .ok (.iconst 0, 1) := by decide +kernel
theorem dX9_begin_22 : decode cX9_begin 22 = .ok (.iconst 1, 1) := by decide +kernel
theorem dX9_begin_23 : decode cX9_begin 23 = .ok (.invokestatic 76, 3) := by decide +kernel
theorem dX9_begin_26 : decode cX9_begin 26 = .ok (.ifCond .eq 7, 3) := by decide +kernel
theorem dX9_begin_29 : decode cX9_begin 29 = .ok (.iconst 0, 1) := by decide +kernel
theorem dX9_begin_30 : decode cX9_begin 30 = .ok (.goto 4, 3) := by decide +kernel
theorem dX9_begin_33 : decode cX9_begin 33 = .ok (.iconst 1, 1) := by decide +kernel
theorem dX9_begin_34 : decode cX9_begin 34 = .ok (.putfield 55, 3) := by decide +kernel
theorem dX9_begin_37 : decode cX9_begin 37 = .ok (.aload_n 0, 1) := by decide +kernel
theorem dX9_begin_38 : decode cX9_begin 38 = .ok (.getfield 55, 3) := by decide +kernel
theorem dX9_begin_41 : decode cX9_begin 41 = .ok (.iconst 1, 1) := by decide +kernel
theorem dX9_begin_42 : decode cX9_begin 42 = .ok (.if_icmp .ne 5, 3) := by decide +kernel
theorem dX9_begin_45 : decode cX9_begin 45 = .ok (.iconst 0, 1) := by decide +kernel
theorem dX9_begin_46 : decode cX9_begin 46 = .ok (.ireturn, 1) := by decide +kernel
theorem dX9_begin_47 : decode cX9_begin 47 = .ok (.aload_n 0, 1) := by decide +kernel
theorem dX9_begin_48 : decode cX9_begin 48 = .ok (.iload_n 1, 1) := by decide +kernel
theorem dX9_begin_49 : decode cX9_begin 49 = .ok (.iload_n 2, 1) := by decide +kernel
theorem dX9_begin_50 : decode cX9_begin 50 = .ok (.iload_n 3, 1) := by decide +kernel
theorem dX9_begin_51 : decode cX9_begin 51 = .ok (.invokevirtual 80, 3) := by decide +kernel
theorem dX9_begin_54 : decode cX9_begin 54 = .ok (.aload_n 0, 1) := by decide +kernel
theorem dX9_begin_55 : decode cX9_begin 55 = .ok (.iconst 0, 1) := by decide +kernel
theorem dX9_begin_56 : decode cX9_begin 56 = .ok (.putfield 84, 3) := by decide +kernel
theorem dX9_begin_59 : decode cX9_begin 59 = .ok (.iload_n 1, 1) := by decide +kernel
theorem dX9_begin_60 : decode cX9_begin 60 = .ok (.invokestatic 87, 3) := by decide +kernel
theorem dX9_begin_63 : decode cX9_begin 63 = .ok (.ireturn, 1) := by decide +kernel
set_option maxRecDepth 20000 in
theorem ggX9_target_X9_at : GoodIn wsX9_target wsX9_at := goodIn_r _ [7] (by decide +kernel) (by decide +kernel)
set_option maxRecDepth 20000 in
theorem gX9_target_X9_at : GoodIn wsX9_target (va_wsS RX9 62 yX9_at wsX9_at) := goodIn_app (goodIn_of _ (by decide +kernel)) ggX9_target_X9_at
theorem dX9_target_0 : decode cX9_target 0 = .ok (.aload_n 0, 1) := by decide +kernel
theorem dX9_target_1 : decode cX9_target 1 = .ok (.getfield 9, 3) := by decide +kernel
theorem dX9_target_4 : decode cX9_target 4 = .ok (.iconst 1, 1) := by decide +kernel
theorem dX9_target_5 : decode cX9_target 5 = .ok (.iaload, 1) := by decide +kernel
theorem dX9_target_6 : decode cX9_target 6 = .ok (.iconst 2, 1) := by decide +kernel
theorem dX9_target_7 : decode cX9_target 7 = .ok (.if_icmp .ne 38, 3) := by decide +kernel
theorem dX9_target_10 : decode cX9_target 10 = .ok (.aload_n 0, 1) := by decide +kernel
theorem dX9_target_11 : decode cX9_target 11 = .ok (.getfield 9, 3) := by decide +kernel
theorem dX9_target_14 : decode cX9_target 14 = .ok (.iconst 0, 1) := by decide +kernel
theorem dX9_target_15 : decode cX9_target 15 = .ok (.iconst 0, 1) := by decide +kernel
theorem dX9_target_16 : decode cX9_target 16 = .ok (.invokestatic 62, 3) := by decide +kernel
theorem dX9_target_19 : decode cX9_target 19 = .ok (.iaload, 1) := by decide +kernel
theorem dX9_target_20 : decode cX9_target 20 = .ok (.aload_n 0, 1) := by decide +kernel
theorem dX9_target_21 : decode cX9_target 21 = .ok (.getfield 9, 3) := by decide +kernel
theorem dX9_target_24 : decode cX9_target 24 = .ok (.iconst 2, 1) := by decide +kernel
theorem dX9_target_25 : decode cX9_target 25 = .ok (.iconst 0, 1) := by decide +kernel
theorem dX9_target_26 : decode cX9_target 26 = .ok (.invokestatic 62, 3) := by decide +kernel
theorem dX9_target_29 : decode cX9_target 29 = .ok (.iaload, 1) := by decide +kernel
theorem dX9_target_30 : decode cX9_target 30 = .ok (.iadd, 1) := by decide +kernel
theorem dX9_target_31 : decode cX9_target 31 = .ok (.aload_n 0, 1) := by decide +kernel
theorem dX9_target_32 : decode cX9_target 32 = .ok (.getfield 9, 3) := by decide +kernel
theorem dX9_target_35 : decode cX9_target 35 = .ok (.iconst 1, 1) := by decide +kernel
theorem dX9_target_36 : decode cX9_target 36 = .ok (.iconst 0, 1) := by decide +kernel
theorem dX9_target_37 : decode cX9_target 37 = .ok (.invokestatic 62, 3) := by decide +kernel
theorem dX9_target_40 : decode cX9_target 40 = .ok (.iaload, 1) := by decide +kernel
theorem dX9_target_41 : decode cX9_target 41 = .ok (.isub, 1) := by decide +kernel
theorem dX9_target_42 : decode cX9_target 42 = .ok (.iconst 1, 1) := by decide +kernel
theorem dX9_target_43 : decode cX9_target 43 = .ok (.iadd, 1) := by decide +kernel
theorem dX9_target_44 : decode cX9_target 44 = .ok (.ireturn, 1) := by decide +kernel
theorem dX9_target_45 : decode cX9_target 45 = .ok (.aload_n 0, 1) := by decide +kernel
theorem dX9_target_46 : decode cX9_target 46 = .ok (.getfield 9, 3) := by decide +kernel
theorem dX9_target_49 : decode cX9_target 49 = .ok (.iconst 0, 1) := by decide +kernel
theorem dX9_target_50 : decode cX9_target 50 = .ok (.iconst 0, 1) := by decide +kernel
theorem dX9_target_51 : decode cX9_target 51 = .ok (.invokestatic 62, 3) := by decide +kernel
theorem dX9_target_54 : decode cX9_target 54 = .ok (.iaload, 1) := by decide +kernel
theorem dX9_target_55 : decode cX9_target 55 = .ok (.i2l, 1) := by decide +kernel
theorem dX9_target_56 : decode cX9_target 56 = .ok (.lstore_n 1, 1) := by decide +kernel
theorem dX9_target_57 : decode cX9_target 57 = .ok (.aload_n 0, 1) := by decide +kernel
theorem dX9_target_58 : decode cX9_target 58 = .ok (.getfield 9, 3) := by decide +kernel
theorem dX9_target_61 : decode cX9_target 61 = .ok (.bipush 14, 2) := by decide +kernel
theorem dX9_target_63 : decode cX9_target 63 = .ok (.iaload, 1) := by decide +kernel
theorem dX9_target_64 : decode cX9_target 64 = .ok (.i2l, 1) := by decide +kernel
theorem dX9_target_65 : decode cX9_target 65 = .ok (.lstore_n 3, 1) := by decide +kernel
theorem dX9_target_66 : decode cX9_target 66 = .ok (.aload_n 0, 1) := by decide +kernel
theorem dX9_target_67 : decode cX9_target 67 = .ok (.getfield 9, 3) := by decide +kernel
theorem dX9_target_70 : decode cX9_target 70 = .ok (.bipush 15, 2) := by decide +kernel
theorem dX9_target_72 : decode cX9_target 72 = .ok (.iaload, 1) := by decide +kernel
theorem dX9_target_73 : decode cX9_target 73 = .ok (.i2l, 1) := by decide +kernel
theorem dX9_target_74 : decode cX9_target 74 = .ok (.lstore 5, 2) := by decide +kernel
theorem dX9_target_76 : decode cX9_target 76 = .ok (.lload 5, 2) := by decide +kernel
theorem dX9_target_78 : decode cX9_target 78 = .ok (.lload_n 3, 1) := by decide +kernel
theorem dX9_target_79 : decode cX9_target 79 = .ok (.lcmp, 1) := by decide +kernel
theorem dX9_target_80 : decode cX9_target 80 = .ok (.ifCond .gt 14, 3) := by decide +kernel
theorem dX9_target_83 : decode cX9_target 83 = .ok (.lload_n 1, 1) := by decide +kernel
theorem dX9_target_84 : decode cX9_target 84 = .ok (.lload 5, 2) := by decide +kernel
theorem dX9_target_86 : decode cX9_target 86 = .ok (.lmul, 1) := by decide +kernel
theorem dX9_target_87 : decode cX9_target 87 = .ok (.lload_n 3, 1) := by decide +kernel
theorem dX9_target_88 : decode cX9_target 88 = .ok (.ldiv, 1) := by decide +kernel
theorem dX9_target_89 : decode cX9_target 89 = .ok (.lconst 1, 1) := by decide +kernel
theorem dX9_target_90 : decode cX9_target 90 = .ok (.ladd, 1) := by decide +kernel
theorem dX9_target_91 : decode cX9_target 91 = .ok (.goto 19, 3) := by decide +kernel
theorem dX9_target_94 : decode cX9_target 94 = .ok (.lload_n 1, 1) := by decide +kernel
theorem dX9_target_95 : decode cX9_target 95 = .ok (.ldc2_w 91, 3) := by decide +kernel
theorem dX9_target_98 : decode cX9_target 98 = .ok (.lload 5, 2) := by decide +kernel
theorem dX9_target_100 : decode cX9_target 100 = .ok (.lload_n 3, 1) := by decide +kernel
theorem dX9_target_101 : decode cX9_target 101 = .ok (.lsub, 1) := by decide +kernel
theorem dX9_target_102 : decode cX9_target 102 = .ok (.lmul, 1) := by decide +kernel
theorem dX9_target_103 : decode cX9_target 103 = .ok (.ldc2_w 93, 3) := by decide +kernel
theorem dX9_target_106 : decode cX9_target 106 = .ok (.ldiv, 1) := by decide +kernel
theorem dX9_target_107 : decode cX9_target 107 = .ok (.ladd, 1) := by decide +kernel
theorem dX9_target_108 : decode cX9_target 108 = .ok (.lconst 1, 1) := by decide +kernel
theorem dX9_target_109 : decode cX9_target 109 = .ok (.ladd, 1) := by decide +kernel
theorem dX9_target_110 : decode cX9_target 110 = .ok (.l2i, 1) := by decide +kernel
theorem dX9_target_111 : decode cX9_target 111 = .ok (.ireturn, 1) := by decide +kernel
set_option maxRecDepth 20000 in
theorem ggX9_looks_X9_at : GoodIn wsX9_looks wsX9_at := goodIn_r _ [5] (by decide +kernel) (by decide +kernel)
set_option maxRecDepth 20000 in
theorem gX9_looks_X9_at : GoodIn wsX9_looks (va_wsS RX9 62 yX9_at wsX9_at) := goodIn_app (goodIn_of _ (by decide +kernel)) ggX9_looks_X9_at
set_option maxRecDepth 20000 in
theorem ggX9_looks_X9_last : GoodIn wsX9_looks wsX9_last := goodIn_ca (goodIn_r _ [9, 1, 30, 31, 32, 33, 34, 35, 36, 37, 38, 39, 40, 41, 42, 43, 44, 45, 46, 47, 48, 49, 50, 51] (by decide +kernel) (by decide +kernel)) (goodIn_sub (fun _ h => List.mem_cons_of_mem _ (List.mem_append_left _ (List.mem_append_right _ h))) (by decide +kernel))
set_option maxRecDepth 20000 in
theorem gX9_looks_X9_last : GoodIn wsX9_looks (wsV RX9 95 RX9 yX9_last wsX9_last) := goodIn_app (goodIn_of _ (by decide +kernel)) ggX9_looks_X9_last
set_option maxRecDepth 20000 in
theorem ggX9_looks_X9_target : GoodIn wsX9_looks wsX9_target := goodIn_ca (goodIn_ca (goodIn_r _ [13, 1, 14, 15, 2, 3, 4, 5, 30, 31, 32, 33, 34, 35, 36, 37, 38, 39, 40, 41, 42, 43, 44, 45, 46, 47, 48, 49, 50, 51] (by decide +kernel) (by decide +kernel)) (goodIn_sub (fun _ h => List.mem_cons_of_mem _ (List.mem_append_left _ (List.mem_append_right _ h))) (by decide +kernel))) (goodIn_sub (fun _ h => List.mem_cons_of_mem _ (List.mem_append_right _ h)) (by decide +kernel))
set_option maxRecDepth 20000 in
theorem gX9_looks_X9_target : GoodIn wsX9_looks (wsV RX9 99 RX9 yX9_target wsX9_target) := goodIn_app (goodIn_of _ (by decide +kernel)) ggX9_looks_X9_target
set_option maxRecDepth 20000 in
theorem ggX9_looks_X9_opens : GoodIn wsX9_looks wsX9_opens := goodIn_ca (goodIn_r _ [19, 1, 20, 21, 4, 22, 2, 3, 5, 23, 24, 25, 26, 27, 28, 29, 30, 31, 32, 33, 34, 35, 36, 37, 38, 39, 40, 41, 42, 43, 44, 45, 46, 47, 48, 49, 50, 51] (by decide +kernel) (by decide +kernel)) (goodIn_sub (fun _ h => List.mem_cons_of_mem _ (List.mem_append_left _ (List.mem_append_right _ h))) (by decide +kernel))
set_option maxRecDepth 20000 in
theorem gX9_looks_X9_opens : GoodIn wsX9_looks (wsV RX9 72 RX9 yX9_opens wsX9_opens) := goodIn_app (goodIn_of _ (by decide +kernel)) ggX9_looks_X9_opens
theorem dX9_looks_0 : decode cX9_looks 0 = .ok (.aload_n 0, 1) := by decide +kernel
theorem dX9_looks_1 : decode cX9_looks 1 = .ok (.getfield 9, 3) := by decide +kernel
theorem dX9_looks_4 : decode cX9_looks 4 = .ok (.iconst 4, 1) := by decide +kernel
theorem dX9_looks_5 : decode cX9_looks 5 = .ok (.iaload, 1) := by decide +kernel
theorem dX9_looks_6 : decode cX9_looks 6 = .ok (.istore_n 3, 1) := by decide +kernel
theorem dX9_looks_7 : decode cX9_looks 7 = .ok (.aload_n 0, 1) := by decide +kernel
theorem dX9_looks_8 : decode cX9_looks 8 = .ok (.getfield 9, 3) := by decide +kernel
theorem dX9_looks_11 : decode cX9_looks 11 = .ok (.iload_n 3, 1) := by decide +kernel
theorem dX9_looks_12 : decode cX9_looks 12 = .ok (.bipush 8, 2) := by decide +kernel
theorem dX9_looks_14 : decode cX9_looks 14 = .ok (.invokestatic 62, 3) := by decide +kernel
theorem dX9_looks_17 : decode cX9_looks 17 = .ok (.iaload, 1) := by decide +kernel
theorem dX9_looks_18 : decode cX9_looks 18 = .ok (.aload_n 0, 1) := by decide +kernel
theorem dX9_looks_19 : decode cX9_looks 19 = .ok (.getfield 9, 3) := by decide +kernel
theorem dX9_looks_22 : decode cX9_looks 22 = .ok (.bipush 13, 2) := by decide +kernel
theorem dX9_looks_24 : decode cX9_looks 24 = .ok (.iaload, 1) := by decide +kernel
theorem dX9_looks_25 : decode cX9_looks 25 = .ok (.if_icmp .ne 7, 3) := by decide +kernel
theorem dX9_looks_28 : decode cX9_looks 28 = .ok (.iconst 1, 1) := by decide +kernel
theorem dX9_looks_29 : decode cX9_looks 29 = .ok (.goto 4, 3) := by decide +kernel
theorem dX9_looks_32 : decode cX9_looks 32 = .ok (.iconst 0, 1) := by decide +kernel
theorem dX9_looks_33 : decode cX9_looks 33 = .ok (.istore 4, 2) := by decide +kernel
theorem dX9_looks_35 : decode cX9_looks 35 = .ok (.iload_n 1, 1) := by decide +kernel
theorem dX9_looks_36 : decode cX9_looks 36 = .ok (.ifCond .eq 7, 3) := by decide +kernel
theorem dX9_looks_39 : decode cX9_looks 39 = .ok (.iconst 2, 1) := by decide +kernel
theorem dX9_looks_40 : decode cX9_looks 40 = .ok (.goto 5, 3) := by decide +kernel
theorem dX9_looks_43 : decode cX9_looks 43 = .ok (.iload 4, 2) := by decide +kernel
theorem dX9_looks_45 : decode cX9_looks 45 = .ok (.istore 4, 2) := by decide +kernel
theorem dX9_looks_47 : decode cX9_looks 47 = .ok (.iload_n 2, 1) := by decide +kernel
theorem dX9_looks_48 : decode cX9_looks 48 = .ok (.ifCond .eq 7, 3) := by decide +kernel
theorem dX9_looks_51 : decode cX9_looks 51 = .ok (.iconst 3, 1) := by decide +kernel
theorem dX9_looks_52 : decode cX9_looks 52 = .ok (.goto 5, 3) := by decide +kernel
theorem dX9_looks_55 : decode cX9_looks 55 = .ok (.iload 4, 2) := by decide +kernel
theorem dX9_looks_57 : decode cX9_looks 57 = .ok (.istore 4, 2) := by decide +kernel
theorem dX9_looks_59 : decode cX9_looks 59 = .ok (.iload_n 3, 1) := by decide +kernel
theorem dX9_looks_60 : decode cX9_looks 60 = .ok (.aload_n 0, 1) := by decide +kernel
theorem dX9_looks_61 : decode cX9_looks 61 = .ok (.invokevirtual 95, 3) := by decide +kernel
theorem dX9_looks_64 : decode cX9_looks 64 = .ok (.if_icmp .ne 24, 3) := by decide +kernel
theorem dX9_looks_67 : decode cX9_looks 67 = .ok (.aload_n 0, 1) := by decide +kernel
theorem dX9_looks_68 : decode cX9_looks 68 = .ok (.getfield 9, 3) := by decide +kernel
theorem dX9_looks_71 : decode cX9_looks 71 = .ok (.iload_n 3, 1) := by decide +kernel
theorem dX9_looks_72 : decode cX9_looks 72 = .ok (.iconst 0, 1) := by decide +kernel
theorem dX9_looks_73 : decode cX9_looks 73 = .ok (.invokestatic 62, 3) := by decide +kernel
theorem dX9_looks_76 : decode cX9_looks 76 = .ok (.iaload, 1) := by decide +kernel
theorem dX9_looks_77 : decode cX9_looks 77 = .ok (.aload_n 0, 1) := by decide +kernel
theorem dX9_looks_78 : decode cX9_looks 78 = .ok (.invokevirtual 99, 3) := by decide +kernel
theorem dX9_looks_81 : decode cX9_looks 81 = .ok (.if_icmp .lt 7, 3) := by decide +kernel
theorem dX9_looks_84 : decode cX9_looks 84 = .ok (.iconst 4, 1) := by decide +kernel
theorem dX9_looks_85 : decode cX9_looks 85 = .ok (.goto 5, 3) := by decide +kernel
theorem dX9_looks_88 : decode cX9_looks 88 = .ok (.iload 4, 2) := by decide +kernel
theorem dX9_looks_90 : decode cX9_looks 90 = .ok (.istore 4, 2) := by decide +kernel
theorem dX9_looks_92 : decode cX9_looks 92 = .ok (.aload_n 0, 1) := by decide +kernel
theorem dX9_looks_93 : decode cX9_looks 93 = .ok (.getfield 9, 3) := by decide +kernel
theorem dX9_looks_96 : decode cX9_looks 96 = .ok (.iload_n 3, 1) := by decide +kernel
theorem dX9_looks_97 : decode cX9_looks 97 = .ok (.bipush 7, 2) := by decide +kernel
theorem dX9_looks_99 : decode cX9_looks 99 = .ok (.invokestatic 62, 3) := by decide +kernel
theorem dX9_looks_102 : decode cX9_looks 102 = .ok (.iload 4, 2) := by decide +kernel
theorem dX9_looks_104 : decode cX9_looks 104 = .ok (.iastore, 1) := by decide +kernel
theorem dX9_looks_105 : decode cX9_looks 105 = .ok (.iload 4, 2) := by decide +kernel
theorem dX9_looks_107 : decode cX9_looks 107 = .ok (.ifCond .ne 4, 3) := by decide +kernel
theorem dX9_looks_110 : decode cX9_looks 110 = .ok (.return_, 1) := by decide +kernel
theorem dX9_looks_111 : decode cX9_looks 111 = .ok (.iload_n 3, 1) := by decide +kernel
theorem dX9_looks_112 : decode cX9_looks 112 = .ok (.aload_n 0, 1) := by decide +kernel
theorem dX9_looks_113 : decode cX9_looks 113 = .ok (.invokevirtual 95, 3) := by decide +kernel
theorem dX9_looks_116 : decode cX9_looks 116 = .ok (.if_icmp .eq 25, 3) := by decide +kernel
theorem dX9_looks_119 : decode cX9_looks 119 = .ok (.aload_n 0, 1) := by decide +kernel
theorem dX9_looks_120 : decode cX9_looks 120 = .ok (.getfield 9, 3) := by decide +kernel
theorem dX9_looks_123 : decode cX9_looks 123 = .ok (.iconst 1, 1) := by decide +kernel
theorem dX9_looks_124 : decode cX9_looks 124 = .ok (.iaload, 1) := by decide +kernel
theorem dX9_looks_125 : decode cX9_looks 125 = .ok (.iconst 2, 1) := by decide +kernel
theorem dX9_looks_126 : decode cX9_looks 126 = .ok (.if_icmp .ne 25, 3) := by decide +kernel
theorem dX9_looks_129 : decode cX9_looks 129 = .ok (.iload_n 3, 1) := by decide +kernel
theorem dX9_looks_130 : decode cX9_looks 130 = .ok (.iconst 2, 1) := by decide +kernel
theorem dX9_looks_131 : decode cX9_looks 131 = .ok (.if_icmp .ne 20, 3) := by decide +kernel
theorem dX9_looks_134 : decode cX9_looks 134 = .ok (.aload_n 0, 1) := by decide +kernel
theorem dX9_looks_135 : decode cX9_looks 135 = .ok (.invokevirtual 99, 3) := by decide +kernel
theorem dX9_looks_138 : decode cX9_looks 138 = .ok (.ifCond .gt 13, 3) := by decide +kernel
theorem dX9_looks_141 : decode cX9_looks 141 = .ok (.aload_n 0, 1) := by decide +kernel
theorem dX9_looks_142 : decode cX9_looks 142 = .ok (.getfield 9, 3) := by decide +kernel
theorem dX9_looks_145 : decode cX9_looks 145 = .ok (.iconst 5, 1) := by decide +kernel
theorem dX9_looks_146 : decode cX9_looks 146 = .ok (.iconst 1, 1) := by decide +kernel
theorem dX9_looks_147 : decode cX9_looks 147 = .ok (.iastore, 1) := by decide +kernel
theorem dX9_looks_148 : decode cX9_looks 148 = .ok (.goto 10, 3) := by decide +kernel
theorem dX9_looks_151 : decode cX9_looks 151 = .ok (.aload_n 0, 1) := by decide +kernel
theorem dX9_looks_152 : decode cX9_looks 152 = .ok (.iload_n 3, 1) := by decide +kernel
theorem dX9_looks_153 : decode cX9_looks 153 = .ok (.iconst 1, 1) := by decide +kernel
theorem dX9_looks_154 : decode cX9_looks 154 = .ok (.iadd, 1) := by decide +kernel
theorem dX9_looks_155 : decode cX9_looks 155 = .ok (.invokevirtual 72, 3) := by decide +kernel
theorem dX9_looks_158 : decode cX9_looks 158 = .ok (.return_, 1) := by decide +kernel
theorem dX9_noMatch_0 : decode cX9_noMatch 0 = .ok (.aload_n 0, 1) := by decide +kernel
theorem dX9_noMatch_1 : decode cX9_noMatch 1 = .ok (.getfield 9, 3) := by decide +kernel
theorem dX9_noMatch_4 : decode cX9_noMatch 4 = .ok (.iconst 0, 1) := by decide +kernel
theorem dX9_noMatch_5 : decode cX9_noMatch 5 = .ok (.iaload, 1) := by decide +kernel
theorem dX9_noMatch_6 : decode cX9_noMatch 6 = .ok (.ifCond .eq 13, 3) := by decide +kernel
theorem dX9_noMatch_9 : decode cX9_noMatch 9 = .ok (.aload_n 0, 1) := by decide +kernel
theorem dX9_noMatch_10 : decode cX9_noMatch 10 = .ok (.getfield 9, 3) := by decide +kernel
theorem dX9_noMatch_13 : decode cX9_noMatch 13 = .ok (.iconst 5, 1) := by decide +kernel
theorem dX9_noMatch_14 : decode cX9_noMatch 14 = .ok (.iaload, 1) := by decide +kernel
theorem dX9_noMatch_15 : decode cX9_noMatch 15 = .ok (.iconst 1, 1) := by decide +kernel
theorem dX9_noMatch_16 : decode cX9_noMatch 16 = .ok (.if_icmp .ne 7, 3) := by decide +kernel
theorem dX9_noMatch_19 : decode cX9_noMatch 19 = .ok (.iconst 1, 1) := by decide +kernel
theorem dX9_noMatch_20 : decode cX9_noMatch 20 = .ok (.goto 4, 3) := by decide +kernel
theorem dX9_noMatch_23 : decode cX9_noMatch 23 = .ok (.iconst 0, 1) := by decide +kernel
theorem dX9_noMatch_24 : decode cX9_noMatch 24 = .ok (.ireturn, 1) := by decide +kernel
set_option maxRecDepth 20000 in
theorem ggX9_refusesBowl_X9_noMatch : GoodIn wsX9_refusesBowl wsX9_noMatch := goodIn_ca (goodIn_r _ [6, 1, 13, 14, 15, 16, 17, 18, 19, 20, 21, 22, 23, 24, 25, 26, 27, 28, 29, 30, 31, 32, 33, 34] (by decide +kernel) (by decide +kernel)) (goodIn_sub (fun _ h => List.mem_cons_of_mem _ (List.mem_append_right _ h)) (by decide +kernel))
set_option maxRecDepth 20000 in
theorem gX9_refusesBowl_X9_noMatch : GoodIn wsX9_refusesBowl (wsV RX9 102 RX9 yX9_noMatch wsX9_noMatch) := goodIn_app (goodIn_of _ (by decide +kernel)) ggX9_refusesBowl_X9_noMatch
set_option maxRecDepth 20000 in
theorem ggX9_refusesBowl_X9_bowlerAt : GoodIn wsX9_refusesBowl wsX9_bowlerAt := goodIn_r _ [9] (by decide +kernel) (by decide +kernel)
set_option maxRecDepth 20000 in
theorem gX9_refusesBowl_X9_bowlerAt : GoodIn wsX9_refusesBowl (va_wsS RX9 105 yX9_bowlerAt wsX9_bowlerAt) := goodIn_app (goodIn_of _ (by decide +kernel)) ggX9_refusesBowl_X9_bowlerAt
set_option maxRecDepth 20000 in
theorem ggX9_refusesBowl_X9_fifth : GoodIn wsX9_refusesBowl wsX9_fifth := goodIn_r _ [12] (by decide +kernel) (by decide +kernel)
set_option maxRecDepth 20000 in
theorem gX9_refusesBowl_X9_fifth : GoodIn wsX9_refusesBowl (va_wsS RX9 87 yX9_fifth wsX9_fifth) := goodIn_app (goodIn_of _ (by decide +kernel)) ggX9_refusesBowl_X9_fifth
theorem dX9_refusesBowl_0 : decode cX9_refusesBowl 0 = .ok (.aload_n 0, 1) := by decide +kernel
theorem dX9_refusesBowl_1 : decode cX9_refusesBowl 1 = .ok (.invokevirtual 102, 3) := by decide +kernel
theorem dX9_refusesBowl_4 : decode cX9_refusesBowl 4 = .ok (.iconst 1, 1) := by decide +kernel
theorem dX9_refusesBowl_5 : decode cX9_refusesBowl 5 = .ok (.if_icmp .ne 5, 3) := by decide +kernel
theorem dX9_refusesBowl_8 : decode cX9_refusesBowl 8 = .ok (.iconst 1, 1) := by decide +kernel
theorem dX9_refusesBowl_9 : decode cX9_refusesBowl 9 = .ok (.ireturn, 1) := by decide +kernel
theorem dX9_refusesBowl_10 : decode cX9_refusesBowl 10 = .ok (.aload_n 0, 1) := by decide +kernel
theorem dX9_refusesBowl_11 : decode cX9_refusesBowl 11 = .ok (.getfield 9, 3) := by decide +kernel
theorem dX9_refusesBowl_14 : decode cX9_refusesBowl 14 = .ok (.bipush 9, 2) := by decide +kernel
theorem dX9_refusesBowl_16 : decode cX9_refusesBowl 16 = .ok (.iaload, 1) := by decide +kernel
theorem dX9_refusesBowl_17 : decode cX9_refusesBowl 17 = .ok (.ifCond .lt 5, 3) := by decide +kernel
theorem dX9_refusesBowl_20 : decode cX9_refusesBowl 20 = .ok (.iconst 2, 1) := by decide +kernel
theorem dX9_refusesBowl_21 : decode cX9_refusesBowl 21 = .ok (.ireturn, 1) := by decide +kernel
theorem dX9_refusesBowl_22 : decode cX9_refusesBowl 22 = .ok (.aload_n 0, 1) := by decide +kernel
theorem dX9_refusesBowl_23 : decode cX9_refusesBowl 23 = .ok (.getfield 9, 3) := by decide +kernel
theorem dX9_refusesBowl_26 : decode cX9_refusesBowl 26 = .ok (.iconst 4, 1) := by decide +kernel
theorem dX9_refusesBowl_27 : decode cX9_refusesBowl 27 = .ok (.iaload, 1) := by decide +kernel
theorem dX9_refusesBowl_28 : decode cX9_refusesBowl 28 = .ok (.istore_n 2, 1) := by decide +kernel
theorem dX9_refusesBowl_29 : decode cX9_refusesBowl 29 = .ok (.aload_n 0, 1) := by decide +kernel
theorem dX9_refusesBowl_30 : decode cX9_refusesBowl 30 = .ok (.getfield 9, 3) := by decide +kernel
theorem dX9_refusesBowl_33 : decode cX9_refusesBowl 33 = .ok (.bipush 12, 2) := by decide +kernel
theorem dX9_refusesBowl_35 : decode cX9_refusesBowl 35 = .ok (.iaload, 1) := by decide +kernel
theorem dX9_refusesBowl_36 : decode cX9_refusesBowl 36 = .ok (.iload_n 1, 1) := by decide +kernel
theorem dX9_refusesBowl_37 : decode cX9_refusesBowl 37 = .ok (.if_icmp .eq 30, 3) := by decide +kernel
theorem dX9_refusesBowl_40 : decode cX9_refusesBowl 40 = .ok (.aload_n 0, 1) := by decide +kernel
theorem dX9_refusesBowl_41 : decode cX9_refusesBowl 41 = .ok (.getfield 9, 3) := by decide +kernel
theorem dX9_refusesBowl_44 : decode cX9_refusesBowl 44 = .ok (.iload_n 2, 1) := by decide +kernel
theorem dX9_refusesBowl_45 : decode cX9_refusesBowl 45 = .ok (.iload_n 1, 1) := by decide +kernel
theorem dX9_refusesBowl_46 : decode cX9_refusesBowl 46 = .ok (.bipush 6, 2) := by decide +kernel
theorem dX9_refusesBowl_48 : decode cX9_refusesBowl 48 = .ok (.invokestatic 105, 3) := by decide +kernel
theorem dX9_refusesBowl_51 : decode cX9_refusesBowl 51 = .ok (.iaload, 1) := by decide +kernel
theorem dX9_refusesBowl_52 : decode cX9_refusesBowl 52 = .ok (.aload_n 0, 1) := by decide +kernel
theorem dX9_refusesBowl_53 : decode cX9_refusesBowl 53 = .ok (.getfield 9, 3) := by decide +kernel
theorem dX9_refusesBowl_56 : decode cX9_refusesBowl 56 = .ok (.bipush 18, 2) := by decide +kernel
theorem dX9_refusesBowl_58 : decode cX9_refusesBowl 58 = .ok (.iload_n 2, 1) := by decide +kernel
theorem dX9_refusesBowl_59 : decode cX9_refusesBowl 59 = .ok (.iadd, 1) := by decide +kernel
theorem dX9_refusesBowl_60 : decode cX9_refusesBowl 60 = .ok (.iaload, 1) := by decide +kernel
theorem dX9_refusesBowl_61 : decode cX9_refusesBowl 61 = .ok (.invokestatic 87, 3) := by decide +kernel
theorem dX9_refusesBowl_64 : decode cX9_refusesBowl 64 = .ok (.if_icmp .lt 7, 3) := by decide +kernel
theorem dX9_refusesBowl_67 : decode cX9_refusesBowl 67 = .ok (.iconst 4, 1) := by decide +kernel
theorem dX9_refusesBowl_68 : decode cX9_refusesBowl 68 = .ok (.goto 4, 3) := by decide +kernel
theorem dX9_refusesBowl_71 : decode cX9_refusesBowl 71 = .ok (.iconst 0, 1) := by decide +kernel
theorem dX9_refusesBowl_72 : decode cX9_refusesBowl 72 = .ok (.ireturn, 1) := by decide +kernel
set_option maxRecDepth 20000 in
theorem ggX9_refusesBall_X9_noMatch : GoodIn wsX9_refusesBall wsX9_noMatch := goodIn_ca (goodIn_r _ [6, 1, 7, 8, 9, 10, 11, 12, 13, 14, 15, 16, 17, 18, 19, 20, 21, 22, 23, 24, 25, 26, 27, 28] (by decide +kernel) (by decide +kernel)) (goodIn_sub (fun _ h => List.mem_cons_of_mem _ (List.mem_append_right _ h)) (by decide +kernel))
set_option maxRecDepth 20000 in
theorem gX9_refusesBall_X9_noMatch : GoodIn wsX9_refusesBall (wsV RX9 102 RX9 yX9_noMatch wsX9_noMatch) := goodIn_app (goodIn_of _ (by decide +kernel)) ggX9_refusesBall_X9_noMatch
theorem dX9_refusesBall_0 : decode cX9_refusesBall 0 = .ok (.aload_n 0, 1) := by decide +kernel
theorem dX9_refusesBall_1 : decode cX9_refusesBall 1 = .ok (.invokevirtual 102, 3) := by decide +kernel
theorem dX9_refusesBall_4 : decode cX9_refusesBall 4 = .ok (.iconst 1, 1) := by decide +kernel
theorem dX9_refusesBall_5 : decode cX9_refusesBall 5 = .ok (.if_icmp .ne 7, 3) := by decide +kernel
theorem dX9_refusesBall_8 : decode cX9_refusesBall 8 = .ok (.iconst 1, 1) := by decide +kernel
theorem dX9_refusesBall_9 : decode cX9_refusesBall 9 = .ok (.goto 18, 3) := by decide +kernel
theorem dX9_refusesBall_12 : decode cX9_refusesBall 12 = .ok (.aload_n 0, 1) := by decide +kernel
theorem dX9_refusesBall_13 : decode cX9_refusesBall 13 = .ok (.getfield 9, 3) := by decide +kernel
theorem dX9_refusesBall_16 : decode cX9_refusesBall 16 = .ok (.bipush 9, 2) := by decide +kernel
theorem dX9_refusesBall_18 : decode cX9_refusesBall 18 = .ok (.iaload, 1) := by decide +kernel
theorem dX9_refusesBall_19 : decode cX9_refusesBall 19 = .ok (.ifCond .ge 7, 3) := by decide +kernel
theorem dX9_refusesBall_22 : decode cX9_refusesBall 22 = .ok (.iconst 3, 1) := by decide +kernel
theorem dX9_refusesBall_23 : decode cX9_refusesBall 23 = .ok (.goto 4, 3) := by decide +kernel
theorem dX9_refusesBall_26 : decode cX9_refusesBall 26 = .ok (.iconst 0, 1) := by decide +kernel
theorem dX9_refusesBall_27 : decode cX9_refusesBall 27 = .ok (.ireturn, 1) := by decide +kernel
set_option maxRecDepth 20000 in
theorem ggX9_refusesWicket_X9_refusesBall : GoodIn wsX9_refusesWicket wsX9_refusesBall := goodIn_ca (goodIn_r _ [5, 6, 7, 8, 9, 4, 10, 11, 12, 13, 14, 15, 16, 17, 18, 19, 20, 21, 22, 23, 24, 25, 26, 27, 28, 29, 30, 31, 32] (by decide +kernel) (by decide +kernel)) (goodIn_sub (fun _ h => List.mem_cons_of_mem _ (List.mem_append_right _ h)) (by decide +kernel))
set_option maxRecDepth 20000 in
theorem gX9_refusesWicket_X9_refusesBall : GoodIn wsX9_refusesWicket (wsV RX9 108 RX9 yX9_refusesBall wsX9_refusesBall) := goodIn_app (goodIn_of _ (by decide +kernel)) ggX9_refusesWicket_X9_refusesBall
theorem dX9_refusesWicket_0 : decode cX9_refusesWicket 0 = .ok (.aload_n 0, 1) := by decide +kernel
theorem dX9_refusesWicket_1 : decode cX9_refusesWicket 1 = .ok (.invokevirtual 108, 3) := by decide +kernel
theorem dX9_refusesWicket_4 : decode cX9_refusesWicket 4 = .ok (.ifCond .le 8, 3) := by decide +kernel
theorem dX9_refusesWicket_7 : decode cX9_refusesWicket 7 = .ok (.aload_n 0, 1) := by decide +kernel
theorem dX9_refusesWicket_8 : decode cX9_refusesWicket 8 = .ok (.invokevirtual 108, 3) := by decide +kernel
theorem dX9_refusesWicket_11 : decode cX9_refusesWicket 11 = .ok (.ireturn, 1) := by decide +kernel
theorem dX9_refusesWicket_12 : decode cX9_refusesWicket 12 = .ok (.iload_n 1, 1) := by decide +kernel
theorem dX9_refusesWicket_13 : decode cX9_refusesWicket 13 = .ok (.iconst 5, 1) := by decide +kernel
theorem dX9_refusesWicket_14 : decode cX9_refusesWicket 14 = .ok (.if_icmp .ne 7, 3) := by decide +kernel
theorem dX9_refusesWicket_17 : decode cX9_refusesWicket 17 = .ok (.iconst 1, 1) := by decide +kernel
theorem dX9_refusesWicket_18 : decode cX9_refusesWicket 18 = .ok (.goto 4, 3) := by decide +kernel
theorem dX9_refusesWicket_21 : decode cX9_refusesWicket 21 = .ok (.iconst 0, 1) := by decide +kernel
theorem dX9_refusesWicket_22 : decode cX9_refusesWicket 22 = .ok (.istore 6, 2) := by decide +kernel
theorem dX9_refusesWicket_24 : decode cX9_refusesWicket 24 = .ok (.iload 6, 2) := by decide +kernel
theorem dX9_refusesWicket_26 : decode cX9_refusesWicket 26 = .ok (.ifCond .ne 17, 3) := by decide +kernel
theorem dX9_refusesWicket_29 : decode cX9_refusesWicket 29 = .ok (.iload_n 2, 1) := by decide +kernel
theorem dX9_refusesWicket_30 : decode cX9_refusesWicket 30 = .ok (.ifCond .eq 13, 3) := by decide +kernel
theorem dX9_refusesWicket_33 : decode cX9_refusesWicket 33 = .ok (.iload_n 2, 1) := by decide +kernel
theorem dX9_refusesWicket_34 : decode cX9_refusesWicket 34 = .ok (.iconst 1, 1) := by decide +kernel
theorem dX9_refusesWicket_35 : decode cX9_refusesWicket 35 = .ok (.if_icmp .ne 12, 3) := by decide +kernel
theorem dX9_refusesWicket_38 : decode cX9_refusesWicket 38 = .ok (.iload_n 1, 1) := by decide +kernel
theorem dX9_refusesWicket_39 : decode cX9_refusesWicket 39 = .ok (.iconst 3, 1) := by decide +kernel
theorem dX9_refusesWicket_40 : decode cX9_refusesWicket 40 = .ok (.if_icmp .ne 7, 3) := by decide +kernel
theorem dX9_refusesWicket_43 : decode cX9_refusesWicket 43 = .ok (.iconst 1, 1) := by decide +kernel
theorem dX9_refusesWicket_44 : decode cX9_refusesWicket 44 = .ok (.goto 4, 3) := by decide +kernel
theorem dX9_refusesWicket_47 : decode cX9_refusesWicket 47 = .ok (.iconst 0, 1) := by decide +kernel
theorem dX9_refusesWicket_48 : decode cX9_refusesWicket 48 = .ok (.istore 7, 2) := by decide +kernel
theorem dX9_refusesWicket_50 : decode cX9_refusesWicket 50 = .ok (.iload 7, 2) := by decide +kernel
theorem dX9_refusesWicket_52 : decode cX9_refusesWicket 52 = .ok (.ifCond .eq 32, 3) := by decide +kernel
theorem dX9_refusesWicket_55 : decode cX9_refusesWicket 55 = .ok (.iload 6, 2) := by decide +kernel
theorem dX9_refusesWicket_57 : decode cX9_refusesWicket 57 = .ok (.ifCond .ne 12, 3) := by decide +kernel
theorem dX9_refusesWicket_60 : decode cX9_refusesWicket 60 = .ok (.iload_n 3, 1) := by decide +kernel
theorem dX9_refusesWicket_61 : decode cX9_refusesWicket 61 = .ok (.ifCond .ne 23, 3) := by decide +kernel
theorem dX9_refusesWicket_64 : decode cX9_refusesWicket 64 = .ok (.iload 4, 2) := by decide +kernel
theorem dX9_refusesWicket_66 : decode cX9_refusesWicket 66 = .ok (.ifCond .gt 18, 3) := by decide +kernel
theorem dX9_refusesWicket_69 : decode cX9_refusesWicket 69 = .ok (.iload 5, 2) := by decide +kernel
theorem dX9_refusesWicket_71 : decode cX9_refusesWicket 71 = .ok (.ifCond .eq 18, 3) := by decide +kernel
theorem dX9_refusesWicket_74 : decode cX9_refusesWicket 74 = .ok (.iload 6, 2) := by decide +kernel
theorem dX9_refusesWicket_76 : decode cX9_refusesWicket 76 = .ok (.ifCond .ne 13, 3) := by decide +kernel
theorem dX9_refusesWicket_79 : decode cX9_refusesWicket 79 = .ok (.iload_n 1, 1) := by decide +kernel
theorem dX9_refusesWicket_80 : decode cX9_refusesWicket 80 = .ok (.iconst 1, 1) := by decide +kernel
theorem dX9_refusesWicket_81 : decode cX9_refusesWicket 81 = .ok (.if_icmp .eq 8, 3) := by decide +kernel
theorem dX9_refusesWicket_84 : decode cX9_refusesWicket 84 = .ok (.bipush 6, 2) := by decide +kernel
theorem dX9_refusesWicket_86 : decode cX9_refusesWicket 86 = .ok (.goto 4, 3) := by decide +kernel
theorem dX9_refusesWicket_89 : decode cX9_refusesWicket 89 = .ok (.iconst 0, 1) := by decide +kernel
theorem dX9_refusesWicket_90 : decode cX9_refusesWicket 90 = .ok (.ireturn, 1) := by decide +kernel
set_option maxRecDepth 20000 in
theorem ggX9_refuses_X9_refusesBowl : GoodIn wsX9_refuses wsX9_refusesBowl := goodIn_ca (goodIn_r _ [6, 1, 7, 8, 9, 5, 10, 11, 12, 13, 14, 15, 16, 39, 40, 41, 42, 43, 44, 45, 46, 47, 48, 49, 50, 51, 52, 53, 54, 55, 56, 57, 58, 59, 60] (by decide +kernel) (by decide +kernel)) (goodIn_sub (fun _ h => List.mem_cons_of_mem _ (List.mem_append_right _ h)) (by decide +kernel))
set_option maxRecDepth 20000 in
theorem gX9_refuses_X9_refusesBowl : GoodIn wsX9_refuses (wsV RX9 111 RX9 yX9_refusesBowl wsX9_refusesBowl) := goodIn_app (goodIn_of _ (by decide +kernel)) ggX9_refuses_X9_refusesBowl
set_option maxRecDepth 20000 in
theorem ggX9_refuses_X9_refusesBall : GoodIn wsX9_refuses wsX9_refusesBall := goodIn_ca (goodIn_r _ [20, 1, 7, 8, 9, 5, 10, 39, 40, 41, 42, 43, 44, 45, 46, 47, 48, 49, 50, 51, 52, 53, 54, 55, 56, 57, 58, 59, 60] (by decide +kernel) (by decide +kernel)) (goodIn_sub (fun _ h => List.mem_cons_of_mem _ (List.mem_append_right _ h)) (by decide +kernel))
set_option maxRecDepth 20000 in
theorem gX9_refuses_X9_refusesBall : GoodIn wsX9_refuses (wsV RX9 108 RX9 yX9_refusesBall wsX9_refusesBall) := goodIn_app (goodIn_of _ (by decide +kernel)) ggX9_refuses_X9_refusesBall
set_option maxRecDepth 20000 in
theorem ggX9_refuses_X9_refusesWicket : GoodIn wsX9_refuses wsX9_refusesWicket := goodIn_ca (goodIn_r _ [24, 17, 18, 19, 5, 20, 1, 7, 8, 9, 10, 39, 40, 41, 42, 43, 44, 45, 46, 47, 48, 49, 50, 51, 52, 53, 54, 55, 56, 57, 58, 59, 60] (by decide +kernel) (by decide +kernel)) (goodIn_sub (fun _ h => List.mem_cons_of_mem _ (List.mem_append_right _ h)) (by decide +kernel))
set_option maxRecDepth 20000 in
theorem gX9_refuses_X9_refusesWicket : GoodIn wsX9_refuses (wsV RX9 114 RX9 yX9_refusesWicket wsX9_refusesWicket) := goodIn_app (goodIn_of _ (by decide +kernel)) ggX9_refuses_X9_refusesWicket
set_option maxRecDepth 20000 in
theorem ggX9_refuses_X9_noMatch : GoodIn wsX9_refuses wsX9_noMatch := goodIn_ca (goodIn_r _ [10, 1, 39, 40, 41, 42, 43, 44, 45, 46, 47, 48, 49, 50, 51, 52, 53, 54, 55, 56, 57, 58, 59, 60] (by decide +kernel) (by decide +kernel)) (goodIn_sub (fun _ h => List.mem_cons_of_mem _ (List.mem_append_right _ h)) (by decide +kernel))
set_option maxRecDepth 20000 in
theorem gX9_refuses_X9_noMatch : GoodIn wsX9_refuses (wsV RX9 102 RX9 yX9_noMatch wsX9_noMatch) := goodIn_app (goodIn_of _ (by decide +kernel)) ggX9_refuses_X9_noMatch
set_option maxRecDepth 20000 in
theorem ggX9_refuses_X9_mayCome : GoodIn wsX9_refuses wsX9_mayCome := goodIn_ca (goodIn_r _ [28, 1, 29, 30, 5, 31, 39, 40, 41, 42, 43, 44, 45, 46, 47, 48, 49, 50, 51, 52, 53, 54, 55, 56, 57, 58, 59, 60] (by decide +kernel) (by decide +kernel)) (goodIn_sub (fun _ h => List.mem_cons_of_mem _ (List.mem_append_right _ h)) (by decide +kernel))
set_option maxRecDepth 20000 in
theorem gX9_refuses_X9_mayCome : GoodIn wsX9_refuses (wsV RX9 118 RX9 yX9_mayCome wsX9_mayCome) := goodIn_app (goodIn_of _ (by decide +kernel)) ggX9_refuses_X9_mayCome
set_option maxRecDepth 20000 in
theorem ggX9_refuses_X9_begun : GoodIn wsX9_refuses wsX9_begun := goodIn_ca (goodIn_r _ [35, 1, 36, 37, 5, 38, 39, 40, 41, 42, 43, 44, 45, 46, 47, 48, 49, 50, 51, 52, 53, 54, 55, 56, 57, 58, 59, 60] (by decide +kernel) (by decide +kernel)) (goodIn_sub (fun _ h => List.mem_cons_of_mem _ (List.mem_append_right _ h)) (by decide +kernel))
set_option maxRecDepth 20000 in
theorem gX9_refuses_X9_begun : GoodIn wsX9_refuses (wsV RX9 122 RX9 yX9_begun wsX9_begun) := goodIn_app (goodIn_of _ (by decide +kernel)) ggX9_refuses_X9_begun
theorem dX9_refuses_0 : decode cX9_refuses 0 = .ok (.iload_n 1, 1) := by decide +kernel
theorem dX9_refuses_1 : decode cX9_refuses 1 = .ok (.tableswitch 156 0 6 #[43, 49, 54, 156, 85, 156, 111], 43) := by decide +kernel
theorem dX9_refuses_44 : decode cX9_refuses 44 = .ok (.aload_n 0, 1) := by decide +kernel
theorem dX9_refuses_45 : decode cX9_refuses 45 = .ok (.iload_n 2, 1) := by decide +kernel
theorem dX9_refuses_46 : decode cX9_refuses 46 = .ok (.invokevirtual 111, 3) := by decide +kernel
theorem dX9_refuses_49 : decode cX9_refuses 49 = .ok (.ireturn, 1) := by decide +kernel
theorem dX9_refuses_50 : decode cX9_refuses 50 = .ok (.aload_n 0, 1) := by decide +kernel
theorem dX9_refuses_51 : decode cX9_refuses 51 = .ok (.invokevirtual 108, 3) := by decide +kernel
theorem dX9_refuses_54 : decode cX9_refuses 54 = .ok (.ireturn, 1) := by decide +kernel
theorem dX9_refuses_55 : decode cX9_refuses 55 = .ok (.aload_n 0, 1) := by decide +kernel
theorem dX9_refuses_56 : decode cX9_refuses 56 = .ok (.iload_n 2, 1) := by decide +kernel
theorem dX9_refuses_57 : decode cX9_refuses 57 = .ok (.iload_n 3, 1) := by decide +kernel
theorem dX9_refuses_58 : decode cX9_refuses 58 = .ok (.iload 4, 2) := by decide +kernel
theorem dX9_refuses_60 : decode cX9_refuses 60 = .ok (.iconst 1, 1) := by decide +kernel
theorem dX9_refuses_61 : decode cX9_refuses 61 = .ok (.if_icmp .ne 7, 3) := by decide +kernel
theorem dX9_refuses_64 : decode cX9_refuses 64 = .ok (.iconst 1, 1) := by decide +kernel
theorem dX9_refuses_65 : decode cX9_refuses 65 = .ok (.goto 4, 3) := by decide +kernel
theorem dX9_refuses_68 : decode cX9_refuses 68 = .ok (.iconst 0, 1) := by decide +kernel
theorem dX9_refuses_69 : decode cX9_refuses 69 = .ok (.iload 5, 2) := by decide +kernel
theorem dX9_refuses_71 : decode cX9_refuses 71 = .ok (.iload 6, 2) := by decide +kernel
theorem dX9_refuses_73 : decode cX9_refuses 73 = .ok (.iconst 1, 1) := by decide +kernel
theorem dX9_refuses_74 : decode cX9_refuses 74 = .ok (.if_icmp .ne 7, 3) := by decide +kernel
theorem dX9_refuses_77 : decode cX9_refuses 77 = .ok (.iconst 1, 1) := by decide +kernel
theorem dX9_refuses_78 : decode cX9_refuses 78 = .ok (.goto 4, 3) := by decide +kernel
theorem dX9_refuses_81 : decode cX9_refuses 81 = .ok (.iconst 0, 1) := by decide +kernel
theorem dX9_refuses_82 : decode cX9_refuses 82 = .ok (.invokevirtual 114, 3) := by decide +kernel
theorem dX9_refuses_85 : decode cX9_refuses 85 = .ok (.ireturn, 1) := by decide +kernel
theorem dX9_refuses_86 : decode cX9_refuses 86 = .ok (.aload_n 0, 1) := by decide +kernel
theorem dX9_refuses_87 : decode cX9_refuses 87 = .ok (.invokevirtual 102, 3) := by decide +kernel
theorem dX9_refuses_90 : decode cX9_refuses 90 = .ok (.iconst 1, 1) := by decide +kernel
theorem dX9_refuses_91 : decode cX9_refuses 91 = .ok (.if_icmp .ne 7, 3) := by decide +kernel
theorem dX9_refuses_94 : decode cX9_refuses 94 = .ok (.iconst 1, 1) := by decide +kernel
theorem dX9_refuses_95 : decode cX9_refuses 95 = .ok (.goto 16, 3) := by decide +kernel
theorem dX9_refuses_98 : decode cX9_refuses 98 = .ok (.aload_n 0, 1) := by decide +kernel
theorem dX9_refuses_99 : decode cX9_refuses 99 = .ok (.iload_n 2, 1) := by decide +kernel
theorem dX9_refuses_100 : decode cX9_refuses 100 = .ok (.invokevirtual 118, 3) := by decide +kernel
theorem dX9_refuses_103 : decode cX9_refuses 103 = .ok (.ifCond .eq 7, 3) := by decide +kernel
theorem dX9_refuses_106 : decode cX9_refuses 106 = .ok (.iconst 0, 1) := by decide +kernel
theorem dX9_refuses_107 : decode cX9_refuses 107 = .ok (.goto 4, 3) := by decide +kernel
theorem dX9_refuses_110 : decode cX9_refuses 110 = .ok (.iconst 5, 1) := by decide +kernel
theorem dX9_refuses_111 : decode cX9_refuses 111 = .ok (.ireturn, 1) := by decide +kernel
theorem dX9_refuses_112 : decode cX9_refuses 112 = .ok (.aload_n 0, 1) := by decide +kernel
theorem dX9_refuses_113 : decode cX9_refuses 113 = .ok (.invokevirtual 102, 3) := by decide +kernel
theorem dX9_refuses_116 : decode cX9_refuses 116 = .ok (.iconst 1, 1) := by decide +kernel
theorem dX9_refuses_117 : decode cX9_refuses 117 = .ok (.if_icmp .ne 7, 3) := by decide +kernel
theorem dX9_refuses_120 : decode cX9_refuses 120 = .ok (.iconst 1, 1) := by decide +kernel
theorem dX9_refuses_121 : decode cX9_refuses 121 = .ok (.goto 35, 3) := by decide +kernel
theorem dX9_refuses_124 : decode cX9_refuses 124 = .ok (.aload_n 0, 1) := by decide +kernel
theorem dX9_refuses_125 : decode cX9_refuses 125 = .ok (.getfield 9, 3) := by decide +kernel
theorem dX9_refuses_128 : decode cX9_refuses 128 = .ok (.iconst 1, 1) := by decide +kernel
theorem dX9_refuses_129 : decode cX9_refuses 129 = .ok (.iaload, 1) := by decide +kernel
theorem dX9_refuses_130 : decode cX9_refuses 130 = .ok (.iconst 2, 1) := by decide +kernel
theorem dX9_refuses_131 : decode cX9_refuses 131 = .ok (.if_icmp .eq 19, 3) := by decide +kernel
theorem dX9_refuses_134 : decode cX9_refuses 134 = .ok (.aload_n 0, 1) := by decide +kernel
theorem dX9_refuses_135 : decode cX9_refuses 135 = .ok (.getfield 9, 3) := by decide +kernel
theorem dX9_refuses_138 : decode cX9_refuses 138 = .ok (.bipush 13, 2) := by decide +kernel
theorem dX9_refuses_140 : decode cX9_refuses 140 = .ok (.iaload, 1) := by decide +kernel
theorem dX9_refuses_141 : decode cX9_refuses 141 = .ok (.iload_n 2, 1) := by decide +kernel
theorem dX9_refuses_142 : decode cX9_refuses 142 = .ok (.isub, 1) := by decide +kernel
theorem dX9_refuses_143 : decode cX9_refuses 143 = .ok (.aload_n 0, 1) := by decide +kernel
theorem dX9_refuses_144 : decode cX9_refuses 144 = .ok (.invokevirtual 122, 3) := by decide +kernel
theorem dX9_refuses_147 : decode cX9_refuses 147 = .ok (.if_icmp .gt 8, 3) := by decide +kernel
theorem dX9_refuses_150 : decode cX9_refuses 150 = .ok (.bipush 8, 2) := by decide +kernel
theorem dX9_refuses_152 : decode cX9_refuses 152 = .ok (.goto 4, 3) := by decide +kernel
theorem dX9_refuses_155 : decode cX9_refuses 155 = .ok (.iconst 0, 1) := by decide +kernel
theorem dX9_refuses_156 : decode cX9_refuses 156 = .ok (.ireturn, 1) := by decide +kernel
theorem dX9_refuses_157 : decode cX9_refuses 157 = .ok (.aload_n 0, 1) := by decide +kernel
theorem dX9_refuses_158 : decode cX9_refuses 158 = .ok (.invokevirtual 102, 3) := by decide +kernel
theorem dX9_refuses_161 : decode cX9_refuses 161 = .ok (.ireturn, 1) := by decide +kernel
set_option maxRecDepth 20000 in
theorem ggX9_does_X9_bowlerAt : GoodIn wsX9_does wsX9_bowlerAt := goodIn_r _ [6] (by decide +kernel) (by decide +kernel)
set_option maxRecDepth 20000 in
theorem gX9_does_X9_bowlerAt : GoodIn wsX9_does (va_wsS RX9 105 yX9_bowlerAt wsX9_bowlerAt) := goodIn_app (goodIn_of _ (by decide +kernel)) ggX9_does_X9_bowlerAt
set_option maxRecDepth 20000 in
theorem ggX9_does_X9_bowled : GoodIn wsX9_does wsX9_bowled := goodIn_ca (goodIn_ca (goodIn_r _ [10, 11, 12, 13, 5, 14, 1, 15, 16, 17, 18, 19, 20, 3, 4, 6, 21, 22, 23, 24, 25, 26, 27, 28, 29, 30, 31, 32, 33, 34, 35, 36, 37, 38, 39, 40, 41, 42, 43, 44, 45, 46, 47, 48, 49, 50, 51, 52, 53, 78, 79, 80, 81, 82, 83, 84, 85, 86, 87, 88, 89, 90, 91, 92, 93, 94, 95, 96, 97, 98, 99] (by decide +kernel) (by decide +kernel)) (goodIn_sub (fun _ h => List.mem_cons_of_mem _ (List.mem_append_left _ (List.mem_append_right _ h))) (by decide +kernel))) (goodIn_sub (fun _ h => List.mem_cons_of_mem _ (List.mem_append_right _ h)) (by decide +kernel))
set_option maxRecDepth 20000 in
theorem gX9_does_X9_bowled : GoodIn wsX9_does (wsV RX9 125 RX9 yX9_bowled wsX9_bowled) := goodIn_app (goodIn_of _ (by decide +kernel)) ggX9_does_X9_bowled
set_option maxRecDepth 20000 in
theorem ggX9_does_X9_falls : GoodIn wsX9_does wsX9_falls := goodIn_ca (goodIn_ca (goodIn_r _ [57, 1, 58, 59, 60, 5, 61, 62, 63, 64, 65, 18, 19, 20, 11, 12, 13, 14, 15, 16, 17, 3, 4, 6, 21, 22, 23, 24, 66, 67, 68, 69, 50, 51, 52, 53, 25, 26, 27, 28, 29, 30, 31, 32, 33, 34, 35, 36, 37, 38, 39, 40, 41, 42, 43, 44, 45, 46, 47, 48, 49, 78, 79, 80, 81, 82, 83, 84, 85, 86, 87, 88, 89, 90, 91, 92, 93, 94, 95, 96, 97, 98, 99] (by decide +kernel) (by decide +kernel)) (goodIn_sub (fun _ h => List.mem_cons_of_mem _ (List.mem_append_left _ (List.mem_append_right _ h))) (by decide +kernel))) (goodIn_sub (fun _ h => List.mem_cons_of_mem _ (List.mem_append_right _ h)) (by decide +kernel))
set_option maxRecDepth 20000 in
theorem gX9_does_X9_falls : GoodIn wsX9_does (wsV RX9 129 RX9 yX9_falls wsX9_falls) := goodIn_app (goodIn_of _ (by decide +kernel)) ggX9_does_X9_falls
set_option maxRecDepth 20000 in
theorem ggX9_does_X9_retires : GoodIn wsX9_does wsX9_retires := goodIn_ca (goodIn_ca (goodIn_r _ [73, 1, 58, 59, 60, 5, 61, 62, 63, 64, 65, 18, 19, 20, 66, 67, 68, 69, 50, 51, 52, 53, 29, 30, 31, 32, 15, 16, 17, 33, 34, 35, 36, 37, 38, 39, 40, 41, 42, 43, 44, 45, 46, 47, 48, 49, 78, 79, 80, 81, 82, 83, 84, 85, 86, 87, 88, 89, 90, 91, 92, 93, 94, 95, 96, 97, 98, 99] (by decide +kernel) (by decide +kernel)) (goodIn_sub (fun _ h => List.mem_cons_of_mem _ (List.mem_append_left _ (List.mem_append_right _ h))) (by decide +kernel))) (goodIn_sub (fun _ h => List.mem_cons_of_mem _ (List.mem_append_right _ h)) (by decide +kernel))
set_option maxRecDepth 20000 in
theorem gX9_does_X9_retires : GoodIn wsX9_does (wsV RX9 132 RX9 yX9_retires wsX9_retires) := goodIn_app (goodIn_of _ (by decide +kernel)) ggX9_does_X9_retires
set_option maxRecDepth 20000 in
theorem ggX9_does_X9_next : GoodIn wsX9_does wsX9_next := goodIn_ca (goodIn_r _ [61, 1, 62, 63, 64, 5, 65, 18, 19, 20, 78, 79, 80, 81, 82, 83, 84, 85, 86, 87, 88, 89, 90, 91, 92, 93, 94, 95, 96, 97, 98, 99] (by decide +kernel) (by decide +kernel)) (goodIn_sub (fun _ h => List.mem_cons_of_mem _ (List.mem_append_left _ (List.mem_append_right _ h))) (by decide +kernel))
set_option maxRecDepth 20000 in
theorem gX9_does_X9_next : GoodIn wsX9_does (wsV RX9 136 RX9 yX9_next wsX9_next) := goodIn_app (goodIn_of _ (by decide +kernel)) ggX9_does_X9_next
set_option maxRecDepth 20000 in
theorem ggX9_does_X9_at : GoodIn wsX9_does wsX9_at := goodIn_r _ [17] (by decide +kernel) (by decide +kernel)
set_option maxRecDepth 20000 in
theorem gX9_does_X9_at : GoodIn wsX9_does (va_wsS RX9 62 yX9_at wsX9_at) := goodIn_app (goodIn_of _ (by decide +kernel)) ggX9_does_X9_at
set_option maxRecDepth 20000 in
theorem ggX9_does_X9_looks : GoodIn wsX9_does wsX9_looks := goodIn_ca (goodIn_ca (goodIn_r _ [32, 1, 15, 16, 5, 17, 33, 34, 35, 36, 37, 38, 39, 40, 41, 42, 43, 44, 45, 46, 47, 48, 49, 18, 19, 20, 50, 51, 52, 53, 78, 79, 80, 81, 82, 83, 84, 85, 86, 87, 88, 89, 90, 91, 92, 93, 94, 95, 96, 97, 98, 99] (by decide +kernel) (by decide +kernel)) (goodIn_sub (fun _ h => List.mem_cons_of_mem _ (List.mem_append_left _ (List.mem_append_right _ h))) (by decide +kernel))) (goodIn_sub (fun _ h => List.mem_cons_of_mem _ (List.mem_append_right _ h)) (by decide +kernel))
set_option maxRecDepth 20000 in
theorem gX9_does_X9_looks : GoodIn wsX9_does (wsV RX9 139 RX9 yX9_looks wsX9_looks) := goodIn_app (goodIn_of _ (by decide +kernel)) ggX9_does_X9_looks
set_option maxRecDepth 20000 in
theorem ggX9_does_X9_loses : GoodIn wsX9_does wsX9_loses := goodIn_ca (goodIn_ca (goodIn_r _ [77, 1, 15, 16, 5, 17, 47, 48, 49, 29, 30, 31, 32, 33, 34, 35, 36, 37, 38, 39, 40, 41, 42, 43, 44, 45, 46, 18, 19, 20, 50, 51, 52, 53, 78, 79, 80, 81, 82, 83, 84, 85, 86, 87, 88, 89, 90, 91, 92, 93, 94, 95, 96, 97, 98, 99] (by decide +kernel) (by decide +kernel)) (goodIn_sub (fun _ h => List.mem_cons_of_mem _ (List.mem_append_left _ (List.mem_append_right _ h))) (by decide +kernel))) (goodIn_sub (fun _ h => List.mem_cons_of_mem _ (List.mem_append_right _ h)) (by decide +kernel))
set_option maxRecDepth 20000 in
theorem gX9_does_X9_loses : GoodIn wsX9_does (wsV RX9 143 RX9 yX9_loses wsX9_loses) := goodIn_app (goodIn_of _ (by decide +kernel)) ggX9_does_X9_loses
theorem dX9_does_0 : decode cX9_does 0 = .ok (.bipush 6, 2) := by decide +kernel
theorem dX9_does_2 : decode cX9_does 2 = .ok (.aload_n 0, 1) := by decide +kernel
theorem dX9_does_3 : decode cX9_does 3 = .ok (.getfield 9, 3) := by decide +kernel
theorem dX9_does_6 : decode cX9_does 6 = .ok (.bipush 23, 2) := by decide +kernel
theorem dX9_does_8 : decode cX9_does 8 = .ok (.iaload, 1) := by decide +kernel
theorem dX9_does_9 : decode cX9_does 9 = .ok (.imul, 1) := by decide +kernel
theorem dX9_does_10 : decode cX9_does 10 = .ok (.istore 7, 2) := by decide +kernel
theorem dX9_does_12 : decode cX9_does 12 = .ok (.aload_n 0, 1) := by decide +kernel
theorem dX9_does_13 : decode cX9_does 13 = .ok (.getfield 23, 3) := by decide +kernel
theorem dX9_does_16 : decode cX9_does 16 = .ok (.iload 7, 2) := by decide +kernel
theorem dX9_does_18 : decode cX9_does 18 = .ok (.iload_n 1, 1) := by decide +kernel
theorem dX9_does_19 : decode cX9_does 19 = .ok (.iastore, 1) := by decide +kernel
theorem dX9_does_20 : decode cX9_does 20 = .ok (.aload_n 0, 1) := by decide +kernel
theorem dX9_does_21 : decode cX9_does 21 = .ok (.getfield 23, 3) := by decide +kernel
theorem dX9_does_24 : decode cX9_does 24 = .ok (.iload 7, 2) := by decide +kernel
theorem dX9_does_26 : decode cX9_does 26 = .ok (.iconst 1, 1) := by decide +kernel
theorem dX9_does_27 : decode cX9_does 27 = .ok (.iadd, 1) := by decide +kernel
theorem dX9_does_28 : decode cX9_does 28 = .ok (.iload_n 2, 1) := by decide +kernel
theorem dX9_does_29 : decode cX9_does 29 = .ok (.iastore, 1) := by decide +kernel
theorem dX9_does_30 : decode cX9_does 30 = .ok (.aload_n 0, 1) := by decide +kernel
theorem dX9_does_31 : decode cX9_does 31 = .ok (.getfield 23, 3) := by decide +kernel
theorem dX9_does_34 : decode cX9_does 34 = .ok (.iload 7, 2) := by decide +kernel
theorem dX9_does_36 : decode cX9_does 36 = .ok (.iconst 2, 1) := by decide +kernel
theorem dX9_does_37 : decode cX9_does 37 = .ok (.iadd, 1) := by decide +kernel
theorem dX9_does_38 : decode cX9_does 38 = .ok (.iload_n 3, 1) := by decide +kernel
theorem dX9_does_39 : decode cX9_does 39 = .ok (.iastore, 1) := by decide +kernel
theorem dX9_does_40 : decode cX9_does 40 = .ok (.aload_n 0, 1) := by decide +kernel
theorem dX9_does_41 : decode cX9_does 41 = .ok (.getfield 23, 3) := by decide +kernel
theorem dX9_does_44 : decode cX9_does 44 = .ok (.iload 7, 2) := by decide +kernel
theorem dX9_does_46 : decode cX9_does 46 = .ok (.iconst 3, 1) := by decide +kernel
theorem dX9_does_47 : decode cX9_does 47 = .ok (.iadd, 1) := by decide +kernel
theorem dX9_does_48 : decode cX9_does 48 = .ok (.iload 4, 2) := by decide +kernel
theorem dX9_does_50 : decode cX9_does 50 = .ok (.iastore, 1) := by decide +kernel
theorem dX9_does_51 : decode cX9_does 51 = .ok (.aload_n 0, 1) := by decide +kernel
theorem dX9_does_52 : decode cX9_does 52 = .ok (.getfield 23, 3) := by decide +kernel
theorem dX9_does_55 : decode cX9_does 55 = .ok (.iload 7, 2) := by decide +kernel
theorem dX9_does_57 : decode cX9_does 57 = .ok (.iconst 4, 1) := by decide +kernel
theorem dX9_does_58 : decode cX9_does 58 = .ok (.iadd, 1) := by decide +kernel
theorem dX9_does_59 : decode cX9_does 59 = .ok (.iload 5, 2) := by decide +kernel
theorem dX9_does_61 : decode cX9_does 61 = .ok (.iastore, 1) := by decide +kernel
theorem dX9_does_62 : decode cX9_does 62 = .ok (.aload_n 0, 1) := by decide +kernel
theorem dX9_does_63 : decode cX9_does 63 = .ok (.getfield 23, 3) := by decide +kernel
theorem dX9_does_66 : decode cX9_does 66 = .ok (.iload 7, 2) := by decide +kernel
theorem dX9_does_68 : decode cX9_does 68 = .ok (.iconst 5, 1) := by decide +kernel
theorem dX9_does_69 : decode cX9_does 69 = .ok (.iadd, 1) := by decide +kernel
theorem dX9_does_70 : decode cX9_does 70 = .ok (.iload 6, 2) := by decide +kernel
theorem dX9_does_72 : decode cX9_does 72 = .ok (.iastore, 1) := by decide +kernel
theorem dX9_does_73 : decode cX9_does 73 = .ok (.aload_n 0, 1) := by decide +kernel
theorem dX9_does_74 : decode cX9_does 74 = .ok (.getfield 9, 3) := by decide +kernel
theorem dX9_does_77 : decode cX9_does 77 = .ok (.bipush 23, 2) := by decide +kernel
theorem dX9_does_79 : decode cX9_does 79 = .ok (.dup2, 1) := by decide +kernel
theorem dX9_does_80 : decode cX9_does 80 = .ok (.iaload, 1) := by decide +kernel
theorem dX9_does_81 : decode cX9_does 81 = .ok (.iconst 1, 1) := by decide +kernel
theorem dX9_does_82 : decode cX9_does 82 = .ok (.iadd, 1) := by decide +kernel
theorem dX9_does_83 : decode cX9_does 83 = .ok (.iastore, 1) := by decide +kernel
theorem dX9_does_84 : decode cX9_does 84 = .ok (.iload_n 1, 1) := by decide +kernel
theorem dX9_does_85 : decode cX9_does 85 = .ok (.tableswitch 182 0 5 #[39, 65, 83, 114, 139, 156], 39) := by decide +kernel
theorem dX9_does_124 : decode cX9_does 124 = .ok (.aload_n 0, 1) := by decide +kernel
theorem dX9_does_125 : decode cX9_does 125 = .ok (.getfield 9, 3) := by decide +kernel
theorem dX9_does_128 : decode cX9_does 128 = .ok (.bipush 9, 2) := by decide +kernel
theorem dX9_does_130 : decode cX9_does 130 = .ok (.iload_n 2, 1) := by decide +kernel
theorem dX9_does_131 : decode cX9_does 131 = .ok (.iastore, 1) := by decide +kernel
theorem dX9_does_132 : decode cX9_does 132 = .ok (.aload_n 0, 1) := by decide +kernel
theorem dX9_does_133 : decode cX9_does 133 = .ok (.getfield 9, 3) := by decide +kernel
theorem dX9_does_136 : decode cX9_does 136 = .ok (.aload_n 0, 1) := by decide +kernel
theorem dX9_does_137 : decode cX9_does 137 = .ok (.getfield 9, 3) := by decide +kernel
theorem dX9_does_140 : decode cX9_does 140 = .ok (.iconst 4, 1) := by decide +kernel
theorem dX9_does_141 : decode cX9_does 141 = .ok (.iaload, 1) := by decide +kernel
theorem dX9_does_142 : decode cX9_does 142 = .ok (.iload_n 2, 1) := by decide +kernel
theorem dX9_does_143 : decode cX9_does 143 = .ok (.bipush 6, 2) := by decide +kernel
theorem dX9_does_145 : decode cX9_does 145 = .ok (.invokestatic 105, 3) := by decide +kernel
theorem dX9_does_148 : decode cX9_does 148 = .ok (.iaload, 1) := by decide +kernel
theorem dX9_does_149 : decode cX9_does 149 = .ok (.ireturn, 1) := by decide +kernel
theorem dX9_does_150 : decode cX9_does 150 = .ok (.aload_n 0, 1) := by decide +kernel
theorem dX9_does_151 : decode cX9_does 151 = .ok (.iload_n 2, 1) := by decide +kernel
theorem dX9_does_152 : decode cX9_does 152 = .ok (.iload_n 3, 1) := by decide +kernel
theorem dX9_does_153 : decode cX9_does 153 = .ok (.iload 4, 2) := by decide +kernel
theorem dX9_does_155 : decode cX9_does 155 = .ok (.iconst 1, 1) := by decide +kernel
theorem dX9_does_156 : decode cX9_does 156 = .ok (.if_icmp .ne 7, 3) := by decide +kernel
theorem dX9_does_159 : decode cX9_does 159 = .ok (.iconst 1, 1) := by decide +kernel
theorem dX9_does_160 : decode cX9_does 160 = .ok (.goto 4, 3) := by decide +kernel
theorem dX9_does_163 : decode cX9_does 163 = .ok (.iconst 0, 1) := by decide +kernel
theorem dX9_does_164 : decode cX9_does 164 = .ok (.invokevirtual 125, 3) := by decide +kernel
theorem dX9_does_167 : decode cX9_does 167 = .ok (.ireturn, 1) := by decide +kernel
theorem dX9_does_168 : decode cX9_does 168 = .ok (.aload_n 0, 1) := by decide +kernel
theorem dX9_does_169 : decode cX9_does 169 = .ok (.iload_n 2, 1) := by decide +kernel
theorem dX9_does_170 : decode cX9_does 170 = .ok (.iload_n 3, 1) := by decide +kernel
theorem dX9_does_171 : decode cX9_does 171 = .ok (.iload 4, 2) := by decide +kernel
theorem dX9_does_173 : decode cX9_does 173 = .ok (.iconst 1, 1) := by decide +kernel
theorem dX9_does_174 : decode cX9_does 174 = .ok (.if_icmp .ne 7, 3) := by decide +kernel
theorem dX9_does_177 : decode cX9_does 177 = .ok (.iconst 1, 1) := by decide +kernel
theorem dX9_does_178 : decode cX9_does 178 = .ok (.goto 4, 3) := by decide +kernel
theorem dX9_does_181 : decode cX9_does 181 = .ok (.iconst 0, 1) := by decide +kernel
theorem dX9_does_182 : decode cX9_does 182 = .ok (.iload 5, 2) := by decide +kernel
theorem dX9_does_184 : decode cX9_does 184 = .ok (.iload 6, 2) := by decide +kernel
theorem dX9_does_186 : decode cX9_does 186 = .ok (.iconst 1, 1) := by decide +kernel
theorem dX9_does_187 : decode cX9_does 187 = .ok (.if_icmp .ne 7, 3) := by decide +kernel
theorem dX9_does_190 : decode cX9_does 190 = .ok (.iconst 1, 1) := by decide +kernel
theorem dX9_does_191 : decode cX9_does 191 = .ok (.goto 4, 3) := by decide +kernel
theorem dX9_does_194 : decode cX9_does 194 = .ok (.iconst 0, 1) := by decide +kernel
theorem dX9_does_195 : decode cX9_does 195 = .ok (.invokevirtual 129, 3) := by decide +kernel
theorem dX9_does_198 : decode cX9_does 198 = .ok (.ireturn, 1) := by decide +kernel
theorem dX9_does_199 : decode cX9_does 199 = .ok (.aload_n 0, 1) := by decide +kernel
theorem dX9_does_200 : decode cX9_does 200 = .ok (.iload_n 2, 1) := by decide +kernel
theorem dX9_does_201 : decode cX9_does 201 = .ok (.iconst 1, 1) := by decide +kernel
theorem dX9_does_202 : decode cX9_does 202 = .ok (.if_icmp .ne 7, 3) := by decide +kernel
theorem dX9_does_205 : decode cX9_does 205 = .ok (.iconst 1, 1) := by decide +kernel
theorem dX9_does_206 : decode cX9_does 206 = .ok (.goto 4, 3) := by decide +kernel
theorem dX9_does_209 : decode cX9_does 209 = .ok (.iconst 0, 1) := by decide +kernel
theorem dX9_does_210 : decode cX9_does 210 = .ok (.iload_n 3, 1) := by decide +kernel
theorem dX9_does_211 : decode cX9_does 211 = .ok (.iconst 1, 1) := by decide +kernel
theorem dX9_does_212 : decode cX9_does 212 = .ok (.if_icmp .ne 7, 3) := by decide +kernel
theorem dX9_does_215 : decode cX9_does 215 = .ok (.iconst 1, 1) := by decide +kernel
theorem dX9_does_216 : decode cX9_does 216 = .ok (.goto 4, 3) := by decide +kernel
theorem dX9_does_219 : decode cX9_does 219 = .ok (.iconst 0, 1) := by decide +kernel
theorem dX9_does_220 : decode cX9_does 220 = .ok (.invokevirtual 132, 3) := by decide +kernel
theorem dX9_does_223 : decode cX9_does 223 = .ok (.ireturn, 1) := by decide +kernel
theorem dX9_does_224 : decode cX9_does 224 = .ok (.aload_n 0, 1) := by decide +kernel
theorem dX9_does_225 : decode cX9_does 225 = .ok (.invokevirtual 136, 3) := by decide +kernel
theorem dX9_does_228 : decode cX9_does 228 = .ok (.istore 8, 2) := by decide +kernel
theorem dX9_does_230 : decode cX9_does 230 = .ok (.aload_n 0, 1) := by decide +kernel
theorem dX9_does_231 : decode cX9_does 231 = .ok (.getfield 9, 3) := by decide +kernel
theorem dX9_does_234 : decode cX9_does 234 = .ok (.bipush 8, 2) := by decide +kernel
theorem dX9_does_236 : decode cX9_does 236 = .ok (.iload_n 2, 1) := by decide +kernel
theorem dX9_does_237 : decode cX9_does 237 = .ok (.iastore, 1) := by decide +kernel
theorem dX9_does_238 : decode cX9_does 238 = .ok (.iload 8, 2) := by decide +kernel
theorem dX9_does_240 : decode cX9_does 240 = .ok (.ireturn, 1) := by decide +kernel
theorem dX9_does_241 : decode cX9_does 241 = .ok (.aload_n 0, 1) := by decide +kernel
theorem dX9_does_242 : decode cX9_does 242 = .ok (.getfield 9, 3) := by decide +kernel
theorem dX9_does_245 : decode cX9_does 245 = .ok (.aload_n 0, 1) := by decide +kernel
theorem dX9_does_246 : decode cX9_does 246 = .ok (.getfield 9, 3) := by decide +kernel
theorem dX9_does_249 : decode cX9_does 249 = .ok (.iconst 4, 1) := by decide +kernel
theorem dX9_does_250 : decode cX9_does 250 = .ok (.iaload, 1) := by decide +kernel
theorem dX9_does_251 : decode cX9_does 251 = .ok (.iconst 0, 1) := by decide +kernel
theorem dX9_does_252 : decode cX9_does 252 = .ok (.invokestatic 62, 3) := by decide +kernel
theorem dX9_does_255 : decode cX9_does 255 = .ok (.iaload, 1) := by decide +kernel
theorem dX9_does_256 : decode cX9_does 256 = .ok (.istore 8, 2) := by decide +kernel
theorem dX9_does_258 : decode cX9_does 258 = .ok (.aload_n 0, 1) := by decide +kernel
theorem dX9_does_259 : decode cX9_does 259 = .ok (.iconst 0, 1) := by decide +kernel
theorem dX9_does_260 : decode cX9_does 260 = .ok (.iconst 1, 1) := by decide +kernel
theorem dX9_does_261 : decode cX9_does 261 = .ok (.invokevirtual 139, 3) := by decide +kernel
theorem dX9_does_264 : decode cX9_does 264 = .ok (.iload 8, 2) := by decide +kernel
theorem dX9_does_266 : decode cX9_does 266 = .ok (.ireturn, 1) := by decide +kernel
theorem dX9_does_267 : decode cX9_does 267 = .ok (.aload_n 0, 1) := by decide +kernel
theorem dX9_does_268 : decode cX9_does 268 = .ok (.iload_n 2, 1) := by decide +kernel
theorem dX9_does_269 : decode cX9_does 269 = .ok (.invokevirtual 143, 3) := by decide +kernel
theorem dX9_does_272 : decode cX9_does 272 = .ok (.ireturn, 1) := by decide +kernel
theorem dX9_changesEnds_0 : decode cX9_changesEnds 0 = .ok (.aload_n 0, 1) := by decide +kernel
theorem dX9_changesEnds_1 : decode cX9_changesEnds 1 = .ok (.getfield 9, 3) := by decide +kernel
theorem dX9_changesEnds_4 : decode cX9_changesEnds 4 = .ok (.bipush 6, 2) := by decide +kernel
theorem dX9_changesEnds_6 : decode cX9_changesEnds 6 = .ok (.iaload, 1) := by decide +kernel
theorem dX9_changesEnds_7 : decode cX9_changesEnds 7 = .ok (.istore_n 1, 1) := by decide +kernel
theorem dX9_changesEnds_8 : decode cX9_changesEnds 8 = .ok (.aload_n 0, 1) := by decide +kernel
theorem dX9_changesEnds_9 : decode cX9_changesEnds 9 = .ok (.getfield 9, 3) := by decide +kernel
theorem dX9_changesEnds_12 : decode cX9_changesEnds 12 = .ok (.bipush 6, 2) := by decide +kernel
theorem dX9_changesEnds_14 : decode cX9_changesEnds 14 = .ok (.aload_n 0, 1) := by decide +kernel
theorem dX9_changesEnds_15 : decode cX9_changesEnds 15 = .ok (.getfield 9, 3) := by decide +kernel
theorem dX9_changesEnds_18 : decode cX9_changesEnds 18 = .ok (.bipush 7, 2) := by decide +kernel
theorem dX9_changesEnds_20 : decode cX9_changesEnds 20 = .ok (.iaload, 1) := by decide +kernel
theorem dX9_changesEnds_21 : decode cX9_changesEnds 21 = .ok (.iastore, 1) := by decide +kernel
theorem dX9_changesEnds_22 : decode cX9_changesEnds 22 = .ok (.aload_n 0, 1) := by decide +kernel
theorem dX9_changesEnds_23 : decode cX9_changesEnds 23 = .ok (.getfield 9, 3) := by decide +kernel
theorem dX9_changesEnds_26 : decode cX9_changesEnds 26 = .ok (.bipush 7, 2) := by decide +kernel
theorem dX9_changesEnds_28 : decode cX9_changesEnds 28 = .ok (.iload_n 1, 1) := by decide +kernel
theorem dX9_changesEnds_29 : decode cX9_changesEnds 29 = .ok (.iastore, 1) := by decide +kernel
theorem dX9_changesEnds_30 : decode cX9_changesEnds 30 = .ok (.return_, 1) := by decide +kernel
set_option maxRecDepth 20000 in
theorem ggX9_mayCome_X9_batterAt : GoodIn wsX9_mayCome wsX9_batterAt := goodIn_r _ [5] (by decide +kernel) (by decide +kernel)
set_option maxRecDepth 20000 in
theorem gX9_mayCome_X9_batterAt : GoodIn wsX9_mayCome (va_wsS RX9 65 yX9_batterAt wsX9_batterAt) := goodIn_app (goodIn_of _ (by decide +kernel)) ggX9_mayCome_X9_batterAt
theorem dX9_mayCome_0 : decode cX9_mayCome 0 = .ok (.aload_n 0, 1) := by decide +kernel
theorem dX9_mayCome_1 : decode cX9_mayCome 1 = .ok (.getfield 9, 3) := by decide +kernel
theorem dX9_mayCome_4 : decode cX9_mayCome 4 = .ok (.aload_n 0, 1) := by decide +kernel
theorem dX9_mayCome_5 : decode cX9_mayCome 5 = .ok (.getfield 9, 3) := by decide +kernel
theorem dX9_mayCome_8 : decode cX9_mayCome 8 = .ok (.iconst 4, 1) := by decide +kernel
theorem dX9_mayCome_9 : decode cX9_mayCome 9 = .ok (.iaload, 1) := by decide +kernel
theorem dX9_mayCome_10 : decode cX9_mayCome 10 = .ok (.iload_n 1, 1) := by decide +kernel
theorem dX9_mayCome_11 : decode cX9_mayCome 11 = .ok (.iconst 4, 1) := by decide +kernel
theorem dX9_mayCome_12 : decode cX9_mayCome 12 = .ok (.invokestatic 65, 3) := by decide +kernel
theorem dX9_mayCome_15 : decode cX9_mayCome 15 = .ok (.iaload, 1) := by decide +kernel
theorem dX9_mayCome_16 : decode cX9_mayCome 16 = .ok (.istore_n 2, 1) := by decide +kernel
theorem dX9_mayCome_17 : decode cX9_mayCome 17 = .ok (.iload_n 2, 1) := by decide +kernel
theorem dX9_mayCome_18 : decode cX9_mayCome 18 = .ok (.bipush (-2), 2) := by decide +kernel
theorem dX9_mayCome_20 : decode cX9_mayCome 20 = .ok (.if_icmp .eq 9, 3) := by decide +kernel
theorem dX9_mayCome_23 : decode cX9_mayCome 23 = .ok (.iload_n 2, 1) := by decide +kernel
theorem dX9_mayCome_24 : decode cX9_mayCome 24 = .ok (.bipush 6, 2) := by decide +kernel
theorem dX9_mayCome_26 : decode cX9_mayCome 26 = .ok (.if_icmp .ne 7, 3) := by decide +kernel
theorem dX9_mayCome_29 : decode cX9_mayCome 29 = .ok (.iconst 1, 1) := by decide +kernel
theorem dX9_mayCome_30 : decode cX9_mayCome 30 = .ok (.goto 4, 3) := by decide +kernel
theorem dX9_mayCome_33 : decode cX9_mayCome 33 = .ok (.iconst 0, 1) := by decide +kernel
theorem dX9_mayCome_34 : decode cX9_mayCome 34 = .ok (.ireturn, 1) := by decide +kernel
set_option maxRecDepth 20000 in
theorem ggX9_lowest_X9_batterAt : GoodIn wsX9_lowest wsX9_batterAt := goodIn_r _ [5] (by decide +kernel) (by decide +kernel)
set_option maxRecDepth 20000 in
theorem gX9_lowest_X9_batterAt : GoodIn wsX9_lowest (va_wsS RX9 65 yX9_batterAt wsX9_batterAt) := goodIn_app (goodIn_of _ (by decide +kernel)) ggX9_lowest_X9_batterAt
theorem dX9_lowest_0 : decode cX9_lowest 0 = .ok (.iconst 0, 1) := by decide +kernel
theorem dX9_lowest_1 : decode cX9_lowest 1 = .ok (.istore_n 2, 1) := by decide +kernel
theorem dX9_lowest_2 : decode cX9_lowest 2 = .ok (.iload_n 2, 1) := by decide +kernel
theorem dX9_lowest_3 : decode cX9_lowest 3 = .ok (.bipush 11, 2) := by decide +kernel
theorem dX9_lowest_5 : decode cX9_lowest 5 = .ok (.if_icmp .ge 31, 3) := by decide +kernel
theorem dX9_lowest_8 : decode cX9_lowest 8 = .ok (.aload_n 0, 1) := by decide +kernel
theorem dX9_lowest_9 : decode cX9_lowest 9 = .ok (.getfield 9, 3) := by decide +kernel
theorem dX9_lowest_12 : decode cX9_lowest 12 = .ok (.aload_n 0, 1) := by decide +kernel
theorem dX9_lowest_13 : decode cX9_lowest 13 = .ok (.getfield 9, 3) := by decide +kernel
theorem dX9_lowest_16 : decode cX9_lowest 16 = .ok (.iconst 4, 1) := by decide +kernel
theorem dX9_lowest_17 : decode cX9_lowest 17 = .ok (.iaload, 1) := by decide +kernel
theorem dX9_lowest_18 : decode cX9_lowest 18 = .ok (.iload_n 2, 1) := by decide +kernel
theorem dX9_lowest_19 : decode cX9_lowest 19 = .ok (.iconst 4, 1) := by decide +kernel
theorem dX9_lowest_20 : decode cX9_lowest 20 = .ok (.invokestatic 65, 3) := by decide +kernel
theorem dX9_lowest_23 : decode cX9_lowest 23 = .ok (.iaload, 1) := by decide +kernel
theorem dX9_lowest_24 : decode cX9_lowest 24 = .ok (.iload_n 1, 1) := by decide +kernel
theorem dX9_lowest_25 : decode cX9_lowest 25 = .ok (.if_icmp .ne 5, 3) := by decide +kernel
theorem dX9_lowest_28 : decode cX9_lowest 28 = .ok (.iload_n 2, 1) := by decide +kernel
theorem dX9_lowest_29 : decode cX9_lowest 29 = .ok (.ireturn, 1) := by decide +kernel
theorem dX9_lowest_30 : decode cX9_lowest 30 = .ok (.iinc 2 1, 3) := by decide +kernel
theorem dX9_lowest_33 : decode cX9_lowest 33 = .ok (.goto (-31), 3) := by decide +kernel
theorem dX9_lowest_36 : decode cX9_lowest 36 = .ok (.iconst (-1), 1) := by decide +kernel
theorem dX9_lowest_37 : decode cX9_lowest 37 = .ok (.ireturn, 1) := by decide +kernel
set_option maxRecDepth 20000 in
theorem ggX9_next_X9_lowest : GoodIn wsX9_next wsX9_lowest := goodIn_ca (goodIn_r _ [6, 1, 7, 8, 5, 9, 10, 11, 12, 13, 14, 15, 16, 17, 18, 19, 20, 21, 22, 23, 24, 25, 26, 27, 28, 29, 30, 31] (by decide +kernel) (by decide +kernel)) (goodIn_sub (fun _ h => List.mem_cons_of_mem _ (List.mem_append_right _ h)) (by decide +kernel))
set_option maxRecDepth 20000 in
theorem gX9_next_X9_lowest : GoodIn wsX9_next (wsV RX9 146 RX9 yX9_lowest wsX9_lowest) := goodIn_app (goodIn_of _ (by decide +kernel)) ggX9_next_X9_lowest
theorem dX9_next_0 : decode cX9_next 0 = .ok (.aload_n 0, 1) := by decide +kernel
theorem dX9_next_1 : decode cX9_next 1 = .ok (.getfield 9, 3) := by decide +kernel
theorem dX9_next_4 : decode cX9_next 4 = .ok (.bipush 8, 2) := by decide +kernel
theorem dX9_next_6 : decode cX9_next 6 = .ok (.iaload, 1) := by decide +kernel
theorem dX9_next_7 : decode cX9_next 7 = .ok (.ifCond .lt 11, 3) := by decide +kernel
theorem dX9_next_10 : decode cX9_next 10 = .ok (.aload_n 0, 1) := by decide +kernel
theorem dX9_next_11 : decode cX9_next 11 = .ok (.getfield 9, 3) := by decide +kernel
theorem dX9_next_14 : decode cX9_next 14 = .ok (.bipush 8, 2) := by decide +kernel
theorem dX9_next_16 : decode cX9_next 16 = .ok (.iaload, 1) := by decide +kernel
theorem dX9_next_17 : decode cX9_next 17 = .ok (.ireturn, 1) := by decide +kernel
theorem dX9_next_18 : decode cX9_next 18 = .ok (.aload_n 0, 1) := by decide +kernel
theorem dX9_next_19 : decode cX9_next 19 = .ok (.bipush (-2), 2) := by decide +kernel
theorem dX9_next_21 : decode cX9_next 21 = .ok (.invokevirtual 146, 3) := by decide +kernel
theorem dX9_next_24 : decode cX9_next 24 = .ok (.istore_n 1, 1) := by decide +kernel
theorem dX9_next_25 : decode cX9_next 25 = .ok (.iload_n 1, 1) := by decide +kernel
theorem dX9_next_26 : decode cX9_next 26 = .ok (.ifCond .lt 7, 3) := by decide +kernel
theorem dX9_next_29 : decode cX9_next 29 = .ok (.iload_n 1, 1) := by decide +kernel
theorem dX9_next_30 : decode cX9_next 30 = .ok (.goto 9, 3) := by decide +kernel
theorem dX9_next_33 : decode cX9_next 33 = .ok (.aload_n 0, 1) := by decide +kernel
theorem dX9_next_34 : decode cX9_next 34 = .ok (.bipush 6, 2) := by decide +kernel
theorem dX9_next_36 : decode cX9_next 36 = .ok (.invokevirtual 146, 3) := by decide +kernel
theorem dX9_next_39 : decode cX9_next 39 = .ok (.ireturn, 1) := by decide +kernel
set_option maxRecDepth 20000 in
theorem ggX9_begun_X9_at : GoodIn wsX9_begun wsX9_at := goodIn_r _ [5] (by decide +kernel) (by decide +kernel)
set_option maxRecDepth 20000 in
theorem gX9_begun_X9_at : GoodIn wsX9_begun (va_wsS RX9 62 yX9_at wsX9_at) := goodIn_app (goodIn_of _ (by decide +kernel)) ggX9_begun_X9_at
theorem dX9_begun_0 : decode cX9_begun 0 = .ok (.aload_n 0, 1) := by decide +kernel
theorem dX9_begun_1 : decode cX9_begun 1 = .ok (.getfield 9, 3) := by decide +kernel
theorem dX9_begun_4 : decode cX9_begun 4 = .ok (.aload_n 0, 1) := by decide +kernel
theorem dX9_begun_5 : decode cX9_begun 5 = .ok (.getfield 9, 3) := by decide +kernel
theorem dX9_begun_8 : decode cX9_begun 8 = .ok (.iconst 4, 1) := by decide +kernel
theorem dX9_begun_9 : decode cX9_begun 9 = .ok (.iaload, 1) := by decide +kernel
theorem dX9_begun_10 : decode cX9_begun 10 = .ok (.bipush 8, 2) := by decide +kernel
theorem dX9_begun_12 : decode cX9_begun 12 = .ok (.invokestatic 62, 3) := by decide +kernel
theorem dX9_begun_15 : decode cX9_begun 15 = .ok (.iaload, 1) := by decide +kernel
theorem dX9_begun_16 : decode cX9_begun 16 = .ok (.aload_n 0, 1) := by decide +kernel
theorem dX9_begun_17 : decode cX9_begun 17 = .ok (.getfield 9, 3) := by decide +kernel
theorem dX9_begun_20 : decode cX9_begun 20 = .ok (.aload_n 0, 1) := by decide +kernel
theorem dX9_begun_21 : decode cX9_begun 21 = .ok (.getfield 9, 3) := by decide +kernel
theorem dX9_begun_24 : decode cX9_begun 24 = .ok (.iconst 4, 1) := by decide +kernel
theorem dX9_begun_25 : decode cX9_begun 25 = .ok (.iaload, 1) := by decide +kernel
theorem dX9_begun_26 : decode cX9_begun 26 = .ok (.bipush 10, 2) := by decide +kernel
theorem dX9_begun_28 : decode cX9_begun 28 = .ok (.invokestatic 62, 3) := by decide +kernel
theorem dX9_begun_31 : decode cX9_begun 31 = .ok (.iaload, 1) := by decide +kernel
theorem dX9_begun_32 : decode cX9_begun 32 = .ok (.iadd, 1) := by decide +kernel
theorem dX9_begun_33 : decode cX9_begun 33 = .ok (.ireturn, 1) := by decide +kernel
set_option maxRecDepth 20000 in
theorem ggX9_scores_X9_at : GoodIn wsX9_scores wsX9_at := goodIn_r _ [5] (by decide +kernel) (by decide +kernel)
set_option maxRecDepth 20000 in
theorem gX9_scores_X9_at : GoodIn wsX9_scores (va_wsS RX9 62 yX9_at wsX9_at) := goodIn_app (goodIn_of _ (by decide +kernel)) ggX9_scores_X9_at
set_option maxRecDepth 20000 in
theorem ggX9_scores_X9_batterAt : GoodIn wsX9_scores wsX9_batterAt := goodIn_r _ [8] (by decide +kernel) (by decide +kernel)
set_option maxRecDepth 20000 in
theorem gX9_scores_X9_batterAt : GoodIn wsX9_scores (va_wsS RX9 65 yX9_batterAt wsX9_batterAt) := goodIn_app (goodIn_of _ (by decide +kernel)) ggX9_scores_X9_batterAt
set_option maxRecDepth 20000 in
theorem ggX9_scores_X9_bowlerAt : GoodIn wsX9_scores wsX9_bowlerAt := goodIn_r _ [11] (by decide +kernel) (by decide +kernel)
set_option maxRecDepth 20000 in
theorem gX9_scores_X9_bowlerAt : GoodIn wsX9_scores (va_wsS RX9 105 yX9_bowlerAt wsX9_bowlerAt) := goodIn_app (goodIn_of _ (by decide +kernel)) ggX9_scores_X9_bowlerAt
theorem dX9_scores_0 : decode cX9_scores 0 = .ok (.aload_n 0, 1) := by decide +kernel
theorem dX9_scores_1 : decode cX9_scores 1 = .ok (.getfield 9, 3) := by decide +kernel
theorem dX9_scores_4 : decode cX9_scores 4 = .ok (.iconst 4, 1) := by decide +kernel
theorem dX9_scores_5 : decode cX9_scores 5 = .ok (.iaload, 1) := by decide +kernel
theorem dX9_scores_6 : decode cX9_scores 6 = .ok (.istore 4, 2) := by decide +kernel
theorem dX9_scores_8 : decode cX9_scores 8 = .ok (.aload_n 0, 1) := by decide +kernel
theorem dX9_scores_9 : decode cX9_scores 9 = .ok (.getfield 9, 3) := by decide +kernel
theorem dX9_scores_12 : decode cX9_scores 12 = .ok (.bipush 6, 2) := by decide +kernel
theorem dX9_scores_14 : decode cX9_scores 14 = .ok (.iaload, 1) := by decide +kernel
theorem dX9_scores_15 : decode cX9_scores 15 = .ok (.istore 5, 2) := by decide +kernel
theorem dX9_scores_17 : decode cX9_scores 17 = .ok (.iload_n 1, 1) := by decide +kernel
theorem dX9_scores_18 : decode cX9_scores 18 = .ok (.iconst 1, 1) := by decide +kernel
theorem dX9_scores_19 : decode cX9_scores 19 = .ok (.if_icmp .eq 8, 3) := by decide +kernel
theorem dX9_scores_22 : decode cX9_scores 22 = .ok (.iload_n 1, 1) := by decide +kernel
theorem dX9_scores_23 : decode cX9_scores 23 = .ok (.iconst 2, 1) := by decide +kernel
theorem dX9_scores_24 : decode cX9_scores 24 = .ok (.if_icmp .ne 9, 3) := by decide +kernel
theorem dX9_scores_27 : decode cX9_scores 27 = .ok (.iload_n 2, 1) := by decide +kernel
theorem dX9_scores_28 : decode cX9_scores 28 = .ok (.iconst 1, 1) := by decide +kernel
theorem dX9_scores_29 : decode cX9_scores 29 = .ok (.iadd, 1) := by decide +kernel
theorem dX9_scores_30 : decode cX9_scores 30 = .ok (.goto 4, 3) := by decide +kernel
theorem dX9_scores_33 : decode cX9_scores 33 = .ok (.iload_n 2, 1) := by decide +kernel
theorem dX9_scores_34 : decode cX9_scores 34 = .ok (.istore 6, 2) := by decide +kernel
theorem dX9_scores_36 : decode cX9_scores 36 = .ok (.iload_n 1, 1) := by decide +kernel
theorem dX9_scores_37 : decode cX9_scores 37 = .ok (.ifCond .eq 8, 3) := by decide +kernel
theorem dX9_scores_40 : decode cX9_scores 40 = .ok (.iload_n 1, 1) := by decide +kernel
theorem dX9_scores_41 : decode cX9_scores 41 = .ok (.iconst 2, 1) := by decide +kernel
theorem dX9_scores_42 : decode cX9_scores 42 = .ok (.if_icmp .ne 7, 3) := by decide +kernel
theorem dX9_scores_45 : decode cX9_scores 45 = .ok (.iconst 1, 1) := by decide +kernel
theorem dX9_scores_46 : decode cX9_scores 46 = .ok (.goto 4, 3) := by decide +kernel
theorem dX9_scores_49 : decode cX9_scores 49 = .ok (.iconst 0, 1) := by decide +kernel
theorem dX9_scores_50 : decode cX9_scores 50 = .ok (.istore 7, 2) := by decide +kernel
theorem dX9_scores_52 : decode cX9_scores 52 = .ok (.iload_n 1, 1) := by decide +kernel
theorem dX9_scores_53 : decode cX9_scores 53 = .ok (.iconst 1, 1) := by decide +kernel
theorem dX9_scores_54 : decode cX9_scores 54 = .ok (.if_icmp .eq 8, 3) := by decide +kernel
theorem dX9_scores_57 : decode cX9_scores 57 = .ok (.iload_n 1, 1) := by decide +kernel
theorem dX9_scores_58 : decode cX9_scores 58 = .ok (.iconst 2, 1) := by decide +kernel
theorem dX9_scores_59 : decode cX9_scores 59 = .ok (.if_icmp .ne 7, 3) := by decide +kernel
theorem dX9_scores_62 : decode cX9_scores 62 = .ok (.iconst 0, 1) := by decide +kernel
theorem dX9_scores_63 : decode cX9_scores 63 = .ok (.goto 4, 3) := by decide +kernel
theorem dX9_scores_66 : decode cX9_scores 66 = .ok (.iconst 1, 1) := by decide +kernel
theorem dX9_scores_67 : decode cX9_scores 67 = .ok (.istore 8, 2) := by decide +kernel
theorem dX9_scores_69 : decode cX9_scores 69 = .ok (.aload_n 0, 1) := by decide +kernel
theorem dX9_scores_70 : decode cX9_scores 70 = .ok (.getfield 9, 3) := by decide +kernel
theorem dX9_scores_73 : decode cX9_scores 73 = .ok (.iload 4, 2) := by decide +kernel
theorem dX9_scores_75 : decode cX9_scores 75 = .ok (.bipush 10, 2) := by decide +kernel
theorem dX9_scores_77 : decode cX9_scores 77 = .ok (.invokestatic 62, 3) := by decide +kernel
theorem dX9_scores_80 : decode cX9_scores 80 = .ok (.iconst 1, 1) := by decide +kernel
theorem dX9_scores_81 : decode cX9_scores 81 = .ok (.iastore, 1) := by decide +kernel
theorem dX9_scores_82 : decode cX9_scores 82 = .ok (.aload_n 0, 1) := by decide +kernel
theorem dX9_scores_83 : decode cX9_scores 83 = .ok (.getfield 9, 3) := by decide +kernel
theorem dX9_scores_86 : decode cX9_scores 86 = .ok (.iload 4, 2) := by decide +kernel
theorem dX9_scores_88 : decode cX9_scores 88 = .ok (.iconst 0, 1) := by decide +kernel
theorem dX9_scores_89 : decode cX9_scores 89 = .ok (.invokestatic 62, 3) := by decide +kernel
theorem dX9_scores_92 : decode cX9_scores 92 = .ok (.dup2, 1) := by decide +kernel
theorem dX9_scores_93 : decode cX9_scores 93 = .ok (.iaload, 1) := by decide +kernel
theorem dX9_scores_94 : decode cX9_scores 94 = .ok (.iload 6, 2) := by decide +kernel
theorem dX9_scores_96 : decode cX9_scores 96 = .ok (.iadd, 1) := by decide +kernel
theorem dX9_scores_97 : decode cX9_scores 97 = .ok (.iastore, 1) := by decide +kernel
theorem dX9_scores_98 : decode cX9_scores 98 = .ok (.aload_n 0, 1) := by decide +kernel
theorem dX9_scores_99 : decode cX9_scores 99 = .ok (.getfield 9, 3) := by decide +kernel
theorem dX9_scores_102 : decode cX9_scores 102 = .ok (.iload 4, 2) := by decide +kernel
theorem dX9_scores_104 : decode cX9_scores 104 = .ok (.iconst 2, 1) := by decide +kernel
theorem dX9_scores_105 : decode cX9_scores 105 = .ok (.invokestatic 62, 3) := by decide +kernel
theorem dX9_scores_108 : decode cX9_scores 108 = .ok (.dup2, 1) := by decide +kernel
theorem dX9_scores_109 : decode cX9_scores 109 = .ok (.iaload, 1) := by decide +kernel
theorem dX9_scores_110 : decode cX9_scores 110 = .ok (.iload 8, 2) := by decide +kernel
theorem dX9_scores_112 : decode cX9_scores 112 = .ok (.iadd, 1) := by decide +kernel
theorem dX9_scores_113 : decode cX9_scores 113 = .ok (.iastore, 1) := by decide +kernel
theorem dX9_scores_114 : decode cX9_scores 114 = .ok (.iload_n 1, 1) := by decide +kernel
theorem dX9_scores_115 : decode cX9_scores 115 = .ok (.ifCond .le 30, 3) := by decide +kernel
theorem dX9_scores_118 : decode cX9_scores 118 = .ok (.aload_n 0, 1) := by decide +kernel
theorem dX9_scores_119 : decode cX9_scores 119 = .ok (.getfield 9, 3) := by decide +kernel
theorem dX9_scores_122 : decode cX9_scores 122 = .ok (.iload 4, 2) := by decide +kernel
theorem dX9_scores_124 : decode cX9_scores 124 = .ok (.iconst 2, 1) := by decide +kernel
theorem dX9_scores_125 : decode cX9_scores 125 = .ok (.iload_n 1, 1) := by decide +kernel
theorem dX9_scores_126 : decode cX9_scores 126 = .ok (.iadd, 1) := by decide +kernel
theorem dX9_scores_127 : decode cX9_scores 127 = .ok (.invokestatic 62, 3) := by decide +kernel
theorem dX9_scores_130 : decode cX9_scores 130 = .ok (.dup2, 1) := by decide +kernel
theorem dX9_scores_131 : decode cX9_scores 131 = .ok (.iaload, 1) := by decide +kernel
theorem dX9_scores_132 : decode cX9_scores 132 = .ok (.iload_n 1, 1) := by decide +kernel
theorem dX9_scores_133 : decode cX9_scores 133 = .ok (.iconst 2, 1) := by decide +kernel
theorem dX9_scores_134 : decode cX9_scores 134 = .ok (.if_icmp .ne 7, 3) := by decide +kernel
theorem dX9_scores_137 : decode cX9_scores 137 = .ok (.iconst 1, 1) := by decide +kernel
theorem dX9_scores_138 : decode cX9_scores 138 = .ok (.goto 5, 3) := by decide +kernel
theorem dX9_scores_141 : decode cX9_scores 141 = .ok (.iload 6, 2) := by decide +kernel
theorem dX9_scores_143 : decode cX9_scores 143 = .ok (.iadd, 1) := by decide +kernel
theorem dX9_scores_144 : decode cX9_scores 144 = .ok (.iastore, 1) := by decide +kernel
theorem dX9_scores_145 : decode cX9_scores 145 = .ok (.aload_n 0, 1) := by decide +kernel
theorem dX9_scores_146 : decode cX9_scores 146 = .ok (.getfield 9, 3) := by decide +kernel
theorem dX9_scores_149 : decode cX9_scores 149 = .ok (.iload 4, 2) := by decide +kernel
theorem dX9_scores_151 : decode cX9_scores 151 = .ok (.iload 5, 2) := by decide +kernel
theorem dX9_scores_153 : decode cX9_scores 153 = .ok (.iconst 1, 1) := by decide +kernel
theorem dX9_scores_154 : decode cX9_scores 154 = .ok (.invokestatic 65, 3) := by decide +kernel
theorem dX9_scores_157 : decode cX9_scores 157 = .ok (.dup2, 1) := by decide +kernel
theorem dX9_scores_158 : decode cX9_scores 158 = .ok (.iaload, 1) := by decide +kernel
theorem dX9_scores_159 : decode cX9_scores 159 = .ok (.iload_n 1, 1) := by decide +kernel
theorem dX9_scores_160 : decode cX9_scores 160 = .ok (.iconst 1, 1) := by decide +kernel
theorem dX9_scores_161 : decode cX9_scores 161 = .ok (.if_icmp .ne 7, 3) := by decide +kernel
theorem dX9_scores_164 : decode cX9_scores 164 = .ok (.iconst 0, 1) := by decide +kernel
theorem dX9_scores_165 : decode cX9_scores 165 = .ok (.goto 4, 3) := by decide +kernel
theorem dX9_scores_168 : decode cX9_scores 168 = .ok (.iconst 1, 1) := by decide +kernel
theorem dX9_scores_169 : decode cX9_scores 169 = .ok (.iadd, 1) := by decide +kernel
theorem dX9_scores_170 : decode cX9_scores 170 = .ok (.iastore, 1) := by decide +kernel
theorem dX9_scores_171 : decode cX9_scores 171 = .ok (.aload_n 0, 1) := by decide +kernel
theorem dX9_scores_172 : decode cX9_scores 172 = .ok (.getfield 9, 3) := by decide +kernel
theorem dX9_scores_175 : decode cX9_scores 175 = .ok (.iload 4, 2) := by decide +kernel
theorem dX9_scores_177 : decode cX9_scores 177 = .ok (.iload 5, 2) := by decide +kernel
theorem dX9_scores_179 : decode cX9_scores 179 = .ok (.iconst 0, 1) := by decide +kernel
theorem dX9_scores_180 : decode cX9_scores 180 = .ok (.invokestatic 65, 3) := by decide +kernel
theorem dX9_scores_183 : decode cX9_scores 183 = .ok (.dup2, 1) := by decide +kernel
theorem dX9_scores_184 : decode cX9_scores 184 = .ok (.iaload, 1) := by decide +kernel
theorem dX9_scores_185 : decode cX9_scores 185 = .ok (.iload 7, 2) := by decide +kernel
theorem dX9_scores_187 : decode cX9_scores 187 = .ok (.ifCond .eq 7, 3) := by decide +kernel
theorem dX9_scores_190 : decode cX9_scores 190 = .ok (.iload_n 2, 1) := by decide +kernel
theorem dX9_scores_191 : decode cX9_scores 191 = .ok (.goto 4, 3) := by decide +kernel
theorem dX9_scores_194 : decode cX9_scores 194 = .ok (.iconst 0, 1) := by decide +kernel
theorem dX9_scores_195 : decode cX9_scores 195 = .ok (.iadd, 1) := by decide +kernel
theorem dX9_scores_196 : decode cX9_scores 196 = .ok (.iastore, 1) := by decide +kernel
theorem dX9_scores_197 : decode cX9_scores 197 = .ok (.iload_n 3, 1) := by decide +kernel
theorem dX9_scores_198 : decode cX9_scores 198 = .ok (.ifCond .eq 29, 3) := by decide +kernel
theorem dX9_scores_201 : decode cX9_scores 201 = .ok (.aload_n 0, 1) := by decide +kernel
theorem dX9_scores_202 : decode cX9_scores 202 = .ok (.getfield 9, 3) := by decide +kernel
theorem dX9_scores_205 : decode cX9_scores 205 = .ok (.iload 4, 2) := by decide +kernel
theorem dX9_scores_207 : decode cX9_scores 207 = .ok (.iload 5, 2) := by decide +kernel
theorem dX9_scores_209 : decode cX9_scores 209 = .ok (.iload_n 2, 1) := by decide +kernel
theorem dX9_scores_210 : decode cX9_scores 210 = .ok (.iconst 4, 1) := by decide +kernel
theorem dX9_scores_211 : decode cX9_scores 211 = .ok (.if_icmp .ne 7, 3) := by decide +kernel
theorem dX9_scores_214 : decode cX9_scores 214 = .ok (.iconst 2, 1) := by decide +kernel
theorem dX9_scores_215 : decode cX9_scores 215 = .ok (.goto 4, 3) := by decide +kernel
theorem dX9_scores_218 : decode cX9_scores 218 = .ok (.iconst 3, 1) := by decide +kernel
theorem dX9_scores_219 : decode cX9_scores 219 = .ok (.invokestatic 65, 3) := by decide +kernel
theorem dX9_scores_222 : decode cX9_scores 222 = .ok (.dup2, 1) := by decide +kernel
theorem dX9_scores_223 : decode cX9_scores 223 = .ok (.iaload, 1) := by decide +kernel
theorem dX9_scores_224 : decode cX9_scores 224 = .ok (.iconst 1, 1) := by decide +kernel
theorem dX9_scores_225 : decode cX9_scores 225 = .ok (.iadd, 1) := by decide +kernel
theorem dX9_scores_226 : decode cX9_scores 226 = .ok (.iastore, 1) := by decide +kernel
theorem dX9_scores_227 : decode cX9_scores 227 = .ok (.aload_n 0, 1) := by decide +kernel
theorem dX9_scores_228 : decode cX9_scores 228 = .ok (.getfield 9, 3) := by decide +kernel
theorem dX9_scores_231 : decode cX9_scores 231 = .ok (.bipush 9, 2) := by decide +kernel
theorem dX9_scores_233 : decode cX9_scores 233 = .ok (.iaload, 1) := by decide +kernel
theorem dX9_scores_234 : decode cX9_scores 234 = .ok (.istore 9, 2) := by decide +kernel
theorem dX9_scores_236 : decode cX9_scores 236 = .ok (.aload_n 0, 1) := by decide +kernel
theorem dX9_scores_237 : decode cX9_scores 237 = .ok (.getfield 9, 3) := by decide +kernel
theorem dX9_scores_240 : decode cX9_scores 240 = .ok (.iload 4, 2) := by decide +kernel
theorem dX9_scores_242 : decode cX9_scores 242 = .ok (.iload 9, 2) := by decide +kernel
theorem dX9_scores_244 : decode cX9_scores 244 = .ok (.iconst 0, 1) := by decide +kernel
theorem dX9_scores_245 : decode cX9_scores 245 = .ok (.invokestatic 105, 3) := by decide +kernel
theorem dX9_scores_248 : decode cX9_scores 248 = .ok (.dup2, 1) := by decide +kernel
theorem dX9_scores_249 : decode cX9_scores 249 = .ok (.iaload, 1) := by decide +kernel
theorem dX9_scores_250 : decode cX9_scores 250 = .ok (.iload 8, 2) := by decide +kernel
theorem dX9_scores_252 : decode cX9_scores 252 = .ok (.iadd, 1) := by decide +kernel
theorem dX9_scores_253 : decode cX9_scores 253 = .ok (.iastore, 1) := by decide +kernel
theorem dX9_scores_254 : decode cX9_scores 254 = .ok (.aload_n 0, 1) := by decide +kernel
theorem dX9_scores_255 : decode cX9_scores 255 = .ok (.getfield 9, 3) := by decide +kernel
theorem dX9_scores_258 : decode cX9_scores 258 = .ok (.iload 4, 2) := by decide +kernel
theorem dX9_scores_260 : decode cX9_scores 260 = .ok (.iload 9, 2) := by decide +kernel
theorem dX9_scores_262 : decode cX9_scores 262 = .ok (.iconst 1, 1) := by decide +kernel
theorem dX9_scores_263 : decode cX9_scores 263 = .ok (.invokestatic 105, 3) := by decide +kernel
theorem dX9_scores_266 : decode cX9_scores 266 = .ok (.dup2, 1) := by decide +kernel
theorem dX9_scores_267 : decode cX9_scores 267 = .ok (.iaload, 1) := by decide +kernel
theorem dX9_scores_268 : decode cX9_scores 268 = .ok (.iload_n 1, 1) := by decide +kernel
theorem dX9_scores_269 : decode cX9_scores 269 = .ok (.iconst 3, 1) := by decide +kernel
theorem dX9_scores_270 : decode cX9_scores 270 = .ok (.if_icmp .ge 8, 3) := by decide +kernel
theorem dX9_scores_273 : decode cX9_scores 273 = .ok (.iload 6, 2) := by decide +kernel
theorem dX9_scores_275 : decode cX9_scores 275 = .ok (.goto 4, 3) := by decide +kernel
theorem dX9_scores_278 : decode cX9_scores 278 = .ok (.iconst 0, 1) := by decide +kernel
theorem dX9_scores_279 : decode cX9_scores 279 = .ok (.iadd, 1) := by decide +kernel
theorem dX9_scores_280 : decode cX9_scores 280 = .ok (.iastore, 1) := by decide +kernel
theorem dX9_scores_281 : decode cX9_scores 281 = .ok (.aload_n 0, 1) := by decide +kernel
theorem dX9_scores_282 : decode cX9_scores 282 = .ok (.getfield 9, 3) := by decide +kernel
theorem dX9_scores_285 : decode cX9_scores 285 = .ok (.bipush 11, 2) := by decide +kernel
theorem dX9_scores_287 : decode cX9_scores 287 = .ok (.dup2, 1) := by decide +kernel
theorem dX9_scores_288 : decode cX9_scores 288 = .ok (.iaload, 1) := by decide +kernel
theorem dX9_scores_289 : decode cX9_scores 289 = .ok (.iload_n 1, 1) := by decide +kernel
theorem dX9_scores_290 : decode cX9_scores 290 = .ok (.iconst 3, 1) := by decide +kernel
theorem dX9_scores_291 : decode cX9_scores 291 = .ok (.if_icmp .ge 8, 3) := by decide +kernel
theorem dX9_scores_294 : decode cX9_scores 294 = .ok (.iload 6, 2) := by decide +kernel
theorem dX9_scores_296 : decode cX9_scores 296 = .ok (.goto 4, 3) := by decide +kernel
theorem dX9_scores_299 : decode cX9_scores 299 = .ok (.iconst 0, 1) := by decide +kernel
theorem dX9_scores_300 : decode cX9_scores 300 = .ok (.iadd, 1) := by decide +kernel
theorem dX9_scores_301 : decode cX9_scores 301 = .ok (.iastore, 1) := by decide +kernel
theorem dX9_scores_302 : decode cX9_scores 302 = .ok (.iload 8, 2) := by decide +kernel
theorem dX9_scores_304 : decode cX9_scores 304 = .ok (.ifCond .ne 22, 3) := by decide +kernel
theorem dX9_scores_307 : decode cX9_scores 307 = .ok (.aload_n 0, 1) := by decide +kernel
theorem dX9_scores_308 : decode cX9_scores 308 = .ok (.getfield 9, 3) := by decide +kernel
theorem dX9_scores_311 : decode cX9_scores 311 = .ok (.iload 4, 2) := by decide +kernel
theorem dX9_scores_313 : decode cX9_scores 313 = .ok (.iload 9, 2) := by decide +kernel
theorem dX9_scores_315 : decode cX9_scores 315 = .ok (.iconst 3, 1) := by decide +kernel
theorem dX9_scores_316 : decode cX9_scores 316 = .ok (.iload_n 1, 1) := by decide +kernel
theorem dX9_scores_317 : decode cX9_scores 317 = .ok (.iadd, 1) := by decide +kernel
theorem dX9_scores_318 : decode cX9_scores 318 = .ok (.invokestatic 105, 3) := by decide +kernel
theorem dX9_scores_321 : decode cX9_scores 321 = .ok (.dup2, 1) := by decide +kernel
theorem dX9_scores_322 : decode cX9_scores 322 = .ok (.iaload, 1) := by decide +kernel
theorem dX9_scores_323 : decode cX9_scores 323 = .ok (.iconst 1, 1) := by decide +kernel
theorem dX9_scores_324 : decode cX9_scores 324 = .ok (.iadd, 1) := by decide +kernel
theorem dX9_scores_325 : decode cX9_scores 325 = .ok (.iastore, 1) := by decide +kernel
theorem dX9_scores_326 : decode cX9_scores 326 = .ok (.aload_n 0, 1) := by decide +kernel
theorem dX9_scores_327 : decode cX9_scores 327 = .ok (.getfield 9, 3) := by decide +kernel
theorem dX9_scores_330 : decode cX9_scores 330 = .ok (.bipush 10, 2) := by decide +kernel
theorem dX9_scores_332 : decode cX9_scores 332 = .ok (.dup2, 1) := by decide +kernel
theorem dX9_scores_333 : decode cX9_scores 333 = .ok (.iaload, 1) := by decide +kernel
theorem dX9_scores_334 : decode cX9_scores 334 = .ok (.iload 8, 2) := by decide +kernel
theorem dX9_scores_336 : decode cX9_scores 336 = .ok (.iadd, 1) := by decide +kernel
theorem dX9_scores_337 : decode cX9_scores 337 = .ok (.iastore, 1) := by decide +kernel
theorem dX9_scores_338 : decode cX9_scores 338 = .ok (.sipush 841, 3) := by decide +kernel
theorem dX9_scores_341 : decode cX9_scores 341 = .ok (.bipush 8, 2) := by decide +kernel
theorem dX9_scores_343 : decode cX9_scores 343 = .ok (.aload_n 0, 1) := by decide +kernel
theorem dX9_scores_344 : decode cX9_scores 344 = .ok (.getfield 9, 3) := by decide +kernel
theorem dX9_scores_347 : decode cX9_scores 347 = .ok (.bipush 22, 2) := by decide +kernel
theorem dX9_scores_349 : decode cX9_scores 349 = .ok (.iaload, 1) := by decide +kernel
theorem dX9_scores_350 : decode cX9_scores 350 = .ok (.iconst 1, 1) := by decide +kernel
theorem dX9_scores_351 : decode cX9_scores 351 = .ok (.isub, 1) := by decide +kernel
theorem dX9_scores_352 : decode cX9_scores 352 = .ok (.imul, 1) := by decide +kernel
theorem dX9_scores_353 : decode cX9_scores 353 = .ok (.iadd, 1) := by decide +kernel
theorem dX9_scores_354 : decode cX9_scores 354 = .ok (.istore 10, 2) := by decide +kernel
theorem dX9_scores_356 : decode cX9_scores 356 = .ok (.aload_n 0, 1) := by decide +kernel
theorem dX9_scores_357 : decode cX9_scores 357 = .ok (.getfield 9, 3) := by decide +kernel
theorem dX9_scores_360 : decode cX9_scores 360 = .ok (.iload 10, 2) := by decide +kernel
theorem dX9_scores_362 : decode cX9_scores 362 = .ok (.dup2, 1) := by decide +kernel
theorem dX9_scores_363 : decode cX9_scores 363 = .ok (.iaload, 1) := by decide +kernel
theorem dX9_scores_364 : decode cX9_scores 364 = .ok (.iload 6, 2) := by decide +kernel
theorem dX9_scores_366 : decode cX9_scores 366 = .ok (.iadd, 1) := by decide +kernel
theorem dX9_scores_367 : decode cX9_scores 367 = .ok (.iastore, 1) := by decide +kernel
theorem dX9_scores_368 : decode cX9_scores 368 = .ok (.aload_n 0, 1) := by decide +kernel
theorem dX9_scores_369 : decode cX9_scores 369 = .ok (.getfield 9, 3) := by decide +kernel
theorem dX9_scores_372 : decode cX9_scores 372 = .ok (.iload 10, 2) := by decide +kernel
theorem dX9_scores_374 : decode cX9_scores 374 = .ok (.iconst 1, 1) := by decide +kernel
theorem dX9_scores_375 : decode cX9_scores 375 = .ok (.iadd, 1) := by decide +kernel
theorem dX9_scores_376 : decode cX9_scores 376 = .ok (.dup2, 1) := by decide +kernel
theorem dX9_scores_377 : decode cX9_scores 377 = .ok (.iaload, 1) := by decide +kernel
theorem dX9_scores_378 : decode cX9_scores 378 = .ok (.iload 8, 2) := by decide +kernel
theorem dX9_scores_380 : decode cX9_scores 380 = .ok (.iadd, 1) := by decide +kernel
theorem dX9_scores_381 : decode cX9_scores 381 = .ok (.iastore, 1) := by decide +kernel
theorem dX9_scores_382 : decode cX9_scores 382 = .ok (.iload 7, 2) := by decide +kernel
theorem dX9_scores_384 : decode cX9_scores 384 = .ok (.ifCond .eq 34, 3) := by decide +kernel
theorem dX9_scores_387 : decode cX9_scores 387 = .ok (.aload_n 0, 1) := by decide +kernel
theorem dX9_scores_388 : decode cX9_scores 388 = .ok (.getfield 9, 3) := by decide +kernel
theorem dX9_scores_391 : decode cX9_scores 391 = .ok (.iload 10, 2) := by decide +kernel
theorem dX9_scores_393 : decode cX9_scores 393 = .ok (.aload_n 0, 1) := by decide +kernel
theorem dX9_scores_394 : decode cX9_scores 394 = .ok (.getfield 9, 3) := by decide +kernel
theorem dX9_scores_397 : decode cX9_scores 397 = .ok (.iload 10, 2) := by decide +kernel
theorem dX9_scores_399 : decode cX9_scores 399 = .ok (.iconst 2, 1) := by decide +kernel
theorem dX9_scores_400 : decode cX9_scores 400 = .ok (.iadd, 1) := by decide +kernel
theorem dX9_scores_401 : decode cX9_scores 401 = .ok (.iaload, 1) := by decide +kernel
theorem dX9_scores_402 : decode cX9_scores 402 = .ok (.iload 5, 2) := by decide +kernel
theorem dX9_scores_404 : decode cX9_scores 404 = .ok (.if_icmp .ne 7, 3) := by decide +kernel
theorem dX9_scores_407 : decode cX9_scores 407 = .ok (.iconst 4, 1) := by decide +kernel
theorem dX9_scores_408 : decode cX9_scores 408 = .ok (.goto 4, 3) := by decide +kernel
theorem dX9_scores_411 : decode cX9_scores 411 = .ok (.iconst 5, 1) := by decide +kernel
theorem dX9_scores_412 : decode cX9_scores 412 = .ok (.iadd, 1) := by decide +kernel
theorem dX9_scores_413 : decode cX9_scores 413 = .ok (.dup2, 1) := by decide +kernel
theorem dX9_scores_414 : decode cX9_scores 414 = .ok (.iaload, 1) := by decide +kernel
theorem dX9_scores_415 : decode cX9_scores 415 = .ok (.iload_n 2, 1) := by decide +kernel
theorem dX9_scores_416 : decode cX9_scores 416 = .ok (.iadd, 1) := by decide +kernel
theorem dX9_scores_417 : decode cX9_scores 417 = .ok (.iastore, 1) := by decide +kernel
theorem dX9_scores_418 : decode cX9_scores 418 = .ok (.aload_n 0, 1) := by decide +kernel
theorem dX9_scores_419 : decode cX9_scores 419 = .ok (.getfield 9, 3) := by decide +kernel
theorem dX9_scores_422 : decode cX9_scores 422 = .ok (.iload 10, 2) := by decide +kernel
theorem dX9_scores_424 : decode cX9_scores 424 = .ok (.bipush 6, 2) := by decide +kernel
theorem dX9_scores_426 : decode cX9_scores 426 = .ok (.iadd, 1) := by decide +kernel
theorem dX9_scores_427 : decode cX9_scores 427 = .ok (.dup2, 1) := by decide +kernel
theorem dX9_scores_428 : decode cX9_scores 428 = .ok (.iaload, 1) := by decide +kernel
theorem dX9_scores_429 : decode cX9_scores 429 = .ok (.iload 7, 2) := by decide +kernel
theorem dX9_scores_431 : decode cX9_scores 431 = .ok (.ifCond .eq 10, 3) := by decide +kernel
theorem dX9_scores_434 : decode cX9_scores 434 = .ok (.iload 6, 2) := by decide +kernel
theorem dX9_scores_436 : decode cX9_scores 436 = .ok (.iload_n 2, 1) := by decide +kernel
theorem dX9_scores_437 : decode cX9_scores 437 = .ok (.isub, 1) := by decide +kernel
theorem dX9_scores_438 : decode cX9_scores 438 = .ok (.goto 5, 3) := by decide +kernel
theorem dX9_scores_441 : decode cX9_scores 441 = .ok (.iload 6, 2) := by decide +kernel
theorem dX9_scores_443 : decode cX9_scores 443 = .ok (.iadd, 1) := by decide +kernel
theorem dX9_scores_444 : decode cX9_scores 444 = .ok (.iastore, 1) := by decide +kernel
theorem dX9_scores_445 : decode cX9_scores 445 = .ok (.iload 6, 2) := by decide +kernel
theorem dX9_scores_447 : decode cX9_scores 447 = .ok (.ireturn, 1) := by decide +kernel
set_option maxRecDepth 20000 in
theorem ggX9_completes_X9_at : GoodIn wsX9_completes wsX9_at := goodIn_r _ [5] (by decide +kernel) (by decide +kernel)
set_option maxRecDepth 20000 in
theorem gX9_completes_X9_at : GoodIn wsX9_completes (va_wsS RX9 62 yX9_at wsX9_at) := goodIn_app (goodIn_of _ (by decide +kernel)) ggX9_completes_X9_at
set_option maxRecDepth 20000 in
theorem ggX9_completes_X9_bowlerAt : GoodIn wsX9_completes wsX9_bowlerAt := goodIn_r _ [8] (by decide +kernel) (by decide +kernel)
set_option maxRecDepth 20000 in
theorem gX9_completes_X9_bowlerAt : GoodIn wsX9_completes (va_wsS RX9 105 yX9_bowlerAt wsX9_bowlerAt) := goodIn_app (goodIn_of _ (by decide +kernel)) ggX9_completes_X9_bowlerAt
set_option maxRecDepth 20000 in
theorem ggX9_completes_X9_changesEnds : GoodIn wsX9_completes wsX9_changesEnds := goodIn_ca (goodIn_r _ [12, 1, 13, 14, 15, 16, 17, 18, 19, 20, 21, 22, 23, 24, 25, 26, 27, 28, 29, 30, 31, 32, 33, 34] (by decide +kernel) (by decide +kernel)) (goodIn_sub (fun _ h => List.mem_cons_of_mem _ (List.mem_append_right _ h)) (by decide +kernel))
set_option maxRecDepth 20000 in
theorem gX9_completes_X9_changesEnds : GoodIn wsX9_completes (wsV RX9 149 RX9 yX9_changesEnds wsX9_changesEnds) := goodIn_app (goodIn_of _ (by decide +kernel)) ggX9_completes_X9_changesEnds
theorem dX9_completes_0 : decode cX9_completes 0 = .ok (.aload_n 0, 1) := by decide +kernel
theorem dX9_completes_1 : decode cX9_completes 1 = .ok (.getfield 9, 3) := by decide +kernel
theorem dX9_completes_4 : decode cX9_completes 4 = .ok (.bipush 10, 2) := by decide +kernel
theorem dX9_completes_6 : decode cX9_completes 6 = .ok (.iaload, 1) := by decide +kernel
theorem dX9_completes_7 : decode cX9_completes 7 = .ok (.bipush 6, 2) := by decide +kernel
theorem dX9_completes_9 : decode cX9_completes 9 = .ok (.if_icmp .ge 4, 3) := by decide +kernel
theorem dX9_completes_12 : decode cX9_completes 12 = .ok (.return_, 1) := by decide +kernel
theorem dX9_completes_13 : decode cX9_completes 13 = .ok (.aload_n 0, 1) := by decide +kernel
theorem dX9_completes_14 : decode cX9_completes 14 = .ok (.getfield 9, 3) := by decide +kernel
theorem dX9_completes_17 : decode cX9_completes 17 = .ok (.iconst 4, 1) := by decide +kernel
theorem dX9_completes_18 : decode cX9_completes 18 = .ok (.iaload, 1) := by decide +kernel
theorem dX9_completes_19 : decode cX9_completes 19 = .ok (.istore_n 1, 1) := by decide +kernel
theorem dX9_completes_20 : decode cX9_completes 20 = .ok (.aload_n 0, 1) := by decide +kernel
theorem dX9_completes_21 : decode cX9_completes 21 = .ok (.getfield 9, 3) := by decide +kernel
theorem dX9_completes_24 : decode cX9_completes 24 = .ok (.bipush 9, 2) := by decide +kernel
theorem dX9_completes_26 : decode cX9_completes 26 = .ok (.iaload, 1) := by decide +kernel
theorem dX9_completes_27 : decode cX9_completes 27 = .ok (.istore_n 2, 1) := by decide +kernel
theorem dX9_completes_28 : decode cX9_completes 28 = .ok (.aload_n 0, 1) := by decide +kernel
theorem dX9_completes_29 : decode cX9_completes 29 = .ok (.getfield 9, 3) := by decide +kernel
theorem dX9_completes_32 : decode cX9_completes 32 = .ok (.sipush 761, 3) := by decide +kernel
theorem dX9_completes_35 : decode cX9_completes 35 = .ok (.bipush 20, 2) := by decide +kernel
theorem dX9_completes_37 : decode cX9_completes 37 = .ok (.iload_n 1, 1) := by decide +kernel
theorem dX9_completes_38 : decode cX9_completes 38 = .ok (.imul, 1) := by decide +kernel
theorem dX9_completes_39 : decode cX9_completes 39 = .ok (.iadd, 1) := by decide +kernel
theorem dX9_completes_40 : decode cX9_completes 40 = .ok (.aload_n 0, 1) := by decide +kernel
theorem dX9_completes_41 : decode cX9_completes 41 = .ok (.getfield 9, 3) := by decide +kernel
theorem dX9_completes_44 : decode cX9_completes 44 = .ok (.iload_n 1, 1) := by decide +kernel
theorem dX9_completes_45 : decode cX9_completes 45 = .ok (.bipush 8, 2) := by decide +kernel
theorem dX9_completes_47 : decode cX9_completes 47 = .ok (.invokestatic 62, 3) := by decide +kernel
theorem dX9_completes_50 : decode cX9_completes 50 = .ok (.iaload, 1) := by decide +kernel
theorem dX9_completes_51 : decode cX9_completes 51 = .ok (.iadd, 1) := by decide +kernel
theorem dX9_completes_52 : decode cX9_completes 52 = .ok (.aload_n 0, 1) := by decide +kernel
theorem dX9_completes_53 : decode cX9_completes 53 = .ok (.getfield 9, 3) := by decide +kernel
theorem dX9_completes_56 : decode cX9_completes 56 = .ok (.iload_n 1, 1) := by decide +kernel
theorem dX9_completes_57 : decode cX9_completes 57 = .ok (.iconst 0, 1) := by decide +kernel
theorem dX9_completes_58 : decode cX9_completes 58 = .ok (.invokestatic 62, 3) := by decide +kernel
theorem dX9_completes_61 : decode cX9_completes 61 = .ok (.iaload, 1) := by decide +kernel
theorem dX9_completes_62 : decode cX9_completes 62 = .ok (.iastore, 1) := by decide +kernel
theorem dX9_completes_63 : decode cX9_completes 63 = .ok (.aload_n 0, 1) := by decide +kernel
theorem dX9_completes_64 : decode cX9_completes 64 = .ok (.getfield 9, 3) := by decide +kernel
theorem dX9_completes_67 : decode cX9_completes 67 = .ok (.iload_n 1, 1) := by decide +kernel
theorem dX9_completes_68 : decode cX9_completes 68 = .ok (.bipush 8, 2) := by decide +kernel
theorem dX9_completes_70 : decode cX9_completes 70 = .ok (.invokestatic 62, 3) := by decide +kernel
theorem dX9_completes_73 : decode cX9_completes 73 = .ok (.dup2, 1) := by decide +kernel
theorem dX9_completes_74 : decode cX9_completes 74 = .ok (.iaload, 1) := by decide +kernel
theorem dX9_completes_75 : decode cX9_completes 75 = .ok (.iconst 1, 1) := by decide +kernel
theorem dX9_completes_76 : decode cX9_completes 76 = .ok (.iadd, 1) := by decide +kernel
theorem dX9_completes_77 : decode cX9_completes 77 = .ok (.iastore, 1) := by decide +kernel
theorem dX9_completes_78 : decode cX9_completes 78 = .ok (.aload_n 0, 1) := by decide +kernel
theorem dX9_completes_79 : decode cX9_completes 79 = .ok (.getfield 9, 3) := by decide +kernel
theorem dX9_completes_82 : decode cX9_completes 82 = .ok (.iload_n 1, 1) := by decide +kernel
theorem dX9_completes_83 : decode cX9_completes 83 = .ok (.iload_n 2, 1) := by decide +kernel
theorem dX9_completes_84 : decode cX9_completes 84 = .ok (.bipush 6, 2) := by decide +kernel
theorem dX9_completes_86 : decode cX9_completes 86 = .ok (.invokestatic 105, 3) := by decide +kernel
theorem dX9_completes_89 : decode cX9_completes 89 = .ok (.dup2, 1) := by decide +kernel
theorem dX9_completes_90 : decode cX9_completes 90 = .ok (.iaload, 1) := by decide +kernel
theorem dX9_completes_91 : decode cX9_completes 91 = .ok (.iconst 1, 1) := by decide +kernel
theorem dX9_completes_92 : decode cX9_completes 92 = .ok (.iadd, 1) := by decide +kernel
theorem dX9_completes_93 : decode cX9_completes 93 = .ok (.iastore, 1) := by decide +kernel
theorem dX9_completes_94 : decode cX9_completes 94 = .ok (.aload_n 0, 1) := by decide +kernel
theorem dX9_completes_95 : decode cX9_completes 95 = .ok (.getfield 9, 3) := by decide +kernel
theorem dX9_completes_98 : decode cX9_completes 98 = .ok (.iload_n 1, 1) := by decide +kernel
theorem dX9_completes_99 : decode cX9_completes 99 = .ok (.iload_n 2, 1) := by decide +kernel
theorem dX9_completes_100 : decode cX9_completes 100 = .ok (.iconst 3, 1) := by decide +kernel
theorem dX9_completes_101 : decode cX9_completes 101 = .ok (.invokestatic 105, 3) := by decide +kernel
theorem dX9_completes_104 : decode cX9_completes 104 = .ok (.dup2, 1) := by decide +kernel
theorem dX9_completes_105 : decode cX9_completes 105 = .ok (.iaload, 1) := by decide +kernel
theorem dX9_completes_106 : decode cX9_completes 106 = .ok (.aload_n 0, 1) := by decide +kernel
theorem dX9_completes_107 : decode cX9_completes 107 = .ok (.getfield 9, 3) := by decide +kernel
theorem dX9_completes_110 : decode cX9_completes 110 = .ok (.bipush 11, 2) := by decide +kernel
theorem dX9_completes_112 : decode cX9_completes 112 = .ok (.iaload, 1) := by decide +kernel
theorem dX9_completes_113 : decode cX9_completes 113 = .ok (.ifCond .ne 7, 3) := by decide +kernel
theorem dX9_completes_116 : decode cX9_completes 116 = .ok (.iconst 1, 1) := by decide +kernel
theorem dX9_completes_117 : decode cX9_completes 117 = .ok (.goto 4, 3) := by decide +kernel
theorem dX9_completes_120 : decode cX9_completes 120 = .ok (.iconst 0, 1) := by decide +kernel
theorem dX9_completes_121 : decode cX9_completes 121 = .ok (.iadd, 1) := by decide +kernel
theorem dX9_completes_122 : decode cX9_completes 122 = .ok (.iastore, 1) := by decide +kernel
theorem dX9_completes_123 : decode cX9_completes 123 = .ok (.aload_n 0, 1) := by decide +kernel
theorem dX9_completes_124 : decode cX9_completes 124 = .ok (.getfield 9, 3) := by decide +kernel
theorem dX9_completes_127 : decode cX9_completes 127 = .ok (.iload_n 1, 1) := by decide +kernel
theorem dX9_completes_128 : decode cX9_completes 128 = .ok (.bipush 10, 2) := by decide +kernel
theorem dX9_completes_130 : decode cX9_completes 130 = .ok (.invokestatic 62, 3) := by decide +kernel
theorem dX9_completes_133 : decode cX9_completes 133 = .ok (.iconst 0, 1) := by decide +kernel
theorem dX9_completes_134 : decode cX9_completes 134 = .ok (.iastore, 1) := by decide +kernel
theorem dX9_completes_135 : decode cX9_completes 135 = .ok (.aload_n 0, 1) := by decide +kernel
theorem dX9_completes_136 : decode cX9_completes 136 = .ok (.getfield 9, 3) := by decide +kernel
theorem dX9_completes_139 : decode cX9_completes 139 = .ok (.bipush 12, 2) := by decide +kernel
theorem dX9_completes_141 : decode cX9_completes 141 = .ok (.iload_n 2, 1) := by decide +kernel
theorem dX9_completes_142 : decode cX9_completes 142 = .ok (.iastore, 1) := by decide +kernel
theorem dX9_completes_143 : decode cX9_completes 143 = .ok (.aload_n 0, 1) := by decide +kernel
theorem dX9_completes_144 : decode cX9_completes 144 = .ok (.getfield 9, 3) := by decide +kernel
theorem dX9_completes_147 : decode cX9_completes 147 = .ok (.bipush 9, 2) := by decide +kernel
theorem dX9_completes_149 : decode cX9_completes 149 = .ok (.iconst (-1), 1) := by decide +kernel
theorem dX9_completes_150 : decode cX9_completes 150 = .ok (.iastore, 1) := by decide +kernel
theorem dX9_completes_151 : decode cX9_completes 151 = .ok (.aload_n 0, 1) := by decide +kernel
theorem dX9_completes_152 : decode cX9_completes 152 = .ok (.getfield 9, 3) := by decide +kernel
theorem dX9_completes_155 : decode cX9_completes 155 = .ok (.bipush 10, 2) := by decide +kernel
theorem dX9_completes_157 : decode cX9_completes 157 = .ok (.iconst 0, 1) := by decide +kernel
theorem dX9_completes_158 : decode cX9_completes 158 = .ok (.iastore, 1) := by decide +kernel
theorem dX9_completes_159 : decode cX9_completes 159 = .ok (.aload_n 0, 1) := by decide +kernel
theorem dX9_completes_160 : decode cX9_completes 160 = .ok (.getfield 9, 3) := by decide +kernel
theorem dX9_completes_163 : decode cX9_completes 163 = .ok (.bipush 11, 2) := by decide +kernel
theorem dX9_completes_165 : decode cX9_completes 165 = .ok (.iconst 0, 1) := by decide +kernel
theorem dX9_completes_166 : decode cX9_completes 166 = .ok (.iastore, 1) := by decide +kernel
theorem dX9_completes_167 : decode cX9_completes 167 = .ok (.aload_n 0, 1) := by decide +kernel
theorem dX9_completes_168 : decode cX9_completes 168 = .ok (.invokevirtual 149, 3) := by decide +kernel
theorem dX9_completes_171 : decode cX9_completes 171 = .ok (.return_, 1) := by decide +kernel
set_option maxRecDepth 20000 in
theorem ggX9_bowled_X9_scores : GoodIn wsX9_bowled wsX9_scores := goodIn_ca (goodIn_r _ [5, 6, 7, 8, 4, 9, 10, 11, 12, 13, 14, 15, 49, 50, 51, 52, 53, 54, 55, 56, 57, 58, 59, 60, 61, 62, 63, 64, 65, 66, 67, 68, 69, 70] (by decide +kernel) (by decide +kernel)) (goodIn_sub (fun _ h => List.mem_cons_of_mem _ (List.mem_append_left _ (List.mem_append_right _ h))) (by decide +kernel))
set_option maxRecDepth 20000 in
theorem gX9_bowled_X9_scores : GoodIn wsX9_bowled (wsV RX9 152 RX9 yX9_scores wsX9_scores) := goodIn_app (goodIn_of _ (by decide +kernel)) ggX9_bowled_X9_scores
set_option maxRecDepth 20000 in
theorem ggX9_bowled_X9_changesEnds : GoodIn wsX9_bowled wsX9_changesEnds := goodIn_ca (goodIn_r _ [19, 6, 49, 50, 51, 52, 53, 54, 55, 56, 57, 58, 59, 60, 61, 62, 63, 64, 65, 66, 67, 68, 69, 70] (by decide +kernel) (by decide +kernel)) (goodIn_sub (fun _ h => List.mem_cons_of_mem _ (List.mem_append_left _ (List.mem_append_right _ h))) (by decide +kernel))
set_option maxRecDepth 20000 in
theorem gX9_bowled_X9_changesEnds : GoodIn wsX9_bowled (wsV RX9 149 RX9 yX9_changesEnds wsX9_changesEnds) := goodIn_app (goodIn_of _ (by decide +kernel)) ggX9_bowled_X9_changesEnds
set_option maxRecDepth 20000 in
theorem ggX9_bowled_X9_completes : GoodIn wsX9_bowled wsX9_completes := goodIn_ca (goodIn_r _ [23, 6, 7, 8, 4, 9, 13, 14, 15, 16, 17, 18, 19, 49, 50, 51, 52, 53, 54, 55, 56, 57, 58, 59, 60, 61, 62, 63, 64, 65, 66, 67, 68, 69, 70] (by decide +kernel) (by decide +kernel)) (goodIn_sub (fun _ h => List.mem_cons_of_mem _ (List.mem_append_left _ (List.mem_append_right _ h))) (by decide +kernel))
set_option maxRecDepth 20000 in
theorem gX9_bowled_X9_completes : GoodIn wsX9_bowled (wsV RX9 155 RX9 yX9_completes wsX9_completes) := goodIn_app (goodIn_of _ (by decide +kernel)) ggX9_bowled_X9_completes
set_option maxRecDepth 20000 in
theorem ggX9_bowled_X9_looks : GoodIn wsX9_bowled wsX9_looks := goodIn_ca (goodIn_ca (goodIn_r _ [27, 6, 7, 8, 4, 9, 28, 29, 30, 31, 32, 33, 34, 35, 36, 37, 38, 39, 40, 41, 42, 43, 44, 10, 11, 12, 45, 46, 47, 48, 49, 50, 51, 52, 53, 54, 55, 56, 57, 58, 59, 60, 61, 62, 63, 64, 65, 66, 67, 68, 69, 70] (by decide +kernel) (by decide +kernel)) (goodIn_sub (fun _ h => List.mem_cons_of_mem _ (List.mem_append_left _ (List.mem_append_right _ h))) (by decide +kernel))) (goodIn_sub (fun _ h => List.mem_cons_of_mem _ (List.mem_append_right _ h)) (by decide +kernel))
set_option maxRecDepth 20000 in
theorem gX9_bowled_X9_looks : GoodIn wsX9_bowled (wsV RX9 139 RX9 yX9_looks wsX9_looks) := goodIn_app (goodIn_of _ (by decide +kernel)) ggX9_bowled_X9_looks
theorem dX9_bowled_0 : decode cX9_bowled 0 = .ok (.aload_n 0, 1) := by decide +kernel
theorem dX9_bowled_1 : decode cX9_bowled 1 = .ok (.iload_n 1, 1) := by decide +kernel
theorem dX9_bowled_2 : decode cX9_bowled 2 = .ok (.iload_n 2, 1) := by decide +kernel
theorem dX9_bowled_3 : decode cX9_bowled 3 = .ok (.iload_n 3, 1) := by decide +kernel
theorem dX9_bowled_4 : decode cX9_bowled 4 = .ok (.invokevirtual 152, 3) := by decide +kernel
theorem dX9_bowled_7 : decode cX9_bowled 7 = .ok (.istore 4, 2) := by decide +kernel
theorem dX9_bowled_9 : decode cX9_bowled 9 = .ok (.iload_n 3, 1) := by decide +kernel
theorem dX9_bowled_10 : decode cX9_bowled 10 = .ok (.ifCond .ne 14, 3) := by decide +kernel
theorem dX9_bowled_13 : decode cX9_bowled 13 = .ok (.iload_n 2, 1) := by decide +kernel
theorem dX9_bowled_14 : decode cX9_bowled 14 = .ok (.iconst 2, 1) := by decide +kernel
theorem dX9_bowled_15 : decode cX9_bowled 15 = .ok (.irem, 1) := by decide +kernel
theorem dX9_bowled_16 : decode cX9_bowled 16 = .ok (.iconst 1, 1) := by decide +kernel
theorem dX9_bowled_17 : decode cX9_bowled 17 = .ok (.if_icmp .ne 7, 3) := by decide +kernel
theorem dX9_bowled_20 : decode cX9_bowled 20 = .ok (.aload_n 0, 1) := by decide +kernel
theorem dX9_bowled_21 : decode cX9_bowled 21 = .ok (.invokevirtual 149, 3) := by decide +kernel
theorem dX9_bowled_24 : decode cX9_bowled 24 = .ok (.aload_n 0, 1) := by decide +kernel
theorem dX9_bowled_25 : decode cX9_bowled 25 = .ok (.invokevirtual 155, 3) := by decide +kernel
theorem dX9_bowled_28 : decode cX9_bowled 28 = .ok (.aload_n 0, 1) := by decide +kernel
theorem dX9_bowled_29 : decode cX9_bowled 29 = .ok (.iconst 0, 1) := by decide +kernel
theorem dX9_bowled_30 : decode cX9_bowled 30 = .ok (.iconst 0, 1) := by decide +kernel
theorem dX9_bowled_31 : decode cX9_bowled 31 = .ok (.invokevirtual 139, 3) := by decide +kernel
theorem dX9_bowled_34 : decode cX9_bowled 34 = .ok (.iload 4, 2) := by decide +kernel
theorem dX9_bowled_36 : decode cX9_bowled 36 = .ok (.ireturn, 1) := by decide +kernel
set_option maxRecDepth 20000 in
theorem ggX9_leaves_X9_batterAt : GoodIn wsX9_leaves wsX9_batterAt := goodIn_r _ [5] (by decide +kernel) (by decide +kernel)
set_option maxRecDepth 20000 in
theorem gX9_leaves_X9_batterAt : GoodIn wsX9_leaves (va_wsS RX9 65 yX9_batterAt wsX9_batterAt) := goodIn_app (goodIn_of _ (by decide +kernel)) ggX9_leaves_X9_batterAt
set_option maxRecDepth 20000 in
theorem ggX9_leaves_X9_share : GoodIn wsX9_leaves wsX9_share := goodIn_ca (goodIn_r _ [9, 1, 10, 11, 12, 13, 14, 15, 16, 17, 18, 19, 20, 21, 22, 23, 24, 25, 26, 27, 28, 29, 30, 31] (by decide +kernel) (by decide +kernel)) (goodIn_sub (fun _ h => List.mem_cons_of_mem _ (List.mem_append_right _ h)) (by decide +kernel))
set_option maxRecDepth 20000 in
theorem gX9_leaves_X9_share : GoodIn wsX9_leaves (wsV RX9 69 RX9 yX9_share wsX9_share) := goodIn_app (goodIn_of _ (by decide +kernel)) ggX9_leaves_X9_share
theorem dX9_leaves_0 : decode cX9_leaves 0 = .ok (.aload_n 0, 1) := by decide +kernel
theorem dX9_leaves_1 : decode cX9_leaves 1 = .ok (.getfield 9, 3) := by decide +kernel
theorem dX9_leaves_4 : decode cX9_leaves 4 = .ok (.iconst 4, 1) := by decide +kernel
theorem dX9_leaves_5 : decode cX9_leaves 5 = .ok (.iaload, 1) := by decide +kernel
theorem dX9_leaves_6 : decode cX9_leaves 6 = .ok (.istore 4, 2) := by decide +kernel
theorem dX9_leaves_8 : decode cX9_leaves 8 = .ok (.aload_n 0, 1) := by decide +kernel
theorem dX9_leaves_9 : decode cX9_leaves 9 = .ok (.getfield 9, 3) := by decide +kernel
theorem dX9_leaves_12 : decode cX9_leaves 12 = .ok (.iload 4, 2) := by decide +kernel
theorem dX9_leaves_14 : decode cX9_leaves 14 = .ok (.iload_n 1, 1) := by decide +kernel
theorem dX9_leaves_15 : decode cX9_leaves 15 = .ok (.iconst 4, 1) := by decide +kernel
theorem dX9_leaves_16 : decode cX9_leaves 16 = .ok (.invokestatic 65, 3) := by decide +kernel
theorem dX9_leaves_19 : decode cX9_leaves 19 = .ok (.iload_n 3, 1) := by decide +kernel
theorem dX9_leaves_20 : decode cX9_leaves 20 = .ok (.iastore, 1) := by decide +kernel
theorem dX9_leaves_21 : decode cX9_leaves 21 = .ok (.aload_n 0, 1) := by decide +kernel
theorem dX9_leaves_22 : decode cX9_leaves 22 = .ok (.getfield 9, 3) := by decide +kernel
theorem dX9_leaves_25 : decode cX9_leaves 25 = .ok (.sipush 841, 3) := by decide +kernel
theorem dX9_leaves_28 : decode cX9_leaves 28 = .ok (.bipush 8, 2) := by decide +kernel
theorem dX9_leaves_30 : decode cX9_leaves 30 = .ok (.aload_n 0, 1) := by decide +kernel
theorem dX9_leaves_31 : decode cX9_leaves 31 = .ok (.getfield 9, 3) := by decide +kernel
theorem dX9_leaves_34 : decode cX9_leaves 34 = .ok (.bipush 22, 2) := by decide +kernel
theorem dX9_leaves_36 : decode cX9_leaves 36 = .ok (.iaload, 1) := by decide +kernel
theorem dX9_leaves_37 : decode cX9_leaves 37 = .ok (.iconst 1, 1) := by decide +kernel
theorem dX9_leaves_38 : decode cX9_leaves 38 = .ok (.isub, 1) := by decide +kernel
theorem dX9_leaves_39 : decode cX9_leaves 39 = .ok (.imul, 1) := by decide +kernel
theorem dX9_leaves_40 : decode cX9_leaves 40 = .ok (.iadd, 1) := by decide +kernel
theorem dX9_leaves_41 : decode cX9_leaves 41 = .ok (.bipush 7, 2) := by decide +kernel
theorem dX9_leaves_43 : decode cX9_leaves 43 = .ok (.iadd, 1) := by decide +kernel
theorem dX9_leaves_44 : decode cX9_leaves 44 = .ok (.iconst 0, 1) := by decide +kernel
theorem dX9_leaves_45 : decode cX9_leaves 45 = .ok (.iastore, 1) := by decide +kernel
theorem dX9_leaves_46 : decode cX9_leaves 46 = .ok (.iload_n 2, 1) := by decide +kernel
theorem dX9_leaves_47 : decode cX9_leaves 47 = .ok (.ifCond .ge 4, 3) := by decide +kernel
theorem dX9_leaves_50 : decode cX9_leaves 50 = .ok (.return_, 1) := by decide +kernel
theorem dX9_leaves_51 : decode cX9_leaves 51 = .ok (.aload_n 0, 1) := by decide +kernel
theorem dX9_leaves_52 : decode cX9_leaves 52 = .ok (.getfield 9, 3) := by decide +kernel
theorem dX9_leaves_55 : decode cX9_leaves 55 = .ok (.bipush 6, 2) := by decide +kernel
theorem dX9_leaves_57 : decode cX9_leaves 57 = .ok (.iaload, 1) := by decide +kernel
theorem dX9_leaves_58 : decode cX9_leaves 58 = .ok (.iload_n 1, 1) := by decide +kernel
theorem dX9_leaves_59 : decode cX9_leaves 59 = .ok (.if_icmp .ne 14, 3) := by decide +kernel
theorem dX9_leaves_62 : decode cX9_leaves 62 = .ok (.aload_n 0, 1) := by decide +kernel
theorem dX9_leaves_63 : decode cX9_leaves 63 = .ok (.getfield 9, 3) := by decide +kernel
theorem dX9_leaves_66 : decode cX9_leaves 66 = .ok (.bipush 6, 2) := by decide +kernel
theorem dX9_leaves_68 : decode cX9_leaves 68 = .ok (.iload_n 2, 1) := by decide +kernel
theorem dX9_leaves_69 : decode cX9_leaves 69 = .ok (.iastore, 1) := by decide +kernel
theorem dX9_leaves_70 : decode cX9_leaves 70 = .ok (.goto 11, 3) := by decide +kernel
theorem dX9_leaves_73 : decode cX9_leaves 73 = .ok (.aload_n 0, 1) := by decide +kernel
theorem dX9_leaves_74 : decode cX9_leaves 74 = .ok (.getfield 9, 3) := by decide +kernel
theorem dX9_leaves_77 : decode cX9_leaves 77 = .ok (.bipush 7, 2) := by decide +kernel
theorem dX9_leaves_79 : decode cX9_leaves 79 = .ok (.iload_n 2, 1) := by decide +kernel
theorem dX9_leaves_80 : decode cX9_leaves 80 = .ok (.iastore, 1) := by decide +kernel
theorem dX9_leaves_81 : decode cX9_leaves 81 = .ok (.aload_n 0, 1) := by decide +kernel
theorem dX9_leaves_82 : decode cX9_leaves 82 = .ok (.getfield 9, 3) := by decide +kernel
theorem dX9_leaves_85 : decode cX9_leaves 85 = .ok (.iload 4, 2) := by decide +kernel
theorem dX9_leaves_87 : decode cX9_leaves 87 = .ok (.iload_n 2, 1) := by decide +kernel
theorem dX9_leaves_88 : decode cX9_leaves 88 = .ok (.iconst 4, 1) := by decide +kernel
theorem dX9_leaves_89 : decode cX9_leaves 89 = .ok (.invokestatic 65, 3) := by decide +kernel
theorem dX9_leaves_92 : decode cX9_leaves 92 = .ok (.iconst (-1), 1) := by decide +kernel
theorem dX9_leaves_93 : decode cX9_leaves 93 = .ok (.iastore, 1) := by decide +kernel
theorem dX9_leaves_94 : decode cX9_leaves 94 = .ok (.aload_n 0, 1) := by decide +kernel
theorem dX9_leaves_95 : decode cX9_leaves 95 = .ok (.getfield 9, 3) := by decide +kernel
theorem dX9_leaves_98 : decode cX9_leaves 98 = .ok (.bipush 8, 2) := by decide +kernel
theorem dX9_leaves_100 : decode cX9_leaves 100 = .ok (.iconst (-1), 1) := by decide +kernel
theorem dX9_leaves_101 : decode cX9_leaves 101 = .ok (.iastore, 1) := by decide +kernel
theorem dX9_leaves_102 : decode cX9_leaves 102 = .ok (.aload_n 0, 1) := by decide +kernel
theorem dX9_leaves_103 : decode cX9_leaves 103 = .ok (.invokevirtual 69, 3) := by decide +kernel
theorem dX9_leaves_106 : decode cX9_leaves 106 = .ok (.return_, 1) := by decide +kernel
set_option maxRecDepth 20000 in
theorem ggX9_falls_X9_next : GoodIn wsX9_falls wsX9_next := goodIn_ca (goodIn_r _ [6, 1, 7, 8, 9, 5, 10, 11, 12, 13, 61, 62, 63, 64, 65, 66, 67, 68, 69, 70, 71, 72, 73, 74, 75, 76, 77, 78, 79, 80, 81, 82] (by decide +kernel) (by decide +kernel)) (goodIn_sub (fun _ h => List.mem_cons_of_mem _ (List.mem_append_left _ (List.mem_append_right _ h))) (by decide +kernel))
set_option maxRecDepth 20000 in
theorem gX9_falls_X9_next : GoodIn wsX9_falls (wsV RX9 136 RX9 yX9_next wsX9_next) := goodIn_app (goodIn_of _ (by decide +kernel)) ggX9_falls_X9_next
set_option maxRecDepth 20000 in
theorem ggX9_falls_X9_scores : GoodIn wsX9_falls wsX9_scores := goodIn_ca (goodIn_r _ [17, 1, 18, 19, 5, 20, 11, 12, 13, 21, 22, 23, 61, 62, 63, 64, 65, 66, 67, 68, 69, 70, 71, 72, 73, 74, 75, 76, 77, 78, 79, 80, 81, 82] (by decide +kernel) (by decide +kernel)) (goodIn_sub (fun _ h => List.mem_cons_of_mem _ (List.mem_append_left _ (List.mem_append_right _ h))) (by decide +kernel))
set_option maxRecDepth 20000 in
theorem gX9_falls_X9_scores : GoodIn wsX9_falls (wsV RX9 152 RX9 yX9_scores wsX9_scores) := goodIn_app (goodIn_of _ (by decide +kernel)) ggX9_falls_X9_scores
set_option maxRecDepth 20000 in
theorem ggX9_falls_X9_changesEnds : GoodIn wsX9_falls wsX9_changesEnds := goodIn_ca (goodIn_r _ [27, 1, 61, 62, 63, 64, 65, 66, 67, 68, 69, 70, 71, 72, 73, 74, 75, 76, 77, 78, 79, 80, 81, 82] (by decide +kernel) (by decide +kernel)) (goodIn_sub (fun _ h => List.mem_cons_of_mem _ (List.mem_append_left _ (List.mem_append_right _ h))) (by decide +kernel))
set_option maxRecDepth 20000 in
theorem gX9_falls_X9_changesEnds : GoodIn wsX9_falls (wsV RX9 149 RX9 yX9_changesEnds wsX9_changesEnds) := goodIn_app (goodIn_of _ (by decide +kernel)) ggX9_falls_X9_changesEnds
set_option maxRecDepth 20000 in
theorem ggX9_falls_X9_at : GoodIn wsX9_falls wsX9_at := goodIn_r _ [20] (by decide +kernel) (by decide +kernel)
set_option maxRecDepth 20000 in
theorem gX9_falls_X9_at : GoodIn wsX9_falls (va_wsS RX9 62 yX9_at wsX9_at) := goodIn_app (goodIn_of _ (by decide +kernel)) ggX9_falls_X9_at
set_option maxRecDepth 20000 in
theorem ggX9_falls_X9_batterAt : GoodIn wsX9_falls wsX9_batterAt := goodIn_r _ [13] (by decide +kernel) (by decide +kernel)
set_option maxRecDepth 20000 in
theorem gX9_falls_X9_batterAt : GoodIn wsX9_falls (va_wsS RX9 65 yX9_batterAt wsX9_batterAt) := goodIn_app (goodIn_of _ (by decide +kernel)) ggX9_falls_X9_batterAt
set_option maxRecDepth 20000 in
theorem ggX9_falls_X9_bowlerAt : GoodIn wsX9_falls wsX9_bowlerAt := goodIn_r _ [23] (by decide +kernel) (by decide +kernel)
set_option maxRecDepth 20000 in
theorem gX9_falls_X9_bowlerAt : GoodIn wsX9_falls (va_wsS RX9 105 yX9_bowlerAt wsX9_bowlerAt) := goodIn_app (goodIn_of _ (by decide +kernel)) ggX9_falls_X9_bowlerAt
set_option maxRecDepth 20000 in
theorem ggX9_falls_X9_leaves : GoodIn wsX9_falls wsX9_leaves := goodIn_ca (goodIn_r _ [31, 1, 11, 12, 5, 13, 32, 33, 34, 35, 61, 62, 63, 64, 65, 66, 67, 68, 69, 70, 71, 72, 73, 74, 75, 76, 77, 78, 79, 80, 81, 82] (by decide +kernel) (by decide +kernel)) (goodIn_sub (fun _ h => List.mem_cons_of_mem _ (List.mem_append_left _ (List.mem_append_right _ h))) (by decide +kernel))
set_option maxRecDepth 20000 in
theorem gX9_falls_X9_leaves : GoodIn wsX9_falls (wsV RX9 158 RX9 yX9_leaves wsX9_leaves) := goodIn_app (goodIn_of _ (by decide +kernel)) ggX9_falls_X9_leaves
set_option maxRecDepth 20000 in
theorem ggX9_falls_X9_completes : GoodIn wsX9_falls wsX9_completes := goodIn_ca (goodIn_r _ [39, 1, 18, 19, 5, 20, 21, 22, 23, 24, 25, 26, 27, 61, 62, 63, 64, 65, 66, 67, 68, 69, 70, 71, 72, 73, 74, 75, 76, 77, 78, 79, 80, 81, 82] (by decide +kernel) (by decide +kernel)) (goodIn_sub (fun _ h => List.mem_cons_of_mem _ (List.mem_append_left _ (List.mem_append_right _ h))) (by decide +kernel))
set_option maxRecDepth 20000 in
theorem gX9_falls_X9_completes : GoodIn wsX9_falls (wsV RX9 155 RX9 yX9_completes wsX9_completes) := goodIn_app (goodIn_of _ (by decide +kernel)) ggX9_falls_X9_completes
set_option maxRecDepth 20000 in
theorem ggX9_falls_X9_looks : GoodIn wsX9_falls wsX9_looks := goodIn_ca (goodIn_ca (goodIn_r _ [43, 1, 18, 19, 5, 20, 44, 45, 46, 47, 48, 49, 50, 51, 52, 53, 54, 55, 56, 57, 58, 59, 60, 11, 12, 13, 32, 33, 34, 35, 61, 62, 63, 64, 65, 66, 67, 68, 69, 70, 71, 72, 73, 74, 75, 76, 77, 78, 79, 80, 81, 82] (by decide +kernel) (by decide +kernel)) (goodIn_sub (fun _ h => List.mem_cons_of_mem _ (List.mem_append_left _ (List.mem_append_right _ h))) (by decide +kernel))) (goodIn_sub (fun _ h => List.mem_cons_of_mem _ (List.mem_append_right _ h)) (by decide +kernel))
set_option maxRecDepth 20000 in
theorem gX9_falls_X9_looks : GoodIn wsX9_falls (wsV RX9 139 RX9 yX9_looks wsX9_looks) := goodIn_app (goodIn_of _ (by decide +kernel)) ggX9_falls_X9_looks
theorem dX9_falls_0 : decode cX9_falls 0 = .ok (.aload_n 0, 1) := by decide +kernel
theorem dX9_falls_1 : decode cX9_falls 1 = .ok (.getfield 9, 3) := by decide +kernel
theorem dX9_falls_4 : decode cX9_falls 4 = .ok (.iconst 4, 1) := by decide +kernel
theorem dX9_falls_5 : decode cX9_falls 5 = .ok (.iaload, 1) := by decide +kernel
theorem dX9_falls_6 : decode cX9_falls 6 = .ok (.istore 6, 2) := by decide +kernel
theorem dX9_falls_8 : decode cX9_falls 8 = .ok (.aload_n 0, 1) := by decide +kernel
theorem dX9_falls_9 : decode cX9_falls 9 = .ok (.invokevirtual 136, 3) := by decide +kernel
theorem dX9_falls_12 : decode cX9_falls 12 = .ok (.istore 7, 2) := by decide +kernel
theorem dX9_falls_14 : decode cX9_falls 14 = .ok (.iload_n 3, 1) := by decide +kernel
theorem dX9_falls_15 : decode cX9_falls 15 = .ok (.ifCond .eq 13, 3) := by decide +kernel
theorem dX9_falls_18 : decode cX9_falls 18 = .ok (.aload_n 0, 1) := by decide +kernel
theorem dX9_falls_19 : decode cX9_falls 19 = .ok (.getfield 9, 3) := by decide +kernel
theorem dX9_falls_22 : decode cX9_falls 22 = .ok (.bipush 7, 2) := by decide +kernel
theorem dX9_falls_24 : decode cX9_falls 24 = .ok (.iaload, 1) := by decide +kernel
theorem dX9_falls_25 : decode cX9_falls 25 = .ok (.goto 10, 3) := by decide +kernel
theorem dX9_falls_28 : decode cX9_falls 28 = .ok (.aload_n 0, 1) := by decide +kernel
theorem dX9_falls_29 : decode cX9_falls 29 = .ok (.getfield 9, 3) := by decide +kernel
theorem dX9_falls_32 : decode cX9_falls 32 = .ok (.bipush 6, 2) := by decide +kernel
theorem dX9_falls_34 : decode cX9_falls 34 = .ok (.iaload, 1) := by decide +kernel
theorem dX9_falls_35 : decode cX9_falls 35 = .ok (.istore 8, 2) := by decide +kernel
theorem dX9_falls_37 : decode cX9_falls 37 = .ok (.aload_n 0, 1) := by decide +kernel
theorem dX9_falls_38 : decode cX9_falls 38 = .ok (.iload_n 2, 1) := by decide +kernel
theorem dX9_falls_39 : decode cX9_falls 39 = .ok (.iload 4, 2) := by decide +kernel
theorem dX9_falls_41 : decode cX9_falls 41 = .ok (.iconst 0, 1) := by decide +kernel
theorem dX9_falls_42 : decode cX9_falls 42 = .ok (.invokevirtual 152, 3) := by decide +kernel
theorem dX9_falls_45 : decode cX9_falls 45 = .ok (.pop, 1) := by decide +kernel
theorem dX9_falls_46 : decode cX9_falls 46 = .ok (.iload 4, 2) := by decide +kernel
theorem dX9_falls_48 : decode cX9_falls 48 = .ok (.iconst 2, 1) := by decide +kernel
theorem dX9_falls_49 : decode cX9_falls 49 = .ok (.irem, 1) := by decide +kernel
theorem dX9_falls_50 : decode cX9_falls 50 = .ok (.iconst 1, 1) := by decide +kernel
theorem dX9_falls_51 : decode cX9_falls 51 = .ok (.if_icmp .ne 7, 3) := by decide +kernel
theorem dX9_falls_54 : decode cX9_falls 54 = .ok (.aload_n 0, 1) := by decide +kernel
theorem dX9_falls_55 : decode cX9_falls 55 = .ok (.invokevirtual 149, 3) := by decide +kernel
theorem dX9_falls_58 : decode cX9_falls 58 = .ok (.iload 5, 2) := by decide +kernel
theorem dX9_falls_60 : decode cX9_falls 60 = .ok (.ifCond .eq 7, 3) := by decide +kernel
theorem dX9_falls_63 : decode cX9_falls 63 = .ok (.aload_n 0, 1) := by decide +kernel
theorem dX9_falls_64 : decode cX9_falls 64 = .ok (.invokevirtual 149, 3) := by decide +kernel
theorem dX9_falls_67 : decode cX9_falls 67 = .ok (.sipush 641, 3) := by decide +kernel
theorem dX9_falls_70 : decode cX9_falls 70 = .ok (.bipush 30, 2) := by decide +kernel
theorem dX9_falls_72 : decode cX9_falls 72 = .ok (.iload 6, 2) := by decide +kernel
theorem dX9_falls_74 : decode cX9_falls 74 = .ok (.imul, 1) := by decide +kernel
theorem dX9_falls_75 : decode cX9_falls 75 = .ok (.iadd, 1) := by decide +kernel
theorem dX9_falls_76 : decode cX9_falls 76 = .ok (.iconst 3, 1) := by decide +kernel
theorem dX9_falls_77 : decode cX9_falls 77 = .ok (.aload_n 0, 1) := by decide +kernel
theorem dX9_falls_78 : decode cX9_falls 78 = .ok (.getfield 9, 3) := by decide +kernel
theorem dX9_falls_81 : decode cX9_falls 81 = .ok (.iload 6, 2) := by decide +kernel
theorem dX9_falls_83 : decode cX9_falls 83 = .ok (.iconst 1, 1) := by decide +kernel
theorem dX9_falls_84 : decode cX9_falls 84 = .ok (.invokestatic 62, 3) := by decide +kernel
theorem dX9_falls_87 : decode cX9_falls 87 = .ok (.iaload, 1) := by decide +kernel
theorem dX9_falls_88 : decode cX9_falls 88 = .ok (.imul, 1) := by decide +kernel
theorem dX9_falls_89 : decode cX9_falls 89 = .ok (.iadd, 1) := by decide +kernel
theorem dX9_falls_90 : decode cX9_falls 90 = .ok (.istore 9, 2) := by decide +kernel
theorem dX9_falls_92 : decode cX9_falls 92 = .ok (.aload_n 0, 1) := by decide +kernel
theorem dX9_falls_93 : decode cX9_falls 93 = .ok (.getfield 9, 3) := by decide +kernel
theorem dX9_falls_96 : decode cX9_falls 96 = .ok (.iload 9, 2) := by decide +kernel
theorem dX9_falls_98 : decode cX9_falls 98 = .ok (.iload 8, 2) := by decide +kernel
theorem dX9_falls_100 : decode cX9_falls 100 = .ok (.iastore, 1) := by decide +kernel
theorem dX9_falls_101 : decode cX9_falls 101 = .ok (.aload_n 0, 1) := by decide +kernel
theorem dX9_falls_102 : decode cX9_falls 102 = .ok (.getfield 9, 3) := by decide +kernel
theorem dX9_falls_105 : decode cX9_falls 105 = .ok (.iload 9, 2) := by decide +kernel
theorem dX9_falls_107 : decode cX9_falls 107 = .ok (.iconst 1, 1) := by decide +kernel
theorem dX9_falls_108 : decode cX9_falls 108 = .ok (.iadd, 1) := by decide +kernel
theorem dX9_falls_109 : decode cX9_falls 109 = .ok (.aload_n 0, 1) := by decide +kernel
theorem dX9_falls_110 : decode cX9_falls 110 = .ok (.getfield 9, 3) := by decide +kernel
theorem dX9_falls_113 : decode cX9_falls 113 = .ok (.iload 6, 2) := by decide +kernel
theorem dX9_falls_115 : decode cX9_falls 115 = .ok (.iconst 0, 1) := by decide +kernel
theorem dX9_falls_116 : decode cX9_falls 116 = .ok (.invokestatic 62, 3) := by decide +kernel
theorem dX9_falls_119 : decode cX9_falls 119 = .ok (.iaload, 1) := by decide +kernel
theorem dX9_falls_120 : decode cX9_falls 120 = .ok (.iastore, 1) := by decide +kernel
theorem dX9_falls_121 : decode cX9_falls 121 = .ok (.aload_n 0, 1) := by decide +kernel
theorem dX9_falls_122 : decode cX9_falls 122 = .ok (.getfield 9, 3) := by decide +kernel
theorem dX9_falls_125 : decode cX9_falls 125 = .ok (.iload 9, 2) := by decide +kernel
theorem dX9_falls_127 : decode cX9_falls 127 = .ok (.iconst 2, 1) := by decide +kernel
theorem dX9_falls_128 : decode cX9_falls 128 = .ok (.iadd, 1) := by decide +kernel
theorem dX9_falls_129 : decode cX9_falls 129 = .ok (.aload_n 0, 1) := by decide +kernel
theorem dX9_falls_130 : decode cX9_falls 130 = .ok (.getfield 9, 3) := by decide +kernel
theorem dX9_falls_133 : decode cX9_falls 133 = .ok (.iload 6, 2) := by decide +kernel
theorem dX9_falls_135 : decode cX9_falls 135 = .ok (.iconst 2, 1) := by decide +kernel
theorem dX9_falls_136 : decode cX9_falls 136 = .ok (.invokestatic 62, 3) := by decide +kernel
theorem dX9_falls_139 : decode cX9_falls 139 = .ok (.iaload, 1) := by decide +kernel
theorem dX9_falls_140 : decode cX9_falls 140 = .ok (.iastore, 1) := by decide +kernel
theorem dX9_falls_141 : decode cX9_falls 141 = .ok (.aload_n 0, 1) := by decide +kernel
theorem dX9_falls_142 : decode cX9_falls 142 = .ok (.getfield 9, 3) := by decide +kernel
theorem dX9_falls_145 : decode cX9_falls 145 = .ok (.iload 6, 2) := by decide +kernel
theorem dX9_falls_147 : decode cX9_falls 147 = .ok (.iconst 1, 1) := by decide +kernel
theorem dX9_falls_148 : decode cX9_falls 148 = .ok (.invokestatic 62, 3) := by decide +kernel
theorem dX9_falls_151 : decode cX9_falls 151 = .ok (.dup2, 1) := by decide +kernel
theorem dX9_falls_152 : decode cX9_falls 152 = .ok (.iaload, 1) := by decide +kernel
theorem dX9_falls_153 : decode cX9_falls 153 = .ok (.iconst 1, 1) := by decide +kernel
theorem dX9_falls_154 : decode cX9_falls 154 = .ok (.iadd, 1) := by decide +kernel
theorem dX9_falls_155 : decode cX9_falls 155 = .ok (.iastore, 1) := by decide +kernel
theorem dX9_falls_156 : decode cX9_falls 156 = .ok (.aload_n 0, 1) := by decide +kernel
theorem dX9_falls_157 : decode cX9_falls 157 = .ok (.getfield 9, 3) := by decide +kernel
theorem dX9_falls_160 : decode cX9_falls 160 = .ok (.iload 6, 2) := by decide +kernel
theorem dX9_falls_162 : decode cX9_falls 162 = .ok (.iconst 1, 1) := by decide +kernel
theorem dX9_falls_163 : decode cX9_falls 163 = .ok (.invokestatic 62, 3) := by decide +kernel
theorem dX9_falls_166 : decode cX9_falls 166 = .ok (.iaload, 1) := by decide +kernel
theorem dX9_falls_167 : decode cX9_falls 167 = .ok (.istore 10, 2) := by decide +kernel
theorem dX9_falls_169 : decode cX9_falls 169 = .ok (.iload_n 1, 1) := by decide +kernel
theorem dX9_falls_170 : decode cX9_falls 170 = .ok (.iconst 5, 1) := by decide +kernel
theorem dX9_falls_171 : decode cX9_falls 171 = .ok (.if_icmp .eq 45, 3) := by decide +kernel
theorem dX9_falls_174 : decode cX9_falls 174 = .ok (.aload_n 0, 1) := by decide +kernel
theorem dX9_falls_175 : decode cX9_falls 175 = .ok (.getfield 9, 3) := by decide +kernel
theorem dX9_falls_178 : decode cX9_falls 178 = .ok (.iload 6, 2) := by decide +kernel
theorem dX9_falls_180 : decode cX9_falls 180 = .ok (.iload 8, 2) := by decide +kernel
theorem dX9_falls_182 : decode cX9_falls 182 = .ok (.iconst 5, 1) := by decide +kernel
theorem dX9_falls_183 : decode cX9_falls 183 = .ok (.invokestatic 65, 3) := by decide +kernel
theorem dX9_falls_186 : decode cX9_falls 186 = .ok (.aload_n 0, 1) := by decide +kernel
theorem dX9_falls_187 : decode cX9_falls 187 = .ok (.getfield 9, 3) := by decide +kernel
theorem dX9_falls_190 : decode cX9_falls 190 = .ok (.bipush 9, 2) := by decide +kernel
theorem dX9_falls_192 : decode cX9_falls 192 = .ok (.iaload, 1) := by decide +kernel
theorem dX9_falls_193 : decode cX9_falls 193 = .ok (.iastore, 1) := by decide +kernel
theorem dX9_falls_194 : decode cX9_falls 194 = .ok (.aload_n 0, 1) := by decide +kernel
theorem dX9_falls_195 : decode cX9_falls 195 = .ok (.getfield 9, 3) := by decide +kernel
theorem dX9_falls_198 : decode cX9_falls 198 = .ok (.iload 6, 2) := by decide +kernel
theorem dX9_falls_200 : decode cX9_falls 200 = .ok (.aload_n 0, 1) := by decide +kernel
theorem dX9_falls_201 : decode cX9_falls 201 = .ok (.getfield 9, 3) := by decide +kernel
theorem dX9_falls_204 : decode cX9_falls 204 = .ok (.bipush 9, 2) := by decide +kernel
theorem dX9_falls_206 : decode cX9_falls 206 = .ok (.iaload, 1) := by decide +kernel
theorem dX9_falls_207 : decode cX9_falls 207 = .ok (.iconst 2, 1) := by decide +kernel
theorem dX9_falls_208 : decode cX9_falls 208 = .ok (.invokestatic 105, 3) := by decide +kernel
theorem dX9_falls_211 : decode cX9_falls 211 = .ok (.dup2, 1) := by decide +kernel
theorem dX9_falls_212 : decode cX9_falls 212 = .ok (.iaload, 1) := by decide +kernel
theorem dX9_falls_213 : decode cX9_falls 213 = .ok (.iconst 1, 1) := by decide +kernel
theorem dX9_falls_214 : decode cX9_falls 214 = .ok (.iadd, 1) := by decide +kernel
theorem dX9_falls_215 : decode cX9_falls 215 = .ok (.iastore, 1) := by decide +kernel
theorem dX9_falls_216 : decode cX9_falls 216 = .ok (.aload_n 0, 1) := by decide +kernel
theorem dX9_falls_217 : decode cX9_falls 217 = .ok (.iload 8, 2) := by decide +kernel
theorem dX9_falls_219 : decode cX9_falls 219 = .ok (.iload 7, 2) := by decide +kernel
theorem dX9_falls_221 : decode cX9_falls 221 = .ok (.iload_n 1, 1) := by decide +kernel
theorem dX9_falls_222 : decode cX9_falls 222 = .ok (.invokevirtual 158, 3) := by decide +kernel
theorem dX9_falls_225 : decode cX9_falls 225 = .ok (.aload_n 0, 1) := by decide +kernel
theorem dX9_falls_226 : decode cX9_falls 226 = .ok (.invokevirtual 155, 3) := by decide +kernel
theorem dX9_falls_229 : decode cX9_falls 229 = .ok (.aload_n 0, 1) := by decide +kernel
theorem dX9_falls_230 : decode cX9_falls 230 = .ok (.iload 7, 2) := by decide +kernel
theorem dX9_falls_232 : decode cX9_falls 232 = .ok (.ifCond .ge 7, 3) := by decide +kernel
theorem dX9_falls_235 : decode cX9_falls 235 = .ok (.iconst 1, 1) := by decide +kernel
theorem dX9_falls_236 : decode cX9_falls 236 = .ok (.goto 4, 3) := by decide +kernel
theorem dX9_falls_239 : decode cX9_falls 239 = .ok (.iconst 0, 1) := by decide +kernel
theorem dX9_falls_240 : decode cX9_falls 240 = .ok (.iconst 0, 1) := by decide +kernel
theorem dX9_falls_241 : decode cX9_falls 241 = .ok (.invokevirtual 139, 3) := by decide +kernel
theorem dX9_falls_244 : decode cX9_falls 244 = .ok (.iload 10, 2) := by decide +kernel
theorem dX9_falls_246 : decode cX9_falls 246 = .ok (.ireturn, 1) := by decide +kernel
set_option maxRecDepth 20000 in
theorem ggX9_retires_X9_next : GoodIn wsX9_retires wsX9_next := goodIn_ca (goodIn_r _ [6, 1, 7, 8, 9, 5, 10, 11, 12, 13, 46, 47, 48, 49, 50, 51, 52, 53, 54, 55, 56, 57, 58, 59, 60, 61, 62, 63, 64, 65, 66, 67] (by decide +kernel) (by decide +kernel)) (goodIn_sub (fun _ h => List.mem_cons_of_mem _ (List.mem_append_left _ (List.mem_append_right _ h))) (by decide +kernel))
set_option maxRecDepth 20000 in
theorem gX9_retires_X9_next : GoodIn wsX9_retires (wsV RX9 136 RX9 yX9_next wsX9_next) := goodIn_app (goodIn_of _ (by decide +kernel)) ggX9_retires_X9_next
set_option maxRecDepth 20000 in
theorem ggX9_retires_X9_leaves : GoodIn wsX9_retires wsX9_leaves := goodIn_ca (goodIn_r _ [17, 1, 11, 12, 5, 13, 18, 19, 20, 21, 46, 47, 48, 49, 50, 51, 52, 53, 54, 55, 56, 57, 58, 59, 60, 61, 62, 63, 64, 65, 66, 67] (by decide +kernel) (by decide +kernel)) (goodIn_sub (fun _ h => List.mem_cons_of_mem _ (List.mem_append_left _ (List.mem_append_right _ h))) (by decide +kernel))
set_option maxRecDepth 20000 in
theorem gX9_retires_X9_leaves : GoodIn wsX9_retires (wsV RX9 158 RX9 yX9_leaves wsX9_leaves) := goodIn_app (goodIn_of _ (by decide +kernel)) ggX9_retires_X9_leaves
set_option maxRecDepth 20000 in
theorem ggX9_retires_X9_looks : GoodIn wsX9_retires wsX9_looks := goodIn_ca (goodIn_ca (goodIn_r _ [25, 1, 26, 27, 5, 28, 29, 30, 31, 32, 33, 34, 35, 36, 37, 38, 39, 40, 41, 42, 43, 44, 45, 11, 12, 13, 18, 19, 20, 21, 46, 47, 48, 49, 50, 51, 52, 53, 54, 55, 56, 57, 58, 59, 60, 61, 62, 63, 64, 65, 66, 67] (by decide +kernel) (by decide +kernel)) (goodIn_sub (fun _ h => List.mem_cons_of_mem _ (List.mem_append_left _ (List.mem_append_right _ h))) (by decide +kernel))) (goodIn_sub (fun _ h => List.mem_cons_of_mem _ (List.mem_append_right _ h)) (by decide +kernel))
set_option maxRecDepth 20000 in
theorem gX9_retires_X9_looks : GoodIn wsX9_retires (wsV RX9 139 RX9 yX9_looks wsX9_looks) := goodIn_app (goodIn_of _ (by decide +kernel)) ggX9_retires_X9_looks
theorem dX9_retires_0 : decode cX9_retires 0 = .ok (.aload_n 0, 1) := by decide +kernel
theorem dX9_retires_1 : decode cX9_retires 1 = .ok (.invokevirtual 136, 3) := by decide +kernel
theorem dX9_retires_4 : decode cX9_retires 4 = .ok (.istore_n 3, 1) := by decide +kernel
theorem dX9_retires_5 : decode cX9_retires 5 = .ok (.aload_n 0, 1) := by decide +kernel
theorem dX9_retires_6 : decode cX9_retires 6 = .ok (.iload_n 1, 1) := by decide +kernel
theorem dX9_retires_7 : decode cX9_retires 7 = .ok (.ifCond .eq 13, 3) := by decide +kernel
theorem dX9_retires_10 : decode cX9_retires 10 = .ok (.aload_n 0, 1) := by decide +kernel
theorem dX9_retires_11 : decode cX9_retires 11 = .ok (.getfield 9, 3) := by decide +kernel
theorem dX9_retires_14 : decode cX9_retires 14 = .ok (.bipush 7, 2) := by decide +kernel
theorem dX9_retires_16 : decode cX9_retires 16 = .ok (.iaload, 1) := by decide +kernel
theorem dX9_retires_17 : decode cX9_retires 17 = .ok (.goto 10, 3) := by decide +kernel
theorem dX9_retires_20 : decode cX9_retires 20 = .ok (.aload_n 0, 1) := by decide +kernel
theorem dX9_retires_21 : decode cX9_retires 21 = .ok (.getfield 9, 3) := by decide +kernel
theorem dX9_retires_24 : decode cX9_retires 24 = .ok (.bipush 6, 2) := by decide +kernel
theorem dX9_retires_26 : decode cX9_retires 26 = .ok (.iaload, 1) := by decide +kernel
theorem dX9_retires_27 : decode cX9_retires 27 = .ok (.iload_n 3, 1) := by decide +kernel
theorem dX9_retires_28 : decode cX9_retires 28 = .ok (.iload_n 2, 1) := by decide +kernel
theorem dX9_retires_29 : decode cX9_retires 29 = .ok (.ifCond .eq 8, 3) := by decide +kernel
theorem dX9_retires_32 : decode cX9_retires 32 = .ok (.bipush 6, 2) := by decide +kernel
theorem dX9_retires_34 : decode cX9_retires 34 = .ok (.goto 5, 3) := by decide +kernel
theorem dX9_retires_37 : decode cX9_retires 37 = .ok (.bipush 7, 2) := by decide +kernel
theorem dX9_retires_39 : decode cX9_retires 39 = .ok (.invokevirtual 158, 3) := by decide +kernel
theorem dX9_retires_42 : decode cX9_retires 42 = .ok (.aload_n 0, 1) := by decide +kernel
theorem dX9_retires_43 : decode cX9_retires 43 = .ok (.iload_n 3, 1) := by decide +kernel
theorem dX9_retires_44 : decode cX9_retires 44 = .ok (.ifCond .ge 7, 3) := by decide +kernel
theorem dX9_retires_47 : decode cX9_retires 47 = .ok (.iconst 1, 1) := by decide +kernel
theorem dX9_retires_48 : decode cX9_retires 48 = .ok (.goto 4, 3) := by decide +kernel
theorem dX9_retires_51 : decode cX9_retires 51 = .ok (.iconst 0, 1) := by decide +kernel
theorem dX9_retires_52 : decode cX9_retires 52 = .ok (.iconst 0, 1) := by decide +kernel
theorem dX9_retires_53 : decode cX9_retires 53 = .ok (.invokevirtual 139, 3) := by decide +kernel
theorem dX9_retires_56 : decode cX9_retires 56 = .ok (.iload_n 3, 1) := by decide +kernel
theorem dX9_retires_57 : decode cX9_retires 57 = .ok (.ireturn, 1) := by decide +kernel
set_option maxRecDepth 20000 in
theorem ggX9_loses_X9_at : GoodIn wsX9_loses wsX9_at := goodIn_r _ [5] (by decide +kernel) (by decide +kernel)
set_option maxRecDepth 20000 in
theorem gX9_loses_X9_at : GoodIn wsX9_loses (va_wsS RX9 62 yX9_at wsX9_at) := goodIn_app (goodIn_of _ (by decide +kernel)) ggX9_loses_X9_at
set_option maxRecDepth 20000 in
theorem ggX9_loses_X9_worth : GoodIn wsX9_loses wsX9_worth := goodIn_r _ [8] (by decide +kernel) (by decide +kernel)
set_option maxRecDepth 20000 in
theorem gX9_loses_X9_worth : GoodIn wsX9_loses (va_wsS RX9 58 yX9_worth wsX9_worth) := goodIn_app (goodIn_of _ (by decide +kernel)) ggX9_loses_X9_worth
set_option maxRecDepth 20000 in
theorem ggX9_loses_X9_looks : GoodIn wsX9_loses wsX9_looks := goodIn_ca (goodIn_ca (goodIn_r _ [12, 1, 2, 3, 4, 5, 13, 14, 15, 16, 17, 18, 19, 20, 21, 22, 23, 24, 25, 26, 6, 7, 8, 27, 28, 29, 30, 31, 32, 33, 34, 35, 36, 37, 38, 39, 40, 41, 42, 43, 44, 45, 46, 47, 48, 49, 50, 51, 52, 53, 54, 55] (by decide +kernel) (by decide +kernel)) (goodIn_sub (fun _ h => List.mem_cons_of_mem _ (List.mem_append_left _ (List.mem_append_right _ h))) (by decide +kernel))) (goodIn_sub (fun _ h => List.mem_cons_of_mem _ (List.mem_append_right _ h)) (by decide +kernel))
set_option maxRecDepth 20000 in
theorem gX9_loses_X9_looks : GoodIn wsX9_loses (wsV RX9 139 RX9 yX9_looks wsX9_looks) := goodIn_app (goodIn_of _ (by decide +kernel)) ggX9_loses_X9_looks
theorem dX9_loses_0 : decode cX9_loses 0 = .ok (.aload_n 0, 1) := by decide +kernel
theorem dX9_loses_1 : decode cX9_loses 1 = .ok (.getfield 9, 3) := by decide +kernel
theorem dX9_loses_4 : decode cX9_loses 4 = .ok (.iconst 4, 1) := by decide +kernel
theorem dX9_loses_5 : decode cX9_loses 5 = .ok (.iaload, 1) := by decide +kernel
theorem dX9_loses_6 : decode cX9_loses 6 = .ok (.istore_n 2, 1) := by decide +kernel
theorem dX9_loses_7 : decode cX9_loses 7 = .ok (.bipush 6, 2) := by decide +kernel
theorem dX9_loses_9 : decode cX9_loses 9 = .ok (.aload_n 0, 1) := by decide +kernel
theorem dX9_loses_10 : decode cX9_loses 10 = .ok (.getfield 9, 3) := by decide +kernel
theorem dX9_loses_13 : decode cX9_loses 13 = .ok (.bipush 13, 2) := by decide +kernel
theorem dX9_loses_15 : decode cX9_loses 15 = .ok (.iaload, 1) := by decide +kernel
theorem dX9_loses_16 : decode cX9_loses 16 = .ok (.imul, 1) := by decide +kernel
theorem dX9_loses_17 : decode cX9_loses 17 = .ok (.aload_n 0, 1) := by decide +kernel
theorem dX9_loses_18 : decode cX9_loses 18 = .ok (.getfield 9, 3) := by decide +kernel
theorem dX9_loses_21 : decode cX9_loses 21 = .ok (.iload_n 2, 1) := by decide +kernel
theorem dX9_loses_22 : decode cX9_loses 22 = .ok (.iconst 2, 1) := by decide +kernel
theorem dX9_loses_23 : decode cX9_loses 23 = .ok (.invokestatic 62, 3) := by decide +kernel
theorem dX9_loses_26 : decode cX9_loses 26 = .ok (.iaload, 1) := by decide +kernel
theorem dX9_loses_27 : decode cX9_loses 27 = .ok (.isub, 1) := by decide +kernel
theorem dX9_loses_28 : decode cX9_loses 28 = .ok (.istore_n 3, 1) := by decide +kernel
theorem dX9_loses_29 : decode cX9_loses 29 = .ok (.iload_n 3, 1) := by decide +kernel
theorem dX9_loses_30 : decode cX9_loses 30 = .ok (.aload_n 0, 1) := by decide +kernel
theorem dX9_loses_31 : decode cX9_loses 31 = .ok (.getfield 9, 3) := by decide +kernel
theorem dX9_loses_34 : decode cX9_loses 34 = .ok (.iload_n 2, 1) := by decide +kernel
theorem dX9_loses_35 : decode cX9_loses 35 = .ok (.iconst 1, 1) := by decide +kernel
theorem dX9_loses_36 : decode cX9_loses 36 = .ok (.invokestatic 62, 3) := by decide +kernel
theorem dX9_loses_39 : decode cX9_loses 39 = .ok (.iaload, 1) := by decide +kernel
theorem dX9_loses_40 : decode cX9_loses 40 = .ok (.invokestatic 58, 3) := by decide +kernel
theorem dX9_loses_43 : decode cX9_loses 43 = .ok (.istore 4, 2) := by decide +kernel
theorem dX9_loses_45 : decode cX9_loses 45 = .ok (.aload_n 0, 1) := by decide +kernel
theorem dX9_loses_46 : decode cX9_loses 46 = .ok (.getfield 9, 3) := by decide +kernel
theorem dX9_loses_49 : decode cX9_loses 49 = .ok (.bipush 13, 2) := by decide +kernel
theorem dX9_loses_51 : decode cX9_loses 51 = .ok (.dup2, 1) := by decide +kernel
theorem dX9_loses_52 : decode cX9_loses 52 = .ok (.iaload, 1) := by decide +kernel
theorem dX9_loses_53 : decode cX9_loses 53 = .ok (.iload_n 1, 1) := by decide +kernel
theorem dX9_loses_54 : decode cX9_loses 54 = .ok (.isub, 1) := by decide +kernel
theorem dX9_loses_55 : decode cX9_loses 55 = .ok (.iastore, 1) := by decide +kernel
theorem dX9_loses_56 : decode cX9_loses 56 = .ok (.aload_n 0, 1) := by decide +kernel
theorem dX9_loses_57 : decode cX9_loses 57 = .ok (.getfield 9, 3) := by decide +kernel
theorem dX9_loses_60 : decode cX9_loses 60 = .ok (.bipush 14, 2) := by decide +kernel
theorem dX9_loses_62 : decode cX9_loses 62 = .ok (.iload_n 2, 1) := by decide +kernel
theorem dX9_loses_63 : decode cX9_loses 63 = .ok (.iadd, 1) := by decide +kernel
theorem dX9_loses_64 : decode cX9_loses 64 = .ok (.dup2, 1) := by decide +kernel
theorem dX9_loses_65 : decode cX9_loses 65 = .ok (.iaload, 1) := by decide +kernel
theorem dX9_loses_66 : decode cX9_loses 66 = .ok (.iload 4, 2) := by decide +kernel
theorem dX9_loses_68 : decode cX9_loses 68 = .ok (.iload_n 3, 1) := by decide +kernel
theorem dX9_loses_69 : decode cX9_loses 69 = .ok (.bipush 6, 2) := by decide +kernel
theorem dX9_loses_71 : decode cX9_loses 71 = .ok (.iload_n 1, 1) := by decide +kernel
theorem dX9_loses_72 : decode cX9_loses 72 = .ok (.imul, 1) := by decide +kernel
theorem dX9_loses_73 : decode cX9_loses 73 = .ok (.isub, 1) := by decide +kernel
theorem dX9_loses_74 : decode cX9_loses 74 = .ok (.aload_n 0, 1) := by decide +kernel
theorem dX9_loses_75 : decode cX9_loses 75 = .ok (.getfield 9, 3) := by decide +kernel
theorem dX9_loses_78 : decode cX9_loses 78 = .ok (.iload_n 2, 1) := by decide +kernel
theorem dX9_loses_79 : decode cX9_loses 79 = .ok (.iconst 1, 1) := by decide +kernel
theorem dX9_loses_80 : decode cX9_loses 80 = .ok (.invokestatic 62, 3) := by decide +kernel
theorem dX9_loses_83 : decode cX9_loses 83 = .ok (.iaload, 1) := by decide +kernel
theorem dX9_loses_84 : decode cX9_loses 84 = .ok (.invokestatic 58, 3) := by decide +kernel
theorem dX9_loses_87 : decode cX9_loses 87 = .ok (.isub, 1) := by decide +kernel
theorem dX9_loses_88 : decode cX9_loses 88 = .ok (.isub, 1) := by decide +kernel
theorem dX9_loses_89 : decode cX9_loses 89 = .ok (.iastore, 1) := by decide +kernel
theorem dX9_loses_90 : decode cX9_loses 90 = .ok (.aload_n 0, 1) := by decide +kernel
theorem dX9_loses_91 : decode cX9_loses 91 = .ok (.getfield 9, 3) := by decide +kernel
theorem dX9_loses_94 : decode cX9_loses 94 = .ok (.bipush 13, 2) := by decide +kernel
theorem dX9_loses_96 : decode cX9_loses 96 = .ok (.iaload, 1) := by decide +kernel
theorem dX9_loses_97 : decode cX9_loses 97 = .ok (.istore 5, 2) := by decide +kernel
theorem dX9_loses_99 : decode cX9_loses 99 = .ok (.aload_n 0, 1) := by decide +kernel
theorem dX9_loses_100 : decode cX9_loses 100 = .ok (.iconst 0, 1) := by decide +kernel
theorem dX9_loses_101 : decode cX9_loses 101 = .ok (.iconst 0, 1) := by decide +kernel
theorem dX9_loses_102 : decode cX9_loses 102 = .ok (.invokevirtual 139, 3) := by decide +kernel
theorem dX9_loses_105 : decode cX9_loses 105 = .ok (.iload 5, 2) := by decide +kernel
theorem dX9_loses_107 : decode cX9_loses 107 = .ok (.ireturn, 1) := by decide +kernel
theorem dX9_keeps_0 : decode cX9_keeps 0 = .ok (.aload_n 0, 1) := by decide +kernel
theorem dX9_keeps_1 : decode cX9_keeps 1 = .ok (.getfield 84, 3) := by decide +kernel
theorem dX9_keeps_4 : decode cX9_keeps 4 = .ok (.bipush 8, 2) := by decide +kernel
theorem dX9_keeps_6 : decode cX9_keeps 6 = .ok (.if_icmp .ne 43, 3) := by decide +kernel
theorem dX9_keeps_9 : decode cX9_keeps 9 = .ok (.iconst 0, 1) := by decide +kernel
theorem dX9_keeps_10 : decode cX9_keeps 10 = .ok (.istore_n 2, 1) := by decide +kernel
theorem dX9_keeps_11 : decode cX9_keeps 11 = .ok (.iload_n 2, 1) := by decide +kernel
theorem dX9_keeps_12 : decode cX9_keeps 12 = .ok (.ldc 161, 2) := by decide +kernel
theorem dX9_keeps_14 : decode cX9_keeps 14 = .ok (.if_icmp .ge 25, 3) := by decide +kernel
theorem dX9_keeps_17 : decode cX9_keeps 17 = .ok (.aload_n 0, 1) := by decide +kernel
theorem dX9_keeps_18 : decode cX9_keeps 18 = .ok (.getfield 20, 3) := by decide +kernel
theorem dX9_keeps_21 : decode cX9_keeps 21 = .ok (.iload_n 2, 1) := by decide +kernel
theorem dX9_keeps_22 : decode cX9_keeps 22 = .ok (.aload_n 0, 1) := by decide +kernel
theorem dX9_keeps_23 : decode cX9_keeps 23 = .ok (.getfield 20, 3) := by decide +kernel
theorem dX9_keeps_26 : decode cX9_keeps 26 = .ok (.iload_n 2, 1) := by decide +kernel
theorem dX9_keeps_27 : decode cX9_keeps 27 = .ok (.sipush 6441, 3) := by decide +kernel
theorem dX9_keeps_30 : decode cX9_keeps 30 = .ok (.iadd, 1) := by decide +kernel
theorem dX9_keeps_31 : decode cX9_keeps 31 = .ok (.iaload, 1) := by decide +kernel
theorem dX9_keeps_32 : decode cX9_keeps 32 = .ok (.iastore, 1) := by decide +kernel
theorem dX9_keeps_33 : decode cX9_keeps 33 = .ok (.iinc 2 1, 3) := by decide +kernel
theorem dX9_keeps_36 : decode cX9_keeps 36 = .ok (.goto (-25), 3) := by decide +kernel
theorem dX9_keeps_39 : decode cX9_keeps 39 = .ok (.aload_n 0, 1) := by decide +kernel
theorem dX9_keeps_40 : decode cX9_keeps 40 = .ok (.dup, 1) := by decide +kernel
theorem dX9_keeps_41 : decode cX9_keeps 41 = .ok (.getfield 84, 3) := by decide +kernel
theorem dX9_keeps_44 : decode cX9_keeps 44 = .ok (.iconst 1, 1) := by decide +kernel
theorem dX9_keeps_45 : decode cX9_keeps 45 = .ok (.isub, 1) := by decide +kernel
theorem dX9_keeps_46 : decode cX9_keeps 46 = .ok (.putfield 84, 3) := by decide +kernel
theorem dX9_keeps_49 : decode cX9_keeps 49 = .ok (.iconst 0, 1) := by decide +kernel
theorem dX9_keeps_50 : decode cX9_keeps 50 = .ok (.istore_n 2, 1) := by decide +kernel
theorem dX9_keeps_51 : decode cX9_keeps 51 = .ok (.iload_n 2, 1) := by decide +kernel
theorem dX9_keeps_52 : decode cX9_keeps 52 = .ok (.sipush 6441, 3) := by decide +kernel
theorem dX9_keeps_55 : decode cX9_keeps 55 = .ok (.if_icmp .ge 27, 3) := by decide +kernel
theorem dX9_keeps_58 : decode cX9_keeps 58 = .ok (.aload_n 0, 1) := by decide +kernel
theorem dX9_keeps_59 : decode cX9_keeps 59 = .ok (.getfield 20, 3) := by decide +kernel
theorem dX9_keeps_62 : decode cX9_keeps 62 = .ok (.aload_n 0, 1) := by decide +kernel
theorem dX9_keeps_63 : decode cX9_keeps 63 = .ok (.getfield 84, 3) := by decide +kernel
theorem dX9_keeps_66 : decode cX9_keeps 66 = .ok (.sipush 6441, 3) := by decide +kernel
theorem dX9_keeps_69 : decode cX9_keeps 69 = .ok (.imul, 1) := by decide +kernel
theorem dX9_keeps_70 : decode cX9_keeps 70 = .ok (.iload_n 2, 1) := by decide +kernel
theorem dX9_keeps_71 : decode cX9_keeps 71 = .ok (.iadd, 1) := by decide +kernel
theorem dX9_keeps_72 : decode cX9_keeps 72 = .ok (.aload_n 1, 1) := by decide +kernel
theorem dX9_keeps_73 : decode cX9_keeps 73 = .ok (.iload_n 2, 1) := by decide +kernel
theorem dX9_keeps_74 : decode cX9_keeps 74 = .ok (.iaload, 1) := by decide +kernel
theorem dX9_keeps_75 : decode cX9_keeps 75 = .ok (.iastore, 1) := by decide +kernel
theorem dX9_keeps_76 : decode cX9_keeps 76 = .ok (.iinc 2 1, 3) := by decide +kernel
theorem dX9_keeps_79 : decode cX9_keeps 79 = .ok (.goto (-28), 3) := by decide +kernel
theorem dX9_keeps_82 : decode cX9_keeps 82 = .ok (.aload_n 0, 1) := by decide +kernel
theorem dX9_keeps_83 : decode cX9_keeps 83 = .ok (.dup, 1) := by decide +kernel
theorem dX9_keeps_84 : decode cX9_keeps 84 = .ok (.getfield 84, 3) := by decide +kernel
theorem dX9_keeps_87 : decode cX9_keeps 87 = .ok (.iconst 1, 1) := by decide +kernel
theorem dX9_keeps_88 : decode cX9_keeps 88 = .ok (.iadd, 1) := by decide +kernel
theorem dX9_keeps_89 : decode cX9_keeps 89 = .ok (.putfield 84, 3) := by decide +kernel
theorem dX9_keeps_92 : decode cX9_keeps 92 = .ok (.return_, 1) := by decide +kernel
set_option maxRecDepth 20000 in
theorem ggX9_commands_X9_refuses : GoodIn wsX9_commands wsX9_refuses := goodIn_ca (goodIn_r _ [7, 2, 8, 9, 10, 6, 11, 12, 13, 14, 15, 16, 17, 18, 19, 20, 21, 22, 23, 24, 25, 26, 27, 28, 29, 30, 31, 32, 33, 34, 35, 36, 37, 38, 39, 40, 41, 42, 43, 126, 127, 128, 129, 130, 131, 132, 133, 134, 135, 136, 137, 138, 139, 140, 141, 142, 143, 144, 145, 146, 147] (by decide +kernel) (by decide +kernel)) (goodIn_sub (fun _ h => List.mem_cons_of_mem _ (List.mem_append_left _ (List.mem_append_right _ h))) (by decide +kernel))
set_option maxRecDepth 20000 in
theorem gX9_commands_X9_refuses : GoodIn wsX9_commands (wsV RX9 162 RX9 yX9_refuses wsX9_refuses) := goodIn_app (goodIn_of _ (by decide +kernel)) ggX9_commands_X9_refuses
set_option maxRecDepth 20000 in
theorem ggX9_commands_X9_no : GoodIn wsX9_commands wsX9_no := goodIn_r _ [47, 48, 126, 127, 128, 129, 130, 131, 132, 133, 134, 135, 136, 137, 138, 139, 140, 141, 142, 143, 144, 145, 146, 147] (by decide +kernel) (by decide +kernel)
set_option maxRecDepth 20000 in
theorem gX9_commands_X9_no : GoodIn wsX9_commands (wsV RX9 169 RX9 yX9_no wsX9_no) := goodIn_app (goodIn_of _ (by decide +kernel)) ggX9_commands_X9_no
set_option maxRecDepth 20000 in
theorem ggX9_commands_X9_keeps : GoodIn wsX9_commands wsX9_keeps := goodIn_ca (goodIn_r _ [52, 53, 54, 55, 126, 127, 128, 129, 130, 131, 132, 133, 134, 135, 136, 137, 138, 139, 140, 141, 142, 143, 144, 145, 146, 147] (by decide +kernel) (by decide +kernel)) (goodIn_sub (fun _ h => List.mem_cons_of_mem _ (List.mem_append_left _ (List.mem_append_right _ h))) (by decide +kernel))
set_option maxRecDepth 20000 in
theorem gX9_commands_X9_keeps : GoodIn wsX9_commands (wsV RX9 172 RX9 yX9_keeps wsX9_keeps) := goodIn_app (goodIn_of _ (by decide +kernel)) ggX9_commands_X9_keeps
set_option maxRecDepth 20000 in
theorem ggX9_commands_X9_does : GoodIn wsX9_commands wsX9_does := goodIn_ca (goodIn_ca (goodIn_r _ [59, 2, 60, 16, 17, 6, 18, 61, 62, 63, 64, 65, 66, 67, 68, 41, 42, 43, 34, 35, 36, 69, 70, 71, 72, 73, 74, 75, 76, 77, 78, 79, 80, 81, 82, 83, 84, 85, 86, 87, 88, 89, 90, 91, 92, 93, 94, 95, 96, 97, 98, 99, 100, 101, 102, 103, 104, 105, 106, 107, 108, 109, 110, 111, 112, 113, 114, 115, 116, 117, 118, 119, 120, 121, 122, 123, 124, 125, 126, 127, 128, 129, 130, 131, 132, 133, 134, 135, 136, 137, 138, 139, 140, 141, 142, 143, 144, 145, 146, 147] (by decide +kernel) (by decide +kernel)) (goodIn_sub (fun _ h => List.mem_cons_of_mem _ (List.mem_append_left _ (List.mem_append_right _ h))) (by decide +kernel))) (goodIn_sub (fun _ h => List.mem_cons_of_mem _ (List.mem_append_right _ h)) (by decide +kernel))
set_option maxRecDepth 20000 in
theorem gX9_commands_X9_does : GoodIn wsX9_commands (wsV RX9 176 RX9 yX9_does wsX9_does) := goodIn_app (goodIn_of _ (by decide +kernel)) ggX9_commands_X9_does
theorem dX9_commands_0 : decode cX9_commands 0 = .ok (.aload_n 0, 1) := by decide +kernel
theorem dX9_commands_1 : decode cX9_commands 1 = .ok (.iload_n 2, 1) := by decide +kernel
theorem dX9_commands_2 : decode cX9_commands 2 = .ok (.iload_n 3, 1) := by decide +kernel
theorem dX9_commands_3 : decode cX9_commands 3 = .ok (.iload 4, 2) := by decide +kernel
theorem dX9_commands_5 : decode cX9_commands 5 = .ok (.iload 5, 2) := by decide +kernel
theorem dX9_commands_7 : decode cX9_commands 7 = .ok (.iload 6, 2) := by decide +kernel
theorem dX9_commands_9 : decode cX9_commands 9 = .ok (.iload 7, 2) := by decide +kernel
theorem dX9_commands_11 : decode cX9_commands 11 = .ok (.invokevirtual 162, 3) := by decide +kernel
theorem dX9_commands_14 : decode cX9_commands 14 = .ok (.istore 8, 2) := by decide +kernel
theorem dX9_commands_16 : decode cX9_commands 16 = .ok (.iload 8, 2) := by decide +kernel
theorem dX9_commands_18 : decode cX9_commands 18 = .ok (.ifCond .le 15, 3) := by decide +kernel
theorem dX9_commands_21 : decode cX9_commands 21 = .ok (.aload_n 0, 1) := by decide +kernel
theorem dX9_commands_22 : decode cX9_commands 22 = .ok (.iload 8, 2) := by decide +kernel
theorem dX9_commands_24 : decode cX9_commands 24 = .ok (.putfield 166, 3) := by decide +kernel
theorem dX9_commands_27 : decode cX9_commands 27 = .ok (.aload_n 0, 1) := by decide +kernel
theorem dX9_commands_28 : decode cX9_commands 28 = .ok (.iload_n 1, 1) := by decide +kernel
theorem dX9_commands_29 : decode cX9_commands 29 = .ok (.invokevirtual 169, 3) := by decide +kernel
theorem dX9_commands_32 : decode cX9_commands 32 = .ok (.ireturn, 1) := by decide +kernel
theorem dX9_commands_33 : decode cX9_commands 33 = .ok (.aload_n 0, 1) := by decide +kernel
theorem dX9_commands_34 : decode cX9_commands 34 = .ok (.aload_n 0, 1) := by decide +kernel
theorem dX9_commands_35 : decode cX9_commands 35 = .ok (.getfield 9, 3) := by decide +kernel
theorem dX9_commands_38 : decode cX9_commands 38 = .ok (.invokevirtual 172, 3) := by decide +kernel
theorem dX9_commands_41 : decode cX9_commands 41 = .ok (.aload_n 0, 1) := by decide +kernel
theorem dX9_commands_42 : decode cX9_commands 42 = .ok (.iload_n 2, 1) := by decide +kernel
theorem dX9_commands_43 : decode cX9_commands 43 = .ok (.iload_n 3, 1) := by decide +kernel
theorem dX9_commands_44 : decode cX9_commands 44 = .ok (.iload 4, 2) := by decide +kernel
theorem dX9_commands_46 : decode cX9_commands 46 = .ok (.iload 5, 2) := by decide +kernel
theorem dX9_commands_48 : decode cX9_commands 48 = .ok (.iload 6, 2) := by decide +kernel
theorem dX9_commands_50 : decode cX9_commands 50 = .ok (.iload 7, 2) := by decide +kernel
theorem dX9_commands_52 : decode cX9_commands 52 = .ok (.invokevirtual 176, 3) := by decide +kernel
theorem dX9_commands_55 : decode cX9_commands 55 = .ok (.istore 9, 2) := by decide +kernel
theorem dX9_commands_57 : decode cX9_commands 57 = .ok (.aload_n 0, 1) := by decide +kernel
theorem dX9_commands_58 : decode cX9_commands 58 = .ok (.getfield 9, 3) := by decide +kernel
theorem dX9_commands_61 : decode cX9_commands 61 = .ok (.bipush 24, 2) := by decide +kernel
theorem dX9_commands_63 : decode cX9_commands 63 = .ok (.dup2, 1) := by decide +kernel
theorem dX9_commands_64 : decode cX9_commands 64 = .ok (.iaload, 1) := by decide +kernel
theorem dX9_commands_65 : decode cX9_commands 65 = .ok (.iconst 1, 1) := by decide +kernel
theorem dX9_commands_66 : decode cX9_commands 66 = .ok (.iadd, 1) := by decide +kernel
theorem dX9_commands_67 : decode cX9_commands 67 = .ok (.iastore, 1) := by decide +kernel
theorem dX9_commands_68 : decode cX9_commands 68 = .ok (.iload 9, 2) := by decide +kernel
theorem dX9_commands_70 : decode cX9_commands 70 = .ok (.ireturn, 1) := by decide +kernel
theorem dX9_bit_0 : decode cX9_bit 0 = .ok (.iload_n 0, 1) := by decide +kernel
theorem dX9_bit_1 : decode cX9_bit 1 = .ok (.ifCond .eq 7, 3) := by decide +kernel
theorem dX9_bit_4 : decode cX9_bit 4 = .ok (.iconst 1, 1) := by decide +kernel
theorem dX9_bit_5 : decode cX9_bit 5 = .ok (.goto 4, 3) := by decide +kernel
theorem dX9_bit_8 : decode cX9_bit 8 = .ok (.iconst 0, 1) := by decide +kernel
theorem dX9_bit_9 : decode cX9_bit 9 = .ok (.ireturn, 1) := by decide +kernel
set_option maxRecDepth 20000 in
theorem ggX9_bowl_X9_isIn : GoodIn wsX9_bowl wsX9_isIn := goodIn_r _ [5] (by decide +kernel) (by decide +kernel)
set_option maxRecDepth 20000 in
theorem gX9_bowl_X9_isIn : GoodIn wsX9_bowl (va_wsS RX9 76 yX9_isIn wsX9_isIn) := goodIn_app (goodIn_of _ (by decide +kernel)) ggX9_bowl_X9_isIn
set_option maxRecDepth 20000 in
theorem ggX9_bowl_X9_commands : GoodIn wsX9_bowl wsX9_commands := goodIn_ca (goodIn_ca (goodIn_r _ [9, 10, 11, 12, 13, 14, 4, 15, 16, 17, 18, 19, 20, 21, 22, 23, 24, 25, 26, 27, 28, 29, 30, 31, 32, 33, 34, 35, 36, 37, 38, 39, 40, 41, 42, 43, 44, 45, 46, 47, 48, 49, 50, 51, 52, 53, 54, 55, 1, 56, 57, 58, 59, 60, 61, 62, 63, 64, 65, 66, 67, 68, 69, 70, 71, 72, 73, 74, 75, 76, 77, 78, 79, 80, 81, 82, 83, 84, 85, 86, 87, 88, 89, 90, 91, 92, 93, 94, 95, 96, 97, 98, 99, 100, 101, 102, 103, 104, 105, 106, 107, 108, 109, 110, 111, 112, 113, 114, 115, 116, 117, 118, 119, 120, 121, 122, 123, 124, 125, 126, 127, 128, 129, 130, 131, 132, 133, 134, 135, 136, 137, 138, 139, 140, 141, 142, 143, 144, 145, 146, 147, 148, 149, 150, 151, 152, 153, 154] (by decide +kernel) (by decide +kernel)) (goodIn_sub (fun _ h => List.mem_cons_of_mem _ (List.mem_append_left _ (List.mem_append_right _ h))) (by decide +kernel))) (goodIn_sub (fun _ h => List.mem_cons_of_mem _ (List.mem_append_right _ h)) (by decide +kernel))
set_option maxRecDepth 20000 in
theorem gX9_bowl_X9_commands : GoodIn wsX9_bowl (wsV RX9 179 RX9 yX9_commands wsX9_commands) := goodIn_app (goodIn_of _ (by decide +kernel)) ggX9_bowl_X9_commands
theorem dX9_bowl_0 : decode cX9_bowl 0 = .ok (.aload_n 0, 1) := by decide +kernel
theorem dX9_bowl_1 : decode cX9_bowl 1 = .ok (.iload_n 1, 1) := by decide +kernel
theorem dX9_bowl_2 : decode cX9_bowl 2 = .ok (.iconst 0, 1) := by decide +kernel
theorem dX9_bowl_3 : decode cX9_bowl 3 = .ok (.bipush 10, 2) := by decide +kernel
theorem dX9_bowl_5 : decode cX9_bowl 5 = .ok (.invokestatic 76, 3) := by decide +kernel
theorem dX9_bowl_8 : decode cX9_bowl 8 = .ok (.ifCond .eq 7, 3) := by decide +kernel
theorem dX9_bowl_11 : decode cX9_bowl 11 = .ok (.iconst 0, 1) := by decide +kernel
theorem dX9_bowl_12 : decode cX9_bowl 12 = .ok (.goto 4, 3) := by decide +kernel
theorem dX9_bowl_15 : decode cX9_bowl 15 = .ok (.iconst 1, 1) := by decide +kernel
theorem dX9_bowl_16 : decode cX9_bowl 16 = .ok (.putfield 55, 3) := by decide +kernel
theorem dX9_bowl_19 : decode cX9_bowl 19 = .ok (.aload_n 0, 1) := by decide +kernel
theorem dX9_bowl_20 : decode cX9_bowl 20 = .ok (.getfield 55, 3) := by decide +kernel
theorem dX9_bowl_23 : decode cX9_bowl 23 = .ok (.iconst 1, 1) := by decide +kernel
theorem dX9_bowl_24 : decode cX9_bowl 24 = .ok (.if_icmp .ne 7, 3) := by decide +kernel
theorem dX9_bowl_27 : decode cX9_bowl 27 = .ok (.iconst 0, 1) := by decide +kernel
theorem dX9_bowl_28 : decode cX9_bowl 28 = .ok (.goto 14, 3) := by decide +kernel
theorem dX9_bowl_31 : decode cX9_bowl 31 = .ok (.aload_n 0, 1) := by decide +kernel
theorem dX9_bowl_32 : decode cX9_bowl 32 = .ok (.iconst 2, 1) := by decide +kernel
theorem dX9_bowl_33 : decode cX9_bowl 33 = .ok (.iconst 0, 1) := by decide +kernel
theorem dX9_bowl_34 : decode cX9_bowl 34 = .ok (.iload_n 1, 1) := by decide +kernel
theorem dX9_bowl_35 : decode cX9_bowl 35 = .ok (.iconst 0, 1) := by decide +kernel
theorem dX9_bowl_36 : decode cX9_bowl 36 = .ok (.iconst 0, 1) := by decide +kernel
theorem dX9_bowl_37 : decode cX9_bowl 37 = .ok (.iconst 0, 1) := by decide +kernel
theorem dX9_bowl_38 : decode cX9_bowl 38 = .ok (.iconst 0, 1) := by decide +kernel
theorem dX9_bowl_39 : decode cX9_bowl 39 = .ok (.invokevirtual 179, 3) := by decide +kernel
theorem dX9_bowl_42 : decode cX9_bowl 42 = .ok (.ireturn, 1) := by decide +kernel
set_option maxRecDepth 20000 in
theorem ggX9_isBall_X9_isIn : GoodIn wsX9_isBall wsX9_isIn := goodIn_r _ [4] (by decide +kernel) (by decide +kernel)
set_option maxRecDepth 20000 in
theorem gX9_isBall_X9_isIn : GoodIn wsX9_isBall (va_wsS RX9 76 yX9_isIn wsX9_isIn) := goodIn_app (goodIn_of _ (by decide +kernel)) ggX9_isBall_X9_isIn
theorem dX9_isBall_0 : decode cX9_isBall 0 = .ok (.iload_n 0, 1) := by decide +kernel
theorem dX9_isBall_1 : decode cX9_isBall 1 = .ok (.ifCond .eq 8, 3) := by decide +kernel
theorem dX9_isBall_4 : decode cX9_isBall 4 = .ok (.iload_n 0, 1) := by decide +kernel
theorem dX9_isBall_5 : decode cX9_isBall 5 = .ok (.iconst 2, 1) := by decide +kernel
theorem dX9_isBall_6 : decode cX9_isBall 6 = .ok (.if_icmp .ne 13, 3) := by decide +kernel
theorem dX9_isBall_9 : decode cX9_isBall 9 = .ok (.iload_n 1, 1) := by decide +kernel
theorem dX9_isBall_10 : decode cX9_isBall 10 = .ok (.iconst 0, 1) := by decide +kernel
theorem dX9_isBall_11 : decode cX9_isBall 11 = .ok (.bipush 6, 2) := by decide +kernel
theorem dX9_isBall_13 : decode cX9_isBall 13 = .ok (.invokestatic 76, 3) := by decide +kernel
theorem dX9_isBall_16 : decode cX9_isBall 16 = .ok (.goto 40, 3) := by decide +kernel
theorem dX9_isBall_19 : decode cX9_isBall 19 = .ok (.iload_n 0, 1) := by decide +kernel
theorem dX9_isBall_20 : decode cX9_isBall 20 = .ok (.iconst 1, 1) := by decide +kernel
theorem dX9_isBall_21 : decode cX9_isBall 21 = .ok (.if_icmp .ne 12, 3) := by decide +kernel
theorem dX9_isBall_24 : decode cX9_isBall 24 = .ok (.iload_n 1, 1) := by decide +kernel
theorem dX9_isBall_25 : decode cX9_isBall 25 = .ok (.iconst 0, 1) := by decide +kernel
theorem dX9_isBall_26 : decode cX9_isBall 26 = .ok (.iconst 4, 1) := by decide +kernel
theorem dX9_isBall_27 : decode cX9_isBall 27 = .ok (.invokestatic 76, 3) := by decide +kernel
theorem dX9_isBall_30 : decode cX9_isBall 30 = .ok (.goto 26, 3) := by decide +kernel
theorem dX9_isBall_33 : decode cX9_isBall 33 = .ok (.iload_n 0, 1) := by decide +kernel
theorem dX9_isBall_34 : decode cX9_isBall 34 = .ok (.iconst 3, 1) := by decide +kernel
theorem dX9_isBall_35 : decode cX9_isBall 35 = .ok (.iconst 4, 1) := by decide +kernel
theorem dX9_isBall_36 : decode cX9_isBall 36 = .ok (.invokestatic 76, 3) := by decide +kernel
theorem dX9_isBall_39 : decode cX9_isBall 39 = .ok (.ifCond .eq 16, 3) := by decide +kernel
theorem dX9_isBall_42 : decode cX9_isBall 42 = .ok (.iload_n 1, 1) := by decide +kernel
theorem dX9_isBall_43 : decode cX9_isBall 43 = .ok (.iconst 1, 1) := by decide +kernel
theorem dX9_isBall_44 : decode cX9_isBall 44 = .ok (.iconst 4, 1) := by decide +kernel
theorem dX9_isBall_45 : decode cX9_isBall 45 = .ok (.invokestatic 76, 3) := by decide +kernel
theorem dX9_isBall_48 : decode cX9_isBall 48 = .ok (.ifCond .eq 7, 3) := by decide +kernel
theorem dX9_isBall_51 : decode cX9_isBall 51 = .ok (.iconst 1, 1) := by decide +kernel
theorem dX9_isBall_52 : decode cX9_isBall 52 = .ok (.goto 4, 3) := by decide +kernel
theorem dX9_isBall_55 : decode cX9_isBall 55 = .ok (.iconst 0, 1) := by decide +kernel
theorem dX9_isBall_56 : decode cX9_isBall 56 = .ok (.istore_n 3, 1) := by decide +kernel
theorem dX9_isBall_57 : decode cX9_isBall 57 = .ok (.iload_n 3, 1) := by decide +kernel
theorem dX9_isBall_58 : decode cX9_isBall 58 = .ok (.ifCond .eq 31, 3) := by decide +kernel
theorem dX9_isBall_61 : decode cX9_isBall 61 = .ok (.iload_n 2, 1) := by decide +kernel
theorem dX9_isBall_62 : decode cX9_isBall 62 = .ok (.ifCond .eq 23, 3) := by decide +kernel
theorem dX9_isBall_65 : decode cX9_isBall 65 = .ok (.iload_n 0, 1) := by decide +kernel
theorem dX9_isBall_66 : decode cX9_isBall 66 = .ok (.ifCond .eq 8, 3) := by decide +kernel
theorem dX9_isBall_69 : decode cX9_isBall 69 = .ok (.iload_n 0, 1) := by decide +kernel
theorem dX9_isBall_70 : decode cX9_isBall 70 = .ok (.iconst 2, 1) := by decide +kernel
theorem dX9_isBall_71 : decode cX9_isBall 71 = .ok (.if_icmp .ne 18, 3) := by decide +kernel
theorem dX9_isBall_74 : decode cX9_isBall 74 = .ok (.iload_n 1, 1) := by decide +kernel
theorem dX9_isBall_75 : decode cX9_isBall 75 = .ok (.iconst 4, 1) := by decide +kernel
theorem dX9_isBall_76 : decode cX9_isBall 76 = .ok (.if_icmp .eq 9, 3) := by decide +kernel
theorem dX9_isBall_79 : decode cX9_isBall 79 = .ok (.iload_n 1, 1) := by decide +kernel
theorem dX9_isBall_80 : decode cX9_isBall 80 = .ok (.bipush 6, 2) := by decide +kernel
theorem dX9_isBall_82 : decode cX9_isBall 82 = .ok (.if_icmp .ne 7, 3) := by decide +kernel
theorem dX9_isBall_85 : decode cX9_isBall 85 = .ok (.iconst 1, 1) := by decide +kernel
theorem dX9_isBall_86 : decode cX9_isBall 86 = .ok (.goto 4, 3) := by decide +kernel
theorem dX9_isBall_89 : decode cX9_isBall 89 = .ok (.iconst 0, 1) := by decide +kernel
theorem dX9_isBall_90 : decode cX9_isBall 90 = .ok (.ireturn, 1) := by decide +kernel
set_option maxRecDepth 20000 in
theorem ggX9_ball_X9_isBall : GoodIn wsX9_ball wsX9_isBall := goodIn_r _ [5, 6, 7, 4, 8] (by decide +kernel) (by decide +kernel)
set_option maxRecDepth 20000 in
theorem gX9_ball_X9_isBall : GoodIn wsX9_ball (va_wsS RX9 183 yX9_isBall wsX9_isBall) := goodIn_app (goodIn_of _ (by decide +kernel)) ggX9_ball_X9_isBall
set_option maxRecDepth 20000 in
theorem ggX9_ball_X9_bit : GoodIn wsX9_ball wsX9_bit := goodIn_r _ [11] (by decide +kernel) (by decide +kernel)
set_option maxRecDepth 20000 in
theorem gX9_ball_X9_bit : GoodIn wsX9_ball (va_wsS RX9 187 yX9_bit wsX9_bit) := goodIn_app (goodIn_of _ (by decide +kernel)) ggX9_ball_X9_bit
set_option maxRecDepth 20000 in
theorem ggX9_ball_X9_commands : GoodIn wsX9_ball wsX9_commands := goodIn_ca (goodIn_ca (goodIn_r _ [15, 16, 17, 18, 19, 20, 4, 21, 22, 23, 24, 25, 26, 27, 28, 29, 30, 31, 32, 33, 34, 35, 36, 37, 38, 39, 40, 41, 42, 43, 44, 45, 46, 47, 48, 49, 50, 51, 52, 53, 54, 55, 56, 57, 58, 59, 60, 61, 1, 62, 63, 64, 65, 66, 67, 68, 69, 70, 71, 72, 73, 74, 75, 76, 77, 78, 79, 80, 81, 82, 83, 84, 85, 86, 87, 88, 89, 90, 91, 92, 93, 94, 95, 96, 97, 98, 99, 100, 101, 102, 103, 104, 105, 106, 107, 108, 109, 110, 111, 112, 113, 114, 115, 116, 117, 118, 119, 120, 121, 122, 123, 124, 125, 126, 127, 128, 129, 130, 131, 132, 133, 134, 135, 136, 137, 138, 139, 140, 141, 142, 143, 144, 145, 146, 147, 148, 149, 150, 151, 152, 153, 154, 155, 156, 157, 158, 159, 160] (by decide +kernel) (by decide +kernel)) (goodIn_sub (fun _ h => List.mem_cons_of_mem _ (List.mem_append_left _ (List.mem_append_right _ h))) (by decide +kernel))) (goodIn_sub (fun _ h => List.mem_cons_of_mem _ (List.mem_append_right _ h)) (by decide +kernel))
set_option maxRecDepth 20000 in
theorem gX9_ball_X9_commands : GoodIn wsX9_ball (wsV RX9 179 RX9 yX9_commands wsX9_commands) := goodIn_app (goodIn_of _ (by decide +kernel)) ggX9_ball_X9_commands
theorem dX9_ball_0 : decode cX9_ball 0 = .ok (.aload_n 0, 1) := by decide +kernel
theorem dX9_ball_1 : decode cX9_ball 1 = .ok (.iload_n 1, 1) := by decide +kernel
theorem dX9_ball_2 : decode cX9_ball 2 = .ok (.iload_n 2, 1) := by decide +kernel
theorem dX9_ball_3 : decode cX9_ball 3 = .ok (.iload_n 3, 1) := by decide +kernel
theorem dX9_ball_4 : decode cX9_ball 4 = .ok (.invokestatic 183, 3) := by decide +kernel
theorem dX9_ball_7 : decode cX9_ball 7 = .ok (.ifCond .eq 7, 3) := by decide +kernel
theorem dX9_ball_10 : decode cX9_ball 10 = .ok (.iconst 0, 1) := by decide +kernel
theorem dX9_ball_11 : decode cX9_ball 11 = .ok (.goto 4, 3) := by decide +kernel
theorem dX9_ball_14 : decode cX9_ball 14 = .ok (.iconst 1, 1) := by decide +kernel
theorem dX9_ball_15 : decode cX9_ball 15 = .ok (.putfield 55, 3) := by decide +kernel
theorem dX9_ball_18 : decode cX9_ball 18 = .ok (.aload_n 0, 1) := by decide +kernel
theorem dX9_ball_19 : decode cX9_ball 19 = .ok (.getfield 55, 3) := by decide +kernel
theorem dX9_ball_22 : decode cX9_ball 22 = .ok (.iconst 1, 1) := by decide +kernel
theorem dX9_ball_23 : decode cX9_ball 23 = .ok (.if_icmp .ne 7, 3) := by decide +kernel
theorem dX9_ball_26 : decode cX9_ball 26 = .ok (.iconst 0, 1) := by decide +kernel
theorem dX9_ball_27 : decode cX9_ball 27 = .ok (.goto 17, 3) := by decide +kernel
theorem dX9_ball_30 : decode cX9_ball 30 = .ok (.aload_n 0, 1) := by decide +kernel
theorem dX9_ball_31 : decode cX9_ball 31 = .ok (.iconst 2, 1) := by decide +kernel
theorem dX9_ball_32 : decode cX9_ball 32 = .ok (.iconst 1, 1) := by decide +kernel
theorem dX9_ball_33 : decode cX9_ball 33 = .ok (.iload_n 1, 1) := by decide +kernel
theorem dX9_ball_34 : decode cX9_ball 34 = .ok (.iload_n 2, 1) := by decide +kernel
theorem dX9_ball_35 : decode cX9_ball 35 = .ok (.iload_n 3, 1) := by decide +kernel
theorem dX9_ball_36 : decode cX9_ball 36 = .ok (.invokestatic 187, 3) := by decide +kernel
theorem dX9_ball_39 : decode cX9_ball 39 = .ok (.iconst 0, 1) := by decide +kernel
theorem dX9_ball_40 : decode cX9_ball 40 = .ok (.iconst 0, 1) := by decide +kernel
theorem dX9_ball_41 : decode cX9_ball 41 = .ok (.invokevirtual 179, 3) := by decide +kernel
theorem dX9_ball_44 : decode cX9_ball 44 = .ok (.ireturn, 1) := by decide +kernel
set_option maxRecDepth 20000 in
theorem ggX9_wicket_X9_isIn : GoodIn wsX9_wicket wsX9_isIn := goodIn_r _ [5] (by decide +kernel) (by decide +kernel)
set_option maxRecDepth 20000 in
theorem gX9_wicket_X9_isIn : GoodIn wsX9_wicket (va_wsS RX9 76 yX9_isIn wsX9_isIn) := goodIn_app (goodIn_of _ (by decide +kernel)) ggX9_wicket_X9_isIn
set_option maxRecDepth 20000 in
theorem ggX9_wicket_X9_bit : GoodIn wsX9_wicket wsX9_bit := goodIn_r _ [8] (by decide +kernel) (by decide +kernel)
set_option maxRecDepth 20000 in
theorem gX9_wicket_X9_bit : GoodIn wsX9_wicket (va_wsS RX9 187 yX9_bit wsX9_bit) := goodIn_app (goodIn_of _ (by decide +kernel)) ggX9_wicket_X9_bit
set_option maxRecDepth 20000 in
theorem ggX9_wicket_X9_commands : GoodIn wsX9_wicket wsX9_commands := goodIn_ca (goodIn_ca (goodIn_r _ [12, 13, 14, 15, 16, 17, 4, 18, 19, 20, 21, 22, 23, 24, 25, 26, 27, 28, 29, 30, 31, 32, 33, 34, 35, 36, 37, 38, 39, 40, 41, 42, 43, 44, 45, 46, 47, 48, 49, 50, 51, 52, 53, 54, 55, 56, 57, 58, 1, 59, 60, 61, 62, 63, 64, 65, 66, 67, 68, 69, 70, 71, 72, 73, 74, 75, 76, 77, 78, 79, 80, 81, 82, 83, 84, 85, 86, 87, 88, 89, 90, 91, 92, 93, 94, 95, 96, 97, 98, 99, 100, 101, 102, 103, 104, 105, 106, 107, 108, 109, 110, 111, 112, 113, 114, 115, 116, 117, 118, 119, 120, 121, 122, 123, 124, 125, 126, 127, 128, 129, 130, 131, 132, 133, 134, 135, 136, 137, 138, 139, 140, 141, 142, 143, 144, 145, 146, 147, 148, 149, 150, 151, 152, 153, 154, 155, 156, 157] (by decide +kernel) (by decide +kernel)) (goodIn_sub (fun _ h => List.mem_cons_of_mem _ (List.mem_append_left _ (List.mem_append_right _ h))) (by decide +kernel))) (goodIn_sub (fun _ h => List.mem_cons_of_mem _ (List.mem_append_right _ h)) (by decide +kernel))
set_option maxRecDepth 20000 in
theorem gX9_wicket_X9_commands : GoodIn wsX9_wicket (wsV RX9 179 RX9 yX9_commands wsX9_commands) := goodIn_app (goodIn_of _ (by decide +kernel)) ggX9_wicket_X9_commands
theorem dX9_wicket_0 : decode cX9_wicket 0 = .ok (.aload_n 0, 1) := by decide +kernel
theorem dX9_wicket_1 : decode cX9_wicket 1 = .ok (.iload_n 1, 1) := by decide +kernel
theorem dX9_wicket_2 : decode cX9_wicket 2 = .ok (.iconst 0, 1) := by decide +kernel
theorem dX9_wicket_3 : decode cX9_wicket 3 = .ok (.iconst 5, 1) := by decide +kernel
theorem dX9_wicket_4 : decode cX9_wicket 4 = .ok (.invokestatic 76, 3) := by decide +kernel
theorem dX9_wicket_7 : decode cX9_wicket 7 = .ok (.ifCond .eq 26, 3) := by decide +kernel
theorem dX9_wicket_10 : decode cX9_wicket 10 = .ok (.iload_n 2, 1) := by decide +kernel
theorem dX9_wicket_11 : decode cX9_wicket 11 = .ok (.iconst 0, 1) := by decide +kernel
theorem dX9_wicket_12 : decode cX9_wicket 12 = .ok (.iconst 2, 1) := by decide +kernel
theorem dX9_wicket_13 : decode cX9_wicket 13 = .ok (.invokestatic 76, 3) := by decide +kernel
theorem dX9_wicket_16 : decode cX9_wicket 16 = .ok (.ifCond .eq 17, 3) := by decide +kernel
theorem dX9_wicket_19 : decode cX9_wicket 19 = .ok (.iload 4, 2) := by decide +kernel
theorem dX9_wicket_21 : decode cX9_wicket 21 = .ok (.iconst 0, 1) := by decide +kernel
theorem dX9_wicket_22 : decode cX9_wicket 22 = .ok (.iconst 3, 1) := by decide +kernel
theorem dX9_wicket_23 : decode cX9_wicket 23 = .ok (.invokestatic 76, 3) := by decide +kernel
theorem dX9_wicket_26 : decode cX9_wicket 26 = .ok (.ifCond .eq 7, 3) := by decide +kernel
theorem dX9_wicket_29 : decode cX9_wicket 29 = .ok (.iconst 0, 1) := by decide +kernel
theorem dX9_wicket_30 : decode cX9_wicket 30 = .ok (.goto 4, 3) := by decide +kernel
theorem dX9_wicket_33 : decode cX9_wicket 33 = .ok (.iconst 1, 1) := by decide +kernel
theorem dX9_wicket_34 : decode cX9_wicket 34 = .ok (.putfield 55, 3) := by decide +kernel
theorem dX9_wicket_37 : decode cX9_wicket 37 = .ok (.aload_n 0, 1) := by decide +kernel
theorem dX9_wicket_38 : decode cX9_wicket 38 = .ok (.getfield 55, 3) := by decide +kernel
theorem dX9_wicket_41 : decode cX9_wicket 41 = .ok (.iconst 1, 1) := by decide +kernel
theorem dX9_wicket_42 : decode cX9_wicket 42 = .ok (.if_icmp .ne 7, 3) := by decide +kernel
theorem dX9_wicket_45 : decode cX9_wicket 45 = .ok (.iconst 0, 1) := by decide +kernel
theorem dX9_wicket_46 : decode cX9_wicket 46 = .ok (.goto 22, 3) := by decide +kernel
theorem dX9_wicket_49 : decode cX9_wicket 49 = .ok (.aload_n 0, 1) := by decide +kernel
theorem dX9_wicket_50 : decode cX9_wicket 50 = .ok (.iconst 2, 1) := by decide +kernel
theorem dX9_wicket_51 : decode cX9_wicket 51 = .ok (.iconst 2, 1) := by decide +kernel
theorem dX9_wicket_52 : decode cX9_wicket 52 = .ok (.iload_n 1, 1) := by decide +kernel
theorem dX9_wicket_53 : decode cX9_wicket 53 = .ok (.iload_n 2, 1) := by decide +kernel
theorem dX9_wicket_54 : decode cX9_wicket 54 = .ok (.iload_n 3, 1) := by decide +kernel
theorem dX9_wicket_55 : decode cX9_wicket 55 = .ok (.invokestatic 187, 3) := by decide +kernel
theorem dX9_wicket_58 : decode cX9_wicket 58 = .ok (.iload 4, 2) := by decide +kernel
theorem dX9_wicket_60 : decode cX9_wicket 60 = .ok (.iload 5, 2) := by decide +kernel
theorem dX9_wicket_62 : decode cX9_wicket 62 = .ok (.invokestatic 187, 3) := by decide +kernel
theorem dX9_wicket_65 : decode cX9_wicket 65 = .ok (.invokevirtual 179, 3) := by decide +kernel
theorem dX9_wicket_68 : decode cX9_wicket 68 = .ok (.ireturn, 1) := by decide +kernel
set_option maxRecDepth 20000 in
theorem ggX9_retire_X9_bit : GoodIn wsX9_retire wsX9_bit := goodIn_r _ [5] (by decide +kernel) (by decide +kernel)
set_option maxRecDepth 20000 in
theorem gX9_retire_X9_bit : GoodIn wsX9_retire (va_wsS RX9 187 yX9_bit wsX9_bit) := goodIn_app (goodIn_of _ (by decide +kernel)) ggX9_retire_X9_bit
set_option maxRecDepth 20000 in
theorem ggX9_retire_X9_commands : GoodIn wsX9_retire wsX9_commands := goodIn_ca (goodIn_ca (goodIn_r _ [9, 10, 11, 12, 13, 14, 4, 15, 16, 17, 18, 19, 20, 21, 22, 23, 24, 25, 26, 27, 28, 29, 30, 31, 32, 33, 34, 35, 36, 37, 38, 39, 40, 41, 42, 43, 44, 45, 46, 47, 48, 49, 50, 51, 52, 53, 54, 55, 1, 56, 57, 58, 59, 60, 61, 62, 63, 64, 65, 66, 67, 68, 69, 70, 71, 72, 73, 74, 75, 76, 77, 78, 79, 80, 81, 82, 83, 84, 85, 86, 87, 88, 89, 90, 91, 92, 93, 94, 95, 96, 97, 98, 99, 100, 101, 102, 103, 104, 105, 106, 107, 108, 109, 110, 111, 112, 113, 114, 115, 116, 117, 118, 119, 120, 121, 122, 123, 124, 125, 126, 127, 128, 129, 130, 131, 132, 133, 134, 135, 136, 137, 138, 139, 140, 141, 142, 143, 144, 145, 146, 147, 148, 149, 150, 151, 152, 153, 154] (by decide +kernel) (by decide +kernel)) (goodIn_sub (fun _ h => List.mem_cons_of_mem _ (List.mem_append_left _ (List.mem_append_right _ h))) (by decide +kernel))) (goodIn_sub (fun _ h => List.mem_cons_of_mem _ (List.mem_append_right _ h)) (by decide +kernel))
set_option maxRecDepth 20000 in
theorem gX9_retire_X9_commands : GoodIn wsX9_retire (wsV RX9 179 RX9 yX9_commands wsX9_commands) := goodIn_app (goodIn_of _ (by decide +kernel)) ggX9_retire_X9_commands
theorem dX9_retire_0 : decode cX9_retire 0 = .ok (.aload_n 0, 1) := by decide +kernel
theorem dX9_retire_1 : decode cX9_retire 1 = .ok (.iconst 0, 1) := by decide +kernel
theorem dX9_retire_2 : decode cX9_retire 2 = .ok (.putfield 55, 3) := by decide +kernel
theorem dX9_retire_5 : decode cX9_retire 5 = .ok (.aload_n 0, 1) := by decide +kernel
theorem dX9_retire_6 : decode cX9_retire 6 = .ok (.iconst 1, 1) := by decide +kernel
theorem dX9_retire_7 : decode cX9_retire 7 = .ok (.iconst 3, 1) := by decide +kernel
theorem dX9_retire_8 : decode cX9_retire 8 = .ok (.iload_n 1, 1) := by decide +kernel
theorem dX9_retire_9 : decode cX9_retire 9 = .ok (.invokestatic 187, 3) := by decide +kernel
theorem dX9_retire_12 : decode cX9_retire 12 = .ok (.iload_n 2, 1) := by decide +kernel
theorem dX9_retire_13 : decode cX9_retire 13 = .ok (.invokestatic 187, 3) := by decide +kernel
theorem dX9_retire_16 : decode cX9_retire 16 = .ok (.iconst 0, 1) := by decide +kernel
theorem dX9_retire_17 : decode cX9_retire 17 = .ok (.iconst 0, 1) := by decide +kernel
theorem dX9_retire_18 : decode cX9_retire 18 = .ok (.iconst 0, 1) := by decide +kernel
theorem dX9_retire_19 : decode cX9_retire 19 = .ok (.invokevirtual 179, 3) := by decide +kernel
theorem dX9_retire_22 : decode cX9_retire 22 = .ok (.ireturn, 1) := by decide +kernel
set_option maxRecDepth 20000 in
theorem ggX9_choose_X9_isIn : GoodIn wsX9_choose wsX9_isIn := goodIn_r _ [5] (by decide +kernel) (by decide +kernel)
set_option maxRecDepth 20000 in
theorem gX9_choose_X9_isIn : GoodIn wsX9_choose (va_wsS RX9 76 yX9_isIn wsX9_isIn) := goodIn_app (goodIn_of _ (by decide +kernel)) ggX9_choose_X9_isIn
set_option maxRecDepth 20000 in
theorem ggX9_choose_X9_commands : GoodIn wsX9_choose wsX9_commands := goodIn_ca (goodIn_ca (goodIn_r _ [9, 10, 11, 12, 13, 14, 4, 15, 16, 17, 18, 19, 20, 21, 22, 23, 24, 25, 26, 27, 28, 29, 30, 31, 32, 33, 34, 35, 36, 37, 38, 39, 40, 41, 42, 43, 44, 45, 46, 47, 48, 49, 50, 51, 52, 53, 54, 55, 1, 56, 57, 58, 59, 60, 61, 62, 63, 64, 65, 66, 67, 68, 69, 70, 71, 72, 73, 74, 75, 76, 77, 78, 79, 80, 81, 82, 83, 84, 85, 86, 87, 88, 89, 90, 91, 92, 93, 94, 95, 96, 97, 98, 99, 100, 101, 102, 103, 104, 105, 106, 107, 108, 109, 110, 111, 112, 113, 114, 115, 116, 117, 118, 119, 120, 121, 122, 123, 124, 125, 126, 127, 128, 129, 130, 131, 132, 133, 134, 135, 136, 137, 138, 139, 140, 141, 142, 143, 144, 145, 146, 147, 148, 149, 150, 151, 152, 153, 154] (by decide +kernel) (by decide +kernel)) (goodIn_sub (fun _ h => List.mem_cons_of_mem _ (List.mem_append_left _ (List.mem_append_right _ h))) (by decide +kernel))) (goodIn_sub (fun _ h => List.mem_cons_of_mem _ (List.mem_append_right _ h)) (by decide +kernel))
set_option maxRecDepth 20000 in
theorem gX9_choose_X9_commands : GoodIn wsX9_choose (wsV RX9 179 RX9 yX9_commands wsX9_commands) := goodIn_app (goodIn_of _ (by decide +kernel)) ggX9_choose_X9_commands
theorem dX9_choose_0 : decode cX9_choose 0 = .ok (.aload_n 0, 1) := by decide +kernel
theorem dX9_choose_1 : decode cX9_choose 1 = .ok (.iload_n 1, 1) := by decide +kernel
theorem dX9_choose_2 : decode cX9_choose 2 = .ok (.iconst 0, 1) := by decide +kernel
theorem dX9_choose_3 : decode cX9_choose 3 = .ok (.bipush 10, 2) := by decide +kernel
theorem dX9_choose_5 : decode cX9_choose 5 = .ok (.invokestatic 76, 3) := by decide +kernel
theorem dX9_choose_8 : decode cX9_choose 8 = .ok (.ifCond .eq 7, 3) := by decide +kernel
theorem dX9_choose_11 : decode cX9_choose 11 = .ok (.iconst 0, 1) := by decide +kernel
theorem dX9_choose_12 : decode cX9_choose 12 = .ok (.goto 4, 3) := by decide +kernel
theorem dX9_choose_15 : decode cX9_choose 15 = .ok (.iconst 1, 1) := by decide +kernel
theorem dX9_choose_16 : decode cX9_choose 16 = .ok (.putfield 55, 3) := by decide +kernel
theorem dX9_choose_19 : decode cX9_choose 19 = .ok (.aload_n 0, 1) := by decide +kernel
theorem dX9_choose_20 : decode cX9_choose 20 = .ok (.getfield 55, 3) := by decide +kernel
theorem dX9_choose_23 : decode cX9_choose 23 = .ok (.iconst 1, 1) := by decide +kernel
theorem dX9_choose_24 : decode cX9_choose 24 = .ok (.if_icmp .ne 7, 3) := by decide +kernel
theorem dX9_choose_27 : decode cX9_choose 27 = .ok (.iconst 0, 1) := by decide +kernel
theorem dX9_choose_28 : decode cX9_choose 28 = .ok (.goto 14, 3) := by decide +kernel
theorem dX9_choose_31 : decode cX9_choose 31 = .ok (.aload_n 0, 1) := by decide +kernel
theorem dX9_choose_32 : decode cX9_choose 32 = .ok (.iconst 2, 1) := by decide +kernel
theorem dX9_choose_33 : decode cX9_choose 33 = .ok (.iconst 4, 1) := by decide +kernel
theorem dX9_choose_34 : decode cX9_choose 34 = .ok (.iload_n 1, 1) := by decide +kernel
theorem dX9_choose_35 : decode cX9_choose 35 = .ok (.iconst 0, 1) := by decide +kernel
theorem dX9_choose_36 : decode cX9_choose 36 = .ok (.iconst 0, 1) := by decide +kernel
theorem dX9_choose_37 : decode cX9_choose 37 = .ok (.iconst 0, 1) := by decide +kernel
theorem dX9_choose_38 : decode cX9_choose 38 = .ok (.iconst 0, 1) := by decide +kernel
theorem dX9_choose_39 : decode cX9_choose 39 = .ok (.invokevirtual 179, 3) := by decide +kernel
theorem dX9_choose_42 : decode cX9_choose 42 = .ok (.ireturn, 1) := by decide +kernel
set_option maxRecDepth 20000 in
theorem ggX9_declare_X9_commands : GoodIn wsX9_declare wsX9_commands := goodIn_ca (goodIn_ca (goodIn_r _ [6, 7, 8, 9, 10, 11, 5, 12, 13, 14, 15, 16, 17, 18, 19, 20, 21, 22, 23, 24, 25, 26, 27, 28, 29, 30, 31, 32, 33, 34, 35, 36, 37, 38, 39, 40, 41, 42, 43, 44, 45, 46, 47, 48, 49, 50, 51, 52, 1, 53, 54, 55, 56, 57, 58, 59, 60, 61, 62, 63, 64, 65, 66, 67, 68, 69, 70, 71, 72, 73, 74, 75, 76, 77, 78, 79, 80, 81, 82, 83, 84, 85, 86, 87, 88, 89, 90, 91, 92, 93, 94, 95, 96, 97, 98, 99, 100, 101, 102, 103, 104, 105, 106, 107, 108, 109, 110, 111, 112, 113, 114, 115, 116, 117, 118, 119, 120, 121, 122, 123, 124, 125, 126, 127, 128, 129, 130, 131, 132, 133, 134, 135, 136, 137, 138, 139, 140, 141, 142, 143, 144, 145, 146, 147, 148, 149, 150, 151] (by decide +kernel) (by decide +kernel)) (goodIn_sub (fun _ h => List.mem_cons_of_mem _ (List.mem_append_left _ (List.mem_append_right _ h))) (by decide +kernel))) (goodIn_sub (fun _ h => List.mem_cons_of_mem _ (List.mem_append_right _ h)) (by decide +kernel))
set_option maxRecDepth 20000 in
theorem gX9_declare_X9_commands : GoodIn wsX9_declare (wsV RX9 179 RX9 yX9_commands wsX9_commands) := goodIn_app (goodIn_of _ (by decide +kernel)) ggX9_declare_X9_commands
theorem dX9_declare_0 : decode cX9_declare 0 = .ok (.aload_n 0, 1) := by decide +kernel
theorem dX9_declare_1 : decode cX9_declare 1 = .ok (.iconst 0, 1) := by decide +kernel
theorem dX9_declare_2 : decode cX9_declare 2 = .ok (.putfield 55, 3) := by decide +kernel
theorem dX9_declare_5 : decode cX9_declare 5 = .ok (.aload_n 0, 1) := by decide +kernel
theorem dX9_declare_6 : decode cX9_declare 6 = .ok (.iconst 1, 1) := by decide +kernel
theorem dX9_declare_7 : decode cX9_declare 7 = .ok (.iconst 5, 1) := by decide +kernel
theorem dX9_declare_8 : decode cX9_declare 8 = .ok (.iconst 0, 1) := by decide +kernel
theorem dX9_declare_9 : decode cX9_declare 9 = .ok (.iconst 0, 1) := by decide +kernel
theorem dX9_declare_10 : decode cX9_declare 10 = .ok (.iconst 0, 1) := by decide +kernel
theorem dX9_declare_11 : decode cX9_declare 11 = .ok (.iconst 0, 1) := by decide +kernel
theorem dX9_declare_12 : decode cX9_declare 12 = .ok (.iconst 0, 1) := by decide +kernel
theorem dX9_declare_13 : decode cX9_declare 13 = .ok (.invokevirtual 179, 3) := by decide +kernel
theorem dX9_declare_16 : decode cX9_declare 16 = .ok (.ireturn, 1) := by decide +kernel
set_option maxRecDepth 20000 in
theorem ggX9_loseOvers_X9_isIn : GoodIn wsX9_loseOvers wsX9_isIn := goodIn_r _ [5] (by decide +kernel) (by decide +kernel)
set_option maxRecDepth 20000 in
theorem gX9_loseOvers_X9_isIn : GoodIn wsX9_loseOvers (va_wsS RX9 76 yX9_isIn wsX9_isIn) := goodIn_app (goodIn_of _ (by decide +kernel)) ggX9_loseOvers_X9_isIn
set_option maxRecDepth 20000 in
theorem ggX9_loseOvers_X9_commands : GoodIn wsX9_loseOvers wsX9_commands := goodIn_ca (goodIn_ca (goodIn_r _ [9, 10, 11, 12, 13, 14, 4, 15, 16, 17, 18, 19, 20, 21, 22, 23, 24, 25, 26, 27, 28, 29, 30, 31, 32, 33, 34, 35, 36, 37, 38, 39, 40, 41, 42, 43, 44, 45, 46, 47, 48, 49, 50, 51, 52, 53, 54, 55, 1, 56, 57, 58, 59, 60, 61, 62, 63, 64, 65, 66, 67, 68, 69, 70, 71, 72, 73, 74, 75, 76, 77, 78, 79, 80, 81, 82, 83, 84, 85, 86, 87, 88, 89, 90, 91, 92, 93, 94, 95, 96, 97, 98, 99, 100, 101, 102, 103, 104, 105, 106, 107, 108, 109, 110, 111, 112, 113, 114, 115, 116, 117, 118, 119, 120, 121, 122, 123, 124, 125, 126, 127, 128, 129, 130, 131, 132, 133, 134, 135, 136, 137, 138, 139, 140, 141, 142, 143, 144, 145, 146, 147, 148, 149, 150, 151, 152, 153, 154] (by decide +kernel) (by decide +kernel)) (goodIn_sub (fun _ h => List.mem_cons_of_mem _ (List.mem_append_left _ (List.mem_append_right _ h))) (by decide +kernel))) (goodIn_sub (fun _ h => List.mem_cons_of_mem _ (List.mem_append_right _ h)) (by decide +kernel))
set_option maxRecDepth 20000 in
theorem gX9_loseOvers_X9_commands : GoodIn wsX9_loseOvers (wsV RX9 179 RX9 yX9_commands wsX9_commands) := goodIn_app (goodIn_of _ (by decide +kernel)) ggX9_loseOvers_X9_commands
theorem dX9_loseOvers_0 : decode cX9_loseOvers 0 = .ok (.aload_n 0, 1) := by decide +kernel
theorem dX9_loseOvers_1 : decode cX9_loseOvers 1 = .ok (.iload_n 1, 1) := by decide +kernel
theorem dX9_loseOvers_2 : decode cX9_loseOvers 2 = .ok (.iconst 1, 1) := by decide +kernel
theorem dX9_loseOvers_3 : decode cX9_loseOvers 3 = .ok (.bipush 19, 2) := by decide +kernel
theorem dX9_loseOvers_5 : decode cX9_loseOvers 5 = .ok (.invokestatic 76, 3) := by decide +kernel
theorem dX9_loseOvers_8 : decode cX9_loseOvers 8 = .ok (.ifCond .eq 7, 3) := by decide +kernel
theorem dX9_loseOvers_11 : decode cX9_loseOvers 11 = .ok (.iconst 0, 1) := by decide +kernel
theorem dX9_loseOvers_12 : decode cX9_loseOvers 12 = .ok (.goto 4, 3) := by decide +kernel
theorem dX9_loseOvers_15 : decode cX9_loseOvers 15 = .ok (.iconst 1, 1) := by decide +kernel
theorem dX9_loseOvers_16 : decode cX9_loseOvers 16 = .ok (.putfield 55, 3) := by decide +kernel
theorem dX9_loseOvers_19 : decode cX9_loseOvers 19 = .ok (.aload_n 0, 1) := by decide +kernel
theorem dX9_loseOvers_20 : decode cX9_loseOvers 20 = .ok (.getfield 55, 3) := by decide +kernel
theorem dX9_loseOvers_23 : decode cX9_loseOvers 23 = .ok (.iconst 1, 1) := by decide +kernel
theorem dX9_loseOvers_24 : decode cX9_loseOvers 24 = .ok (.if_icmp .ne 7, 3) := by decide +kernel
theorem dX9_loseOvers_27 : decode cX9_loseOvers 27 = .ok (.iconst 0, 1) := by decide +kernel
theorem dX9_loseOvers_28 : decode cX9_loseOvers 28 = .ok (.goto 15, 3) := by decide +kernel
theorem dX9_loseOvers_31 : decode cX9_loseOvers 31 = .ok (.aload_n 0, 1) := by decide +kernel
theorem dX9_loseOvers_32 : decode cX9_loseOvers 32 = .ok (.iconst 2, 1) := by decide +kernel
theorem dX9_loseOvers_33 : decode cX9_loseOvers 33 = .ok (.bipush 6, 2) := by decide +kernel
theorem dX9_loseOvers_35 : decode cX9_loseOvers 35 = .ok (.iload_n 1, 1) := by decide +kernel
theorem dX9_loseOvers_36 : decode cX9_loseOvers 36 = .ok (.iconst 0, 1) := by decide +kernel
theorem dX9_loseOvers_37 : decode cX9_loseOvers 37 = .ok (.iconst 0, 1) := by decide +kernel
theorem dX9_loseOvers_38 : decode cX9_loseOvers 38 = .ok (.iconst 0, 1) := by decide +kernel
theorem dX9_loseOvers_39 : decode cX9_loseOvers 39 = .ok (.iconst 0, 1) := by decide +kernel
theorem dX9_loseOvers_40 : decode cX9_loseOvers 40 = .ok (.invokevirtual 179, 3) := by decide +kernel
theorem dX9_loseOvers_43 : decode cX9_loseOvers 43 = .ok (.ireturn, 1) := by decide +kernel
set_option maxRecDepth 20000 in
theorem ggX9_append_X9_isIn : GoodIn wsX9_append wsX9_isIn := goodIn_r _ [7] (by decide +kernel) (by decide +kernel)
set_option maxRecDepth 20000 in
theorem gX9_append_X9_isIn : GoodIn wsX9_append (va_wsS RX9 76 yX9_isIn wsX9_isIn) := goodIn_app (goodIn_of _ (by decide +kernel)) ggX9_append_X9_isIn
theorem dX9_append_0 : decode cX9_append 0 = .ok (.aload_n 0, 1) := by decide +kernel
theorem dX9_append_1 : decode cX9_append 1 = .ok (.iload_n 1, 1) := by decide +kernel
theorem dX9_append_2 : decode cX9_append 2 = .ok (.bipush 32, 2) := by decide +kernel
theorem dX9_append_4 : decode cX9_append 4 = .ok (.bipush 126, 2) := by decide +kernel
theorem dX9_append_6 : decode cX9_append 6 = .ok (.invokestatic 76, 3) := by decide +kernel
theorem dX9_append_9 : decode cX9_append 9 = .ok (.ifCond .ne 7, 3) := by decide +kernel
theorem dX9_append_12 : decode cX9_append 12 = .ok (.iconst 1, 1) := by decide +kernel
theorem dX9_append_13 : decode cX9_append 13 = .ok (.goto 17, 3) := by decide +kernel
theorem dX9_append_16 : decode cX9_append 16 = .ok (.aload_n 0, 1) := by decide +kernel
theorem dX9_append_17 : decode cX9_append 17 = .ok (.getfield 191, 3) := by decide +kernel
theorem dX9_append_20 : decode cX9_append 20 = .ok (.bipush 60, 2) := by decide +kernel
theorem dX9_append_22 : decode cX9_append 22 = .ok (.if_icmp .ne 7, 3) := by decide +kernel
theorem dX9_append_25 : decode cX9_append 25 = .ok (.iconst 2, 1) := by decide +kernel
theorem dX9_append_26 : decode cX9_append 26 = .ok (.goto 4, 3) := by decide +kernel
theorem dX9_append_29 : decode cX9_append 29 = .ok (.iconst 0, 1) := by decide +kernel
theorem dX9_append_30 : decode cX9_append 30 = .ok (.putfield 55, 3) := by decide +kernel
theorem dX9_append_33 : decode cX9_append 33 = .ok (.aload_n 0, 1) := by decide +kernel
theorem dX9_append_34 : decode cX9_append 34 = .ok (.getfield 55, 3) := by decide +kernel
theorem dX9_append_37 : decode cX9_append 37 = .ok (.ifCond .le 5, 3) := by decide +kernel
theorem dX9_append_40 : decode cX9_append 40 = .ok (.iconst 0, 1) := by decide +kernel
theorem dX9_append_41 : decode cX9_append 41 = .ok (.ireturn, 1) := by decide +kernel
theorem dX9_append_42 : decode cX9_append 42 = .ok (.aload_n 0, 1) := by decide +kernel
theorem dX9_append_43 : decode cX9_append 43 = .ok (.getfield 29, 3) := by decide +kernel
theorem dX9_append_46 : decode cX9_append 46 = .ok (.aload_n 0, 1) := by decide +kernel
theorem dX9_append_47 : decode cX9_append 47 = .ok (.getfield 191, 3) := by decide +kernel
theorem dX9_append_50 : decode cX9_append 50 = .ok (.iload_n 1, 1) := by decide +kernel
theorem dX9_append_51 : decode cX9_append 51 = .ok (.iastore, 1) := by decide +kernel
theorem dX9_append_52 : decode cX9_append 52 = .ok (.aload_n 0, 1) := by decide +kernel
theorem dX9_append_53 : decode cX9_append 53 = .ok (.dup, 1) := by decide +kernel
theorem dX9_append_54 : decode cX9_append 54 = .ok (.getfield 191, 3) := by decide +kernel
theorem dX9_append_57 : decode cX9_append 57 = .ok (.iconst 1, 1) := by decide +kernel
theorem dX9_append_58 : decode cX9_append 58 = .ok (.iadd, 1) := by decide +kernel
theorem dX9_append_59 : decode cX9_append 59 = .ok (.putfield 191, 3) := by decide +kernel
theorem dX9_append_62 : decode cX9_append 62 = .ok (.aload_n 0, 1) := by decide +kernel
theorem dX9_append_63 : decode cX9_append 63 = .ok (.getfield 191, 3) := by decide +kernel
theorem dX9_append_66 : decode cX9_append 66 = .ok (.ireturn, 1) := by decide +kernel
theorem dX9_here_0 : decode cX9_here 0 = .ok (.aload_n 0, 1) := by decide +kernel
theorem dX9_here_1 : decode cX9_here 1 = .ok (.getfield 194, 3) := by decide +kernel
theorem dX9_here_4 : decode cX9_here 4 = .ok (.aload_n 0, 1) := by decide +kernel
theorem dX9_here_5 : decode cX9_here 5 = .ok (.getfield 191, 3) := by decide +kernel
theorem dX9_here_8 : decode cX9_here 8 = .ok (.if_icmp .ge 15, 3) := by decide +kernel
theorem dX9_here_11 : decode cX9_here 11 = .ok (.aload_n 0, 1) := by decide +kernel
theorem dX9_here_12 : decode cX9_here 12 = .ok (.getfield 29, 3) := by decide +kernel
theorem dX9_here_15 : decode cX9_here 15 = .ok (.aload_n 0, 1) := by decide +kernel
theorem dX9_here_16 : decode cX9_here 16 = .ok (.getfield 194, 3) := by decide +kernel
theorem dX9_here_19 : decode cX9_here 19 = .ok (.iaload, 1) := by decide +kernel
theorem dX9_here_20 : decode cX9_here 20 = .ok (.goto 4, 3) := by decide +kernel
theorem dX9_here_23 : decode cX9_here 23 = .ok (.iconst (-1), 1) := by decide +kernel
theorem dX9_here_24 : decode cX9_here 24 = .ok (.ireturn, 1) := by decide +kernel
theorem dX9_element_0 : decode cX9_element 0 = .ok (.aload_n 0, 1) := by decide +kernel
theorem dX9_element_1 : decode cX9_element 1 = .ok (.getfield 39, 3) := by decide +kernel
theorem dX9_element_4 : decode cX9_element 4 = .ok (.iconst 4, 1) := by decide +kernel
theorem dX9_element_5 : decode cX9_element 5 = .ok (.aload_n 0, 1) := by decide +kernel
theorem dX9_element_6 : decode cX9_element 6 = .ok (.getfield 197, 3) := by decide +kernel
theorem dX9_element_9 : decode cX9_element 9 = .ok (.imul, 1) := by decide +kernel
theorem dX9_element_10 : decode cX9_element 10 = .ok (.iload_n 1, 1) := by decide +kernel
theorem dX9_element_11 : decode cX9_element 11 = .ok (.iastore, 1) := by decide +kernel
theorem dX9_element_12 : decode cX9_element 12 = .ok (.aload_n 0, 1) := by decide +kernel
theorem dX9_element_13 : decode cX9_element 13 = .ok (.getfield 39, 3) := by decide +kernel
theorem dX9_element_16 : decode cX9_element 16 = .ok (.iconst 4, 1) := by decide +kernel
theorem dX9_element_17 : decode cX9_element 17 = .ok (.aload_n 0, 1) := by decide +kernel
theorem dX9_element_18 : decode cX9_element 18 = .ok (.getfield 197, 3) := by decide +kernel
theorem dX9_element_21 : decode cX9_element 21 = .ok (.imul, 1) := by decide +kernel
theorem dX9_element_22 : decode cX9_element 22 = .ok (.iconst 1, 1) := by decide +kernel
theorem dX9_element_23 : decode cX9_element 23 = .ok (.iadd, 1) := by decide +kernel
theorem dX9_element_24 : decode cX9_element 24 = .ok (.iload_n 2, 1) := by decide +kernel
theorem dX9_element_25 : decode cX9_element 25 = .ok (.iastore, 1) := by decide +kernel
theorem dX9_element_26 : decode cX9_element 26 = .ok (.aload_n 0, 1) := by decide +kernel
theorem dX9_element_27 : decode cX9_element 27 = .ok (.getfield 39, 3) := by decide +kernel
theorem dX9_element_30 : decode cX9_element 30 = .ok (.iconst 4, 1) := by decide +kernel
theorem dX9_element_31 : decode cX9_element 31 = .ok (.aload_n 0, 1) := by decide +kernel
theorem dX9_element_32 : decode cX9_element 32 = .ok (.getfield 197, 3) := by decide +kernel
theorem dX9_element_35 : decode cX9_element 35 = .ok (.imul, 1) := by decide +kernel
theorem dX9_element_36 : decode cX9_element 36 = .ok (.iconst 2, 1) := by decide +kernel
theorem dX9_element_37 : decode cX9_element 37 = .ok (.iadd, 1) := by decide +kernel
theorem dX9_element_38 : decode cX9_element 38 = .ok (.iload_n 3, 1) := by decide +kernel
theorem dX9_element_39 : decode cX9_element 39 = .ok (.iastore, 1) := by decide +kernel
theorem dX9_element_40 : decode cX9_element 40 = .ok (.aload_n 0, 1) := by decide +kernel
theorem dX9_element_41 : decode cX9_element 41 = .ok (.getfield 39, 3) := by decide +kernel
theorem dX9_element_44 : decode cX9_element 44 = .ok (.iconst 4, 1) := by decide +kernel
theorem dX9_element_45 : decode cX9_element 45 = .ok (.aload_n 0, 1) := by decide +kernel
theorem dX9_element_46 : decode cX9_element 46 = .ok (.getfield 197, 3) := by decide +kernel
theorem dX9_element_49 : decode cX9_element 49 = .ok (.imul, 1) := by decide +kernel
theorem dX9_element_50 : decode cX9_element 50 = .ok (.iconst 3, 1) := by decide +kernel
theorem dX9_element_51 : decode cX9_element 51 = .ok (.iadd, 1) := by decide +kernel
theorem dX9_element_52 : decode cX9_element 52 = .ok (.iload 4, 2) := by decide +kernel
theorem dX9_element_54 : decode cX9_element 54 = .ok (.iastore, 1) := by decide +kernel
theorem dX9_element_55 : decode cX9_element 55 = .ok (.aload_n 0, 1) := by decide +kernel
theorem dX9_element_56 : decode cX9_element 56 = .ok (.dup, 1) := by decide +kernel
theorem dX9_element_57 : decode cX9_element 57 = .ok (.getfield 197, 3) := by decide +kernel
theorem dX9_element_60 : decode cX9_element 60 = .ok (.iconst 1, 1) := by decide +kernel
theorem dX9_element_61 : decode cX9_element 61 = .ok (.iadd, 1) := by decide +kernel
theorem dX9_element_62 : decode cX9_element 62 = .ok (.putfield 197, 3) := by decide +kernel
theorem dX9_element_65 : decode cX9_element 65 = .ok (.return_, 1) := by decide +kernel
set_option maxRecDepth 20000 in
theorem ggX9_follows_X9_here : GoodIn wsX9_follows wsX9_here := goodIn_ca (goodIn_r _ [6, 1, 7, 8, 12, 13, 14, 15, 16, 17, 18, 19, 20, 21, 22, 23, 24, 25, 26, 27, 28, 29, 30, 31, 32, 33] (by decide +kernel) (by decide +kernel)) (goodIn_sub (fun _ h => List.mem_cons_of_mem _ (List.mem_append_right _ h)) (by decide +kernel))
set_option maxRecDepth 20000 in
theorem gX9_follows_X9_here : GoodIn wsX9_follows (wsV RX9 200 RX9 yX9_here wsX9_here) := goodIn_app (goodIn_of _ (by decide +kernel)) ggX9_follows_X9_here
set_option maxRecDepth 20000 in
theorem ggX9_follows_X9_isIn : GoodIn wsX9_follows wsX9_isIn := goodIn_r _ [11] (by decide +kernel) (by decide +kernel)
set_option maxRecDepth 20000 in
theorem gX9_follows_X9_isIn : GoodIn wsX9_follows (va_wsS RX9 76 yX9_isIn wsX9_isIn) := goodIn_app (goodIn_of _ (by decide +kernel)) ggX9_follows_X9_isIn
theorem dX9_follows_0 : decode cX9_follows 0 = .ok (.aload_n 0, 1) := by decide +kernel
theorem dX9_follows_1 : decode cX9_follows 1 = .ok (.invokevirtual 200, 3) := by decide +kernel
theorem dX9_follows_4 : decode cX9_follows 4 = .ok (.bipush 48, 2) := by decide +kernel
theorem dX9_follows_6 : decode cX9_follows 6 = .ok (.isub, 1) := by decide +kernel
theorem dX9_follows_7 : decode cX9_follows 7 = .ok (.istore_n 2, 1) := by decide +kernel
theorem dX9_follows_8 : decode cX9_follows 8 = .ok (.iload_n 2, 1) := by decide +kernel
theorem dX9_follows_9 : decode cX9_follows 9 = .ok (.iconst 1, 1) := by decide +kernel
theorem dX9_follows_10 : decode cX9_follows 10 = .ok (.iload_n 1, 1) := by decide +kernel
theorem dX9_follows_11 : decode cX9_follows 11 = .ok (.invokestatic 76, 3) := by decide +kernel
theorem dX9_follows_14 : decode cX9_follows 14 = .ok (.ifCond .ne 5, 3) := by decide +kernel
theorem dX9_follows_17 : decode cX9_follows 17 = .ok (.iconst 0, 1) := by decide +kernel
theorem dX9_follows_18 : decode cX9_follows 18 = .ok (.ireturn, 1) := by decide +kernel
theorem dX9_follows_19 : decode cX9_follows 19 = .ok (.aload_n 0, 1) := by decide +kernel
theorem dX9_follows_20 : decode cX9_follows 20 = .ok (.dup, 1) := by decide +kernel
theorem dX9_follows_21 : decode cX9_follows 21 = .ok (.getfield 194, 3) := by decide +kernel
theorem dX9_follows_24 : decode cX9_follows 24 = .ok (.iconst 1, 1) := by decide +kernel
theorem dX9_follows_25 : decode cX9_follows 25 = .ok (.iadd, 1) := by decide +kernel
theorem dX9_follows_26 : decode cX9_follows 26 = .ok (.putfield 194, 3) := by decide +kernel
theorem dX9_follows_29 : decode cX9_follows 29 = .ok (.iload_n 2, 1) := by decide +kernel
theorem dX9_follows_30 : decode cX9_follows 30 = .ok (.ireturn, 1) := by decide +kernel
set_option maxRecDepth 20000 in
theorem ggX9_isElement_X9_here : GoodIn wsX9_isElement wsX9_here := goodIn_ca (goodIn_r _ [6, 1, 7, 8, 25, 26, 27, 28, 29, 30, 31, 32, 33, 34, 35, 36, 37, 38, 39, 40, 41, 42, 43, 44, 45, 46] (by decide +kernel) (by decide +kernel)) (goodIn_sub (fun _ h => List.mem_cons_of_mem _ (List.mem_append_right _ h)) (by decide +kernel))
set_option maxRecDepth 20000 in
theorem gX9_isElement_X9_here : GoodIn wsX9_isElement (wsV RX9 200 RX9 yX9_here wsX9_here) := goodIn_app (goodIn_of _ (by decide +kernel)) ggX9_isElement_X9_here
set_option maxRecDepth 20000 in
theorem ggX9_isElement_X9_element : GoodIn wsX9_isElement wsX9_element := goodIn_ca (goodIn_r _ [12, 13, 14, 25, 26, 27, 28, 29, 30, 31, 32, 33, 34, 35, 36, 37, 38, 39, 40, 41, 42, 43, 44, 45, 46] (by decide +kernel) (by decide +kernel)) (goodIn_sub (fun _ h => List.mem_cons_of_mem _ (List.mem_append_right _ h)) (by decide +kernel))
set_option maxRecDepth 20000 in
theorem gX9_isElement_X9_element : GoodIn wsX9_isElement (wsV RX9 203 RX9 yX9_element wsX9_element) := goodIn_app (goodIn_of _ (by decide +kernel)) ggX9_isElement_X9_element
set_option maxRecDepth 20000 in
theorem ggX9_isElement_X9_follows : GoodIn wsX9_isElement wsX9_follows := goodIn_ca (goodIn_r _ [18, 1, 2, 3, 4, 5, 6, 7, 8, 19, 20, 21, 25, 26, 27, 28, 29, 30, 31, 32, 33, 34, 35, 36, 37, 38, 39, 40, 41, 42, 43, 44, 45, 46] (by decide +kernel) (by decide +kernel)) (goodIn_sub (fun _ h => List.mem_cons_of_mem _ (List.mem_append_right _ h)) (by decide +kernel))
set_option maxRecDepth 20000 in
theorem gX9_isElement_X9_follows : GoodIn wsX9_isElement (wsV RX9 207 RX9 yX9_follows wsX9_follows) := goodIn_app (goodIn_of _ (by decide +kernel)) ggX9_isElement_X9_follows
set_option maxRecDepth 20000 in
theorem ggX9_isElement_X9_bit : GoodIn wsX9_isElement wsX9_bit := goodIn_r _ [24] (by decide +kernel) (by decide +kernel)
set_option maxRecDepth 20000 in
theorem gX9_isElement_X9_bit : GoodIn wsX9_isElement (va_wsS RX9 187 yX9_bit wsX9_bit) := goodIn_app (goodIn_of _ (by decide +kernel)) ggX9_isElement_X9_bit
set_option maxRecDepth 20000 in
theorem ggX9_isElement_X9_isIn : GoodIn wsX9_isElement wsX9_isIn := goodIn_r _ [21] (by decide +kernel) (by decide +kernel)
set_option maxRecDepth 20000 in
theorem gX9_isElement_X9_isIn : GoodIn wsX9_isElement (va_wsS RX9 76 yX9_isIn wsX9_isIn) := goodIn_app (goodIn_of _ (by decide +kernel)) ggX9_isElement_X9_isIn
theorem dX9_isElement_0 : decode cX9_isElement 0 = .ok (.aload_n 0, 1) := by decide +kernel
theorem dX9_isElement_1 : decode cX9_isElement 1 = .ok (.invokevirtual 200, 3) := by decide +kernel
theorem dX9_isElement_4 : decode cX9_isElement 4 = .ok (.istore_n 1, 1) := by decide +kernel
theorem dX9_isElement_5 : decode cX9_isElement 5 = .ok (.aload_n 0, 1) := by decide +kernel
theorem dX9_isElement_6 : decode cX9_isElement 6 = .ok (.dup, 1) := by decide +kernel
theorem dX9_isElement_7 : decode cX9_isElement 7 = .ok (.getfield 194, 3) := by decide +kernel
theorem dX9_isElement_10 : decode cX9_isElement 10 = .ok (.iconst 1, 1) := by decide +kernel
theorem dX9_isElement_11 : decode cX9_isElement 11 = .ok (.iadd, 1) := by decide +kernel
theorem dX9_isElement_12 : decode cX9_isElement 12 = .ok (.putfield 194, 3) := by decide +kernel
theorem dX9_isElement_15 : decode cX9_isElement 15 = .ok (.iload_n 1, 1) := by decide +kernel
theorem dX9_isElement_16 : decode cX9_isElement 16 = .ok (.lookupswitch 273 #[(46, 92), (64, 225), (67, 185), (76, 185), (82, 185), (87, 185), (98, 151), (108, 151), (110, 116), (119, 102)], 92) := by decide +kernel
theorem dX9_isElement_108 : decode cX9_isElement 108 = .ok (.aload_n 0, 1) := by decide +kernel
theorem dX9_isElement_109 : decode cX9_isElement 109 = .ok (.iconst 1, 1) := by decide +kernel
theorem dX9_isElement_110 : decode cX9_isElement 110 = .ok (.iconst 0, 1) := by decide +kernel
theorem dX9_isElement_111 : decode cX9_isElement 111 = .ok (.iconst 0, 1) := by decide +kernel
theorem dX9_isElement_112 : decode cX9_isElement 112 = .ok (.iconst 0, 1) := by decide +kernel
theorem dX9_isElement_113 : decode cX9_isElement 113 = .ok (.invokevirtual 203, 3) := by decide +kernel
theorem dX9_isElement_116 : decode cX9_isElement 116 = .ok (.iconst 1, 1) := by decide +kernel
theorem dX9_isElement_117 : decode cX9_isElement 117 = .ok (.ireturn, 1) := by decide +kernel
theorem dX9_isElement_118 : decode cX9_isElement 118 = .ok (.aload_n 0, 1) := by decide +kernel
theorem dX9_isElement_119 : decode cX9_isElement 119 = .ok (.iconst 1, 1) := by decide +kernel
theorem dX9_isElement_120 : decode cX9_isElement 120 = .ok (.iconst 1, 1) := by decide +kernel
theorem dX9_isElement_121 : decode cX9_isElement 121 = .ok (.aload_n 0, 1) := by decide +kernel
theorem dX9_isElement_122 : decode cX9_isElement 122 = .ok (.iconst 4, 1) := by decide +kernel
theorem dX9_isElement_123 : decode cX9_isElement 123 = .ok (.invokevirtual 207, 3) := by decide +kernel
theorem dX9_isElement_126 : decode cX9_isElement 126 = .ok (.iconst 0, 1) := by decide +kernel
theorem dX9_isElement_127 : decode cX9_isElement 127 = .ok (.invokevirtual 203, 3) := by decide +kernel
theorem dX9_isElement_130 : decode cX9_isElement 130 = .ok (.iconst 1, 1) := by decide +kernel
theorem dX9_isElement_131 : decode cX9_isElement 131 = .ok (.ireturn, 1) := by decide +kernel
theorem dX9_isElement_132 : decode cX9_isElement 132 = .ok (.aload_n 0, 1) := by decide +kernel
theorem dX9_isElement_133 : decode cX9_isElement 133 = .ok (.bipush 6, 2) := by decide +kernel
theorem dX9_isElement_135 : decode cX9_isElement 135 = .ok (.invokevirtual 207, 3) := by decide +kernel
theorem dX9_isElement_138 : decode cX9_isElement 138 = .ok (.istore_n 2, 1) := by decide +kernel
theorem dX9_isElement_139 : decode cX9_isElement 139 = .ok (.aload_n 0, 1) := by decide +kernel
theorem dX9_isElement_140 : decode cX9_isElement 140 = .ok (.iconst 1, 1) := by decide +kernel
theorem dX9_isElement_141 : decode cX9_isElement 141 = .ok (.iconst 2, 1) := by decide +kernel
theorem dX9_isElement_142 : decode cX9_isElement 142 = .ok (.iload_n 2, 1) := by decide +kernel
theorem dX9_isElement_143 : decode cX9_isElement 143 = .ok (.iload_n 2, 1) := by decide +kernel
theorem dX9_isElement_144 : decode cX9_isElement 144 = .ok (.iconst 4, 1) := by decide +kernel
theorem dX9_isElement_145 : decode cX9_isElement 145 = .ok (.if_icmp .eq 9, 3) := by decide +kernel
theorem dX9_isElement_148 : decode cX9_isElement 148 = .ok (.iload_n 2, 1) := by decide +kernel
theorem dX9_isElement_149 : decode cX9_isElement 149 = .ok (.bipush 6, 2) := by decide +kernel
theorem dX9_isElement_151 : decode cX9_isElement 151 = .ok (.if_icmp .ne 7, 3) := by decide +kernel
theorem dX9_isElement_154 : decode cX9_isElement 154 = .ok (.iconst 1, 1) := by decide +kernel
theorem dX9_isElement_155 : decode cX9_isElement 155 = .ok (.goto 4, 3) := by decide +kernel
theorem dX9_isElement_158 : decode cX9_isElement 158 = .ok (.iconst 0, 1) := by decide +kernel
theorem dX9_isElement_159 : decode cX9_isElement 159 = .ok (.invokestatic 187, 3) := by decide +kernel
theorem dX9_isElement_162 : decode cX9_isElement 162 = .ok (.invokevirtual 203, 3) := by decide +kernel
theorem dX9_isElement_165 : decode cX9_isElement 165 = .ok (.iconst 1, 1) := by decide +kernel
theorem dX9_isElement_166 : decode cX9_isElement 166 = .ok (.ireturn, 1) := by decide +kernel
theorem dX9_isElement_167 : decode cX9_isElement 167 = .ok (.aload_n 0, 1) := by decide +kernel
theorem dX9_isElement_168 : decode cX9_isElement 168 = .ok (.iconst 4, 1) := by decide +kernel
theorem dX9_isElement_169 : decode cX9_isElement 169 = .ok (.invokevirtual 207, 3) := by decide +kernel
theorem dX9_isElement_172 : decode cX9_isElement 172 = .ok (.istore_n 2, 1) := by decide +kernel
theorem dX9_isElement_173 : decode cX9_isElement 173 = .ok (.aload_n 0, 1) := by decide +kernel
theorem dX9_isElement_174 : decode cX9_isElement 174 = .ok (.iconst 1, 1) := by decide +kernel
theorem dX9_isElement_175 : decode cX9_isElement 175 = .ok (.iload_n 1, 1) := by decide +kernel
theorem dX9_isElement_176 : decode cX9_isElement 176 = .ok (.bipush 98, 2) := by decide +kernel
theorem dX9_isElement_178 : decode cX9_isElement 178 = .ok (.if_icmp .ne 7, 3) := by decide +kernel
theorem dX9_isElement_181 : decode cX9_isElement 181 = .ok (.iconst 3, 1) := by decide +kernel
theorem dX9_isElement_182 : decode cX9_isElement 182 = .ok (.goto 4, 3) := by decide +kernel
theorem dX9_isElement_185 : decode cX9_isElement 185 = .ok (.iconst 4, 1) := by decide +kernel
theorem dX9_isElement_186 : decode cX9_isElement 186 = .ok (.iload_n 2, 1) := by decide +kernel
theorem dX9_isElement_187 : decode cX9_isElement 187 = .ok (.iconst 0, 1) := by decide +kernel
theorem dX9_isElement_188 : decode cX9_isElement 188 = .ok (.invokevirtual 203, 3) := by decide +kernel
theorem dX9_isElement_191 : decode cX9_isElement 191 = .ok (.iload_n 2, 1) := by decide +kernel
theorem dX9_isElement_192 : decode cX9_isElement 192 = .ok (.ifCond .le 7, 3) := by decide +kernel
theorem dX9_isElement_195 : decode cX9_isElement 195 = .ok (.iconst 1, 1) := by decide +kernel
theorem dX9_isElement_196 : decode cX9_isElement 196 = .ok (.goto 4, 3) := by decide +kernel
theorem dX9_isElement_199 : decode cX9_isElement 199 = .ok (.iconst 0, 1) := by decide +kernel
theorem dX9_isElement_200 : decode cX9_isElement 200 = .ok (.ireturn, 1) := by decide +kernel
theorem dX9_isElement_201 : decode cX9_isElement 201 = .ok (.aload_n 0, 1) := by decide +kernel
theorem dX9_isElement_202 : decode cX9_isElement 202 = .ok (.iconst 2, 1) := by decide +kernel
theorem dX9_isElement_203 : decode cX9_isElement 203 = .ok (.iload_n 1, 1) := by decide +kernel
theorem dX9_isElement_204 : decode cX9_isElement 204 = .ok (.bipush 87, 2) := by decide +kernel
theorem dX9_isElement_206 : decode cX9_isElement 206 = .ok (.if_icmp .ne 7, 3) := by decide +kernel
theorem dX9_isElement_209 : decode cX9_isElement 209 = .ok (.iconst 0, 1) := by decide +kernel
theorem dX9_isElement_210 : decode cX9_isElement 210 = .ok (.goto 24, 3) := by decide +kernel
theorem dX9_isElement_213 : decode cX9_isElement 213 = .ok (.iload_n 1, 1) := by decide +kernel
theorem dX9_isElement_214 : decode cX9_isElement 214 = .ok (.bipush 67, 2) := by decide +kernel
theorem dX9_isElement_216 : decode cX9_isElement 216 = .ok (.if_icmp .ne 7, 3) := by decide +kernel
theorem dX9_isElement_219 : decode cX9_isElement 219 = .ok (.iconst 1, 1) := by decide +kernel
theorem dX9_isElement_220 : decode cX9_isElement 220 = .ok (.goto 14, 3) := by decide +kernel
theorem dX9_isElement_223 : decode cX9_isElement 223 = .ok (.iload_n 1, 1) := by decide +kernel
theorem dX9_isElement_224 : decode cX9_isElement 224 = .ok (.bipush 76, 2) := by decide +kernel
theorem dX9_isElement_226 : decode cX9_isElement 226 = .ok (.if_icmp .ne 7, 3) := by decide +kernel
theorem dX9_isElement_229 : decode cX9_isElement 229 = .ok (.iconst 2, 1) := by decide +kernel
theorem dX9_isElement_230 : decode cX9_isElement 230 = .ok (.goto 4, 3) := by decide +kernel
theorem dX9_isElement_233 : decode cX9_isElement 233 = .ok (.iconst 5, 1) := by decide +kernel
theorem dX9_isElement_234 : decode cX9_isElement 234 = .ok (.iconst 0, 1) := by decide +kernel
theorem dX9_isElement_235 : decode cX9_isElement 235 = .ok (.iconst 0, 1) := by decide +kernel
theorem dX9_isElement_236 : decode cX9_isElement 236 = .ok (.invokevirtual 203, 3) := by decide +kernel
theorem dX9_isElement_239 : decode cX9_isElement 239 = .ok (.iconst 1, 1) := by decide +kernel
theorem dX9_isElement_240 : decode cX9_isElement 240 = .ok (.ireturn, 1) := by decide +kernel
theorem dX9_isElement_241 : decode cX9_isElement 241 = .ok (.aload_n 0, 1) := by decide +kernel
theorem dX9_isElement_242 : decode cX9_isElement 242 = .ok (.invokevirtual 200, 3) := by decide +kernel
theorem dX9_isElement_245 : decode cX9_isElement 245 = .ok (.bipush 97, 2) := by decide +kernel
theorem dX9_isElement_247 : decode cX9_isElement 247 = .ok (.isub, 1) := by decide +kernel
theorem dX9_isElement_248 : decode cX9_isElement 248 = .ok (.istore_n 2, 1) := by decide +kernel
theorem dX9_isElement_249 : decode cX9_isElement 249 = .ok (.aload_n 0, 1) := by decide +kernel
theorem dX9_isElement_250 : decode cX9_isElement 250 = .ok (.iconst 0, 1) := by decide +kernel
theorem dX9_isElement_251 : decode cX9_isElement 251 = .ok (.iload_n 2, 1) := by decide +kernel
theorem dX9_isElement_252 : decode cX9_isElement 252 = .ok (.iconst 0, 1) := by decide +kernel
theorem dX9_isElement_253 : decode cX9_isElement 253 = .ok (.iconst 0, 1) := by decide +kernel
theorem dX9_isElement_254 : decode cX9_isElement 254 = .ok (.invokevirtual 203, 3) := by decide +kernel
theorem dX9_isElement_257 : decode cX9_isElement 257 = .ok (.aload_n 0, 1) := by decide +kernel
theorem dX9_isElement_258 : decode cX9_isElement 258 = .ok (.dup, 1) := by decide +kernel
theorem dX9_isElement_259 : decode cX9_isElement 259 = .ok (.getfield 194, 3) := by decide +kernel
theorem dX9_isElement_262 : decode cX9_isElement 262 = .ok (.iload_n 2, 1) := by decide +kernel
theorem dX9_isElement_263 : decode cX9_isElement 263 = .ok (.iconst 0, 1) := by decide +kernel
theorem dX9_isElement_264 : decode cX9_isElement 264 = .ok (.bipush 10, 2) := by decide +kernel
theorem dX9_isElement_266 : decode cX9_isElement 266 = .ok (.invokestatic 76, 3) := by decide +kernel
theorem dX9_isElement_269 : decode cX9_isElement 269 = .ok (.ifCond .eq 7, 3) := by decide +kernel
theorem dX9_isElement_272 : decode cX9_isElement 272 = .ok (.iconst 1, 1) := by decide +kernel
theorem dX9_isElement_273 : decode cX9_isElement 273 = .ok (.goto 4, 3) := by decide +kernel
theorem dX9_isElement_276 : decode cX9_isElement 276 = .ok (.iconst 0, 1) := by decide +kernel
theorem dX9_isElement_277 : decode cX9_isElement 277 = .ok (.iadd, 1) := by decide +kernel
theorem dX9_isElement_278 : decode cX9_isElement 278 = .ok (.putfield 194, 3) := by decide +kernel
theorem dX9_isElement_281 : decode cX9_isElement 281 = .ok (.iload_n 2, 1) := by decide +kernel
theorem dX9_isElement_282 : decode cX9_isElement 282 = .ok (.iconst 0, 1) := by decide +kernel
theorem dX9_isElement_283 : decode cX9_isElement 283 = .ok (.bipush 10, 2) := by decide +kernel
theorem dX9_isElement_285 : decode cX9_isElement 285 = .ok (.invokestatic 76, 3) := by decide +kernel
theorem dX9_isElement_288 : decode cX9_isElement 288 = .ok (.ireturn, 1) := by decide +kernel
theorem dX9_isElement_289 : decode cX9_isElement 289 = .ok (.iload_n 1, 1) := by decide +kernel
theorem dX9_isElement_290 : decode cX9_isElement 290 = .ok (.bipush 48, 2) := by decide +kernel
theorem dX9_isElement_292 : decode cX9_isElement 292 = .ok (.isub, 1) := by decide +kernel
theorem dX9_isElement_293 : decode cX9_isElement 293 = .ok (.istore_n 2, 1) := by decide +kernel
theorem dX9_isElement_294 : decode cX9_isElement 294 = .ok (.aload_n 0, 1) := by decide +kernel
theorem dX9_isElement_295 : decode cX9_isElement 295 = .ok (.iconst 1, 1) := by decide +kernel
theorem dX9_isElement_296 : decode cX9_isElement 296 = .ok (.iconst 0, 1) := by decide +kernel
theorem dX9_isElement_297 : decode cX9_isElement 297 = .ok (.iload_n 2, 1) := by decide +kernel
theorem dX9_isElement_298 : decode cX9_isElement 298 = .ok (.iload_n 2, 1) := by decide +kernel
theorem dX9_isElement_299 : decode cX9_isElement 299 = .ok (.iconst 4, 1) := by decide +kernel
theorem dX9_isElement_300 : decode cX9_isElement 300 = .ok (.if_icmp .eq 9, 3) := by decide +kernel
theorem dX9_isElement_303 : decode cX9_isElement 303 = .ok (.iload_n 2, 1) := by decide +kernel
theorem dX9_isElement_304 : decode cX9_isElement 304 = .ok (.bipush 6, 2) := by decide +kernel
theorem dX9_isElement_306 : decode cX9_isElement 306 = .ok (.if_icmp .ne 7, 3) := by decide +kernel
theorem dX9_isElement_309 : decode cX9_isElement 309 = .ok (.iconst 1, 1) := by decide +kernel
theorem dX9_isElement_310 : decode cX9_isElement 310 = .ok (.goto 4, 3) := by decide +kernel
theorem dX9_isElement_313 : decode cX9_isElement 313 = .ok (.iconst 0, 1) := by decide +kernel
theorem dX9_isElement_314 : decode cX9_isElement 314 = .ok (.invokestatic 187, 3) := by decide +kernel
theorem dX9_isElement_317 : decode cX9_isElement 317 = .ok (.invokevirtual 203, 3) := by decide +kernel
theorem dX9_isElement_320 : decode cX9_isElement 320 = .ok (.aload_n 0, 1) := by decide +kernel
theorem dX9_isElement_321 : decode cX9_isElement 321 = .ok (.dup, 1) := by decide +kernel
theorem dX9_isElement_322 : decode cX9_isElement 322 = .ok (.getfield 194, 3) := by decide +kernel
theorem dX9_isElement_325 : decode cX9_isElement 325 = .ok (.iload_n 2, 1) := by decide +kernel
theorem dX9_isElement_326 : decode cX9_isElement 326 = .ok (.iconst 1, 1) := by decide +kernel
theorem dX9_isElement_327 : decode cX9_isElement 327 = .ok (.bipush 6, 2) := by decide +kernel
theorem dX9_isElement_329 : decode cX9_isElement 329 = .ok (.invokestatic 76, 3) := by decide +kernel
theorem dX9_isElement_332 : decode cX9_isElement 332 = .ok (.ifCond .eq 7, 3) := by decide +kernel
theorem dX9_isElement_335 : decode cX9_isElement 335 = .ok (.iconst 0, 1) := by decide +kernel
theorem dX9_isElement_336 : decode cX9_isElement 336 = .ok (.goto 4, 3) := by decide +kernel
theorem dX9_isElement_339 : decode cX9_isElement 339 = .ok (.iconst 1, 1) := by decide +kernel
theorem dX9_isElement_340 : decode cX9_isElement 340 = .ok (.isub, 1) := by decide +kernel
theorem dX9_isElement_341 : decode cX9_isElement 341 = .ok (.putfield 194, 3) := by decide +kernel
theorem dX9_isElement_344 : decode cX9_isElement 344 = .ok (.iload_n 2, 1) := by decide +kernel
theorem dX9_isElement_345 : decode cX9_isElement 345 = .ok (.iconst 1, 1) := by decide +kernel
theorem dX9_isElement_346 : decode cX9_isElement 346 = .ok (.bipush 6, 2) := by decide +kernel
theorem dX9_isElement_348 : decode cX9_isElement 348 = .ok (.invokestatic 76, 3) := by decide +kernel
theorem dX9_isElement_351 : decode cX9_isElement 351 = .ok (.ireturn, 1) := by decide +kernel
set_option maxRecDepth 20000 in
theorem ggX9_play_X9_isElement : GoodIn wsX9_play wsX9_isElement := goodIn_ca (goodIn_r _ [16, 3, 17, 18, 19, 15, 20, 4, 21, 22, 23, 24, 25, 8, 2, 26, 27, 28, 29, 30, 31, 32, 33, 34, 35, 160, 161, 162, 163, 164, 165, 166, 167, 168, 169, 170, 171, 172, 173, 174, 175, 176, 177, 178, 179, 180, 181] (by decide +kernel) (by decide +kernel)) (goodIn_sub (fun _ h => List.mem_cons_of_mem _ (List.mem_append_left _ (List.mem_append_right _ h))) (by decide +kernel))
set_option maxRecDepth 20000 in
theorem gX9_play_X9_isElement : GoodIn wsX9_play (wsV RX9 210 RX9 yX9_isElement wsX9_isElement) := goodIn_app (goodIn_of _ (by decide +kernel)) ggX9_play_X9_isElement
set_option maxRecDepth 20000 in
theorem ggX9_play_X9_no : GoodIn wsX9_play wsX9_no := goodIn_r _ [39, 1, 160, 161, 162, 163, 164, 165, 166, 167, 168, 169, 170, 171, 172, 173, 174, 175, 176, 177, 178, 179, 180, 181] (by decide +kernel) (by decide +kernel)
set_option maxRecDepth 20000 in
theorem gX9_play_X9_no : GoodIn wsX9_play (wsV RX9 169 RX9 yX9_no wsX9_no) := goodIn_app (goodIn_of _ (by decide +kernel)) ggX9_play_X9_no
set_option maxRecDepth 20000 in
theorem ggX9_play_X9_copies : GoodIn wsX9_play wsX9_copies := goodIn_ca (goodIn_r _ [42] (by decide +kernel) (by decide +kernel)) (goodIn_sub (fun _ h => List.mem_cons_of_mem _ (List.mem_append_left _ (List.mem_append_right _ h))) (by decide +kernel))
set_option maxRecDepth 20000 in
theorem gX9_play_X9_copies : GoodIn wsX9_play (va_wsS RX9 214 yX9_copies wsX9_copies) := goodIn_app (goodIn_of _ (by decide +kernel)) ggX9_play_X9_copies
set_option maxRecDepth 20000 in
theorem ggX9_play_X9_refuses : GoodIn wsX9_play wsX9_refuses := goodIn_ca (goodIn_r _ [46, 6, 47, 48, 49, 15, 50, 51, 52, 53, 54, 55, 56, 57, 58, 59, 60, 61, 62, 63, 64, 65, 66, 67, 68, 69, 70, 71, 72, 73, 74, 75, 76, 77, 78, 79, 80, 81, 82, 160, 161, 162, 163, 164, 165, 166, 167, 168, 169, 170, 171, 172, 173, 174, 175, 176, 177, 178, 179, 180, 181] (by decide +kernel) (by decide +kernel)) (goodIn_sub (fun _ h => List.mem_cons_of_mem _ (List.mem_append_left _ (List.mem_append_right _ h))) (by decide +kernel))
set_option maxRecDepth 20000 in
theorem gX9_play_X9_refuses : GoodIn wsX9_play (wsV RX9 162 RX9 yX9_refuses wsX9_refuses) := goodIn_app (goodIn_of _ (by decide +kernel)) ggX9_play_X9_refuses
set_option maxRecDepth 20000 in
theorem ggX9_play_X9_does : GoodIn wsX9_play wsX9_does := goodIn_ca (goodIn_ca (goodIn_r _ [86, 6, 87, 55, 56, 15, 57, 88, 89, 90, 91, 92, 93, 94, 95, 80, 81, 82, 73, 74, 75, 96, 97, 98, 99, 100, 101, 102, 103, 104, 105, 106, 107, 108, 109, 110, 111, 112, 113, 114, 115, 116, 117, 118, 119, 120, 121, 122, 123, 124, 125, 126, 127, 128, 129, 130, 131, 132, 133, 134, 135, 136, 137, 138, 139, 140, 141, 142, 143, 144, 145, 146, 147, 148, 149, 150, 151, 152, 160, 161, 162, 163, 164, 165, 166, 167, 168, 169, 170, 171, 172, 173, 174, 175, 176, 177, 178, 179, 180, 181] (by decide +kernel) (by decide +kernel)) (goodIn_sub (fun _ h => List.mem_cons_of_mem _ (List.mem_append_left _ (List.mem_append_right _ h))) (by decide +kernel))) (goodIn_sub (fun _ h => List.mem_cons_of_mem _ (List.mem_append_right _ h)) (by decide +kernel))
set_option maxRecDepth 20000 in
theorem gX9_play_X9_does : GoodIn wsX9_play (wsV RX9 176 RX9 yX9_does wsX9_does) := goodIn_app (goodIn_of _ (by decide +kernel)) ggX9_play_X9_does
set_option maxRecDepth 20000 in
theorem ggX9_play_X9_keeps : GoodIn wsX9_play wsX9_keeps := goodIn_ca (goodIn_r _ [156, 157, 158, 159, 160, 161, 162, 163, 164, 165, 166, 167, 168, 169, 170, 171, 172, 173, 174, 175, 176, 177, 178, 179, 180, 181] (by decide +kernel) (by decide +kernel)) (goodIn_sub (fun _ h => List.mem_cons_of_mem _ (List.mem_append_left _ (List.mem_append_right _ h))) (by decide +kernel))
set_option maxRecDepth 20000 in
theorem gX9_play_X9_keeps : GoodIn wsX9_play (wsV RX9 172 RX9 yX9_keeps wsX9_keeps) := goodIn_app (goodIn_of _ (by decide +kernel)) ggX9_play_X9_keeps
theorem dX9_play_0 : decode cX9_play 0 = .ok (.aload_n 0, 1) := by decide +kernel
theorem dX9_play_1 : decode cX9_play 1 = .ok (.iconst 0, 1) := by decide +kernel
theorem dX9_play_2 : decode cX9_play 2 = .ok (.putfield 55, 3) := by decide +kernel
theorem dX9_play_5 : decode cX9_play 5 = .ok (.aload_n 0, 1) := by decide +kernel
theorem dX9_play_6 : decode cX9_play 6 = .ok (.iconst 0, 1) := by decide +kernel
theorem dX9_play_7 : decode cX9_play 7 = .ok (.putfield 197, 3) := by decide +kernel
theorem dX9_play_10 : decode cX9_play 10 = .ok (.aload_n 0, 1) := by decide +kernel
theorem dX9_play_11 : decode cX9_play 11 = .ok (.iconst 0, 1) := by decide +kernel
theorem dX9_play_12 : decode cX9_play 12 = .ok (.putfield 194, 3) := by decide +kernel
theorem dX9_play_15 : decode cX9_play 15 = .ok (.aload_n 0, 1) := by decide +kernel
theorem dX9_play_16 : decode cX9_play 16 = .ok (.getfield 191, 3) := by decide +kernel
theorem dX9_play_19 : decode cX9_play 19 = .ok (.ifCond .le 7, 3) := by decide +kernel
theorem dX9_play_22 : decode cX9_play 22 = .ok (.iconst 1, 1) := by decide +kernel
theorem dX9_play_23 : decode cX9_play 23 = .ok (.goto 4, 3) := by decide +kernel
theorem dX9_play_26 : decode cX9_play 26 = .ok (.iconst 0, 1) := by decide +kernel
theorem dX9_play_27 : decode cX9_play 27 = .ok (.istore_n 1, 1) := by decide +kernel
theorem dX9_play_28 : decode cX9_play 28 = .ok (.iload_n 1, 1) := by decide +kernel
theorem dX9_play_29 : decode cX9_play 29 = .ok (.ifCond .eq 22, 3) := by decide +kernel
theorem dX9_play_32 : decode cX9_play 32 = .ok (.aload_n 0, 1) := by decide +kernel
theorem dX9_play_33 : decode cX9_play 33 = .ok (.getfield 194, 3) := by decide +kernel
theorem dX9_play_36 : decode cX9_play 36 = .ok (.aload_n 0, 1) := by decide +kernel
theorem dX9_play_37 : decode cX9_play 37 = .ok (.getfield 191, 3) := by decide +kernel
theorem dX9_play_40 : decode cX9_play 40 = .ok (.if_icmp .ge 11, 3) := by decide +kernel
theorem dX9_play_43 : decode cX9_play 43 = .ok (.aload_n 0, 1) := by decide +kernel
theorem dX9_play_44 : decode cX9_play 44 = .ok (.invokevirtual 210, 3) := by decide +kernel
theorem dX9_play_47 : decode cX9_play 47 = .ok (.istore_n 1, 1) := by decide +kernel
theorem dX9_play_48 : decode cX9_play 48 = .ok (.goto (-20), 3) := by decide +kernel
theorem dX9_play_51 : decode cX9_play 51 = .ok (.aload_n 0, 1) := by decide +kernel
theorem dX9_play_52 : decode cX9_play 52 = .ok (.iconst 0, 1) := by decide +kernel
theorem dX9_play_53 : decode cX9_play 53 = .ok (.putfield 191, 3) := by decide +kernel
theorem dX9_play_56 : decode cX9_play 56 = .ok (.iload_n 1, 1) := by decide +kernel
theorem dX9_play_57 : decode cX9_play 57 = .ok (.ifCond .ne 17, 3) := by decide +kernel
theorem dX9_play_60 : decode cX9_play 60 = .ok (.aload_n 0, 1) := by decide +kernel
theorem dX9_play_61 : decode cX9_play 61 = .ok (.aload_n 0, 1) := by decide +kernel
theorem dX9_play_62 : decode cX9_play 62 = .ok (.getfield 194, 3) := by decide +kernel
theorem dX9_play_65 : decode cX9_play 65 = .ok (.putfield 32, 3) := by decide +kernel
theorem dX9_play_68 : decode cX9_play 68 = .ok (.aload_n 0, 1) := by decide +kernel
theorem dX9_play_69 : decode cX9_play 69 = .ok (.iconst 1, 1) := by decide +kernel
theorem dX9_play_70 : decode cX9_play 70 = .ok (.invokevirtual 169, 3) := by decide +kernel
theorem dX9_play_73 : decode cX9_play 73 = .ok (.ireturn, 1) := by decide +kernel
theorem dX9_play_74 : decode cX9_play 74 = .ok (.aload_n 0, 1) := by decide +kernel
theorem dX9_play_75 : decode cX9_play 75 = .ok (.getfield 9, 3) := by decide +kernel
theorem dX9_play_78 : decode cX9_play 78 = .ok (.aload_n 0, 1) := by decide +kernel
theorem dX9_play_79 : decode cX9_play 79 = .ok (.getfield 16, 3) := by decide +kernel
theorem dX9_play_82 : decode cX9_play 82 = .ok (.sipush 6441, 3) := by decide +kernel
theorem dX9_play_85 : decode cX9_play 85 = .ok (.invokestatic 214, 3) := by decide +kernel
theorem dX9_play_88 : decode cX9_play 88 = .ok (.iconst 0, 1) := by decide +kernel
theorem dX9_play_89 : decode cX9_play 89 = .ok (.istore_n 2, 1) := by decide +kernel
theorem dX9_play_90 : decode cX9_play 90 = .ok (.iload_n 2, 1) := by decide +kernel
theorem dX9_play_91 : decode cX9_play 91 = .ok (.aload_n 0, 1) := by decide +kernel
theorem dX9_play_92 : decode cX9_play 92 = .ok (.getfield 197, 3) := by decide +kernel
theorem dX9_play_95 : decode cX9_play 95 = .ok (.if_icmp .ge 127, 3) := by decide +kernel
theorem dX9_play_98 : decode cX9_play 98 = .ok (.iconst 4, 1) := by decide +kernel
theorem dX9_play_99 : decode cX9_play 99 = .ok (.iload_n 2, 1) := by decide +kernel
theorem dX9_play_100 : decode cX9_play 100 = .ok (.imul, 1) := by decide +kernel
theorem dX9_play_101 : decode cX9_play 101 = .ok (.istore_n 3, 1) := by decide +kernel
theorem dX9_play_102 : decode cX9_play 102 = .ok (.aload_n 0, 1) := by decide +kernel
theorem dX9_play_103 : decode cX9_play 103 = .ok (.aload_n 0, 1) := by decide +kernel
theorem dX9_play_104 : decode cX9_play 104 = .ok (.getfield 39, 3) := by decide +kernel
theorem dX9_play_107 : decode cX9_play 107 = .ok (.iload_n 3, 1) := by decide +kernel
theorem dX9_play_108 : decode cX9_play 108 = .ok (.iaload, 1) := by decide +kernel
theorem dX9_play_109 : decode cX9_play 109 = .ok (.aload_n 0, 1) := by decide +kernel
theorem dX9_play_110 : decode cX9_play 110 = .ok (.getfield 39, 3) := by decide +kernel
theorem dX9_play_113 : decode cX9_play 113 = .ok (.iload_n 3, 1) := by decide +kernel
theorem dX9_play_114 : decode cX9_play 114 = .ok (.iconst 1, 1) := by decide +kernel
theorem dX9_play_115 : decode cX9_play 115 = .ok (.iadd, 1) := by decide +kernel
theorem dX9_play_116 : decode cX9_play 116 = .ok (.iaload, 1) := by decide +kernel
theorem dX9_play_117 : decode cX9_play 117 = .ok (.aload_n 0, 1) := by decide +kernel
theorem dX9_play_118 : decode cX9_play 118 = .ok (.getfield 39, 3) := by decide +kernel
theorem dX9_play_121 : decode cX9_play 121 = .ok (.iload_n 3, 1) := by decide +kernel
theorem dX9_play_122 : decode cX9_play 122 = .ok (.iconst 2, 1) := by decide +kernel
theorem dX9_play_123 : decode cX9_play 123 = .ok (.iadd, 1) := by decide +kernel
theorem dX9_play_124 : decode cX9_play 124 = .ok (.iaload, 1) := by decide +kernel
theorem dX9_play_125 : decode cX9_play 125 = .ok (.aload_n 0, 1) := by decide +kernel
theorem dX9_play_126 : decode cX9_play 126 = .ok (.getfield 39, 3) := by decide +kernel
theorem dX9_play_129 : decode cX9_play 129 = .ok (.iload_n 3, 1) := by decide +kernel
theorem dX9_play_130 : decode cX9_play 130 = .ok (.iconst 3, 1) := by decide +kernel
theorem dX9_play_131 : decode cX9_play 131 = .ok (.iadd, 1) := by decide +kernel
theorem dX9_play_132 : decode cX9_play 132 = .ok (.iaload, 1) := by decide +kernel
theorem dX9_play_133 : decode cX9_play 133 = .ok (.iconst 0, 1) := by decide +kernel
theorem dX9_play_134 : decode cX9_play 134 = .ok (.iconst 0, 1) := by decide +kernel
theorem dX9_play_135 : decode cX9_play 135 = .ok (.invokevirtual 162, 3) := by decide +kernel
theorem dX9_play_138 : decode cX9_play 138 = .ok (.istore 4, 2) := by decide +kernel
theorem dX9_play_140 : decode cX9_play 140 = .ok (.iload 4, 2) := by decide +kernel
theorem dX9_play_142 : decode cX9_play 142 = .ok (.ifCond .le 34, 3) := by decide +kernel
theorem dX9_play_145 : decode cX9_play 145 = .ok (.aload_n 0, 1) := by decide +kernel
theorem dX9_play_146 : decode cX9_play 146 = .ok (.iload 4, 2) := by decide +kernel
theorem dX9_play_148 : decode cX9_play 148 = .ok (.putfield 166, 3) := by decide +kernel
theorem dX9_play_151 : decode cX9_play 151 = .ok (.aload_n 0, 1) := by decide +kernel
theorem dX9_play_152 : decode cX9_play 152 = .ok (.iload_n 2, 1) := by decide +kernel
theorem dX9_play_153 : decode cX9_play 153 = .ok (.putfield 36, 3) := by decide +kernel
theorem dX9_play_156 : decode cX9_play 156 = .ok (.aload_n 0, 1) := by decide +kernel
theorem dX9_play_157 : decode cX9_play 157 = .ok (.getfield 16, 3) := by decide +kernel
theorem dX9_play_160 : decode cX9_play 160 = .ok (.aload_n 0, 1) := by decide +kernel
theorem dX9_play_161 : decode cX9_play 161 = .ok (.getfield 9, 3) := by decide +kernel
theorem dX9_play_164 : decode cX9_play 164 = .ok (.sipush 6441, 3) := by decide +kernel
theorem dX9_play_167 : decode cX9_play 167 = .ok (.invokestatic 214, 3) := by decide +kernel
theorem dX9_play_170 : decode cX9_play 170 = .ok (.aload_n 0, 1) := by decide +kernel
theorem dX9_play_171 : decode cX9_play 171 = .ok (.iconst 2, 1) := by decide +kernel
theorem dX9_play_172 : decode cX9_play 172 = .ok (.invokevirtual 169, 3) := by decide +kernel
theorem dX9_play_175 : decode cX9_play 175 = .ok (.ireturn, 1) := by decide +kernel
theorem dX9_play_176 : decode cX9_play 176 = .ok (.aload_n 0, 1) := by decide +kernel
theorem dX9_play_177 : decode cX9_play 177 = .ok (.aload_n 0, 1) := by decide +kernel
theorem dX9_play_178 : decode cX9_play 178 = .ok (.aload_n 0, 1) := by decide +kernel
theorem dX9_play_179 : decode cX9_play 179 = .ok (.getfield 39, 3) := by decide +kernel
theorem dX9_play_182 : decode cX9_play 182 = .ok (.iload_n 3, 1) := by decide +kernel
theorem dX9_play_183 : decode cX9_play 183 = .ok (.iaload, 1) := by decide +kernel
theorem dX9_play_184 : decode cX9_play 184 = .ok (.aload_n 0, 1) := by decide +kernel
theorem dX9_play_185 : decode cX9_play 185 = .ok (.getfield 39, 3) := by decide +kernel
theorem dX9_play_188 : decode cX9_play 188 = .ok (.iload_n 3, 1) := by decide +kernel
theorem dX9_play_189 : decode cX9_play 189 = .ok (.iconst 1, 1) := by decide +kernel
theorem dX9_play_190 : decode cX9_play 190 = .ok (.iadd, 1) := by decide +kernel
theorem dX9_play_191 : decode cX9_play 191 = .ok (.iaload, 1) := by decide +kernel
theorem dX9_play_192 : decode cX9_play 192 = .ok (.aload_n 0, 1) := by decide +kernel
theorem dX9_play_193 : decode cX9_play 193 = .ok (.getfield 39, 3) := by decide +kernel
theorem dX9_play_196 : decode cX9_play 196 = .ok (.iload_n 3, 1) := by decide +kernel
theorem dX9_play_197 : decode cX9_play 197 = .ok (.iconst 2, 1) := by decide +kernel
theorem dX9_play_198 : decode cX9_play 198 = .ok (.iadd, 1) := by decide +kernel
theorem dX9_play_199 : decode cX9_play 199 = .ok (.iaload, 1) := by decide +kernel
theorem dX9_play_200 : decode cX9_play 200 = .ok (.aload_n 0, 1) := by decide +kernel
theorem dX9_play_201 : decode cX9_play 201 = .ok (.getfield 39, 3) := by decide +kernel
theorem dX9_play_204 : decode cX9_play 204 = .ok (.iload_n 3, 1) := by decide +kernel
theorem dX9_play_205 : decode cX9_play 205 = .ok (.iconst 3, 1) := by decide +kernel
theorem dX9_play_206 : decode cX9_play 206 = .ok (.iadd, 1) := by decide +kernel
theorem dX9_play_207 : decode cX9_play 207 = .ok (.iaload, 1) := by decide +kernel
theorem dX9_play_208 : decode cX9_play 208 = .ok (.iconst 0, 1) := by decide +kernel
theorem dX9_play_209 : decode cX9_play 209 = .ok (.iconst 0, 1) := by decide +kernel
theorem dX9_play_210 : decode cX9_play 210 = .ok (.invokevirtual 176, 3) := by decide +kernel
theorem dX9_play_213 : decode cX9_play 213 = .ok (.putfield 218, 3) := by decide +kernel
theorem dX9_play_216 : decode cX9_play 216 = .ok (.iinc 2 1, 3) := by decide +kernel
theorem dX9_play_219 : decode cX9_play 219 = .ok (.goto (-129), 3) := by decide +kernel
theorem dX9_play_222 : decode cX9_play 222 = .ok (.aload_n 0, 1) := by decide +kernel
theorem dX9_play_223 : decode cX9_play 223 = .ok (.aload_n 0, 1) := by decide +kernel
theorem dX9_play_224 : decode cX9_play 224 = .ok (.getfield 16, 3) := by decide +kernel
theorem dX9_play_227 : decode cX9_play 227 = .ok (.invokevirtual 172, 3) := by decide +kernel
theorem dX9_play_230 : decode cX9_play 230 = .ok (.aload_n 0, 1) := by decide +kernel
theorem dX9_play_231 : decode cX9_play 231 = .ok (.getfield 9, 3) := by decide +kernel
theorem dX9_play_234 : decode cX9_play 234 = .ok (.bipush 24, 2) := by decide +kernel
theorem dX9_play_236 : decode cX9_play 236 = .ok (.dup2, 1) := by decide +kernel
theorem dX9_play_237 : decode cX9_play 237 = .ok (.iaload, 1) := by decide +kernel
theorem dX9_play_238 : decode cX9_play 238 = .ok (.iconst 1, 1) := by decide +kernel
theorem dX9_play_239 : decode cX9_play 239 = .ok (.iadd, 1) := by decide +kernel
theorem dX9_play_240 : decode cX9_play 240 = .ok (.iastore, 1) := by decide +kernel
theorem dX9_play_241 : decode cX9_play 241 = .ok (.aload_n 0, 1) := by decide +kernel
theorem dX9_play_242 : decode cX9_play 242 = .ok (.getfield 197, 3) := by decide +kernel
theorem dX9_play_245 : decode cX9_play 245 = .ok (.ireturn, 1) := by decide +kernel
theorem dX9_errorPosition_0 : decode cX9_errorPosition 0 = .ok (.aload_n 0, 1) := by decide +kernel
theorem dX9_errorPosition_1 : decode cX9_errorPosition 1 = .ok (.aload_n 0, 1) := by decide +kernel
theorem dX9_errorPosition_2 : decode cX9_errorPosition 2 = .ok (.getfield 32, 3) := by decide +kernel
theorem dX9_errorPosition_5 : decode cX9_errorPosition 5 = .ok (.ifCond .ge 7, 3) := by decide +kernel
theorem dX9_errorPosition_8 : decode cX9_errorPosition 8 = .ok (.iconst 1, 1) := by decide +kernel
theorem dX9_errorPosition_9 : decode cX9_errorPosition 9 = .ok (.goto 4, 3) := by decide +kernel
theorem dX9_errorPosition_12 : decode cX9_errorPosition 12 = .ok (.iconst 0, 1) := by decide +kernel
theorem dX9_errorPosition_13 : decode cX9_errorPosition 13 = .ok (.putfield 55, 3) := by decide +kernel
theorem dX9_errorPosition_16 : decode cX9_errorPosition 16 = .ok (.aload_n 0, 1) := by decide +kernel
theorem dX9_errorPosition_17 : decode cX9_errorPosition 17 = .ok (.getfield 32, 3) := by decide +kernel
theorem dX9_errorPosition_20 : decode cX9_errorPosition 20 = .ok (.ifCond .ge 7, 3) := by decide +kernel
theorem dX9_errorPosition_23 : decode cX9_errorPosition 23 = .ok (.iconst 0, 1) := by decide +kernel
theorem dX9_errorPosition_24 : decode cX9_errorPosition 24 = .ok (.goto 7, 3) := by decide +kernel
theorem dX9_errorPosition_27 : decode cX9_errorPosition 27 = .ok (.aload_n 0, 1) := by decide +kernel
theorem dX9_errorPosition_28 : decode cX9_errorPosition 28 = .ok (.getfield 32, 3) := by decide +kernel
theorem dX9_errorPosition_31 : decode cX9_errorPosition 31 = .ok (.ireturn, 1) := by decide +kernel
theorem dX9_refused_0 : decode cX9_refused 0 = .ok (.aload_n 0, 1) := by decide +kernel
theorem dX9_refused_1 : decode cX9_refused 1 = .ok (.aload_n 0, 1) := by decide +kernel
theorem dX9_refused_2 : decode cX9_refused 2 = .ok (.getfield 36, 3) := by decide +kernel
theorem dX9_refused_5 : decode cX9_refused 5 = .ok (.ifCond .ge 7, 3) := by decide +kernel
theorem dX9_refused_8 : decode cX9_refused 8 = .ok (.iconst 1, 1) := by decide +kernel
theorem dX9_refused_9 : decode cX9_refused 9 = .ok (.goto 4, 3) := by decide +kernel
theorem dX9_refused_12 : decode cX9_refused 12 = .ok (.iconst 0, 1) := by decide +kernel
theorem dX9_refused_13 : decode cX9_refused 13 = .ok (.putfield 55, 3) := by decide +kernel
theorem dX9_refused_16 : decode cX9_refused 16 = .ok (.aload_n 0, 1) := by decide +kernel
theorem dX9_refused_17 : decode cX9_refused 17 = .ok (.getfield 36, 3) := by decide +kernel
theorem dX9_refused_20 : decode cX9_refused 20 = .ok (.ifCond .ge 7, 3) := by decide +kernel
theorem dX9_refused_23 : decode cX9_refused 23 = .ok (.iconst 0, 1) := by decide +kernel
theorem dX9_refused_24 : decode cX9_refused 24 = .ok (.goto 7, 3) := by decide +kernel
theorem dX9_refused_27 : decode cX9_refused 27 = .ok (.aload_n 0, 1) := by decide +kernel
theorem dX9_refused_28 : decode cX9_refused 28 = .ok (.getfield 36, 3) := by decide +kernel
theorem dX9_refused_31 : decode cX9_refused 31 = .ok (.ireturn, 1) := by decide +kernel
theorem dX9_hasMatch_0 : decode cX9_hasMatch 0 = .ok (.aload_n 0, 1) := by decide +kernel
theorem dX9_hasMatch_1 : decode cX9_hasMatch 1 = .ok (.getfield 9, 3) := by decide +kernel
theorem dX9_hasMatch_4 : decode cX9_hasMatch 4 = .ok (.iconst 0, 1) := by decide +kernel
theorem dX9_hasMatch_5 : decode cX9_hasMatch 5 = .ok (.iaload, 1) := by decide +kernel
theorem dX9_hasMatch_6 : decode cX9_hasMatch 6 = .ok (.iconst 1, 1) := by decide +kernel
theorem dX9_hasMatch_7 : decode cX9_hasMatch 7 = .ok (.if_icmp .ne 5, 3) := by decide +kernel
theorem dX9_hasMatch_10 : decode cX9_hasMatch 10 = .ok (.iconst 1, 1) := by decide +kernel
theorem dX9_hasMatch_11 : decode cX9_hasMatch 11 = .ok (.ireturn, 1) := by decide +kernel
theorem dX9_hasMatch_12 : decode cX9_hasMatch 12 = .ok (.aload_n 0, 1) := by decide +kernel
theorem dX9_hasMatch_13 : decode cX9_hasMatch 13 = .ok (.iconst 1, 1) := by decide +kernel
theorem dX9_hasMatch_14 : decode cX9_hasMatch 14 = .ok (.putfield 166, 3) := by decide +kernel
theorem dX9_hasMatch_17 : decode cX9_hasMatch 17 = .ok (.aload_n 0, 1) := by decide +kernel
theorem dX9_hasMatch_18 : decode cX9_hasMatch 18 = .ok (.iload_n 1, 1) := by decide +kernel
theorem dX9_hasMatch_19 : decode cX9_hasMatch 19 = .ok (.putfield 55, 3) := by decide +kernel
theorem dX9_hasMatch_22 : decode cX9_hasMatch 22 = .ok (.iconst 0, 1) := by decide +kernel
theorem dX9_hasMatch_23 : decode cX9_hasMatch 23 = .ok (.ireturn, 1) := by decide +kernel
set_option maxRecDepth 20000 in
theorem ggX9_now_X9_isIn : GoodIn wsX9_now wsX9_isIn := goodIn_r _ [6] (by decide +kernel) (by decide +kernel)
set_option maxRecDepth 20000 in
theorem gX9_now_X9_isIn : GoodIn wsX9_now (va_wsS RX9 76 yX9_isIn wsX9_isIn) := goodIn_app (goodIn_of _ (by decide +kernel)) ggX9_now_X9_isIn
set_option maxRecDepth 20000 in
theorem ggX9_now_X9_hasMatch : GoodIn wsX9_now wsX9_hasMatch := goodIn_ca (goodIn_r _ [10, 2, 11, 1, 27, 28, 29, 30, 31, 32, 33, 34, 35, 36, 37, 38, 39, 40, 41, 42, 43, 44, 45, 46, 47, 48] (by decide +kernel) (by decide +kernel)) (goodIn_sub (fun _ h => List.mem_cons_of_mem _ (List.mem_append_right _ h)) (by decide +kernel))
set_option maxRecDepth 20000 in
theorem gX9_now_X9_hasMatch : GoodIn wsX9_now (wsV RX9 221 RX9 yX9_hasMatch wsX9_hasMatch) := goodIn_app (goodIn_of _ (by decide +kernel)) ggX9_now_X9_hasMatch
set_option maxRecDepth 20000 in
theorem ggX9_now_X9_team : GoodIn wsX9_now wsX9_team := goodIn_ca (goodIn_r _ [15, 2, 27, 28, 29, 30, 31, 32, 33, 34, 35, 36, 37, 38, 39, 40, 41, 42, 43, 44, 45, 46, 47, 48] (by decide +kernel) (by decide +kernel)) (goodIn_sub (fun _ h => List.mem_cons_of_mem _ (List.mem_append_right _ h)) (by decide +kernel))
set_option maxRecDepth 20000 in
theorem gX9_now_X9_team : GoodIn wsX9_now (wsV RX9 224 RX9 yX9_team wsX9_team) := goodIn_app (goodIn_of _ (by decide +kernel)) ggX9_now_X9_team
set_option maxRecDepth 20000 in
theorem ggX9_now_X9_next : GoodIn wsX9_now wsX9_next := goodIn_ca (goodIn_r _ [19, 2, 20, 21, 22, 5, 23, 24, 25, 26, 27, 28, 29, 30, 31, 32, 33, 34, 35, 36, 37, 38, 39, 40, 41, 42, 43, 44, 45, 46, 47, 48] (by decide +kernel) (by decide +kernel)) (goodIn_sub (fun _ h => List.mem_cons_of_mem _ (List.mem_append_right _ h)) (by decide +kernel))
set_option maxRecDepth 20000 in
theorem gX9_now_X9_next : GoodIn wsX9_now (wsV RX9 136 RX9 yX9_next wsX9_next) := goodIn_app (goodIn_of _ (by decide +kernel)) ggX9_now_X9_next
theorem dX9_now_0 : decode cX9_now 0 = .ok (.aload_n 0, 1) := by decide +kernel
theorem dX9_now_1 : decode cX9_now 1 = .ok (.iload_n 1, 1) := by decide +kernel
theorem dX9_now_2 : decode cX9_now 2 = .ok (.iconst 0, 1) := by decide +kernel
theorem dX9_now_3 : decode cX9_now 3 = .ok (.bipush 8, 2) := by decide +kernel
theorem dX9_now_5 : decode cX9_now 5 = .ok (.invokestatic 76, 3) := by decide +kernel
theorem dX9_now_8 : decode cX9_now 8 = .ok (.ifCond .eq 7, 3) := by decide +kernel
theorem dX9_now_11 : decode cX9_now 11 = .ok (.iconst 0, 1) := by decide +kernel
theorem dX9_now_12 : decode cX9_now 12 = .ok (.goto 4, 3) := by decide +kernel
theorem dX9_now_15 : decode cX9_now 15 = .ok (.iconst 1, 1) := by decide +kernel
theorem dX9_now_16 : decode cX9_now 16 = .ok (.putfield 55, 3) := by decide +kernel
theorem dX9_now_19 : decode cX9_now 19 = .ok (.aload_n 0, 1) := by decide +kernel
theorem dX9_now_20 : decode cX9_now 20 = .ok (.getfield 55, 3) := by decide +kernel
theorem dX9_now_23 : decode cX9_now 23 = .ok (.iconst 1, 1) := by decide +kernel
theorem dX9_now_24 : decode cX9_now 24 = .ok (.if_icmp .eq 11, 3) := by decide +kernel
theorem dX9_now_27 : decode cX9_now 27 = .ok (.aload_n 0, 1) := by decide +kernel
theorem dX9_now_28 : decode cX9_now 28 = .ok (.iconst 2, 1) := by decide +kernel
theorem dX9_now_29 : decode cX9_now 29 = .ok (.invokevirtual 221, 3) := by decide +kernel
theorem dX9_now_32 : decode cX9_now 32 = .ok (.ifCond .ne 5, 3) := by decide +kernel
theorem dX9_now_35 : decode cX9_now 35 = .ok (.iconst 0, 1) := by decide +kernel
theorem dX9_now_36 : decode cX9_now 36 = .ok (.ireturn, 1) := by decide +kernel
theorem dX9_now_37 : decode cX9_now 37 = .ok (.aload_n 0, 1) := by decide +kernel
theorem dX9_now_38 : decode cX9_now 38 = .ok (.getfield 9, 3) := by decide +kernel
theorem dX9_now_41 : decode cX9_now 41 = .ok (.iconst 4, 1) := by decide +kernel
theorem dX9_now_42 : decode cX9_now 42 = .ok (.iaload, 1) := by decide +kernel
theorem dX9_now_43 : decode cX9_now 43 = .ok (.istore_n 2, 1) := by decide +kernel
theorem dX9_now_44 : decode cX9_now 44 = .ok (.iload_n 1, 1) := by decide +kernel
theorem dX9_now_45 : decode cX9_now 45 = .ok (.tableswitch 100 0 7 #[47, 49, 55, 63, 71, 79, 87, 92], 47) := by decide +kernel
theorem dX9_now_92 : decode cX9_now 92 = .ok (.iload_n 2, 1) := by decide +kernel
theorem dX9_now_93 : decode cX9_now 93 = .ok (.ireturn, 1) := by decide +kernel
theorem dX9_now_94 : decode cX9_now 94 = .ok (.aload_n 0, 1) := by decide +kernel
theorem dX9_now_95 : decode cX9_now 95 = .ok (.iload_n 2, 1) := by decide +kernel
theorem dX9_now_96 : decode cX9_now 96 = .ok (.invokevirtual 224, 3) := by decide +kernel
theorem dX9_now_99 : decode cX9_now 99 = .ok (.ireturn, 1) := by decide +kernel
theorem dX9_now_100 : decode cX9_now 100 = .ok (.aload_n 0, 1) := by decide +kernel
theorem dX9_now_101 : decode cX9_now 101 = .ok (.getfield 9, 3) := by decide +kernel
theorem dX9_now_104 : decode cX9_now 104 = .ok (.bipush 6, 2) := by decide +kernel
theorem dX9_now_106 : decode cX9_now 106 = .ok (.iaload, 1) := by decide +kernel
theorem dX9_now_107 : decode cX9_now 107 = .ok (.ireturn, 1) := by decide +kernel
theorem dX9_now_108 : decode cX9_now 108 = .ok (.aload_n 0, 1) := by decide +kernel
theorem dX9_now_109 : decode cX9_now 109 = .ok (.getfield 9, 3) := by decide +kernel
theorem dX9_now_112 : decode cX9_now 112 = .ok (.bipush 7, 2) := by decide +kernel
theorem dX9_now_114 : decode cX9_now 114 = .ok (.iaload, 1) := by decide +kernel
theorem dX9_now_115 : decode cX9_now 115 = .ok (.ireturn, 1) := by decide +kernel
theorem dX9_now_116 : decode cX9_now 116 = .ok (.aload_n 0, 1) := by decide +kernel
theorem dX9_now_117 : decode cX9_now 117 = .ok (.getfield 9, 3) := by decide +kernel
theorem dX9_now_120 : decode cX9_now 120 = .ok (.bipush 9, 2) := by decide +kernel
theorem dX9_now_122 : decode cX9_now 122 = .ok (.iaload, 1) := by decide +kernel
theorem dX9_now_123 : decode cX9_now 123 = .ok (.ireturn, 1) := by decide +kernel
theorem dX9_now_124 : decode cX9_now 124 = .ok (.aload_n 0, 1) := by decide +kernel
theorem dX9_now_125 : decode cX9_now 125 = .ok (.getfield 9, 3) := by decide +kernel
theorem dX9_now_128 : decode cX9_now 128 = .ok (.bipush 10, 2) := by decide +kernel
theorem dX9_now_130 : decode cX9_now 130 = .ok (.iaload, 1) := by decide +kernel
theorem dX9_now_131 : decode cX9_now 131 = .ok (.ireturn, 1) := by decide +kernel
theorem dX9_now_132 : decode cX9_now 132 = .ok (.aload_n 0, 1) := by decide +kernel
theorem dX9_now_133 : decode cX9_now 133 = .ok (.invokevirtual 136, 3) := by decide +kernel
theorem dX9_now_136 : decode cX9_now 136 = .ok (.ireturn, 1) := by decide +kernel
theorem dX9_now_137 : decode cX9_now 137 = .ok (.aload_n 0, 1) := by decide +kernel
theorem dX9_now_138 : decode cX9_now 138 = .ok (.getfield 9, 3) := by decide +kernel
theorem dX9_now_141 : decode cX9_now 141 = .ok (.bipush 13, 2) := by decide +kernel
theorem dX9_now_143 : decode cX9_now 143 = .ok (.iaload, 1) := by decide +kernel
theorem dX9_now_144 : decode cX9_now 144 = .ok (.ireturn, 1) := by decide +kernel
theorem dX9_now_145 : decode cX9_now 145 = .ok (.aload_n 0, 1) := by decide +kernel
theorem dX9_now_146 : decode cX9_now 146 = .ok (.getfield 9, 3) := by decide +kernel
theorem dX9_now_149 : decode cX9_now 149 = .ok (.bipush 14, 2) := by decide +kernel
theorem dX9_now_151 : decode cX9_now 151 = .ok (.iload_n 2, 1) := by decide +kernel
theorem dX9_now_152 : decode cX9_now 152 = .ok (.iadd, 1) := by decide +kernel
theorem dX9_now_153 : decode cX9_now 153 = .ok (.iaload, 1) := by decide +kernel
theorem dX9_now_154 : decode cX9_now 154 = .ok (.ireturn, 1) := by decide +kernel
set_option maxRecDepth 20000 in
theorem ggX9_isInnings_X9_isIn : GoodIn wsX9_isInnings wsX9_isIn := goodIn_r _ [5] (by decide +kernel) (by decide +kernel)
set_option maxRecDepth 20000 in
theorem gX9_isInnings_X9_isIn : GoodIn wsX9_isInnings (va_wsS RX9 76 yX9_isIn wsX9_isIn) := goodIn_app (goodIn_of _ (by decide +kernel)) ggX9_isInnings_X9_isIn
theorem dX9_isInnings_0 : decode cX9_isInnings 0 = .ok (.aload_n 0, 1) := by decide +kernel
theorem dX9_isInnings_1 : decode cX9_isInnings 1 = .ok (.getfield 9, 3) := by decide +kernel
theorem dX9_isInnings_4 : decode cX9_isInnings 4 = .ok (.iconst 0, 1) := by decide +kernel
theorem dX9_isInnings_5 : decode cX9_isInnings 5 = .ok (.iaload, 1) := by decide +kernel
theorem dX9_isInnings_6 : decode cX9_isInnings 6 = .ok (.iconst 1, 1) := by decide +kernel
theorem dX9_isInnings_7 : decode cX9_isInnings 7 = .ok (.if_icmp .ne 21, 3) := by decide +kernel
theorem dX9_isInnings_10 : decode cX9_isInnings 10 = .ok (.iload_n 1, 1) := by decide +kernel
theorem dX9_isInnings_11 : decode cX9_isInnings 11 = .ok (.iconst 0, 1) := by decide +kernel
theorem dX9_isInnings_12 : decode cX9_isInnings 12 = .ok (.aload_n 0, 1) := by decide +kernel
theorem dX9_isInnings_13 : decode cX9_isInnings 13 = .ok (.getfield 9, 3) := by decide +kernel
theorem dX9_isInnings_16 : decode cX9_isInnings 16 = .ok (.iconst 4, 1) := by decide +kernel
theorem dX9_isInnings_17 : decode cX9_isInnings 17 = .ok (.iaload, 1) := by decide +kernel
theorem dX9_isInnings_18 : decode cX9_isInnings 18 = .ok (.invokestatic 76, 3) := by decide +kernel
theorem dX9_isInnings_21 : decode cX9_isInnings 21 = .ok (.ifCond .eq 7, 3) := by decide +kernel
theorem dX9_isInnings_24 : decode cX9_isInnings 24 = .ok (.iconst 1, 1) := by decide +kernel
theorem dX9_isInnings_25 : decode cX9_isInnings 25 = .ok (.goto 4, 3) := by decide +kernel
theorem dX9_isInnings_28 : decode cX9_isInnings 28 = .ok (.iconst 0, 1) := by decide +kernel
theorem dX9_isInnings_29 : decode cX9_isInnings 29 = .ok (.ireturn, 1) := by decide +kernel
set_option maxRecDepth 20000 in
theorem ggX9_asks_X9_isIn : GoodIn wsX9_asks wsX9_isIn := goodIn_r _ [6] (by decide +kernel) (by decide +kernel)
set_option maxRecDepth 20000 in
theorem gX9_asks_X9_isIn : GoodIn wsX9_asks (va_wsS RX9 76 yX9_isIn wsX9_isIn) := goodIn_app (goodIn_of _ (by decide +kernel)) ggX9_asks_X9_isIn
theorem dX9_asks_0 : decode cX9_asks 0 = .ok (.aload_n 0, 1) := by decide +kernel
theorem dX9_asks_1 : decode cX9_asks 1 = .ok (.iload_n 1, 1) := by decide +kernel
theorem dX9_asks_2 : decode cX9_asks 2 = .ok (.ifCond .ne 7, 3) := by decide +kernel
theorem dX9_asks_5 : decode cX9_asks 5 = .ok (.iconst 1, 1) := by decide +kernel
theorem dX9_asks_6 : decode cX9_asks 6 = .ok (.goto 17, 3) := by decide +kernel
theorem dX9_asks_9 : decode cX9_asks 9 = .ok (.iload_n 2, 1) := by decide +kernel
theorem dX9_asks_10 : decode cX9_asks 10 = .ok (.iconst 0, 1) := by decide +kernel
theorem dX9_asks_11 : decode cX9_asks 11 = .ok (.iload_n 3, 1) := by decide +kernel
theorem dX9_asks_12 : decode cX9_asks 12 = .ok (.invokestatic 76, 3) := by decide +kernel
theorem dX9_asks_15 : decode cX9_asks 15 = .ok (.ifCond .ne 7, 3) := by decide +kernel
theorem dX9_asks_18 : decode cX9_asks 18 = .ok (.iconst 2, 1) := by decide +kernel
theorem dX9_asks_19 : decode cX9_asks 19 = .ok (.goto 4, 3) := by decide +kernel
theorem dX9_asks_22 : decode cX9_asks 22 = .ok (.iconst 0, 1) := by decide +kernel
theorem dX9_asks_23 : decode cX9_asks 23 = .ok (.putfield 55, 3) := by decide +kernel
theorem dX9_asks_26 : decode cX9_asks 26 = .ok (.aload_n 0, 1) := by decide +kernel
theorem dX9_asks_27 : decode cX9_asks 27 = .ok (.getfield 55, 3) := by decide +kernel
theorem dX9_asks_30 : decode cX9_asks 30 = .ok (.ifCond .ne 13, 3) := by decide +kernel
theorem dX9_asks_33 : decode cX9_asks 33 = .ok (.aload_n 0, 1) := by decide +kernel
theorem dX9_asks_34 : decode cX9_asks 34 = .ok (.getfield 9, 3) := by decide +kernel
theorem dX9_asks_37 : decode cX9_asks 37 = .ok (.iload 4, 2) := by decide +kernel
theorem dX9_asks_39 : decode cX9_asks 39 = .ok (.iaload, 1) := by decide +kernel
theorem dX9_asks_40 : decode cX9_asks 40 = .ok (.goto 4, 3) := by decide +kernel
theorem dX9_asks_43 : decode cX9_asks 43 = .ok (.iconst 0, 1) := by decide +kernel
theorem dX9_asks_44 : decode cX9_asks 44 = .ok (.ireturn, 1) := by decide +kernel
set_option maxRecDepth 20000 in
theorem ggX9_innings_X9_isInnings : GoodIn wsX9_innings wsX9_isInnings := goodIn_ca (goodIn_r _ [5, 6, 7, 8, 4, 9, 18, 19, 20, 21, 22, 23, 24, 25, 26, 27, 28, 29, 30, 31, 32, 33, 34, 35, 36, 37, 38, 39] (by decide +kernel) (by decide +kernel)) (goodIn_sub (fun _ h => List.mem_cons_of_mem _ (List.mem_append_right _ h)) (by decide +kernel))
set_option maxRecDepth 20000 in
theorem gX9_innings_X9_isInnings : GoodIn wsX9_innings (wsV RX9 227 RX9 yX9_isInnings wsX9_isInnings) := goodIn_app (goodIn_of _ (by decide +kernel)) ggX9_innings_X9_isInnings
set_option maxRecDepth 20000 in
theorem ggX9_innings_X9_isIn : GoodIn wsX9_innings wsX9_isIn := goodIn_r _ [9] (by decide +kernel) (by decide +kernel)
set_option maxRecDepth 20000 in
theorem gX9_innings_X9_isIn : GoodIn wsX9_innings (va_wsS RX9 76 yX9_isIn wsX9_isIn) := goodIn_app (goodIn_of _ (by decide +kernel)) ggX9_innings_X9_isIn
set_option maxRecDepth 20000 in
theorem ggX9_innings_X9_at : GoodIn wsX9_innings wsX9_at := goodIn_r _ [12] (by decide +kernel) (by decide +kernel)
set_option maxRecDepth 20000 in
theorem gX9_innings_X9_at : GoodIn wsX9_innings (va_wsS RX9 62 yX9_at wsX9_at) := goodIn_app (goodIn_of _ (by decide +kernel)) ggX9_innings_X9_at
set_option maxRecDepth 20000 in
theorem ggX9_innings_X9_asks : GoodIn wsX9_innings wsX9_asks := goodIn_ca (goodIn_r _ [16, 17, 6, 7, 8, 4, 9, 18, 19, 20, 21, 22, 23, 24, 25, 26, 27, 28, 29, 30, 31, 32, 33, 34, 35, 36, 37, 38, 39] (by decide +kernel) (by decide +kernel)) (goodIn_sub (fun _ h => List.mem_cons_of_mem _ (List.mem_append_right _ h)) (by decide +kernel))
set_option maxRecDepth 20000 in
theorem gX9_innings_X9_asks : GoodIn wsX9_innings (wsV RX9 230 RX9 yX9_asks wsX9_asks) := goodIn_app (goodIn_of _ (by decide +kernel)) ggX9_innings_X9_asks
theorem dX9_innings_0 : decode cX9_innings 0 = .ok (.aload_n 0, 1) := by decide +kernel
theorem dX9_innings_1 : decode cX9_innings 1 = .ok (.iload_n 1, 1) := by decide +kernel
theorem dX9_innings_2 : decode cX9_innings 2 = .ok (.invokevirtual 227, 3) := by decide +kernel
theorem dX9_innings_5 : decode cX9_innings 5 = .ok (.istore_n 3, 1) := by decide +kernel
theorem dX9_innings_6 : decode cX9_innings 6 = .ok (.aload_n 0, 1) := by decide +kernel
theorem dX9_innings_7 : decode cX9_innings 7 = .ok (.iload_n 3, 1) := by decide +kernel
theorem dX9_innings_8 : decode cX9_innings 8 = .ok (.iload_n 2, 1) := by decide +kernel
theorem dX9_innings_9 : decode cX9_innings 9 = .ok (.bipush 7, 2) := by decide +kernel
theorem dX9_innings_11 : decode cX9_innings 11 = .ok (.iload_n 3, 1) := by decide +kernel
theorem dX9_innings_12 : decode cX9_innings 12 = .ok (.ifCond .eq 21, 3) := by decide +kernel
theorem dX9_innings_15 : decode cX9_innings 15 = .ok (.iload_n 2, 1) := by decide +kernel
theorem dX9_innings_16 : decode cX9_innings 16 = .ok (.iconst 0, 1) := by decide +kernel
theorem dX9_innings_17 : decode cX9_innings 17 = .ok (.bipush 7, 2) := by decide +kernel
theorem dX9_innings_19 : decode cX9_innings 19 = .ok (.invokestatic 76, 3) := by decide +kernel
theorem dX9_innings_22 : decode cX9_innings 22 = .ok (.ifCond .eq 11, 3) := by decide +kernel
theorem dX9_innings_25 : decode cX9_innings 25 = .ok (.iload_n 1, 1) := by decide +kernel
theorem dX9_innings_26 : decode cX9_innings 26 = .ok (.iload_n 2, 1) := by decide +kernel
theorem dX9_innings_27 : decode cX9_innings 27 = .ok (.invokestatic 62, 3) := by decide +kernel
theorem dX9_innings_30 : decode cX9_innings 30 = .ok (.goto 4, 3) := by decide +kernel
theorem dX9_innings_33 : decode cX9_innings 33 = .ok (.iconst 0, 1) := by decide +kernel
theorem dX9_innings_34 : decode cX9_innings 34 = .ok (.invokevirtual 230, 3) := by decide +kernel
theorem dX9_innings_37 : decode cX9_innings 37 = .ok (.ireturn, 1) := by decide +kernel
set_option maxRecDepth 20000 in
theorem ggX9_batter_X9_isInnings : GoodIn wsX9_batter wsX9_isInnings := goodIn_ca (goodIn_r _ [5, 6, 7, 8, 4, 9, 18, 19, 20, 21, 22, 23, 24, 25, 26, 27, 28, 29, 30, 31, 32, 33, 34, 35, 36, 37, 38, 39] (by decide +kernel) (by decide +kernel)) (goodIn_sub (fun _ h => List.mem_cons_of_mem _ (List.mem_append_right _ h)) (by decide +kernel))
set_option maxRecDepth 20000 in
theorem gX9_batter_X9_isInnings : GoodIn wsX9_batter (wsV RX9 227 RX9 yX9_isInnings wsX9_isInnings) := goodIn_app (goodIn_of _ (by decide +kernel)) ggX9_batter_X9_isInnings
set_option maxRecDepth 20000 in
theorem ggX9_batter_X9_isIn : GoodIn wsX9_batter wsX9_isIn := goodIn_r _ [9] (by decide +kernel) (by decide +kernel)
set_option maxRecDepth 20000 in
theorem gX9_batter_X9_isIn : GoodIn wsX9_batter (va_wsS RX9 76 yX9_isIn wsX9_isIn) := goodIn_app (goodIn_of _ (by decide +kernel)) ggX9_batter_X9_isIn
set_option maxRecDepth 20000 in
theorem ggX9_batter_X9_batterAt : GoodIn wsX9_batter wsX9_batterAt := goodIn_r _ [12] (by decide +kernel) (by decide +kernel)
set_option maxRecDepth 20000 in
theorem gX9_batter_X9_batterAt : GoodIn wsX9_batter (va_wsS RX9 65 yX9_batterAt wsX9_batterAt) := goodIn_app (goodIn_of _ (by decide +kernel)) ggX9_batter_X9_batterAt
set_option maxRecDepth 20000 in
theorem ggX9_batter_X9_asks : GoodIn wsX9_batter wsX9_asks := goodIn_ca (goodIn_r _ [16, 17, 6, 7, 8, 4, 9, 18, 19, 20, 21, 22, 23, 24, 25, 26, 27, 28, 29, 30, 31, 32, 33, 34, 35, 36, 37, 38, 39] (by decide +kernel) (by decide +kernel)) (goodIn_sub (fun _ h => List.mem_cons_of_mem _ (List.mem_append_right _ h)) (by decide +kernel))
set_option maxRecDepth 20000 in
theorem gX9_batter_X9_asks : GoodIn wsX9_batter (wsV RX9 230 RX9 yX9_asks wsX9_asks) := goodIn_app (goodIn_of _ (by decide +kernel)) ggX9_batter_X9_asks
theorem dX9_batter_0 : decode cX9_batter 0 = .ok (.aload_n 0, 1) := by decide +kernel
theorem dX9_batter_1 : decode cX9_batter 1 = .ok (.iload_n 1, 1) := by decide +kernel
theorem dX9_batter_2 : decode cX9_batter 2 = .ok (.invokevirtual 227, 3) := by decide +kernel
theorem dX9_batter_5 : decode cX9_batter 5 = .ok (.ifCond .eq 17, 3) := by decide +kernel
theorem dX9_batter_8 : decode cX9_batter 8 = .ok (.iload_n 2, 1) := by decide +kernel
theorem dX9_batter_9 : decode cX9_batter 9 = .ok (.iconst 0, 1) := by decide +kernel
theorem dX9_batter_10 : decode cX9_batter 10 = .ok (.bipush 10, 2) := by decide +kernel
theorem dX9_batter_12 : decode cX9_batter 12 = .ok (.invokestatic 76, 3) := by decide +kernel
theorem dX9_batter_15 : decode cX9_batter 15 = .ok (.ifCond .eq 7, 3) := by decide +kernel
theorem dX9_batter_18 : decode cX9_batter 18 = .ok (.iconst 1, 1) := by decide +kernel
theorem dX9_batter_19 : decode cX9_batter 19 = .ok (.goto 4, 3) := by decide +kernel
theorem dX9_batter_22 : decode cX9_batter 22 = .ok (.iconst 0, 1) := by decide +kernel
theorem dX9_batter_23 : decode cX9_batter 23 = .ok (.istore 4, 2) := by decide +kernel
theorem dX9_batter_25 : decode cX9_batter 25 = .ok (.aload_n 0, 1) := by decide +kernel
theorem dX9_batter_26 : decode cX9_batter 26 = .ok (.iload 4, 2) := by decide +kernel
theorem dX9_batter_28 : decode cX9_batter 28 = .ok (.iload_n 3, 1) := by decide +kernel
theorem dX9_batter_29 : decode cX9_batter 29 = .ok (.iconst 5, 1) := by decide +kernel
theorem dX9_batter_30 : decode cX9_batter 30 = .ok (.iload 4, 2) := by decide +kernel
theorem dX9_batter_32 : decode cX9_batter 32 = .ok (.ifCond .eq 21, 3) := by decide +kernel
theorem dX9_batter_35 : decode cX9_batter 35 = .ok (.iload_n 3, 1) := by decide +kernel
theorem dX9_batter_36 : decode cX9_batter 36 = .ok (.iconst 0, 1) := by decide +kernel
theorem dX9_batter_37 : decode cX9_batter 37 = .ok (.iconst 5, 1) := by decide +kernel
theorem dX9_batter_38 : decode cX9_batter 38 = .ok (.invokestatic 76, 3) := by decide +kernel
theorem dX9_batter_41 : decode cX9_batter 41 = .ok (.ifCond .eq 12, 3) := by decide +kernel
theorem dX9_batter_44 : decode cX9_batter 44 = .ok (.iload_n 1, 1) := by decide +kernel
theorem dX9_batter_45 : decode cX9_batter 45 = .ok (.iload_n 2, 1) := by decide +kernel
theorem dX9_batter_46 : decode cX9_batter 46 = .ok (.iload_n 3, 1) := by decide +kernel
theorem dX9_batter_47 : decode cX9_batter 47 = .ok (.invokestatic 65, 3) := by decide +kernel
theorem dX9_batter_50 : decode cX9_batter 50 = .ok (.goto 4, 3) := by decide +kernel
theorem dX9_batter_53 : decode cX9_batter 53 = .ok (.iconst 0, 1) := by decide +kernel
theorem dX9_batter_54 : decode cX9_batter 54 = .ok (.invokevirtual 230, 3) := by decide +kernel
theorem dX9_batter_57 : decode cX9_batter 57 = .ok (.ireturn, 1) := by decide +kernel
set_option maxRecDepth 20000 in
theorem ggX9_bowler_X9_isInnings : GoodIn wsX9_bowler wsX9_isInnings := goodIn_ca (goodIn_r _ [5, 6, 7, 8, 4, 9, 18, 19, 20, 21, 22, 23, 24, 25, 26, 27, 28, 29, 30, 31, 32, 33, 34, 35, 36, 37, 38, 39] (by decide +kernel) (by decide +kernel)) (goodIn_sub (fun _ h => List.mem_cons_of_mem _ (List.mem_append_right _ h)) (by decide +kernel))
set_option maxRecDepth 20000 in
theorem gX9_bowler_X9_isInnings : GoodIn wsX9_bowler (wsV RX9 227 RX9 yX9_isInnings wsX9_isInnings) := goodIn_app (goodIn_of _ (by decide +kernel)) ggX9_bowler_X9_isInnings
set_option maxRecDepth 20000 in
theorem ggX9_bowler_X9_isIn : GoodIn wsX9_bowler wsX9_isIn := goodIn_r _ [9] (by decide +kernel) (by decide +kernel)
set_option maxRecDepth 20000 in
theorem gX9_bowler_X9_isIn : GoodIn wsX9_bowler (va_wsS RX9 76 yX9_isIn wsX9_isIn) := goodIn_app (goodIn_of _ (by decide +kernel)) ggX9_bowler_X9_isIn
set_option maxRecDepth 20000 in
theorem ggX9_bowler_X9_bowlerAt : GoodIn wsX9_bowler wsX9_bowlerAt := goodIn_r _ [12] (by decide +kernel) (by decide +kernel)
set_option maxRecDepth 20000 in
theorem gX9_bowler_X9_bowlerAt : GoodIn wsX9_bowler (va_wsS RX9 105 yX9_bowlerAt wsX9_bowlerAt) := goodIn_app (goodIn_of _ (by decide +kernel)) ggX9_bowler_X9_bowlerAt
set_option maxRecDepth 20000 in
theorem ggX9_bowler_X9_asks : GoodIn wsX9_bowler wsX9_asks := goodIn_ca (goodIn_r _ [16, 17, 6, 7, 8, 4, 9, 18, 19, 20, 21, 22, 23, 24, 25, 26, 27, 28, 29, 30, 31, 32, 33, 34, 35, 36, 37, 38, 39] (by decide +kernel) (by decide +kernel)) (goodIn_sub (fun _ h => List.mem_cons_of_mem _ (List.mem_append_right _ h)) (by decide +kernel))
set_option maxRecDepth 20000 in
theorem gX9_bowler_X9_asks : GoodIn wsX9_bowler (wsV RX9 230 RX9 yX9_asks wsX9_asks) := goodIn_app (goodIn_of _ (by decide +kernel)) ggX9_bowler_X9_asks
theorem dX9_bowler_0 : decode cX9_bowler 0 = .ok (.aload_n 0, 1) := by decide +kernel
theorem dX9_bowler_1 : decode cX9_bowler 1 = .ok (.iload_n 1, 1) := by decide +kernel
theorem dX9_bowler_2 : decode cX9_bowler 2 = .ok (.invokevirtual 227, 3) := by decide +kernel
theorem dX9_bowler_5 : decode cX9_bowler 5 = .ok (.ifCond .eq 17, 3) := by decide +kernel
theorem dX9_bowler_8 : decode cX9_bowler 8 = .ok (.iload_n 2, 1) := by decide +kernel
theorem dX9_bowler_9 : decode cX9_bowler 9 = .ok (.iconst 0, 1) := by decide +kernel
theorem dX9_bowler_10 : decode cX9_bowler 10 = .ok (.bipush 10, 2) := by decide +kernel
theorem dX9_bowler_12 : decode cX9_bowler 12 = .ok (.invokestatic 76, 3) := by decide +kernel
theorem dX9_bowler_15 : decode cX9_bowler 15 = .ok (.ifCond .eq 7, 3) := by decide +kernel
theorem dX9_bowler_18 : decode cX9_bowler 18 = .ok (.iconst 1, 1) := by decide +kernel
theorem dX9_bowler_19 : decode cX9_bowler 19 = .ok (.goto 4, 3) := by decide +kernel
theorem dX9_bowler_22 : decode cX9_bowler 22 = .ok (.iconst 0, 1) := by decide +kernel
theorem dX9_bowler_23 : decode cX9_bowler 23 = .ok (.istore 4, 2) := by decide +kernel
theorem dX9_bowler_25 : decode cX9_bowler 25 = .ok (.aload_n 0, 1) := by decide +kernel
theorem dX9_bowler_26 : decode cX9_bowler 26 = .ok (.iload 4, 2) := by decide +kernel
theorem dX9_bowler_28 : decode cX9_bowler 28 = .ok (.iload_n 3, 1) := by decide +kernel
theorem dX9_bowler_29 : decode cX9_bowler 29 = .ok (.bipush 6, 2) := by decide +kernel
theorem dX9_bowler_31 : decode cX9_bowler 31 = .ok (.iload 4, 2) := by decide +kernel
theorem dX9_bowler_33 : decode cX9_bowler 33 = .ok (.ifCond .eq 22, 3) := by decide +kernel
theorem dX9_bowler_36 : decode cX9_bowler 36 = .ok (.iload_n 3, 1) := by decide +kernel
theorem dX9_bowler_37 : decode cX9_bowler 37 = .ok (.iconst 0, 1) := by decide +kernel
theorem dX9_bowler_38 : decode cX9_bowler 38 = .ok (.bipush 6, 2) := by decide +kernel
theorem dX9_bowler_40 : decode cX9_bowler 40 = .ok (.invokestatic 76, 3) := by decide +kernel
theorem dX9_bowler_43 : decode cX9_bowler 43 = .ok (.ifCond .eq 12, 3) := by decide +kernel
theorem dX9_bowler_46 : decode cX9_bowler 46 = .ok (.iload_n 1, 1) := by decide +kernel
theorem dX9_bowler_47 : decode cX9_bowler 47 = .ok (.iload_n 2, 1) := by decide +kernel
theorem dX9_bowler_48 : decode cX9_bowler 48 = .ok (.iload_n 3, 1) := by decide +kernel
theorem dX9_bowler_49 : decode cX9_bowler 49 = .ok (.invokestatic 105, 3) := by decide +kernel
theorem dX9_bowler_52 : decode cX9_bowler 52 = .ok (.goto 4, 3) := by decide +kernel
theorem dX9_bowler_55 : decode cX9_bowler 55 = .ok (.iconst 0, 1) := by decide +kernel
theorem dX9_bowler_56 : decode cX9_bowler 56 = .ok (.invokevirtual 230, 3) := by decide +kernel
theorem dX9_bowler_59 : decode cX9_bowler 59 = .ok (.ireturn, 1) := by decide +kernel
set_option maxRecDepth 20000 in
theorem ggX9_shares_X9_at : GoodIn wsX9_shares wsX9_at := goodIn_r _ [5] (by decide +kernel) (by decide +kernel)
set_option maxRecDepth 20000 in
theorem gX9_shares_X9_at : GoodIn wsX9_shares (va_wsS RX9 62 yX9_at wsX9_at) := goodIn_app (goodIn_of _ (by decide +kernel)) ggX9_shares_X9_at
theorem dX9_shares_0 : decode cX9_shares 0 = .ok (.iload_n 1, 1) := by decide +kernel
theorem dX9_shares_1 : decode cX9_shares 1 = .ok (.aload_n 0, 1) := by decide +kernel
theorem dX9_shares_2 : decode cX9_shares 2 = .ok (.getfield 9, 3) := by decide +kernel
theorem dX9_shares_5 : decode cX9_shares 5 = .ok (.iconst 4, 1) := by decide +kernel
theorem dX9_shares_6 : decode cX9_shares 6 = .ok (.iaload, 1) := by decide +kernel
theorem dX9_shares_7 : decode cX9_shares 7 = .ok (.if_icmp .ne 13, 3) := by decide +kernel
theorem dX9_shares_10 : decode cX9_shares 10 = .ok (.aload_n 0, 1) := by decide +kernel
theorem dX9_shares_11 : decode cX9_shares 11 = .ok (.getfield 9, 3) := by decide +kernel
theorem dX9_shares_14 : decode cX9_shares 14 = .ok (.bipush 22, 2) := by decide +kernel
theorem dX9_shares_16 : decode cX9_shares 16 = .ok (.iaload, 1) := by decide +kernel
theorem dX9_shares_17 : decode cX9_shares 17 = .ok (.goto 16, 3) := by decide +kernel
theorem dX9_shares_20 : decode cX9_shares 20 = .ok (.aload_n 0, 1) := by decide +kernel
theorem dX9_shares_21 : decode cX9_shares 21 = .ok (.getfield 9, 3) := by decide +kernel
theorem dX9_shares_24 : decode cX9_shares 24 = .ok (.iload_n 1, 1) := by decide +kernel
theorem dX9_shares_25 : decode cX9_shares 25 = .ok (.iconst 1, 1) := by decide +kernel
theorem dX9_shares_26 : decode cX9_shares 26 = .ok (.iadd, 1) := by decide +kernel
theorem dX9_shares_27 : decode cX9_shares 27 = .ok (.bipush 9, 2) := by decide +kernel
theorem dX9_shares_29 : decode cX9_shares 29 = .ok (.invokestatic 62, 3) := by decide +kernel
theorem dX9_shares_32 : decode cX9_shares 32 = .ok (.iaload, 1) := by decide +kernel
theorem dX9_shares_33 : decode cX9_shares 33 = .ok (.aload_n 0, 1) := by decide +kernel
theorem dX9_shares_34 : decode cX9_shares 34 = .ok (.getfield 9, 3) := by decide +kernel
theorem dX9_shares_37 : decode cX9_shares 37 = .ok (.iload_n 1, 1) := by decide +kernel
theorem dX9_shares_38 : decode cX9_shares 38 = .ok (.bipush 9, 2) := by decide +kernel
theorem dX9_shares_40 : decode cX9_shares 40 = .ok (.invokestatic 62, 3) := by decide +kernel
theorem dX9_shares_43 : decode cX9_shares 43 = .ok (.iaload, 1) := by decide +kernel
theorem dX9_shares_44 : decode cX9_shares 44 = .ok (.isub, 1) := by decide +kernel
theorem dX9_shares_45 : decode cX9_shares 45 = .ok (.ireturn, 1) := by decide +kernel
set_option maxRecDepth 20000 in
theorem ggX9_listed_X9_isIn : GoodIn wsX9_listed wsX9_isIn := goodIn_r _ [6] (by decide +kernel) (by decide +kernel)
set_option maxRecDepth 20000 in
theorem gX9_listed_X9_isIn : GoodIn wsX9_listed (va_wsS RX9 76 yX9_isIn wsX9_isIn) := goodIn_app (goodIn_of _ (by decide +kernel)) ggX9_listed_X9_isIn
theorem dX9_listed_0 : decode cX9_listed 0 = .ok (.aload_n 0, 1) := by decide +kernel
theorem dX9_listed_1 : decode cX9_listed 1 = .ok (.iload_n 2, 1) := by decide +kernel
theorem dX9_listed_2 : decode cX9_listed 2 = .ok (.iconst 0, 1) := by decide +kernel
theorem dX9_listed_3 : decode cX9_listed 3 = .ok (.iload_n 3, 1) := by decide +kernel
theorem dX9_listed_4 : decode cX9_listed 4 = .ok (.iconst 1, 1) := by decide +kernel
theorem dX9_listed_5 : decode cX9_listed 5 = .ok (.isub, 1) := by decide +kernel
theorem dX9_listed_6 : decode cX9_listed 6 = .ok (.invokestatic 76, 3) := by decide +kernel
theorem dX9_listed_9 : decode cX9_listed 9 = .ok (.ifCond .ne 7, 3) := by decide +kernel
theorem dX9_listed_12 : decode cX9_listed 12 = .ok (.iconst 2, 1) := by decide +kernel
theorem dX9_listed_13 : decode cX9_listed 13 = .ok (.goto 19, 3) := by decide +kernel
theorem dX9_listed_16 : decode cX9_listed 16 = .ok (.iload 4, 2) := by decide +kernel
theorem dX9_listed_18 : decode cX9_listed 18 = .ok (.iconst 0, 1) := by decide +kernel
theorem dX9_listed_19 : decode cX9_listed 19 = .ok (.iload 5, 2) := by decide +kernel
theorem dX9_listed_21 : decode cX9_listed 21 = .ok (.invokestatic 76, 3) := by decide +kernel
theorem dX9_listed_24 : decode cX9_listed 24 = .ok (.ifCond .ne 7, 3) := by decide +kernel
theorem dX9_listed_27 : decode cX9_listed 27 = .ok (.iconst 3, 1) := by decide +kernel
theorem dX9_listed_28 : decode cX9_listed 28 = .ok (.goto 4, 3) := by decide +kernel
theorem dX9_listed_31 : decode cX9_listed 31 = .ok (.iconst 0, 1) := by decide +kernel
theorem dX9_listed_32 : decode cX9_listed 32 = .ok (.putfield 55, 3) := by decide +kernel
theorem dX9_listed_35 : decode cX9_listed 35 = .ok (.aload_n 0, 1) := by decide +kernel
theorem dX9_listed_36 : decode cX9_listed 36 = .ok (.getfield 55, 3) := by decide +kernel
theorem dX9_listed_39 : decode cX9_listed 39 = .ok (.ifCond .ne 16, 3) := by decide +kernel
theorem dX9_listed_42 : decode cX9_listed 42 = .ok (.aload_n 0, 1) := by decide +kernel
theorem dX9_listed_43 : decode cX9_listed 43 = .ok (.getfield 9, 3) := by decide +kernel
theorem dX9_listed_46 : decode cX9_listed 46 = .ok (.iload 6, 2) := by decide +kernel
theorem dX9_listed_48 : decode cX9_listed 48 = .ok (.iload 4, 2) := by decide +kernel
theorem dX9_listed_50 : decode cX9_listed 50 = .ok (.iadd, 1) := by decide +kernel
theorem dX9_listed_51 : decode cX9_listed 51 = .ok (.iaload, 1) := by decide +kernel
theorem dX9_listed_52 : decode cX9_listed 52 = .ok (.goto 4, 3) := by decide +kernel
theorem dX9_listed_55 : decode cX9_listed 55 = .ok (.iconst 0, 1) := by decide +kernel
theorem dX9_listed_56 : decode cX9_listed 56 = .ok (.ireturn, 1) := by decide +kernel
set_option maxRecDepth 20000 in
theorem ggX9_partnership_X9_isInnings : GoodIn wsX9_partnership wsX9_isInnings := goodIn_ca (goodIn_r _ [6, 1, 7, 8, 5, 9, 26, 27, 28, 29, 30, 31, 32, 33, 34, 35, 36, 37, 38, 39, 40, 41, 42, 43, 44, 45, 46, 47] (by decide +kernel) (by decide +kernel)) (goodIn_sub (fun _ h => List.mem_cons_of_mem _ (List.mem_append_right _ h)) (by decide +kernel))
set_option maxRecDepth 20000 in
theorem gX9_partnership_X9_isInnings : GoodIn wsX9_partnership (wsV RX9 227 RX9 yX9_isInnings wsX9_isInnings) := goodIn_app (goodIn_of _ (by decide +kernel)) ggX9_partnership_X9_isInnings
set_option maxRecDepth 20000 in
theorem ggX9_partnership_X9_no : GoodIn wsX9_partnership wsX9_no := goodIn_r _ [13, 14, 26, 27, 28, 29, 30, 31, 32, 33, 34, 35, 36, 37, 38, 39, 40, 41, 42, 43, 44, 45, 46, 47] (by decide +kernel) (by decide +kernel)
set_option maxRecDepth 20000 in
theorem gX9_partnership_X9_no : GoodIn wsX9_partnership (wsV RX9 169 RX9 yX9_no wsX9_no) := goodIn_app (goodIn_of _ (by decide +kernel)) ggX9_partnership_X9_no
set_option maxRecDepth 20000 in
theorem ggX9_partnership_X9_shares : GoodIn wsX9_partnership wsX9_shares := goodIn_ca (goodIn_r _ [18, 1, 19, 20, 5, 21, 26, 27, 28, 29, 30, 31, 32, 33, 34, 35, 36, 37, 38, 39, 40, 41, 42, 43, 44, 45, 46, 47] (by decide +kernel) (by decide +kernel)) (goodIn_sub (fun _ h => List.mem_cons_of_mem _ (List.mem_append_right _ h)) (by decide +kernel))
set_option maxRecDepth 20000 in
theorem gX9_partnership_X9_shares : GoodIn wsX9_partnership (wsV RX9 234 RX9 yX9_shares wsX9_shares) := goodIn_app (goodIn_of _ (by decide +kernel)) ggX9_partnership_X9_shares
set_option maxRecDepth 20000 in
theorem ggX9_partnership_X9_at : GoodIn wsX9_partnership wsX9_at := goodIn_r _ [21] (by decide +kernel) (by decide +kernel)
set_option maxRecDepth 20000 in
theorem gX9_partnership_X9_at : GoodIn wsX9_partnership (va_wsS RX9 62 yX9_at wsX9_at) := goodIn_app (goodIn_of _ (by decide +kernel)) ggX9_partnership_X9_at
set_option maxRecDepth 20000 in
theorem ggX9_partnership_X9_listed : GoodIn wsX9_partnership wsX9_listed := goodIn_ca (goodIn_r _ [25, 14, 1, 7, 8, 5, 9, 26, 27, 28, 29, 30, 31, 32, 33, 34, 35, 36, 37, 38, 39, 40, 41, 42, 43, 44, 45, 46, 47] (by decide +kernel) (by decide +kernel)) (goodIn_sub (fun _ h => List.mem_cons_of_mem _ (List.mem_append_right _ h)) (by decide +kernel))
set_option maxRecDepth 20000 in
theorem gX9_partnership_X9_listed : GoodIn wsX9_partnership (wsV RX9 237 RX9 yX9_listed wsX9_listed) := goodIn_app (goodIn_of _ (by decide +kernel)) ggX9_partnership_X9_listed
theorem dX9_partnership_0 : decode cX9_partnership 0 = .ok (.aload_n 0, 1) := by decide +kernel
theorem dX9_partnership_1 : decode cX9_partnership 1 = .ok (.iload_n 1, 1) := by decide +kernel
theorem dX9_partnership_2 : decode cX9_partnership 2 = .ok (.invokevirtual 227, 3) := by decide +kernel
theorem dX9_partnership_5 : decode cX9_partnership 5 = .ok (.ifCond .ne 9, 3) := by decide +kernel
theorem dX9_partnership_8 : decode cX9_partnership 8 = .ok (.aload_n 0, 1) := by decide +kernel
theorem dX9_partnership_9 : decode cX9_partnership 9 = .ok (.iconst 1, 1) := by decide +kernel
theorem dX9_partnership_10 : decode cX9_partnership 10 = .ok (.invokevirtual 169, 3) := by decide +kernel
theorem dX9_partnership_13 : decode cX9_partnership 13 = .ok (.ireturn, 1) := by decide +kernel
theorem dX9_partnership_14 : decode cX9_partnership 14 = .ok (.aload_n 0, 1) := by decide +kernel
theorem dX9_partnership_15 : decode cX9_partnership 15 = .ok (.iload_n 1, 1) := by decide +kernel
theorem dX9_partnership_16 : decode cX9_partnership 16 = .ok (.iload_n 2, 1) := by decide +kernel
theorem dX9_partnership_17 : decode cX9_partnership 17 = .ok (.aload_n 0, 1) := by decide +kernel
theorem dX9_partnership_18 : decode cX9_partnership 18 = .ok (.iload_n 1, 1) := by decide +kernel
theorem dX9_partnership_19 : decode cX9_partnership 19 = .ok (.invokevirtual 234, 3) := by decide +kernel
theorem dX9_partnership_22 : decode cX9_partnership 22 = .ok (.iload_n 3, 1) := by decide +kernel
theorem dX9_partnership_23 : decode cX9_partnership 23 = .ok (.bipush 7, 2) := by decide +kernel
theorem dX9_partnership_25 : decode cX9_partnership 25 = .ok (.sipush 841, 3) := by decide +kernel
theorem dX9_partnership_28 : decode cX9_partnership 28 = .ok (.bipush 8, 2) := by decide +kernel
theorem dX9_partnership_30 : decode cX9_partnership 30 = .ok (.aload_n 0, 1) := by decide +kernel
theorem dX9_partnership_31 : decode cX9_partnership 31 = .ok (.getfield 9, 3) := by decide +kernel
theorem dX9_partnership_34 : decode cX9_partnership 34 = .ok (.iload_n 1, 1) := by decide +kernel
theorem dX9_partnership_35 : decode cX9_partnership 35 = .ok (.bipush 9, 2) := by decide +kernel
theorem dX9_partnership_37 : decode cX9_partnership 37 = .ok (.invokestatic 62, 3) := by decide +kernel
theorem dX9_partnership_40 : decode cX9_partnership 40 = .ok (.iaload, 1) := by decide +kernel
theorem dX9_partnership_41 : decode cX9_partnership 41 = .ok (.iload_n 2, 1) := by decide +kernel
theorem dX9_partnership_42 : decode cX9_partnership 42 = .ok (.iadd, 1) := by decide +kernel
theorem dX9_partnership_43 : decode cX9_partnership 43 = .ok (.imul, 1) := by decide +kernel
theorem dX9_partnership_44 : decode cX9_partnership 44 = .ok (.iadd, 1) := by decide +kernel
theorem dX9_partnership_45 : decode cX9_partnership 45 = .ok (.invokevirtual 237, 3) := by decide +kernel
theorem dX9_partnership_48 : decode cX9_partnership 48 = .ok (.ireturn, 1) := by decide +kernel
set_option maxRecDepth 20000 in
theorem ggX9_fall_X9_isInnings : GoodIn wsX9_fall wsX9_isInnings := goodIn_ca (goodIn_r _ [6, 1, 7, 8, 5, 9, 22, 23, 24, 25, 26, 27, 28, 29, 30, 31, 32, 33, 34, 35, 36, 37, 38, 39, 40, 41, 42, 43] (by decide +kernel) (by decide +kernel)) (goodIn_sub (fun _ h => List.mem_cons_of_mem _ (List.mem_append_right _ h)) (by decide +kernel))
set_option maxRecDepth 20000 in
theorem gX9_fall_X9_isInnings : GoodIn wsX9_fall (wsV RX9 227 RX9 yX9_isInnings wsX9_isInnings) := goodIn_app (goodIn_of _ (by decide +kernel)) ggX9_fall_X9_isInnings
set_option maxRecDepth 20000 in
theorem ggX9_fall_X9_no : GoodIn wsX9_fall wsX9_no := goodIn_r _ [13, 14, 22, 23, 24, 25, 26, 27, 28, 29, 30, 31, 32, 33, 34, 35, 36, 37, 38, 39, 40, 41, 42, 43] (by decide +kernel) (by decide +kernel)
set_option maxRecDepth 20000 in
theorem gX9_fall_X9_no : GoodIn wsX9_fall (wsV RX9 169 RX9 yX9_no wsX9_no) := goodIn_app (goodIn_of _ (by decide +kernel)) ggX9_fall_X9_no
set_option maxRecDepth 20000 in
theorem ggX9_fall_X9_at : GoodIn wsX9_fall wsX9_at := goodIn_r _ [17] (by decide +kernel) (by decide +kernel)
set_option maxRecDepth 20000 in
theorem gX9_fall_X9_at : GoodIn wsX9_fall (va_wsS RX9 62 yX9_at wsX9_at) := goodIn_app (goodIn_of _ (by decide +kernel)) ggX9_fall_X9_at
set_option maxRecDepth 20000 in
theorem ggX9_fall_X9_listed : GoodIn wsX9_fall wsX9_listed := goodIn_ca (goodIn_r _ [21, 14, 1, 7, 8, 5, 9, 22, 23, 24, 25, 26, 27, 28, 29, 30, 31, 32, 33, 34, 35, 36, 37, 38, 39, 40, 41, 42, 43] (by decide +kernel) (by decide +kernel)) (goodIn_sub (fun _ h => List.mem_cons_of_mem _ (List.mem_append_right _ h)) (by decide +kernel))
set_option maxRecDepth 20000 in
theorem gX9_fall_X9_listed : GoodIn wsX9_fall (wsV RX9 237 RX9 yX9_listed wsX9_listed) := goodIn_app (goodIn_of _ (by decide +kernel)) ggX9_fall_X9_listed
theorem dX9_fall_0 : decode cX9_fall 0 = .ok (.aload_n 0, 1) := by decide +kernel
theorem dX9_fall_1 : decode cX9_fall 1 = .ok (.iload_n 1, 1) := by decide +kernel
theorem dX9_fall_2 : decode cX9_fall 2 = .ok (.invokevirtual 227, 3) := by decide +kernel
theorem dX9_fall_5 : decode cX9_fall 5 = .ok (.ifCond .ne 9, 3) := by decide +kernel
theorem dX9_fall_8 : decode cX9_fall 8 = .ok (.aload_n 0, 1) := by decide +kernel
theorem dX9_fall_9 : decode cX9_fall 9 = .ok (.iconst 1, 1) := by decide +kernel
theorem dX9_fall_10 : decode cX9_fall 10 = .ok (.invokevirtual 169, 3) := by decide +kernel
theorem dX9_fall_13 : decode cX9_fall 13 = .ok (.ireturn, 1) := by decide +kernel
theorem dX9_fall_14 : decode cX9_fall 14 = .ok (.aload_n 0, 1) := by decide +kernel
theorem dX9_fall_15 : decode cX9_fall 15 = .ok (.iload_n 1, 1) := by decide +kernel
theorem dX9_fall_16 : decode cX9_fall 16 = .ok (.iload_n 2, 1) := by decide +kernel
theorem dX9_fall_17 : decode cX9_fall 17 = .ok (.aload_n 0, 1) := by decide +kernel
theorem dX9_fall_18 : decode cX9_fall 18 = .ok (.getfield 9, 3) := by decide +kernel
theorem dX9_fall_21 : decode cX9_fall 21 = .ok (.iload_n 1, 1) := by decide +kernel
theorem dX9_fall_22 : decode cX9_fall 22 = .ok (.iconst 1, 1) := by decide +kernel
theorem dX9_fall_23 : decode cX9_fall 23 = .ok (.invokestatic 62, 3) := by decide +kernel
theorem dX9_fall_26 : decode cX9_fall 26 = .ok (.iaload, 1) := by decide +kernel
theorem dX9_fall_27 : decode cX9_fall 27 = .ok (.iload_n 3, 1) := by decide +kernel
theorem dX9_fall_28 : decode cX9_fall 28 = .ok (.iconst 2, 1) := by decide +kernel
theorem dX9_fall_29 : decode cX9_fall 29 = .ok (.sipush 641, 3) := by decide +kernel
theorem dX9_fall_32 : decode cX9_fall 32 = .ok (.bipush 30, 2) := by decide +kernel
theorem dX9_fall_34 : decode cX9_fall 34 = .ok (.iload_n 1, 1) := by decide +kernel
theorem dX9_fall_35 : decode cX9_fall 35 = .ok (.imul, 1) := by decide +kernel
theorem dX9_fall_36 : decode cX9_fall 36 = .ok (.iadd, 1) := by decide +kernel
theorem dX9_fall_37 : decode cX9_fall 37 = .ok (.iconst 3, 1) := by decide +kernel
theorem dX9_fall_38 : decode cX9_fall 38 = .ok (.iload_n 2, 1) := by decide +kernel
theorem dX9_fall_39 : decode cX9_fall 39 = .ok (.imul, 1) := by decide +kernel
theorem dX9_fall_40 : decode cX9_fall 40 = .ok (.iadd, 1) := by decide +kernel
theorem dX9_fall_41 : decode cX9_fall 41 = .ok (.invokevirtual 237, 3) := by decide +kernel
theorem dX9_fall_44 : decode cX9_fall 44 = .ok (.ireturn, 1) := by decide +kernel
set_option maxRecDepth 20000 in
theorem ggX9_needed_X9_hasMatch : GoodIn wsX9_needed wsX9_hasMatch := goodIn_ca (goodIn_r _ [7, 2, 8, 1, 26, 27, 28, 29, 30, 31, 32, 33, 34, 35, 36, 37, 38, 39, 40, 41, 42, 43, 44, 45, 46, 47] (by decide +kernel) (by decide +kernel)) (goodIn_sub (fun _ h => List.mem_cons_of_mem _ (List.mem_append_left _ (List.mem_append_right _ h))) (by decide +kernel))
set_option maxRecDepth 20000 in
theorem gX9_needed_X9_hasMatch : GoodIn wsX9_needed (wsV RX9 221 RX9 yX9_hasMatch wsX9_hasMatch) := goodIn_app (goodIn_of _ (by decide +kernel)) ggX9_needed_X9_hasMatch
set_option maxRecDepth 20000 in
theorem ggX9_needed_X9_last : GoodIn wsX9_needed wsX9_last := goodIn_ca (goodIn_r _ [12, 2, 26, 27, 28, 29, 30, 31, 32, 33, 34, 35, 36, 37, 38, 39, 40, 41, 42, 43, 44, 45, 46, 47] (by decide +kernel) (by decide +kernel)) (goodIn_sub (fun _ h => List.mem_cons_of_mem _ (List.mem_append_left _ (List.mem_append_right _ h))) (by decide +kernel))
set_option maxRecDepth 20000 in
theorem gX9_needed_X9_last : GoodIn wsX9_needed (wsV RX9 95 RX9 yX9_last wsX9_last) := goodIn_app (goodIn_of _ (by decide +kernel)) ggX9_needed_X9_last
set_option maxRecDepth 20000 in
theorem ggX9_needed_X9_no : GoodIn wsX9_needed wsX9_no := goodIn_r _ [16, 1, 26, 27, 28, 29, 30, 31, 32, 33, 34, 35, 36, 37, 38, 39, 40, 41, 42, 43, 44, 45, 46, 47] (by decide +kernel) (by decide +kernel)
set_option maxRecDepth 20000 in
theorem gX9_needed_X9_no : GoodIn wsX9_needed (wsV RX9 169 RX9 yX9_no wsX9_no) := goodIn_app (goodIn_of _ (by decide +kernel)) ggX9_needed_X9_no
set_option maxRecDepth 20000 in
theorem ggX9_needed_X9_target : GoodIn wsX9_needed wsX9_target := goodIn_ca (goodIn_ca (goodIn_r _ [20, 2, 21, 22, 23, 24, 6, 25, 26, 27, 28, 29, 30, 31, 32, 33, 34, 35, 36, 37, 38, 39, 40, 41, 42, 43, 44, 45, 46, 47] (by decide +kernel) (by decide +kernel)) (goodIn_sub (fun _ h => List.mem_cons_of_mem _ (List.mem_append_left _ (List.mem_append_right _ h))) (by decide +kernel))) (goodIn_sub (fun _ h => List.mem_cons_of_mem _ (List.mem_append_right _ h)) (by decide +kernel))
set_option maxRecDepth 20000 in
theorem gX9_needed_X9_target : GoodIn wsX9_needed (wsV RX9 99 RX9 yX9_target wsX9_target) := goodIn_app (goodIn_of _ (by decide +kernel)) ggX9_needed_X9_target
set_option maxRecDepth 20000 in
theorem ggX9_needed_X9_at : GoodIn wsX9_needed wsX9_at := goodIn_r _ [25] (by decide +kernel) (by decide +kernel)
set_option maxRecDepth 20000 in
theorem gX9_needed_X9_at : GoodIn wsX9_needed (va_wsS RX9 62 yX9_at wsX9_at) := goodIn_app (goodIn_of _ (by decide +kernel)) ggX9_needed_X9_at
theorem dX9_needed_0 : decode cX9_needed 0 = .ok (.aload_n 0, 1) := by decide +kernel
theorem dX9_needed_1 : decode cX9_needed 1 = .ok (.iconst 0, 1) := by decide +kernel
theorem dX9_needed_2 : decode cX9_needed 2 = .ok (.putfield 55, 3) := by decide +kernel
theorem dX9_needed_5 : decode cX9_needed 5 = .ok (.aload_n 0, 1) := by decide +kernel
theorem dX9_needed_6 : decode cX9_needed 6 = .ok (.iconst 1, 1) := by decide +kernel
theorem dX9_needed_7 : decode cX9_needed 7 = .ok (.invokevirtual 221, 3) := by decide +kernel
theorem dX9_needed_10 : decode cX9_needed 10 = .ok (.ifCond .ne 5, 3) := by decide +kernel
theorem dX9_needed_13 : decode cX9_needed 13 = .ok (.iconst 0, 1) := by decide +kernel
theorem dX9_needed_14 : decode cX9_needed 14 = .ok (.ireturn, 1) := by decide +kernel
theorem dX9_needed_15 : decode cX9_needed 15 = .ok (.aload_n 0, 1) := by decide +kernel
theorem dX9_needed_16 : decode cX9_needed 16 = .ok (.getfield 9, 3) := by decide +kernel
theorem dX9_needed_19 : decode cX9_needed 19 = .ok (.iconst 4, 1) := by decide +kernel
theorem dX9_needed_20 : decode cX9_needed 20 = .ok (.iaload, 1) := by decide +kernel
theorem dX9_needed_21 : decode cX9_needed 21 = .ok (.aload_n 0, 1) := by decide +kernel
theorem dX9_needed_22 : decode cX9_needed 22 = .ok (.invokevirtual 95, 3) := by decide +kernel
theorem dX9_needed_25 : decode cX9_needed 25 = .ok (.if_icmp .ge 9, 3) := by decide +kernel
theorem dX9_needed_28 : decode cX9_needed 28 = .ok (.aload_n 0, 1) := by decide +kernel
theorem dX9_needed_29 : decode cX9_needed 29 = .ok (.iconst 2, 1) := by decide +kernel
theorem dX9_needed_30 : decode cX9_needed 30 = .ok (.invokevirtual 169, 3) := by decide +kernel
theorem dX9_needed_33 : decode cX9_needed 33 = .ok (.ireturn, 1) := by decide +kernel
theorem dX9_needed_34 : decode cX9_needed 34 = .ok (.aload_n 0, 1) := by decide +kernel
theorem dX9_needed_35 : decode cX9_needed 35 = .ok (.invokevirtual 99, 3) := by decide +kernel
theorem dX9_needed_38 : decode cX9_needed 38 = .ok (.aload_n 0, 1) := by decide +kernel
theorem dX9_needed_39 : decode cX9_needed 39 = .ok (.getfield 9, 3) := by decide +kernel
theorem dX9_needed_42 : decode cX9_needed 42 = .ok (.aload_n 0, 1) := by decide +kernel
theorem dX9_needed_43 : decode cX9_needed 43 = .ok (.getfield 9, 3) := by decide +kernel
theorem dX9_needed_46 : decode cX9_needed 46 = .ok (.iconst 4, 1) := by decide +kernel
theorem dX9_needed_47 : decode cX9_needed 47 = .ok (.iaload, 1) := by decide +kernel
theorem dX9_needed_48 : decode cX9_needed 48 = .ok (.iconst 0, 1) := by decide +kernel
theorem dX9_needed_49 : decode cX9_needed 49 = .ok (.invokestatic 62, 3) := by decide +kernel
theorem dX9_needed_52 : decode cX9_needed 52 = .ok (.iaload, 1) := by decide +kernel
theorem dX9_needed_53 : decode cX9_needed 53 = .ok (.isub, 1) := by decide +kernel
theorem dX9_needed_54 : decode cX9_needed 54 = .ok (.istore_n 2, 1) := by decide +kernel
theorem dX9_needed_55 : decode cX9_needed 55 = .ok (.iload_n 1, 1) := by decide +kernel
theorem dX9_needed_56 : decode cX9_needed 56 = .ok (.ifCond .eq 10, 3) := by decide +kernel
theorem dX9_needed_59 : decode cX9_needed 59 = .ok (.aload_n 0, 1) := by decide +kernel
theorem dX9_needed_60 : decode cX9_needed 60 = .ok (.invokevirtual 99, 3) := by decide +kernel
theorem dX9_needed_63 : decode cX9_needed 63 = .ok (.goto 12, 3) := by decide +kernel
theorem dX9_needed_66 : decode cX9_needed 66 = .ok (.iload_n 2, 1) := by decide +kernel
theorem dX9_needed_67 : decode cX9_needed 67 = .ok (.ifCond .ge 7, 3) := by decide +kernel
theorem dX9_needed_70 : decode cX9_needed 70 = .ok (.iconst 0, 1) := by decide +kernel
theorem dX9_needed_71 : decode cX9_needed 71 = .ok (.goto 4, 3) := by decide +kernel
theorem dX9_needed_74 : decode cX9_needed 74 = .ok (.iload_n 2, 1) := by decide +kernel
theorem dX9_needed_75 : decode cX9_needed 75 = .ok (.ireturn, 1) := by decide +kernel
set_option maxRecDepth 20000 in
theorem ggX9_result_X9_last : GoodIn wsX9_result wsX9_last := goodIn_ca (goodIn_r _ [7, 2, 21, 22, 23, 24, 25, 26, 27, 28, 29, 30, 31, 32, 33, 34, 35, 36, 37, 38, 39, 40, 41, 42] (by decide +kernel) (by decide +kernel)) (goodIn_sub (fun _ h => List.mem_cons_of_mem _ (List.mem_append_left _ (List.mem_append_right _ h))) (by decide +kernel))
set_option maxRecDepth 20000 in
theorem gX9_result_X9_last : GoodIn wsX9_result (wsV RX9 95 RX9 yX9_last wsX9_last) := goodIn_app (goodIn_of _ (by decide +kernel)) ggX9_result_X9_last
set_option maxRecDepth 20000 in
theorem ggX9_result_X9_team : GoodIn wsX9_result wsX9_team := goodIn_ca (goodIn_r _ [11, 2, 21, 22, 23, 24, 25, 26, 27, 28, 29, 30, 31, 32, 33, 34, 35, 36, 37, 38, 39, 40, 41, 42] (by decide +kernel) (by decide +kernel)) (goodIn_sub (fun _ h => List.mem_cons_of_mem _ (List.mem_append_left _ (List.mem_append_right _ h))) (by decide +kernel))
set_option maxRecDepth 20000 in
theorem gX9_result_X9_team : GoodIn wsX9_result (wsV RX9 224 RX9 yX9_team wsX9_team) := goodIn_app (goodIn_of _ (by decide +kernel)) ggX9_result_X9_team
set_option maxRecDepth 20000 in
theorem ggX9_result_X9_at : GoodIn wsX9_result wsX9_at := goodIn_r _ [14] (by decide +kernel) (by decide +kernel)
set_option maxRecDepth 20000 in
theorem gX9_result_X9_at : GoodIn wsX9_result (va_wsS RX9 62 yX9_at wsX9_at) := goodIn_app (goodIn_of _ (by decide +kernel)) ggX9_result_X9_at
set_option maxRecDepth 20000 in
theorem ggX9_result_X9_target : GoodIn wsX9_result wsX9_target := goodIn_ca (goodIn_ca (goodIn_r _ [18, 2, 19, 20, 12, 13, 6, 14, 21, 22, 23, 24, 25, 26, 27, 28, 29, 30, 31, 32, 33, 34, 35, 36, 37, 38, 39, 40, 41, 42] (by decide +kernel) (by decide +kernel)) (goodIn_sub (fun _ h => List.mem_cons_of_mem _ (List.mem_append_left _ (List.mem_append_right _ h))) (by decide +kernel))) (goodIn_sub (fun _ h => List.mem_cons_of_mem _ (List.mem_append_right _ h)) (by decide +kernel))
set_option maxRecDepth 20000 in
theorem gX9_result_X9_target : GoodIn wsX9_result (wsV RX9 99 RX9 yX9_target wsX9_target) := goodIn_app (goodIn_of _ (by decide +kernel)) ggX9_result_X9_target
theorem dX9_result_0 : decode cX9_result 0 = .ok (.aload_n 0, 1) := by decide +kernel
theorem dX9_result_1 : decode cX9_result 1 = .ok (.iconst 0, 1) := by decide +kernel
theorem dX9_result_2 : decode cX9_result 2 = .ok (.putfield 55, 3) := by decide +kernel
theorem dX9_result_5 : decode cX9_result 5 = .ok (.aload_n 0, 1) := by decide +kernel
theorem dX9_result_6 : decode cX9_result 6 = .ok (.getfield 9, 3) := by decide +kernel
theorem dX9_result_9 : decode cX9_result 9 = .ok (.iconst 0, 1) := by decide +kernel
theorem dX9_result_10 : decode cX9_result 10 = .ok (.iaload, 1) := by decide +kernel
theorem dX9_result_11 : decode cX9_result 11 = .ok (.ifCond .eq 12, 3) := by decide +kernel
theorem dX9_result_14 : decode cX9_result 14 = .ok (.aload_n 0, 1) := by decide +kernel
theorem dX9_result_15 : decode cX9_result 15 = .ok (.getfield 9, 3) := by decide +kernel
theorem dX9_result_18 : decode cX9_result 18 = .ok (.iconst 5, 1) := by decide +kernel
theorem dX9_result_19 : decode cX9_result 19 = .ok (.iaload, 1) := by decide +kernel
theorem dX9_result_20 : decode cX9_result 20 = .ok (.ifCond .ne 5, 3) := by decide +kernel
theorem dX9_result_23 : decode cX9_result 23 = .ok (.iconst 0, 1) := by decide +kernel
theorem dX9_result_24 : decode cX9_result 24 = .ok (.ireturn, 1) := by decide +kernel
theorem dX9_result_25 : decode cX9_result 25 = .ok (.aload_n 0, 1) := by decide +kernel
theorem dX9_result_26 : decode cX9_result 26 = .ok (.aload_n 0, 1) := by decide +kernel
theorem dX9_result_27 : decode cX9_result 27 = .ok (.invokevirtual 95, 3) := by decide +kernel
theorem dX9_result_30 : decode cX9_result 30 = .ok (.invokevirtual 224, 3) := by decide +kernel
theorem dX9_result_33 : decode cX9_result 33 = .ok (.istore_n 1, 1) := by decide +kernel
theorem dX9_result_34 : decode cX9_result 34 = .ok (.aload_n 0, 1) := by decide +kernel
theorem dX9_result_35 : decode cX9_result 35 = .ok (.getfield 9, 3) := by decide +kernel
theorem dX9_result_38 : decode cX9_result 38 = .ok (.iconst 4, 1) := by decide +kernel
theorem dX9_result_39 : decode cX9_result 39 = .ok (.iaload, 1) := by decide +kernel
theorem dX9_result_40 : decode cX9_result 40 = .ok (.aload_n 0, 1) := by decide +kernel
theorem dX9_result_41 : decode cX9_result 41 = .ok (.invokevirtual 95, 3) := by decide +kernel
theorem dX9_result_44 : decode cX9_result 44 = .ok (.if_icmp .ge 7, 3) := by decide +kernel
theorem dX9_result_47 : decode cX9_result 47 = .ok (.iconst 1, 1) := by decide +kernel
theorem dX9_result_48 : decode cX9_result 48 = .ok (.iload_n 1, 1) := by decide +kernel
theorem dX9_result_49 : decode cX9_result 49 = .ok (.iadd, 1) := by decide +kernel
theorem dX9_result_50 : decode cX9_result 50 = .ok (.ireturn, 1) := by decide +kernel
theorem dX9_result_51 : decode cX9_result 51 = .ok (.aload_n 0, 1) := by decide +kernel
theorem dX9_result_52 : decode cX9_result 52 = .ok (.getfield 9, 3) := by decide +kernel
theorem dX9_result_55 : decode cX9_result 55 = .ok (.aload_n 0, 1) := by decide +kernel
theorem dX9_result_56 : decode cX9_result 56 = .ok (.getfield 9, 3) := by decide +kernel
theorem dX9_result_59 : decode cX9_result 59 = .ok (.iconst 4, 1) := by decide +kernel
theorem dX9_result_60 : decode cX9_result 60 = .ok (.iaload, 1) := by decide +kernel
theorem dX9_result_61 : decode cX9_result 61 = .ok (.iconst 0, 1) := by decide +kernel
theorem dX9_result_62 : decode cX9_result 62 = .ok (.invokestatic 62, 3) := by decide +kernel
theorem dX9_result_65 : decode cX9_result 65 = .ok (.iaload, 1) := by decide +kernel
theorem dX9_result_66 : decode cX9_result 66 = .ok (.istore_n 2, 1) := by decide +kernel
theorem dX9_result_67 : decode cX9_result 67 = .ok (.iload_n 2, 1) := by decide +kernel
theorem dX9_result_68 : decode cX9_result 68 = .ok (.aload_n 0, 1) := by decide +kernel
theorem dX9_result_69 : decode cX9_result 69 = .ok (.invokevirtual 99, 3) := by decide +kernel
theorem dX9_result_72 : decode cX9_result 72 = .ok (.if_icmp .lt 9, 3) := by decide +kernel
theorem dX9_result_75 : decode cX9_result 75 = .ok (.iconst 1, 1) := by decide +kernel
theorem dX9_result_76 : decode cX9_result 76 = .ok (.iload_n 1, 1) := by decide +kernel
theorem dX9_result_77 : decode cX9_result 77 = .ok (.iadd, 1) := by decide +kernel
theorem dX9_result_78 : decode cX9_result 78 = .ok (.goto 20, 3) := by decide +kernel
theorem dX9_result_81 : decode cX9_result 81 = .ok (.iload_n 2, 1) := by decide +kernel
theorem dX9_result_82 : decode cX9_result 82 = .ok (.aload_n 0, 1) := by decide +kernel
theorem dX9_result_83 : decode cX9_result 83 = .ok (.invokevirtual 99, 3) := by decide +kernel
theorem dX9_result_86 : decode cX9_result 86 = .ok (.iconst 1, 1) := by decide +kernel
theorem dX9_result_87 : decode cX9_result 87 = .ok (.isub, 1) := by decide +kernel
theorem dX9_result_88 : decode cX9_result 88 = .ok (.if_icmp .ne 7, 3) := by decide +kernel
theorem dX9_result_91 : decode cX9_result 91 = .ok (.iconst 3, 1) := by decide +kernel
theorem dX9_result_92 : decode cX9_result 92 = .ok (.goto 6, 3) := by decide +kernel
theorem dX9_result_95 : decode cX9_result 95 = .ok (.iconst 2, 1) := by decide +kernel
theorem dX9_result_96 : decode cX9_result 96 = .ok (.iload_n 1, 1) := by decide +kernel
theorem dX9_result_97 : decode cX9_result 97 = .ok (.isub, 1) := by decide +kernel
theorem dX9_result_98 : decode cX9_result 98 = .ok (.ireturn, 1) := by decide +kernel
set_option maxRecDepth 20000 in
theorem ggX9_runRate_X9_isInnings : GoodIn wsX9_runRate wsX9_isInnings := goodIn_ca (goodIn_r _ [7, 1, 8, 9, 6, 10, 14, 15, 16, 17, 18, 19, 20, 21, 22, 23, 24, 25, 26, 27, 28, 29, 30, 31, 32, 33, 34, 35] (by decide +kernel) (by decide +kernel)) (goodIn_sub (fun _ h => List.mem_cons_of_mem _ (List.mem_append_right _ h)) (by decide +kernel))
set_option maxRecDepth 20000 in
theorem gX9_runRate_X9_isInnings : GoodIn wsX9_runRate (wsV RX9 227 RX9 yX9_isInnings wsX9_isInnings) := goodIn_app (goodIn_of _ (by decide +kernel)) ggX9_runRate_X9_isInnings
set_option maxRecDepth 20000 in
theorem ggX9_runRate_X9_at : GoodIn wsX9_runRate wsX9_at := goodIn_r _ [13] (by decide +kernel) (by decide +kernel)
set_option maxRecDepth 20000 in
theorem gX9_runRate_X9_at : GoodIn wsX9_runRate (va_wsS RX9 62 yX9_at wsX9_at) := goodIn_app (goodIn_of _ (by decide +kernel)) ggX9_runRate_X9_at
theorem dX9_runRate_0 : decode cX9_runRate 0 = .ok (.aload_n 0, 1) := by decide +kernel
theorem dX9_runRate_1 : decode cX9_runRate 1 = .ok (.aload_n 0, 1) := by decide +kernel
theorem dX9_runRate_2 : decode cX9_runRate 2 = .ok (.iload_n 1, 1) := by decide +kernel
theorem dX9_runRate_3 : decode cX9_runRate 3 = .ok (.invokevirtual 227, 3) := by decide +kernel
theorem dX9_runRate_6 : decode cX9_runRate 6 = .ok (.ifCond .ne 7, 3) := by decide +kernel
theorem dX9_runRate_9 : decode cX9_runRate 9 = .ok (.iconst 1, 1) := by decide +kernel
theorem dX9_runRate_10 : decode cX9_runRate 10 = .ok (.goto 21, 3) := by decide +kernel
theorem dX9_runRate_13 : decode cX9_runRate 13 = .ok (.aload_n 0, 1) := by decide +kernel
theorem dX9_runRate_14 : decode cX9_runRate 14 = .ok (.getfield 9, 3) := by decide +kernel
theorem dX9_runRate_17 : decode cX9_runRate 17 = .ok (.iload_n 1, 1) := by decide +kernel
theorem dX9_runRate_18 : decode cX9_runRate 18 = .ok (.iconst 2, 1) := by decide +kernel
theorem dX9_runRate_19 : decode cX9_runRate 19 = .ok (.invokestatic 62, 3) := by decide +kernel
theorem dX9_runRate_22 : decode cX9_runRate 22 = .ok (.iaload, 1) := by decide +kernel
theorem dX9_runRate_23 : decode cX9_runRate 23 = .ok (.ifCond .ne 7, 3) := by decide +kernel
theorem dX9_runRate_26 : decode cX9_runRate 26 = .ok (.iconst 2, 1) := by decide +kernel
theorem dX9_runRate_27 : decode cX9_runRate 27 = .ok (.goto 4, 3) := by decide +kernel
theorem dX9_runRate_30 : decode cX9_runRate 30 = .ok (.iconst 0, 1) := by decide +kernel
theorem dX9_runRate_31 : decode cX9_runRate 31 = .ok (.putfield 55, 3) := by decide +kernel
theorem dX9_runRate_34 : decode cX9_runRate 34 = .ok (.aload_n 0, 1) := by decide +kernel
theorem dX9_runRate_35 : decode cX9_runRate 35 = .ok (.getfield 55, 3) := by decide +kernel
theorem dX9_runRate_38 : decode cX9_runRate 38 = .ok (.ifCond .le 7, 3) := by decide +kernel
theorem dX9_runRate_41 : decode cX9_runRate 41 = .ok (.dconst 0, 1) := by decide +kernel
theorem dX9_runRate_42 : decode cX9_runRate 42 = .ok (.goto 29, 3) := by decide +kernel
theorem dX9_runRate_45 : decode cX9_runRate 45 = .ok (.aload_n 0, 1) := by decide +kernel
theorem dX9_runRate_46 : decode cX9_runRate 46 = .ok (.getfield 9, 3) := by decide +kernel
theorem dX9_runRate_49 : decode cX9_runRate 49 = .ok (.iload_n 1, 1) := by decide +kernel
theorem dX9_runRate_50 : decode cX9_runRate 50 = .ok (.iconst 0, 1) := by decide +kernel
theorem dX9_runRate_51 : decode cX9_runRate 51 = .ok (.invokestatic 62, 3) := by decide +kernel
theorem dX9_runRate_54 : decode cX9_runRate 54 = .ok (.iaload, 1) := by decide +kernel
theorem dX9_runRate_55 : decode cX9_runRate 55 = .ok (.bipush 6, 2) := by decide +kernel
theorem dX9_runRate_57 : decode cX9_runRate 57 = .ok (.imul, 1) := by decide +kernel
theorem dX9_runRate_58 : decode cX9_runRate 58 = .ok (.i2d, 1) := by decide +kernel
theorem dX9_runRate_59 : decode cX9_runRate 59 = .ok (.aload_n 0, 1) := by decide +kernel
theorem dX9_runRate_60 : decode cX9_runRate 60 = .ok (.getfield 9, 3) := by decide +kernel
theorem dX9_runRate_63 : decode cX9_runRate 63 = .ok (.iload_n 1, 1) := by decide +kernel
theorem dX9_runRate_64 : decode cX9_runRate 64 = .ok (.iconst 2, 1) := by decide +kernel
theorem dX9_runRate_65 : decode cX9_runRate 65 = .ok (.invokestatic 62, 3) := by decide +kernel
theorem dX9_runRate_68 : decode cX9_runRate 68 = .ok (.iaload, 1) := by decide +kernel
theorem dX9_runRate_69 : decode cX9_runRate 69 = .ok (.i2d, 1) := by decide +kernel
theorem dX9_runRate_70 : decode cX9_runRate 70 = .ok (.ddiv, 1) := by decide +kernel
theorem dX9_runRate_71 : decode cX9_runRate 71 = .ok (.dreturn, 1) := by decide +kernel
set_option maxRecDepth 20000 in
theorem ggX9_strikeRate_X9_isInnings : GoodIn wsX9_strikeRate wsX9_isInnings := goodIn_ca (goodIn_r _ [7, 1, 8, 9, 6, 10, 14, 15, 16, 17, 18, 19, 20, 21, 22, 23, 24, 25, 26, 27, 28, 29, 30, 31, 32, 33, 34, 35] (by decide +kernel) (by decide +kernel)) (goodIn_sub (fun _ h => List.mem_cons_of_mem _ (List.mem_append_right _ h)) (by decide +kernel))
set_option maxRecDepth 20000 in
theorem gX9_strikeRate_X9_isInnings : GoodIn wsX9_strikeRate (wsV RX9 227 RX9 yX9_isInnings wsX9_isInnings) := goodIn_app (goodIn_of _ (by decide +kernel)) ggX9_strikeRate_X9_isInnings
set_option maxRecDepth 20000 in
theorem ggX9_strikeRate_X9_isIn : GoodIn wsX9_strikeRate wsX9_isIn := goodIn_r _ [10] (by decide +kernel) (by decide +kernel)
set_option maxRecDepth 20000 in
theorem gX9_strikeRate_X9_isIn : GoodIn wsX9_strikeRate (va_wsS RX9 76 yX9_isIn wsX9_isIn) := goodIn_app (goodIn_of _ (by decide +kernel)) ggX9_strikeRate_X9_isIn
set_option maxRecDepth 20000 in
theorem ggX9_strikeRate_X9_batterAt : GoodIn wsX9_strikeRate wsX9_batterAt := goodIn_r _ [13] (by decide +kernel) (by decide +kernel)
set_option maxRecDepth 20000 in
theorem gX9_strikeRate_X9_batterAt : GoodIn wsX9_strikeRate (va_wsS RX9 65 yX9_batterAt wsX9_batterAt) := goodIn_app (goodIn_of _ (by decide +kernel)) ggX9_strikeRate_X9_batterAt
theorem dX9_strikeRate_0 : decode cX9_strikeRate 0 = .ok (.aload_n 0, 1) := by decide +kernel
theorem dX9_strikeRate_1 : decode cX9_strikeRate 1 = .ok (.aload_n 0, 1) := by decide +kernel
theorem dX9_strikeRate_2 : decode cX9_strikeRate 2 = .ok (.iload_n 1, 1) := by decide +kernel
theorem dX9_strikeRate_3 : decode cX9_strikeRate 3 = .ok (.invokevirtual 227, 3) := by decide +kernel
theorem dX9_strikeRate_6 : decode cX9_strikeRate 6 = .ok (.ifCond .eq 13, 3) := by decide +kernel
theorem dX9_strikeRate_9 : decode cX9_strikeRate 9 = .ok (.iload_n 2, 1) := by decide +kernel
theorem dX9_strikeRate_10 : decode cX9_strikeRate 10 = .ok (.iconst 0, 1) := by decide +kernel
theorem dX9_strikeRate_11 : decode cX9_strikeRate 11 = .ok (.bipush 10, 2) := by decide +kernel
theorem dX9_strikeRate_13 : decode cX9_strikeRate 13 = .ok (.invokestatic 76, 3) := by decide +kernel
theorem dX9_strikeRate_16 : decode cX9_strikeRate 16 = .ok (.ifCond .ne 7, 3) := by decide +kernel
theorem dX9_strikeRate_19 : decode cX9_strikeRate 19 = .ok (.iconst 1, 1) := by decide +kernel
theorem dX9_strikeRate_20 : decode cX9_strikeRate 20 = .ok (.goto 22, 3) := by decide +kernel
theorem dX9_strikeRate_23 : decode cX9_strikeRate 23 = .ok (.aload_n 0, 1) := by decide +kernel
theorem dX9_strikeRate_24 : decode cX9_strikeRate 24 = .ok (.getfield 9, 3) := by decide +kernel
theorem dX9_strikeRate_27 : decode cX9_strikeRate 27 = .ok (.iload_n 1, 1) := by decide +kernel
theorem dX9_strikeRate_28 : decode cX9_strikeRate 28 = .ok (.iload_n 2, 1) := by decide +kernel
theorem dX9_strikeRate_29 : decode cX9_strikeRate 29 = .ok (.iconst 1, 1) := by decide +kernel
theorem dX9_strikeRate_30 : decode cX9_strikeRate 30 = .ok (.invokestatic 65, 3) := by decide +kernel
theorem dX9_strikeRate_33 : decode cX9_strikeRate 33 = .ok (.iaload, 1) := by decide +kernel
theorem dX9_strikeRate_34 : decode cX9_strikeRate 34 = .ok (.ifCond .ne 7, 3) := by decide +kernel
theorem dX9_strikeRate_37 : decode cX9_strikeRate 37 = .ok (.iconst 2, 1) := by decide +kernel
theorem dX9_strikeRate_38 : decode cX9_strikeRate 38 = .ok (.goto 4, 3) := by decide +kernel
theorem dX9_strikeRate_41 : decode cX9_strikeRate 41 = .ok (.iconst 0, 1) := by decide +kernel
theorem dX9_strikeRate_42 : decode cX9_strikeRate 42 = .ok (.putfield 55, 3) := by decide +kernel
theorem dX9_strikeRate_45 : decode cX9_strikeRate 45 = .ok (.aload_n 0, 1) := by decide +kernel
theorem dX9_strikeRate_46 : decode cX9_strikeRate 46 = .ok (.getfield 55, 3) := by decide +kernel
theorem dX9_strikeRate_49 : decode cX9_strikeRate 49 = .ok (.ifCond .le 7, 3) := by decide +kernel
theorem dX9_strikeRate_52 : decode cX9_strikeRate 52 = .ok (.fconst 0, 1) := by decide +kernel
theorem dX9_strikeRate_53 : decode cX9_strikeRate 53 = .ok (.goto 31, 3) := by decide +kernel
theorem dX9_strikeRate_56 : decode cX9_strikeRate 56 = .ok (.aload_n 0, 1) := by decide +kernel
theorem dX9_strikeRate_57 : decode cX9_strikeRate 57 = .ok (.getfield 9, 3) := by decide +kernel
theorem dX9_strikeRate_60 : decode cX9_strikeRate 60 = .ok (.iload_n 1, 1) := by decide +kernel
theorem dX9_strikeRate_61 : decode cX9_strikeRate 61 = .ok (.iload_n 2, 1) := by decide +kernel
theorem dX9_strikeRate_62 : decode cX9_strikeRate 62 = .ok (.iconst 0, 1) := by decide +kernel
theorem dX9_strikeRate_63 : decode cX9_strikeRate 63 = .ok (.invokestatic 65, 3) := by decide +kernel
theorem dX9_strikeRate_66 : decode cX9_strikeRate 66 = .ok (.iaload, 1) := by decide +kernel
theorem dX9_strikeRate_67 : decode cX9_strikeRate 67 = .ok (.bipush 100, 2) := by decide +kernel
theorem dX9_strikeRate_69 : decode cX9_strikeRate 69 = .ok (.imul, 1) := by decide +kernel
theorem dX9_strikeRate_70 : decode cX9_strikeRate 70 = .ok (.i2f, 1) := by decide +kernel
theorem dX9_strikeRate_71 : decode cX9_strikeRate 71 = .ok (.aload_n 0, 1) := by decide +kernel
theorem dX9_strikeRate_72 : decode cX9_strikeRate 72 = .ok (.getfield 9, 3) := by decide +kernel
theorem dX9_strikeRate_75 : decode cX9_strikeRate 75 = .ok (.iload_n 1, 1) := by decide +kernel
theorem dX9_strikeRate_76 : decode cX9_strikeRate 76 = .ok (.iload_n 2, 1) := by decide +kernel
theorem dX9_strikeRate_77 : decode cX9_strikeRate 77 = .ok (.iconst 1, 1) := by decide +kernel
theorem dX9_strikeRate_78 : decode cX9_strikeRate 78 = .ok (.invokestatic 65, 3) := by decide +kernel
theorem dX9_strikeRate_81 : decode cX9_strikeRate 81 = .ok (.iaload, 1) := by decide +kernel
theorem dX9_strikeRate_82 : decode cX9_strikeRate 82 = .ok (.i2f, 1) := by decide +kernel
theorem dX9_strikeRate_83 : decode cX9_strikeRate 83 = .ok (.fdiv, 1) := by decide +kernel
theorem dX9_strikeRate_84 : decode cX9_strikeRate 84 = .ok (.freturn, 1) := by decide +kernel
set_option maxRecDepth 20000 in
theorem ggX9_storeOvers_X9_isIn : GoodIn wsX9_storeOvers wsX9_isIn := goodIn_r _ [10] (by decide +kernel) (by decide +kernel)
set_option maxRecDepth 20000 in
theorem gX9_storeOvers_X9_isIn : GoodIn wsX9_storeOvers (va_wsS RX9 76 yX9_isIn wsX9_isIn) := goodIn_app (goodIn_of _ (by decide +kernel)) ggX9_storeOvers_X9_isIn
set_option maxRecDepth 20000 in
theorem ggX9_storeOvers_X9_isInnings : GoodIn wsX9_storeOvers wsX9_isInnings := goodIn_ca (goodIn_r _ [14, 2, 7, 8, 9, 10, 18, 19, 20, 21, 22, 23, 24, 25, 26, 27, 28, 29, 30, 31, 32, 33, 34, 35, 36, 37, 38, 39] (by decide +kernel) (by decide +kernel)) (goodIn_sub (fun _ h => List.mem_cons_of_mem _ (List.mem_append_right _ h)) (by decide +kernel))
set_option maxRecDepth 20000 in
theorem gX9_storeOvers_X9_isInnings : GoodIn wsX9_storeOvers (wsV RX9 227 RX9 yX9_isInnings wsX9_isInnings) := goodIn_app (goodIn_of _ (by decide +kernel)) ggX9_storeOvers_X9_isInnings
set_option maxRecDepth 20000 in
theorem ggX9_storeOvers_X9_at : GoodIn wsX9_storeOvers wsX9_at := goodIn_r _ [17] (by decide +kernel) (by decide +kernel)
set_option maxRecDepth 20000 in
theorem gX9_storeOvers_X9_at : GoodIn wsX9_storeOvers (va_wsS RX9 62 yX9_at wsX9_at) := goodIn_app (goodIn_of _ (by decide +kernel)) ggX9_storeOvers_X9_at
theorem dX9_storeOvers_0 : decode cX9_storeOvers 0 = .ok (.aload_n 0, 1) := by decide +kernel
theorem dX9_storeOvers_1 : decode cX9_storeOvers 1 = .ok (.iload_n 1, 1) := by decide +kernel
theorem dX9_storeOvers_2 : decode cX9_storeOvers 2 = .ok (.iconst 0, 1) := by decide +kernel
theorem dX9_storeOvers_3 : decode cX9_storeOvers 3 = .ok (.iconst 1, 1) := by decide +kernel
theorem dX9_storeOvers_4 : decode cX9_storeOvers 4 = .ok (.invokestatic 76, 3) := by decide +kernel
theorem dX9_storeOvers_7 : decode cX9_storeOvers 7 = .ok (.ifCond .eq 15, 3) := by decide +kernel
theorem dX9_storeOvers_10 : decode cX9_storeOvers 10 = .ok (.aload_n 0, 1) := by decide +kernel
theorem dX9_storeOvers_11 : decode cX9_storeOvers 11 = .ok (.iload_n 2, 1) := by decide +kernel
theorem dX9_storeOvers_12 : decode cX9_storeOvers 12 = .ok (.invokevirtual 227, 3) := by decide +kernel
theorem dX9_storeOvers_15 : decode cX9_storeOvers 15 = .ok (.ifCond .eq 7, 3) := by decide +kernel
theorem dX9_storeOvers_18 : decode cX9_storeOvers 18 = .ok (.iconst 0, 1) := by decide +kernel
theorem dX9_storeOvers_19 : decode cX9_storeOvers 19 = .ok (.goto 4, 3) := by decide +kernel
theorem dX9_storeOvers_22 : decode cX9_storeOvers 22 = .ok (.iconst 1, 1) := by decide +kernel
theorem dX9_storeOvers_23 : decode cX9_storeOvers 23 = .ok (.putfield 55, 3) := by decide +kernel
theorem dX9_storeOvers_26 : decode cX9_storeOvers 26 = .ok (.aload_n 0, 1) := by decide +kernel
theorem dX9_storeOvers_27 : decode cX9_storeOvers 27 = .ok (.getfield 55, 3) := by decide +kernel
theorem dX9_storeOvers_30 : decode cX9_storeOvers 30 = .ok (.iconst 1, 1) := by decide +kernel
theorem dX9_storeOvers_31 : decode cX9_storeOvers 31 = .ok (.if_icmp .ne 5, 3) := by decide +kernel
theorem dX9_storeOvers_34 : decode cX9_storeOvers 34 = .ok (.iconst 0, 1) := by decide +kernel
theorem dX9_storeOvers_35 : decode cX9_storeOvers 35 = .ok (.ireturn, 1) := by decide +kernel
theorem dX9_storeOvers_36 : decode cX9_storeOvers 36 = .ok (.aload_n 0, 1) := by decide +kernel
theorem dX9_storeOvers_37 : decode cX9_storeOvers 37 = .ok (.getfield 9, 3) := by decide +kernel
theorem dX9_storeOvers_40 : decode cX9_storeOvers 40 = .ok (.iload_n 2, 1) := by decide +kernel
theorem dX9_storeOvers_41 : decode cX9_storeOvers 41 = .ok (.bipush 8, 2) := by decide +kernel
theorem dX9_storeOvers_43 : decode cX9_storeOvers 43 = .ok (.invokestatic 62, 3) := by decide +kernel
theorem dX9_storeOvers_46 : decode cX9_storeOvers 46 = .ok (.iaload, 1) := by decide +kernel
theorem dX9_storeOvers_47 : decode cX9_storeOvers 47 = .ok (.istore 4, 2) := by decide +kernel
theorem dX9_storeOvers_49 : decode cX9_storeOvers 49 = .ok (.aload_n 0, 1) := by decide +kernel
theorem dX9_storeOvers_50 : decode cX9_storeOvers 50 = .ok (.getfield 42, 3) := by decide +kernel
theorem dX9_storeOvers_53 : decode cX9_storeOvers 53 = .ok (.iload_n 1, 1) := by decide +kernel
theorem dX9_storeOvers_54 : decode cX9_storeOvers 54 = .ok (.iload_n 3, 1) := by decide +kernel
theorem dX9_storeOvers_55 : decode cX9_storeOvers 55 = .ok (.ifCond .eq 7, 3) := by decide +kernel
theorem dX9_storeOvers_58 : decode cX9_storeOvers 58 = .ok (.iconst 1, 1) := by decide +kernel
theorem dX9_storeOvers_59 : decode cX9_storeOvers 59 = .ok (.goto 4, 3) := by decide +kernel
theorem dX9_storeOvers_62 : decode cX9_storeOvers 62 = .ok (.iconst 2, 1) := by decide +kernel
theorem dX9_storeOvers_63 : decode cX9_storeOvers 63 = .ok (.iastore, 1) := by decide +kernel
theorem dX9_storeOvers_64 : decode cX9_storeOvers 64 = .ok (.aload_n 0, 1) := by decide +kernel
theorem dX9_storeOvers_65 : decode cX9_storeOvers 65 = .ok (.getfield 45, 3) := by decide +kernel
theorem dX9_storeOvers_68 : decode cX9_storeOvers 68 = .ok (.iload_n 1, 1) := by decide +kernel
theorem dX9_storeOvers_69 : decode cX9_storeOvers 69 = .ok (.iload 4, 2) := by decide +kernel
theorem dX9_storeOvers_71 : decode cX9_storeOvers 71 = .ok (.aload_n 0, 1) := by decide +kernel
theorem dX9_storeOvers_72 : decode cX9_storeOvers 72 = .ok (.getfield 9, 3) := by decide +kernel
theorem dX9_storeOvers_75 : decode cX9_storeOvers 75 = .ok (.iload_n 2, 1) := by decide +kernel
theorem dX9_storeOvers_76 : decode cX9_storeOvers 76 = .ok (.bipush 10, 2) := by decide +kernel
theorem dX9_storeOvers_78 : decode cX9_storeOvers 78 = .ok (.invokestatic 62, 3) := by decide +kernel
theorem dX9_storeOvers_81 : decode cX9_storeOvers 81 = .ok (.iaload, 1) := by decide +kernel
theorem dX9_storeOvers_82 : decode cX9_storeOvers 82 = .ok (.iadd, 1) := by decide +kernel
theorem dX9_storeOvers_83 : decode cX9_storeOvers 83 = .ok (.iastore, 1) := by decide +kernel
theorem dX9_storeOvers_84 : decode cX9_storeOvers 84 = .ok (.iconst 0, 1) := by decide +kernel
theorem dX9_storeOvers_85 : decode cX9_storeOvers 85 = .ok (.istore 5, 2) := by decide +kernel
theorem dX9_storeOvers_87 : decode cX9_storeOvers 87 = .ok (.iload 5, 2) := by decide +kernel
theorem dX9_storeOvers_89 : decode cX9_storeOvers 89 = .ok (.aload_n 0, 1) := by decide +kernel
theorem dX9_storeOvers_90 : decode cX9_storeOvers 90 = .ok (.getfield 45, 3) := by decide +kernel
theorem dX9_storeOvers_93 : decode cX9_storeOvers 93 = .ok (.iload_n 1, 1) := by decide +kernel
theorem dX9_storeOvers_94 : decode cX9_storeOvers 94 = .ok (.iaload, 1) := by decide +kernel
theorem dX9_storeOvers_95 : decode cX9_storeOvers 95 = .ok (.if_icmp .ge 82, 3) := by decide +kernel
theorem dX9_storeOvers_98 : decode cX9_storeOvers 98 = .ok (.iload 5, 2) := by decide +kernel
theorem dX9_storeOvers_100 : decode cX9_storeOvers 100 = .ok (.iload 4, 2) := by decide +kernel
theorem dX9_storeOvers_102 : decode cX9_storeOvers 102 = .ok (.if_icmp .ge 22, 3) := by decide +kernel
theorem dX9_storeOvers_105 : decode cX9_storeOvers 105 = .ok (.aload_n 0, 1) := by decide +kernel
theorem dX9_storeOvers_106 : decode cX9_storeOvers 106 = .ok (.getfield 9, 3) := by decide +kernel
theorem dX9_storeOvers_109 : decode cX9_storeOvers 109 = .ok (.sipush 761, 3) := by decide +kernel
theorem dX9_storeOvers_112 : decode cX9_storeOvers 112 = .ok (.bipush 20, 2) := by decide +kernel
theorem dX9_storeOvers_114 : decode cX9_storeOvers 114 = .ok (.iload_n 2, 1) := by decide +kernel
theorem dX9_storeOvers_115 : decode cX9_storeOvers 115 = .ok (.imul, 1) := by decide +kernel
theorem dX9_storeOvers_116 : decode cX9_storeOvers 116 = .ok (.iadd, 1) := by decide +kernel
theorem dX9_storeOvers_117 : decode cX9_storeOvers 117 = .ok (.iload 5, 2) := by decide +kernel
theorem dX9_storeOvers_119 : decode cX9_storeOvers 119 = .ok (.iadd, 1) := by decide +kernel
theorem dX9_storeOvers_120 : decode cX9_storeOvers 120 = .ok (.iaload, 1) := by decide +kernel
theorem dX9_storeOvers_121 : decode cX9_storeOvers 121 = .ok (.goto 13, 3) := by decide +kernel
theorem dX9_storeOvers_124 : decode cX9_storeOvers 124 = .ok (.aload_n 0, 1) := by decide +kernel
theorem dX9_storeOvers_125 : decode cX9_storeOvers 125 = .ok (.getfield 9, 3) := by decide +kernel
theorem dX9_storeOvers_128 : decode cX9_storeOvers 128 = .ok (.iload_n 2, 1) := by decide +kernel
theorem dX9_storeOvers_129 : decode cX9_storeOvers 129 = .ok (.iconst 0, 1) := by decide +kernel
theorem dX9_storeOvers_130 : decode cX9_storeOvers 130 = .ok (.invokestatic 62, 3) := by decide +kernel
theorem dX9_storeOvers_133 : decode cX9_storeOvers 133 = .ok (.iaload, 1) := by decide +kernel
theorem dX9_storeOvers_134 : decode cX9_storeOvers 134 = .ok (.istore 6, 2) := by decide +kernel
theorem dX9_storeOvers_136 : decode cX9_storeOvers 136 = .ok (.aload_n 0, 1) := by decide +kernel
theorem dX9_storeOvers_137 : decode cX9_storeOvers 137 = .ok (.getfield 48, 3) := by decide +kernel
theorem dX9_storeOvers_140 : decode cX9_storeOvers 140 = .ok (.bipush 21, 2) := by decide +kernel
theorem dX9_storeOvers_142 : decode cX9_storeOvers 142 = .ok (.iload_n 1, 1) := by decide +kernel
theorem dX9_storeOvers_143 : decode cX9_storeOvers 143 = .ok (.imul, 1) := by decide +kernel
theorem dX9_storeOvers_144 : decode cX9_storeOvers 144 = .ok (.iload 5, 2) := by decide +kernel
theorem dX9_storeOvers_146 : decode cX9_storeOvers 146 = .ok (.iadd, 1) := by decide +kernel
theorem dX9_storeOvers_147 : decode cX9_storeOvers 147 = .ok (.iload 6, 2) := by decide +kernel
theorem dX9_storeOvers_149 : decode cX9_storeOvers 149 = .ok (.iastore, 1) := by decide +kernel
theorem dX9_storeOvers_150 : decode cX9_storeOvers 150 = .ok (.aload_n 0, 1) := by decide +kernel
theorem dX9_storeOvers_151 : decode cX9_storeOvers 151 = .ok (.getfield 51, 3) := by decide +kernel
theorem dX9_storeOvers_154 : decode cX9_storeOvers 154 = .ok (.bipush 21, 2) := by decide +kernel
theorem dX9_storeOvers_156 : decode cX9_storeOvers 156 = .ok (.iload_n 1, 1) := by decide +kernel
theorem dX9_storeOvers_157 : decode cX9_storeOvers 157 = .ok (.imul, 1) := by decide +kernel
theorem dX9_storeOvers_158 : decode cX9_storeOvers 158 = .ok (.iload 5, 2) := by decide +kernel
theorem dX9_storeOvers_160 : decode cX9_storeOvers 160 = .ok (.iadd, 1) := by decide +kernel
theorem dX9_storeOvers_161 : decode cX9_storeOvers 161 = .ok (.iload 6, 2) := by decide +kernel
theorem dX9_storeOvers_163 : decode cX9_storeOvers 163 = .ok (.i2f, 1) := by decide +kernel
theorem dX9_storeOvers_164 : decode cX9_storeOvers 164 = .ok (.iload 5, 2) := by decide +kernel
theorem dX9_storeOvers_166 : decode cX9_storeOvers 166 = .ok (.iconst 1, 1) := by decide +kernel
theorem dX9_storeOvers_167 : decode cX9_storeOvers 167 = .ok (.iadd, 1) := by decide +kernel
theorem dX9_storeOvers_168 : decode cX9_storeOvers 168 = .ok (.i2f, 1) := by decide +kernel
theorem dX9_storeOvers_169 : decode cX9_storeOvers 169 = .ok (.fdiv, 1) := by decide +kernel
theorem dX9_storeOvers_170 : decode cX9_storeOvers 170 = .ok (.fastore, 1) := by decide +kernel
theorem dX9_storeOvers_171 : decode cX9_storeOvers 171 = .ok (.iinc 5 1, 3) := by decide +kernel
theorem dX9_storeOvers_174 : decode cX9_storeOvers 174 = .ok (.goto (-87), 3) := by decide +kernel
theorem dX9_storeOvers_177 : decode cX9_storeOvers 177 = .ok (.aload_n 0, 1) := by decide +kernel
theorem dX9_storeOvers_178 : decode cX9_storeOvers 178 = .ok (.getfield 45, 3) := by decide +kernel
theorem dX9_storeOvers_181 : decode cX9_storeOvers 181 = .ok (.iload_n 1, 1) := by decide +kernel
theorem dX9_storeOvers_182 : decode cX9_storeOvers 182 = .ok (.iaload, 1) := by decide +kernel
theorem dX9_storeOvers_183 : decode cX9_storeOvers 183 = .ok (.ireturn, 1) := by decide +kernel
set_option maxRecDepth 20000 in
theorem ggX9_copyOvers_X9_isIn : GoodIn wsX9_copyOvers wsX9_isIn := goodIn_r _ [9] (by decide +kernel) (by decide +kernel)
set_option maxRecDepth 20000 in
theorem gX9_copyOvers_X9_isIn : GoodIn wsX9_copyOvers (va_wsS RX9 76 yX9_isIn wsX9_isIn) := goodIn_app (goodIn_of _ (by decide +kernel)) ggX9_copyOvers_X9_isIn
theorem dX9_copyOvers_0 : decode cX9_copyOvers 0 = .ok (.aload_n 0, 1) := by decide +kernel
theorem dX9_copyOvers_1 : decode cX9_copyOvers 1 = .ok (.iload_n 1, 1) := by decide +kernel
theorem dX9_copyOvers_2 : decode cX9_copyOvers 2 = .ok (.iconst 0, 1) := by decide +kernel
theorem dX9_copyOvers_3 : decode cX9_copyOvers 3 = .ok (.iconst 1, 1) := by decide +kernel
theorem dX9_copyOvers_4 : decode cX9_copyOvers 4 = .ok (.invokestatic 76, 3) := by decide +kernel
theorem dX9_copyOvers_7 : decode cX9_copyOvers 7 = .ok (.ifCond .ne 7, 3) := by decide +kernel
theorem dX9_copyOvers_10 : decode cX9_copyOvers 10 = .ok (.iconst 1, 1) := by decide +kernel
theorem dX9_copyOvers_11 : decode cX9_copyOvers 11 = .ok (.goto 73, 3) := by decide +kernel
theorem dX9_copyOvers_14 : decode cX9_copyOvers 14 = .ok (.aload_n 0, 1) := by decide +kernel
theorem dX9_copyOvers_15 : decode cX9_copyOvers 15 = .ok (.getfield 42, 3) := by decide +kernel
theorem dX9_copyOvers_18 : decode cX9_copyOvers 18 = .ok (.iconst 0, 1) := by decide +kernel
theorem dX9_copyOvers_19 : decode cX9_copyOvers 19 = .ok (.iaload, 1) := by decide +kernel
theorem dX9_copyOvers_20 : decode cX9_copyOvers 20 = .ok (.ifCond .eq 12, 3) := by decide +kernel
theorem dX9_copyOvers_23 : decode cX9_copyOvers 23 = .ok (.aload_n 0, 1) := by decide +kernel
theorem dX9_copyOvers_24 : decode cX9_copyOvers 24 = .ok (.getfield 42, 3) := by decide +kernel
theorem dX9_copyOvers_27 : decode cX9_copyOvers 27 = .ok (.iconst 1, 1) := by decide +kernel
theorem dX9_copyOvers_28 : decode cX9_copyOvers 28 = .ok (.iaload, 1) := by decide +kernel
theorem dX9_copyOvers_29 : decode cX9_copyOvers 29 = .ok (.ifCond .ne 7, 3) := by decide +kernel
theorem dX9_copyOvers_32 : decode cX9_copyOvers 32 = .ok (.iconst 2, 1) := by decide +kernel
theorem dX9_copyOvers_33 : decode cX9_copyOvers 33 = .ok (.goto 51, 3) := by decide +kernel
theorem dX9_copyOvers_36 : decode cX9_copyOvers 36 = .ok (.aload_n 0, 1) := by decide +kernel
theorem dX9_copyOvers_37 : decode cX9_copyOvers 37 = .ok (.getfield 42, 3) := by decide +kernel
theorem dX9_copyOvers_40 : decode cX9_copyOvers 40 = .ok (.iconst 0, 1) := by decide +kernel
theorem dX9_copyOvers_41 : decode cX9_copyOvers 41 = .ok (.iaload, 1) := by decide +kernel
theorem dX9_copyOvers_42 : decode cX9_copyOvers 42 = .ok (.aload_n 0, 1) := by decide +kernel
theorem dX9_copyOvers_43 : decode cX9_copyOvers 43 = .ok (.getfield 42, 3) := by decide +kernel
theorem dX9_copyOvers_46 : decode cX9_copyOvers 46 = .ok (.iconst 1, 1) := by decide +kernel
theorem dX9_copyOvers_47 : decode cX9_copyOvers 47 = .ok (.iaload, 1) := by decide +kernel
theorem dX9_copyOvers_48 : decode cX9_copyOvers 48 = .ok (.if_icmp .eq 7, 3) := by decide +kernel
theorem dX9_copyOvers_51 : decode cX9_copyOvers 51 = .ok (.iconst 3, 1) := by decide +kernel
theorem dX9_copyOvers_52 : decode cX9_copyOvers 52 = .ok (.goto 32, 3) := by decide +kernel
theorem dX9_copyOvers_55 : decode cX9_copyOvers 55 = .ok (.iload_n 2, 1) := by decide +kernel
theorem dX9_copyOvers_56 : decode cX9_copyOvers 56 = .ok (.ifCond .lt 23, 3) := by decide +kernel
theorem dX9_copyOvers_59 : decode cX9_copyOvers 59 = .ok (.iload_n 2, 1) := by decide +kernel
theorem dX9_copyOvers_60 : decode cX9_copyOvers 60 = .ok (.aload_n 0, 1) := by decide +kernel
theorem dX9_copyOvers_61 : decode cX9_copyOvers 61 = .ok (.getfield 45, 3) := by decide +kernel
theorem dX9_copyOvers_64 : decode cX9_copyOvers 64 = .ok (.iconst 0, 1) := by decide +kernel
theorem dX9_copyOvers_65 : decode cX9_copyOvers 65 = .ok (.iaload, 1) := by decide +kernel
theorem dX9_copyOvers_66 : decode cX9_copyOvers 66 = .ok (.if_icmp .gt 13, 3) := by decide +kernel
theorem dX9_copyOvers_69 : decode cX9_copyOvers 69 = .ok (.iload_n 2, 1) := by decide +kernel
theorem dX9_copyOvers_70 : decode cX9_copyOvers 70 = .ok (.aload_n 0, 1) := by decide +kernel
theorem dX9_copyOvers_71 : decode cX9_copyOvers 71 = .ok (.getfield 45, 3) := by decide +kernel
theorem dX9_copyOvers_74 : decode cX9_copyOvers 74 = .ok (.iconst 1, 1) := by decide +kernel
theorem dX9_copyOvers_75 : decode cX9_copyOvers 75 = .ok (.iaload, 1) := by decide +kernel
theorem dX9_copyOvers_76 : decode cX9_copyOvers 76 = .ok (.if_icmp .le 7, 3) := by decide +kernel
theorem dX9_copyOvers_79 : decode cX9_copyOvers 79 = .ok (.iconst 4, 1) := by decide +kernel
theorem dX9_copyOvers_80 : decode cX9_copyOvers 80 = .ok (.goto 4, 3) := by decide +kernel
theorem dX9_copyOvers_83 : decode cX9_copyOvers 83 = .ok (.iconst 0, 1) := by decide +kernel
theorem dX9_copyOvers_84 : decode cX9_copyOvers 84 = .ok (.putfield 55, 3) := by decide +kernel
theorem dX9_copyOvers_87 : decode cX9_copyOvers 87 = .ok (.aload_n 0, 1) := by decide +kernel
theorem dX9_copyOvers_88 : decode cX9_copyOvers 88 = .ok (.getfield 55, 3) := by decide +kernel
theorem dX9_copyOvers_91 : decode cX9_copyOvers 91 = .ok (.ifCond .le 5, 3) := by decide +kernel
theorem dX9_copyOvers_94 : decode cX9_copyOvers 94 = .ok (.iconst 0, 1) := by decide +kernel
theorem dX9_copyOvers_95 : decode cX9_copyOvers 95 = .ok (.ireturn, 1) := by decide +kernel
theorem dX9_copyOvers_96 : decode cX9_copyOvers 96 = .ok (.iconst 0, 1) := by decide +kernel
theorem dX9_copyOvers_97 : decode cX9_copyOvers 97 = .ok (.istore_n 3, 1) := by decide +kernel
theorem dX9_copyOvers_98 : decode cX9_copyOvers 98 = .ok (.iconst 0, 1) := by decide +kernel
theorem dX9_copyOvers_99 : decode cX9_copyOvers 99 = .ok (.istore 4, 2) := by decide +kernel
theorem dX9_copyOvers_101 : decode cX9_copyOvers 101 = .ok (.iload 4, 2) := by decide +kernel
theorem dX9_copyOvers_103 : decode cX9_copyOvers 103 = .ok (.iload_n 2, 1) := by decide +kernel
theorem dX9_copyOvers_104 : decode cX9_copyOvers 104 = .ok (.if_icmp .ge 118, 3) := by decide +kernel
theorem dX9_copyOvers_107 : decode cX9_copyOvers 107 = .ok (.bipush 21, 2) := by decide +kernel
theorem dX9_copyOvers_109 : decode cX9_copyOvers 109 = .ok (.iload_n 1, 1) := by decide +kernel
theorem dX9_copyOvers_110 : decode cX9_copyOvers 110 = .ok (.imul, 1) := by decide +kernel
theorem dX9_copyOvers_111 : decode cX9_copyOvers 111 = .ok (.iload 4, 2) := by decide +kernel
theorem dX9_copyOvers_113 : decode cX9_copyOvers 113 = .ok (.iadd, 1) := by decide +kernel
theorem dX9_copyOvers_114 : decode cX9_copyOvers 114 = .ok (.istore 5, 2) := by decide +kernel
theorem dX9_copyOvers_116 : decode cX9_copyOvers 116 = .ok (.bipush 21, 2) := by decide +kernel
theorem dX9_copyOvers_118 : decode cX9_copyOvers 118 = .ok (.iconst 1, 1) := by decide +kernel
theorem dX9_copyOvers_119 : decode cX9_copyOvers 119 = .ok (.iload_n 1, 1) := by decide +kernel
theorem dX9_copyOvers_120 : decode cX9_copyOvers 120 = .ok (.isub, 1) := by decide +kernel
theorem dX9_copyOvers_121 : decode cX9_copyOvers 121 = .ok (.imul, 1) := by decide +kernel
theorem dX9_copyOvers_122 : decode cX9_copyOvers 122 = .ok (.iload 4, 2) := by decide +kernel
theorem dX9_copyOvers_124 : decode cX9_copyOvers 124 = .ok (.iadd, 1) := by decide +kernel
theorem dX9_copyOvers_125 : decode cX9_copyOvers 125 = .ok (.istore 6, 2) := by decide +kernel
theorem dX9_copyOvers_127 : decode cX9_copyOvers 127 = .ok (.iload_n 3, 1) := by decide +kernel
theorem dX9_copyOvers_128 : decode cX9_copyOvers 128 = .ok (.aload_n 0, 1) := by decide +kernel
theorem dX9_copyOvers_129 : decode cX9_copyOvers 129 = .ok (.getfield 42, 3) := by decide +kernel
theorem dX9_copyOvers_132 : decode cX9_copyOvers 132 = .ok (.iconst 0, 1) := by decide +kernel
theorem dX9_copyOvers_133 : decode cX9_copyOvers 133 = .ok (.iaload, 1) := by decide +kernel
theorem dX9_copyOvers_134 : decode cX9_copyOvers 134 = .ok (.iconst 1, 1) := by decide +kernel
theorem dX9_copyOvers_135 : decode cX9_copyOvers 135 = .ok (.if_icmp .ne 28, 3) := by decide +kernel
theorem dX9_copyOvers_138 : decode cX9_copyOvers 138 = .ok (.aload_n 0, 1) := by decide +kernel
theorem dX9_copyOvers_139 : decode cX9_copyOvers 139 = .ok (.getfield 48, 3) := by decide +kernel
theorem dX9_copyOvers_142 : decode cX9_copyOvers 142 = .ok (.iload 5, 2) := by decide +kernel
theorem dX9_copyOvers_144 : decode cX9_copyOvers 144 = .ok (.iaload, 1) := by decide +kernel
theorem dX9_copyOvers_145 : decode cX9_copyOvers 145 = .ok (.aload_n 0, 1) := by decide +kernel
theorem dX9_copyOvers_146 : decode cX9_copyOvers 146 = .ok (.getfield 48, 3) := by decide +kernel
theorem dX9_copyOvers_149 : decode cX9_copyOvers 149 = .ok (.iload 6, 2) := by decide +kernel
theorem dX9_copyOvers_151 : decode cX9_copyOvers 151 = .ok (.iaload, 1) := by decide +kernel
theorem dX9_copyOvers_152 : decode cX9_copyOvers 152 = .ok (.if_icmp .eq 7, 3) := by decide +kernel
theorem dX9_copyOvers_155 : decode cX9_copyOvers 155 = .ok (.iconst 1, 1) := by decide +kernel
theorem dX9_copyOvers_156 : decode cX9_copyOvers 156 = .ok (.goto 30, 3) := by decide +kernel
theorem dX9_copyOvers_159 : decode cX9_copyOvers 159 = .ok (.iconst 0, 1) := by decide +kernel
theorem dX9_copyOvers_160 : decode cX9_copyOvers 160 = .ok (.goto 26, 3) := by decide +kernel
theorem dX9_copyOvers_163 : decode cX9_copyOvers 163 = .ok (.aload_n 0, 1) := by decide +kernel
theorem dX9_copyOvers_164 : decode cX9_copyOvers 164 = .ok (.getfield 51, 3) := by decide +kernel
theorem dX9_copyOvers_167 : decode cX9_copyOvers 167 = .ok (.iload 5, 2) := by decide +kernel
theorem dX9_copyOvers_169 : decode cX9_copyOvers 169 = .ok (.faload, 1) := by decide +kernel
theorem dX9_copyOvers_170 : decode cX9_copyOvers 170 = .ok (.aload_n 0, 1) := by decide +kernel
theorem dX9_copyOvers_171 : decode cX9_copyOvers 171 = .ok (.getfield 51, 3) := by decide +kernel
theorem dX9_copyOvers_174 : decode cX9_copyOvers 174 = .ok (.iload 6, 2) := by decide +kernel
theorem dX9_copyOvers_176 : decode cX9_copyOvers 176 = .ok (.faload, 1) := by decide +kernel
theorem dX9_copyOvers_177 : decode cX9_copyOvers 177 = .ok (.fcmp .l, 1) := by decide +kernel
theorem dX9_copyOvers_178 : decode cX9_copyOvers 178 = .ok (.ifCond .eq 7, 3) := by decide +kernel
theorem dX9_copyOvers_181 : decode cX9_copyOvers 181 = .ok (.iconst 1, 1) := by decide +kernel
theorem dX9_copyOvers_182 : decode cX9_copyOvers 182 = .ok (.goto 4, 3) := by decide +kernel
theorem dX9_copyOvers_185 : decode cX9_copyOvers 185 = .ok (.iconst 0, 1) := by decide +kernel
theorem dX9_copyOvers_186 : decode cX9_copyOvers 186 = .ok (.ior, 1) := by decide +kernel
theorem dX9_copyOvers_187 : decode cX9_copyOvers 187 = .ok (.istore_n 3, 1) := by decide +kernel
theorem dX9_copyOvers_188 : decode cX9_copyOvers 188 = .ok (.aload_n 0, 1) := by decide +kernel
theorem dX9_copyOvers_189 : decode cX9_copyOvers 189 = .ok (.getfield 48, 3) := by decide +kernel
theorem dX9_copyOvers_192 : decode cX9_copyOvers 192 = .ok (.iload 6, 2) := by decide +kernel
theorem dX9_copyOvers_194 : decode cX9_copyOvers 194 = .ok (.aload_n 0, 1) := by decide +kernel
theorem dX9_copyOvers_195 : decode cX9_copyOvers 195 = .ok (.getfield 48, 3) := by decide +kernel
theorem dX9_copyOvers_198 : decode cX9_copyOvers 198 = .ok (.iload 5, 2) := by decide +kernel
theorem dX9_copyOvers_200 : decode cX9_copyOvers 200 = .ok (.iaload, 1) := by decide +kernel
theorem dX9_copyOvers_201 : decode cX9_copyOvers 201 = .ok (.iastore, 1) := by decide +kernel
theorem dX9_copyOvers_202 : decode cX9_copyOvers 202 = .ok (.aload_n 0, 1) := by decide +kernel
theorem dX9_copyOvers_203 : decode cX9_copyOvers 203 = .ok (.getfield 51, 3) := by decide +kernel
theorem dX9_copyOvers_206 : decode cX9_copyOvers 206 = .ok (.iload 6, 2) := by decide +kernel
theorem dX9_copyOvers_208 : decode cX9_copyOvers 208 = .ok (.aload_n 0, 1) := by decide +kernel
theorem dX9_copyOvers_209 : decode cX9_copyOvers 209 = .ok (.getfield 51, 3) := by decide +kernel
theorem dX9_copyOvers_212 : decode cX9_copyOvers 212 = .ok (.iload 5, 2) := by decide +kernel
theorem dX9_copyOvers_214 : decode cX9_copyOvers 214 = .ok (.faload, 1) := by decide +kernel
theorem dX9_copyOvers_215 : decode cX9_copyOvers 215 = .ok (.fastore, 1) := by decide +kernel
theorem dX9_copyOvers_216 : decode cX9_copyOvers 216 = .ok (.iinc 4 1, 3) := by decide +kernel
theorem dX9_copyOvers_219 : decode cX9_copyOvers 219 = .ok (.goto (-118), 3) := by decide +kernel
theorem dX9_copyOvers_222 : decode cX9_copyOvers 222 = .ok (.iload_n 3, 1) := by decide +kernel
theorem dX9_copyOvers_223 : decode cX9_copyOvers 223 = .ok (.ireturn, 1) := by decide +kernel
set_option maxRecDepth 20000 in
theorem ggX9_storedOvers_X9_isIn : GoodIn wsX9_storedOvers wsX9_isIn := goodIn_r _ [9] (by decide +kernel) (by decide +kernel)
set_option maxRecDepth 20000 in
theorem gX9_storedOvers_X9_isIn : GoodIn wsX9_storedOvers (va_wsS RX9 76 yX9_isIn wsX9_isIn) := goodIn_app (goodIn_of _ (by decide +kernel)) ggX9_storedOvers_X9_isIn
theorem dX9_storedOvers_0 : decode cX9_storedOvers 0 = .ok (.aload_n 0, 1) := by decide +kernel
theorem dX9_storedOvers_1 : decode cX9_storedOvers 1 = .ok (.iload_n 1, 1) := by decide +kernel
theorem dX9_storedOvers_2 : decode cX9_storedOvers 2 = .ok (.iconst 0, 1) := by decide +kernel
theorem dX9_storedOvers_3 : decode cX9_storedOvers 3 = .ok (.iconst 1, 1) := by decide +kernel
theorem dX9_storedOvers_4 : decode cX9_storedOvers 4 = .ok (.invokestatic 76, 3) := by decide +kernel
theorem dX9_storedOvers_7 : decode cX9_storedOvers 7 = .ok (.ifCond .ne 7, 3) := by decide +kernel
theorem dX9_storedOvers_10 : decode cX9_storedOvers 10 = .ok (.iconst 1, 1) := by decide +kernel
theorem dX9_storedOvers_11 : decode cX9_storedOvers 11 = .ok (.goto 33, 3) := by decide +kernel
theorem dX9_storedOvers_14 : decode cX9_storedOvers 14 = .ok (.aload_n 0, 1) := by decide +kernel
theorem dX9_storedOvers_15 : decode cX9_storedOvers 15 = .ok (.getfield 42, 3) := by decide +kernel
theorem dX9_storedOvers_18 : decode cX9_storedOvers 18 = .ok (.iload_n 1, 1) := by decide +kernel
theorem dX9_storedOvers_19 : decode cX9_storedOvers 19 = .ok (.iaload, 1) := by decide +kernel
theorem dX9_storedOvers_20 : decode cX9_storedOvers 20 = .ok (.ifCond .eq 19, 3) := by decide +kernel
theorem dX9_storedOvers_23 : decode cX9_storedOvers 23 = .ok (.iload_n 2, 1) := by decide +kernel
theorem dX9_storedOvers_24 : decode cX9_storedOvers 24 = .ok (.iconst 0, 1) := by decide +kernel
theorem dX9_storedOvers_25 : decode cX9_storedOvers 25 = .ok (.aload_n 0, 1) := by decide +kernel
theorem dX9_storedOvers_26 : decode cX9_storedOvers 26 = .ok (.getfield 45, 3) := by decide +kernel
theorem dX9_storedOvers_29 : decode cX9_storedOvers 29 = .ok (.iload_n 1, 1) := by decide +kernel
theorem dX9_storedOvers_30 : decode cX9_storedOvers 30 = .ok (.iaload, 1) := by decide +kernel
theorem dX9_storedOvers_31 : decode cX9_storedOvers 31 = .ok (.iconst 1, 1) := by decide +kernel
theorem dX9_storedOvers_32 : decode cX9_storedOvers 32 = .ok (.isub, 1) := by decide +kernel
theorem dX9_storedOvers_33 : decode cX9_storedOvers 33 = .ok (.invokestatic 76, 3) := by decide +kernel
theorem dX9_storedOvers_36 : decode cX9_storedOvers 36 = .ok (.ifCond .ne 7, 3) := by decide +kernel
theorem dX9_storedOvers_39 : decode cX9_storedOvers 39 = .ok (.iconst 2, 1) := by decide +kernel
theorem dX9_storedOvers_40 : decode cX9_storedOvers 40 = .ok (.goto 4, 3) := by decide +kernel
theorem dX9_storedOvers_43 : decode cX9_storedOvers 43 = .ok (.iconst 0, 1) := by decide +kernel
theorem dX9_storedOvers_44 : decode cX9_storedOvers 44 = .ok (.putfield 55, 3) := by decide +kernel
theorem dX9_storedOvers_47 : decode cX9_storedOvers 47 = .ok (.aload_n 0, 1) := by decide +kernel
theorem dX9_storedOvers_48 : decode cX9_storedOvers 48 = .ok (.getfield 55, 3) := by decide +kernel
theorem dX9_storedOvers_51 : decode cX9_storedOvers 51 = .ok (.ifCond .le 5, 3) := by decide +kernel
theorem dX9_storedOvers_54 : decode cX9_storedOvers 54 = .ok (.fconst 0, 1) := by decide +kernel
theorem dX9_storedOvers_55 : decode cX9_storedOvers 55 = .ok (.freturn, 1) := by decide +kernel
theorem dX9_storedOvers_56 : decode cX9_storedOvers 56 = .ok (.aload_n 0, 1) := by decide +kernel
theorem dX9_storedOvers_57 : decode cX9_storedOvers 57 = .ok (.getfield 42, 3) := by decide +kernel
theorem dX9_storedOvers_60 : decode cX9_storedOvers 60 = .ok (.iload_n 1, 1) := by decide +kernel
theorem dX9_storedOvers_61 : decode cX9_storedOvers 61 = .ok (.iaload, 1) := by decide +kernel
theorem dX9_storedOvers_62 : decode cX9_storedOvers 62 = .ok (.iconst 1, 1) := by decide +kernel
theorem dX9_storedOvers_63 : decode cX9_storedOvers 63 = .ok (.if_icmp .ne 18, 3) := by decide +kernel
theorem dX9_storedOvers_66 : decode cX9_storedOvers 66 = .ok (.aload_n 0, 1) := by decide +kernel
theorem dX9_storedOvers_67 : decode cX9_storedOvers 67 = .ok (.getfield 48, 3) := by decide +kernel
theorem dX9_storedOvers_70 : decode cX9_storedOvers 70 = .ok (.bipush 21, 2) := by decide +kernel
theorem dX9_storedOvers_72 : decode cX9_storedOvers 72 = .ok (.iload_n 1, 1) := by decide +kernel
theorem dX9_storedOvers_73 : decode cX9_storedOvers 73 = .ok (.imul, 1) := by decide +kernel
theorem dX9_storedOvers_74 : decode cX9_storedOvers 74 = .ok (.iload_n 2, 1) := by decide +kernel
theorem dX9_storedOvers_75 : decode cX9_storedOvers 75 = .ok (.iadd, 1) := by decide +kernel
theorem dX9_storedOvers_76 : decode cX9_storedOvers 76 = .ok (.iaload, 1) := by decide +kernel
theorem dX9_storedOvers_77 : decode cX9_storedOvers 77 = .ok (.i2f, 1) := by decide +kernel
theorem dX9_storedOvers_78 : decode cX9_storedOvers 78 = .ok (.goto 14, 3) := by decide +kernel
theorem dX9_storedOvers_81 : decode cX9_storedOvers 81 = .ok (.aload_n 0, 1) := by decide +kernel
theorem dX9_storedOvers_82 : decode cX9_storedOvers 82 = .ok (.getfield 51, 3) := by decide +kernel
theorem dX9_storedOvers_85 : decode cX9_storedOvers 85 = .ok (.bipush 21, 2) := by decide +kernel
theorem dX9_storedOvers_87 : decode cX9_storedOvers 87 = .ok (.iload_n 1, 1) := by decide +kernel
theorem dX9_storedOvers_88 : decode cX9_storedOvers 88 = .ok (.imul, 1) := by decide +kernel
theorem dX9_storedOvers_89 : decode cX9_storedOvers 89 = .ok (.iload_n 2, 1) := by decide +kernel
theorem dX9_storedOvers_90 : decode cX9_storedOvers 90 = .ok (.iadd, 1) := by decide +kernel
theorem dX9_storedOvers_91 : decode cX9_storedOvers 91 = .ok (.faload, 1) := by decide +kernel
theorem dX9_storedOvers_92 : decode cX9_storedOvers 92 = .ok (.freturn, 1) := by decide +kernel
theorem dX9_reason_0 : decode cX9_reason 0 = .ok (.aload_n 0, 1) := by decide +kernel
theorem dX9_reason_1 : decode cX9_reason 1 = .ok (.iconst 0, 1) := by decide +kernel
theorem dX9_reason_2 : decode cX9_reason 2 = .ok (.putfield 55, 3) := by decide +kernel
theorem dX9_reason_5 : decode cX9_reason 5 = .ok (.aload_n 0, 1) := by decide +kernel
theorem dX9_reason_6 : decode cX9_reason 6 = .ok (.getfield 166, 3) := by decide +kernel
theorem dX9_reason_9 : decode cX9_reason 9 = .ok (.ireturn, 1) := by decide +kernel
theorem dX9_commandCount_0 : decode cX9_commandCount 0 = .ok (.aload_n 0, 1) := by decide +kernel
theorem dX9_commandCount_1 : decode cX9_commandCount 1 = .ok (.iconst 0, 1) := by decide +kernel
theorem dX9_commandCount_2 : decode cX9_commandCount 2 = .ok (.putfield 55, 3) := by decide +kernel
theorem dX9_commandCount_5 : decode cX9_commandCount 5 = .ok (.aload_n 0, 1) := by decide +kernel
theorem dX9_commandCount_6 : decode cX9_commandCount 6 = .ok (.getfield 9, 3) := by decide +kernel
theorem dX9_commandCount_9 : decode cX9_commandCount 9 = .ok (.bipush 24, 2) := by decide +kernel
theorem dX9_commandCount_11 : decode cX9_commandCount 11 = .ok (.iaload, 1) := by decide +kernel
theorem dX9_commandCount_12 : decode cX9_commandCount 12 = .ok (.ireturn, 1) := by decide +kernel
theorem dX9_undo_0 : decode cX9_undo 0 = .ok (.aload_n 0, 1) := by decide +kernel
theorem dX9_undo_1 : decode cX9_undo 1 = .ok (.aload_n 0, 1) := by decide +kernel
theorem dX9_undo_2 : decode cX9_undo 2 = .ok (.getfield 84, 3) := by decide +kernel
theorem dX9_undo_5 : decode cX9_undo 5 = .ok (.ifCond .ne 7, 3) := by decide +kernel
theorem dX9_undo_8 : decode cX9_undo 8 = .ok (.iconst 1, 1) := by decide +kernel
theorem dX9_undo_9 : decode cX9_undo 9 = .ok (.goto 4, 3) := by decide +kernel
theorem dX9_undo_12 : decode cX9_undo 12 = .ok (.iconst 0, 1) := by decide +kernel
theorem dX9_undo_13 : decode cX9_undo 13 = .ok (.putfield 55, 3) := by decide +kernel
theorem dX9_undo_16 : decode cX9_undo 16 = .ok (.aload_n 0, 1) := by decide +kernel
theorem dX9_undo_17 : decode cX9_undo 17 = .ok (.getfield 55, 3) := by decide +kernel
theorem dX9_undo_20 : decode cX9_undo 20 = .ok (.iconst 1, 1) := by decide +kernel
theorem dX9_undo_21 : decode cX9_undo 21 = .ok (.if_icmp .ne 11, 3) := by decide +kernel
theorem dX9_undo_24 : decode cX9_undo 24 = .ok (.aload_n 0, 1) := by decide +kernel
theorem dX9_undo_25 : decode cX9_undo 25 = .ok (.bipush 7, 2) := by decide +kernel
theorem dX9_undo_27 : decode cX9_undo 27 = .ok (.putfield 166, 3) := by decide +kernel
theorem dX9_undo_30 : decode cX9_undo 30 = .ok (.iconst 0, 1) := by decide +kernel
theorem dX9_undo_31 : decode cX9_undo 31 = .ok (.ireturn, 1) := by decide +kernel
theorem dX9_undo_32 : decode cX9_undo 32 = .ok (.aload_n 0, 1) := by decide +kernel
theorem dX9_undo_33 : decode cX9_undo 33 = .ok (.dup, 1) := by decide +kernel
theorem dX9_undo_34 : decode cX9_undo 34 = .ok (.getfield 84, 3) := by decide +kernel
theorem dX9_undo_37 : decode cX9_undo 37 = .ok (.iconst 1, 1) := by decide +kernel
theorem dX9_undo_38 : decode cX9_undo 38 = .ok (.isub, 1) := by decide +kernel
theorem dX9_undo_39 : decode cX9_undo 39 = .ok (.putfield 84, 3) := by decide +kernel
theorem dX9_undo_42 : decode cX9_undo 42 = .ok (.iconst 0, 1) := by decide +kernel
theorem dX9_undo_43 : decode cX9_undo 43 = .ok (.istore_n 1, 1) := by decide +kernel
theorem dX9_undo_44 : decode cX9_undo 44 = .ok (.iload_n 1, 1) := by decide +kernel
theorem dX9_undo_45 : decode cX9_undo 45 = .ok (.sipush 6441, 3) := by decide +kernel
theorem dX9_undo_48 : decode cX9_undo 48 = .ok (.if_icmp .ge 30, 3) := by decide +kernel
theorem dX9_undo_51 : decode cX9_undo 51 = .ok (.aload_n 0, 1) := by decide +kernel
theorem dX9_undo_52 : decode cX9_undo 52 = .ok (.getfield 9, 3) := by decide +kernel
theorem dX9_undo_55 : decode cX9_undo 55 = .ok (.iload_n 1, 1) := by decide +kernel
theorem dX9_undo_56 : decode cX9_undo 56 = .ok (.aload_n 0, 1) := by decide +kernel
theorem dX9_undo_57 : decode cX9_undo 57 = .ok (.getfield 20, 3) := by decide +kernel
theorem dX9_undo_60 : decode cX9_undo 60 = .ok (.aload_n 0, 1) := by decide +kernel
theorem dX9_undo_61 : decode cX9_undo 61 = .ok (.getfield 84, 3) := by decide +kernel
theorem dX9_undo_64 : decode cX9_undo 64 = .ok (.sipush 6441, 3) := by decide +kernel
theorem dX9_undo_67 : decode cX9_undo 67 = .ok (.imul, 1) := by decide +kernel
theorem dX9_undo_68 : decode cX9_undo 68 = .ok (.iload_n 1, 1) := by decide +kernel
theorem dX9_undo_69 : decode cX9_undo 69 = .ok (.iadd, 1) := by decide +kernel
theorem dX9_undo_70 : decode cX9_undo 70 = .ok (.iaload, 1) := by decide +kernel
theorem dX9_undo_71 : decode cX9_undo 71 = .ok (.iastore, 1) := by decide +kernel
theorem dX9_undo_72 : decode cX9_undo 72 = .ok (.iinc 1 1, 3) := by decide +kernel
theorem dX9_undo_75 : decode cX9_undo 75 = .ok (.goto (-31), 3) := by decide +kernel
theorem dX9_undo_78 : decode cX9_undo 78 = .ok (.aload_n 0, 1) := by decide +kernel
theorem dX9_undo_79 : decode cX9_undo 79 = .ok (.getfield 84, 3) := by decide +kernel
theorem dX9_undo_82 : decode cX9_undo 82 = .ok (.ireturn, 1) := by decide +kernel
set_option maxRecDepth 20000 in
theorem ggX9_isReplayed_X9_hasMatch : GoodIn wsX9_isReplayed wsX9_hasMatch := goodIn_ca (goodIn_r _ [10, 2, 11, 1, 97, 98, 99, 100, 101, 102, 103, 104, 105, 106, 107, 108, 109, 110, 111, 112, 113, 114, 115, 116, 117, 118] (by decide +kernel) (by decide +kernel)) (goodIn_sub (fun _ h => List.mem_cons_of_mem _ (List.mem_append_left _ (List.mem_append_right _ h))) (by decide +kernel))
set_option maxRecDepth 20000 in
theorem gX9_isReplayed_X9_hasMatch : GoodIn wsX9_isReplayed (wsV RX9 221 RX9 yX9_hasMatch wsX9_hasMatch) := goodIn_app (goodIn_of _ (by decide +kernel)) ggX9_isReplayed_X9_hasMatch
set_option maxRecDepth 20000 in
theorem ggX9_isReplayed_X9_copies : GoodIn wsX9_isReplayed wsX9_copies := goodIn_ca (goodIn_r _ [14] (by decide +kernel) (by decide +kernel)) (goodIn_sub (fun _ h => List.mem_cons_of_mem _ (List.mem_append_left _ (List.mem_append_right _ h))) (by decide +kernel))
set_option maxRecDepth 20000 in
theorem gX9_isReplayed_X9_copies : GoodIn wsX9_isReplayed (va_wsS RX9 214 yX9_copies wsX9_copies) := goodIn_app (goodIn_of _ (by decide +kernel)) ggX9_isReplayed_X9_copies
set_option maxRecDepth 20000 in
theorem ggX9_isReplayed_X9_begins : GoodIn wsX9_isReplayed wsX9_begins := goodIn_ca (goodIn_r _ [18, 2, 19, 20, 21, 9, 22, 23, 24, 25, 26, 27, 28, 29, 30, 31, 32, 33, 34, 35, 97, 98, 99, 100, 101, 102, 103, 104, 105, 106, 107, 108, 109, 110, 111, 112, 113, 114, 115, 116, 117, 118] (by decide +kernel) (by decide +kernel)) (goodIn_sub (fun _ h => List.mem_cons_of_mem _ (List.mem_append_left _ (List.mem_append_right _ h))) (by decide +kernel))
set_option maxRecDepth 20000 in
theorem gX9_isReplayed_X9_begins : GoodIn wsX9_isReplayed (wsV RX9 80 RX9 yX9_begins wsX9_begins) := goodIn_app (goodIn_of _ (by decide +kernel)) ggX9_isReplayed_X9_begins
set_option maxRecDepth 20000 in
theorem ggX9_isReplayed_X9_does : GoodIn wsX9_isReplayed wsX9_does := goodIn_ca (goodIn_ca (goodIn_r _ [39, 2, 4, 40, 41, 9, 42, 43, 44, 45, 46, 47, 48, 49, 50, 26, 27, 28, 29, 30, 31, 51, 52, 53, 54, 55, 56, 57, 58, 59, 60, 61, 62, 63, 64, 65, 66, 67, 68, 69, 70, 71, 72, 19, 20, 21, 22, 23, 24, 25, 32, 33, 34, 35, 73, 74, 75, 76, 77, 78, 79, 80, 81, 82, 83, 84, 85, 86, 87, 88, 89, 90, 91, 92, 93, 94, 95, 96, 97, 98, 99, 100, 101, 102, 103, 104, 105, 106, 107, 108, 109, 110, 111, 112, 113, 114, 115, 116, 117, 118] (by decide +kernel) (by decide +kernel)) (goodIn_sub (fun _ h => List.mem_cons_of_mem _ (List.mem_append_left _ (List.mem_append_right _ h))) (by decide +kernel))) (goodIn_sub (fun _ h => List.mem_cons_of_mem _ (List.mem_append_right _ h)) (by decide +kernel))
set_option maxRecDepth 20000 in
theorem gX9_isReplayed_X9_does : GoodIn wsX9_isReplayed (wsV RX9 176 RX9 yX9_does wsX9_does) := goodIn_app (goodIn_of _ (by decide +kernel)) ggX9_isReplayed_X9_does
theorem dX9_isReplayed_0 : decode cX9_isReplayed 0 = .ok (.aload_n 0, 1) := by decide +kernel
theorem dX9_isReplayed_1 : decode cX9_isReplayed 1 = .ok (.iconst 0, 1) := by decide +kernel
theorem dX9_isReplayed_2 : decode cX9_isReplayed 2 = .ok (.putfield 55, 3) := by decide +kernel
theorem dX9_isReplayed_5 : decode cX9_isReplayed 5 = .ok (.aload_n 0, 1) := by decide +kernel
theorem dX9_isReplayed_6 : decode cX9_isReplayed 6 = .ok (.iconst 1, 1) := by decide +kernel
theorem dX9_isReplayed_7 : decode cX9_isReplayed 7 = .ok (.invokevirtual 221, 3) := by decide +kernel
theorem dX9_isReplayed_10 : decode cX9_isReplayed 10 = .ok (.ifCond .ne 5, 3) := by decide +kernel
theorem dX9_isReplayed_13 : decode cX9_isReplayed 13 = .ok (.iconst 0, 1) := by decide +kernel
theorem dX9_isReplayed_14 : decode cX9_isReplayed 14 = .ok (.ireturn, 1) := by decide +kernel
theorem dX9_isReplayed_15 : decode cX9_isReplayed 15 = .ok (.aload_n 0, 1) := by decide +kernel
theorem dX9_isReplayed_16 : decode cX9_isReplayed 16 = .ok (.getfield 9, 3) := by decide +kernel
theorem dX9_isReplayed_19 : decode cX9_isReplayed 19 = .ok (.aload_n 0, 1) := by decide +kernel
theorem dX9_isReplayed_20 : decode cX9_isReplayed 20 = .ok (.getfield 16, 3) := by decide +kernel
theorem dX9_isReplayed_23 : decode cX9_isReplayed 23 = .ok (.sipush 6441, 3) := by decide +kernel
theorem dX9_isReplayed_26 : decode cX9_isReplayed 26 = .ok (.invokestatic 214, 3) := by decide +kernel
theorem dX9_isReplayed_29 : decode cX9_isReplayed 29 = .ok (.aload_n 0, 1) := by decide +kernel
theorem dX9_isReplayed_30 : decode cX9_isReplayed 30 = .ok (.aload_n 0, 1) := by decide +kernel
theorem dX9_isReplayed_31 : decode cX9_isReplayed 31 = .ok (.getfield 16, 3) := by decide +kernel
theorem dX9_isReplayed_34 : decode cX9_isReplayed 34 = .ok (.iconst 3, 1) := by decide +kernel
theorem dX9_isReplayed_35 : decode cX9_isReplayed 35 = .ok (.iaload, 1) := by decide +kernel
theorem dX9_isReplayed_36 : decode cX9_isReplayed 36 = .ok (.aload_n 0, 1) := by decide +kernel
theorem dX9_isReplayed_37 : decode cX9_isReplayed 37 = .ok (.getfield 16, 3) := by decide +kernel
theorem dX9_isReplayed_40 : decode cX9_isReplayed 40 = .ok (.iconst 1, 1) := by decide +kernel
theorem dX9_isReplayed_41 : decode cX9_isReplayed 41 = .ok (.iaload, 1) := by decide +kernel
theorem dX9_isReplayed_42 : decode cX9_isReplayed 42 = .ok (.aload_n 0, 1) := by decide +kernel
theorem dX9_isReplayed_43 : decode cX9_isReplayed 43 = .ok (.getfield 16, 3) := by decide +kernel
theorem dX9_isReplayed_46 : decode cX9_isReplayed 46 = .ok (.iconst 2, 1) := by decide +kernel
theorem dX9_isReplayed_47 : decode cX9_isReplayed 47 = .ok (.iaload, 1) := by decide +kernel
theorem dX9_isReplayed_48 : decode cX9_isReplayed 48 = .ok (.invokevirtual 80, 3) := by decide +kernel
theorem dX9_isReplayed_51 : decode cX9_isReplayed 51 = .ok (.iconst 0, 1) := by decide +kernel
theorem dX9_isReplayed_52 : decode cX9_isReplayed 52 = .ok (.istore_n 1, 1) := by decide +kernel
theorem dX9_isReplayed_53 : decode cX9_isReplayed 53 = .ok (.iload_n 1, 1) := by decide +kernel
theorem dX9_isReplayed_54 : decode cX9_isReplayed 54 = .ok (.aload_n 0, 1) := by decide +kernel
theorem dX9_isReplayed_55 : decode cX9_isReplayed 55 = .ok (.getfield 16, 3) := by decide +kernel
theorem dX9_isReplayed_58 : decode cX9_isReplayed 58 = .ok (.bipush 23, 2) := by decide +kernel
theorem dX9_isReplayed_60 : decode cX9_isReplayed 60 = .ok (.iaload, 1) := by decide +kernel
theorem dX9_isReplayed_61 : decode cX9_isReplayed 61 = .ok (.if_icmp .ge 68, 3) := by decide +kernel
theorem dX9_isReplayed_64 : decode cX9_isReplayed 64 = .ok (.bipush 6, 2) := by decide +kernel
theorem dX9_isReplayed_66 : decode cX9_isReplayed 66 = .ok (.iload_n 1, 1) := by decide +kernel
theorem dX9_isReplayed_67 : decode cX9_isReplayed 67 = .ok (.imul, 1) := by decide +kernel
theorem dX9_isReplayed_68 : decode cX9_isReplayed 68 = .ok (.istore_n 2, 1) := by decide +kernel
theorem dX9_isReplayed_69 : decode cX9_isReplayed 69 = .ok (.aload_n 0, 1) := by decide +kernel
theorem dX9_isReplayed_70 : decode cX9_isReplayed 70 = .ok (.aload_n 0, 1) := by decide +kernel
theorem dX9_isReplayed_71 : decode cX9_isReplayed 71 = .ok (.aload_n 0, 1) := by decide +kernel
theorem dX9_isReplayed_72 : decode cX9_isReplayed 72 = .ok (.getfield 23, 3) := by decide +kernel
theorem dX9_isReplayed_75 : decode cX9_isReplayed 75 = .ok (.iload_n 2, 1) := by decide +kernel
theorem dX9_isReplayed_76 : decode cX9_isReplayed 76 = .ok (.iaload, 1) := by decide +kernel
theorem dX9_isReplayed_77 : decode cX9_isReplayed 77 = .ok (.aload_n 0, 1) := by decide +kernel
theorem dX9_isReplayed_78 : decode cX9_isReplayed 78 = .ok (.getfield 23, 3) := by decide +kernel
theorem dX9_isReplayed_81 : decode cX9_isReplayed 81 = .ok (.iload_n 2, 1) := by decide +kernel
theorem dX9_isReplayed_82 : decode cX9_isReplayed 82 = .ok (.iconst 1, 1) := by decide +kernel
theorem dX9_isReplayed_83 : decode cX9_isReplayed 83 = .ok (.iadd, 1) := by decide +kernel
theorem dX9_isReplayed_84 : decode cX9_isReplayed 84 = .ok (.iaload, 1) := by decide +kernel
theorem dX9_isReplayed_85 : decode cX9_isReplayed 85 = .ok (.aload_n 0, 1) := by decide +kernel
theorem dX9_isReplayed_86 : decode cX9_isReplayed 86 = .ok (.getfield 23, 3) := by decide +kernel
theorem dX9_isReplayed_89 : decode cX9_isReplayed 89 = .ok (.iload_n 2, 1) := by decide +kernel
theorem dX9_isReplayed_90 : decode cX9_isReplayed 90 = .ok (.iconst 2, 1) := by decide +kernel
theorem dX9_isReplayed_91 : decode cX9_isReplayed 91 = .ok (.iadd, 1) := by decide +kernel
theorem dX9_isReplayed_92 : decode cX9_isReplayed 92 = .ok (.iaload, 1) := by decide +kernel
theorem dX9_isReplayed_93 : decode cX9_isReplayed 93 = .ok (.aload_n 0, 1) := by decide +kernel
theorem dX9_isReplayed_94 : decode cX9_isReplayed 94 = .ok (.getfield 23, 3) := by decide +kernel
theorem dX9_isReplayed_97 : decode cX9_isReplayed 97 = .ok (.iload_n 2, 1) := by decide +kernel
theorem dX9_isReplayed_98 : decode cX9_isReplayed 98 = .ok (.iconst 3, 1) := by decide +kernel
theorem dX9_isReplayed_99 : decode cX9_isReplayed 99 = .ok (.iadd, 1) := by decide +kernel
theorem dX9_isReplayed_100 : decode cX9_isReplayed 100 = .ok (.iaload, 1) := by decide +kernel
theorem dX9_isReplayed_101 : decode cX9_isReplayed 101 = .ok (.aload_n 0, 1) := by decide +kernel
theorem dX9_isReplayed_102 : decode cX9_isReplayed 102 = .ok (.getfield 23, 3) := by decide +kernel
theorem dX9_isReplayed_105 : decode cX9_isReplayed 105 = .ok (.iload_n 2, 1) := by decide +kernel
theorem dX9_isReplayed_106 : decode cX9_isReplayed 106 = .ok (.iconst 4, 1) := by decide +kernel
theorem dX9_isReplayed_107 : decode cX9_isReplayed 107 = .ok (.iadd, 1) := by decide +kernel
theorem dX9_isReplayed_108 : decode cX9_isReplayed 108 = .ok (.iaload, 1) := by decide +kernel
theorem dX9_isReplayed_109 : decode cX9_isReplayed 109 = .ok (.aload_n 0, 1) := by decide +kernel
theorem dX9_isReplayed_110 : decode cX9_isReplayed 110 = .ok (.getfield 23, 3) := by decide +kernel
theorem dX9_isReplayed_113 : decode cX9_isReplayed 113 = .ok (.iload_n 2, 1) := by decide +kernel
theorem dX9_isReplayed_114 : decode cX9_isReplayed 114 = .ok (.iconst 5, 1) := by decide +kernel
theorem dX9_isReplayed_115 : decode cX9_isReplayed 115 = .ok (.iadd, 1) := by decide +kernel
theorem dX9_isReplayed_116 : decode cX9_isReplayed 116 = .ok (.iaload, 1) := by decide +kernel
theorem dX9_isReplayed_117 : decode cX9_isReplayed 117 = .ok (.invokevirtual 176, 3) := by decide +kernel
theorem dX9_isReplayed_120 : decode cX9_isReplayed 120 = .ok (.putfield 218, 3) := by decide +kernel
theorem dX9_isReplayed_123 : decode cX9_isReplayed 123 = .ok (.iinc 1 1, 3) := by decide +kernel
theorem dX9_isReplayed_126 : decode cX9_isReplayed 126 = .ok (.goto (-73), 3) := by decide +kernel
theorem dX9_isReplayed_129 : decode cX9_isReplayed 129 = .ok (.iconst 1, 1) := by decide +kernel
theorem dX9_isReplayed_130 : decode cX9_isReplayed 130 = .ok (.istore_n 1, 1) := by decide +kernel
theorem dX9_isReplayed_131 : decode cX9_isReplayed 131 = .ok (.iconst 0, 1) := by decide +kernel
theorem dX9_isReplayed_132 : decode cX9_isReplayed 132 = .ok (.istore_n 2, 1) := by decide +kernel
theorem dX9_isReplayed_133 : decode cX9_isReplayed 133 = .ok (.iload_n 2, 1) := by decide +kernel
theorem dX9_isReplayed_134 : decode cX9_isReplayed 134 = .ok (.sipush 6441, 3) := by decide +kernel
theorem dX9_isReplayed_137 : decode cX9_isReplayed 137 = .ok (.if_icmp .ge 56, 3) := by decide +kernel
theorem dX9_isReplayed_140 : decode cX9_isReplayed 140 = .ok (.iload_n 1, 1) := by decide +kernel
theorem dX9_isReplayed_141 : decode cX9_isReplayed 141 = .ok (.aload_n 0, 1) := by decide +kernel
theorem dX9_isReplayed_142 : decode cX9_isReplayed 142 = .ok (.getfield 9, 3) := by decide +kernel
theorem dX9_isReplayed_145 : decode cX9_isReplayed 145 = .ok (.iload_n 2, 1) := by decide +kernel
theorem dX9_isReplayed_146 : decode cX9_isReplayed 146 = .ok (.iaload, 1) := by decide +kernel
theorem dX9_isReplayed_147 : decode cX9_isReplayed 147 = .ok (.aload_n 0, 1) := by decide +kernel
theorem dX9_isReplayed_148 : decode cX9_isReplayed 148 = .ok (.getfield 16, 3) := by decide +kernel
theorem dX9_isReplayed_151 : decode cX9_isReplayed 151 = .ok (.iload_n 2, 1) := by decide +kernel
theorem dX9_isReplayed_152 : decode cX9_isReplayed 152 = .ok (.iaload, 1) := by decide +kernel
theorem dX9_isReplayed_153 : decode cX9_isReplayed 153 = .ok (.if_icmp .eq 27, 3) := by decide +kernel
theorem dX9_isReplayed_156 : decode cX9_isReplayed 156 = .ok (.iload_n 2, 1) := by decide +kernel
theorem dX9_isReplayed_157 : decode cX9_isReplayed 157 = .ok (.bipush 24, 2) := by decide +kernel
theorem dX9_isReplayed_159 : decode cX9_isReplayed 159 = .ok (.if_icmp .eq 21, 3) := by decide +kernel
theorem dX9_isReplayed_162 : decode cX9_isReplayed 162 = .ok (.iload_n 2, 1) := by decide +kernel
theorem dX9_isReplayed_163 : decode cX9_isReplayed 163 = .ok (.sipush 841, 3) := by decide +kernel
theorem dX9_isReplayed_166 : decode cX9_isReplayed 166 = .ok (.bipush 8, 2) := by decide +kernel
theorem dX9_isReplayed_168 : decode cX9_isReplayed 168 = .ok (.aload_n 0, 1) := by decide +kernel
theorem dX9_isReplayed_169 : decode cX9_isReplayed 169 = .ok (.getfield 16, 3) := by decide +kernel
theorem dX9_isReplayed_172 : decode cX9_isReplayed 172 = .ok (.bipush 22, 2) := by decide +kernel
theorem dX9_isReplayed_174 : decode cX9_isReplayed 174 = .ok (.iaload, 1) := by decide +kernel
theorem dX9_isReplayed_175 : decode cX9_isReplayed 175 = .ok (.imul, 1) := by decide +kernel
theorem dX9_isReplayed_176 : decode cX9_isReplayed 176 = .ok (.iadd, 1) := by decide +kernel
theorem dX9_isReplayed_177 : decode cX9_isReplayed 177 = .ok (.if_icmp .lt 7, 3) := by decide +kernel
theorem dX9_isReplayed_180 : decode cX9_isReplayed 180 = .ok (.iconst 1, 1) := by decide +kernel
theorem dX9_isReplayed_181 : decode cX9_isReplayed 181 = .ok (.goto 4, 3) := by decide +kernel
theorem dX9_isReplayed_184 : decode cX9_isReplayed 184 = .ok (.iconst 0, 1) := by decide +kernel
theorem dX9_isReplayed_185 : decode cX9_isReplayed 185 = .ok (.iand, 1) := by decide +kernel
theorem dX9_isReplayed_186 : decode cX9_isReplayed 186 = .ok (.istore_n 1, 1) := by decide +kernel
theorem dX9_isReplayed_187 : decode cX9_isReplayed 187 = .ok (.iinc 2 1, 3) := by decide +kernel
theorem dX9_isReplayed_190 : decode cX9_isReplayed 190 = .ok (.goto (-57), 3) := by decide +kernel
theorem dX9_isReplayed_193 : decode cX9_isReplayed 193 = .ok (.aload_n 0, 1) := by decide +kernel
theorem dX9_isReplayed_194 : decode cX9_isReplayed 194 = .ok (.getfield 16, 3) := by decide +kernel
theorem dX9_isReplayed_197 : decode cX9_isReplayed 197 = .ok (.aload_n 0, 1) := by decide +kernel
theorem dX9_isReplayed_198 : decode cX9_isReplayed 198 = .ok (.getfield 9, 3) := by decide +kernel
theorem dX9_isReplayed_201 : decode cX9_isReplayed 201 = .ok (.sipush 6441, 3) := by decide +kernel
theorem dX9_isReplayed_204 : decode cX9_isReplayed 204 = .ok (.invokestatic 214, 3) := by decide +kernel
theorem dX9_isReplayed_207 : decode cX9_isReplayed 207 = .ok (.iload_n 1, 1) := by decide +kernel
theorem dX9_isReplayed_208 : decode cX9_isReplayed 208 = .ok (.ireturn, 1) := by decide +kernel
set_option maxRecDepth 20000 in
theorem ggX9_snapshot_X9_hasMatch : GoodIn wsX9_snapshot wsX9_hasMatch := goodIn_ca (goodIn_r _ [11, 2, 12, 1, 16, 17, 18, 19, 20, 21, 22, 23, 24, 25, 26, 27, 28, 29, 30, 31, 32, 33, 34, 35, 36, 37] (by decide +kernel) (by decide +kernel)) (goodIn_sub (fun _ h => List.mem_cons_of_mem _ (List.mem_append_right _ h)) (by decide +kernel))
set_option maxRecDepth 20000 in
theorem gX9_snapshot_X9_hasMatch : GoodIn wsX9_snapshot (wsV RX9 221 RX9 yX9_hasMatch wsX9_hasMatch) := goodIn_app (goodIn_of _ (by decide +kernel)) ggX9_snapshot_X9_hasMatch
set_option maxRecDepth 20000 in
theorem ggX9_snapshot_X9_copies : GoodIn wsX9_snapshot wsX9_copies := goodIn_ca (goodIn_r _ [15] (by decide +kernel) (by decide +kernel)) (goodIn_sub (fun _ h => List.mem_cons_of_mem _ (List.mem_append_right _ h)) (by decide +kernel))
set_option maxRecDepth 20000 in
theorem gX9_snapshot_X9_copies : GoodIn wsX9_snapshot (va_wsS RX9 214 yX9_copies wsX9_copies) := goodIn_app (goodIn_of _ (by decide +kernel)) ggX9_snapshot_X9_copies
theorem dX9_snapshot_0 : decode cX9_snapshot 0 = .ok (.aload_n 0, 1) := by decide +kernel
theorem dX9_snapshot_1 : decode cX9_snapshot 1 = .ok (.iconst 0, 1) := by decide +kernel
theorem dX9_snapshot_2 : decode cX9_snapshot 2 = .ok (.putfield 55, 3) := by decide +kernel
theorem dX9_snapshot_5 : decode cX9_snapshot 5 = .ok (.aload_n 0, 1) := by decide +kernel
theorem dX9_snapshot_6 : decode cX9_snapshot 6 = .ok (.iconst 1, 1) := by decide +kernel
theorem dX9_snapshot_7 : decode cX9_snapshot 7 = .ok (.invokevirtual 221, 3) := by decide +kernel
theorem dX9_snapshot_10 : decode cX9_snapshot 10 = .ok (.ifCond .ne 5, 3) := by decide +kernel
theorem dX9_snapshot_13 : decode cX9_snapshot 13 = .ok (.iconst 0, 1) := by decide +kernel
theorem dX9_snapshot_14 : decode cX9_snapshot 14 = .ok (.ireturn, 1) := by decide +kernel
theorem dX9_snapshot_15 : decode cX9_snapshot 15 = .ok (.aload_n 0, 1) := by decide +kernel
theorem dX9_snapshot_16 : decode cX9_snapshot 16 = .ok (.getfield 9, 3) := by decide +kernel
theorem dX9_snapshot_19 : decode cX9_snapshot 19 = .ok (.aload_n 0, 1) := by decide +kernel
theorem dX9_snapshot_20 : decode cX9_snapshot 20 = .ok (.getfield 13, 3) := by decide +kernel
theorem dX9_snapshot_23 : decode cX9_snapshot 23 = .ok (.sipush 6441, 3) := by decide +kernel
theorem dX9_snapshot_26 : decode cX9_snapshot 26 = .ok (.invokestatic 214, 3) := by decide +kernel
theorem dX9_snapshot_29 : decode cX9_snapshot 29 = .ok (.aload_n 0, 1) := by decide +kernel
theorem dX9_snapshot_30 : decode cX9_snapshot 30 = .ok (.getfield 23, 3) := by decide +kernel
theorem dX9_snapshot_33 : decode cX9_snapshot 33 = .ok (.aload_n 0, 1) := by decide +kernel
theorem dX9_snapshot_34 : decode cX9_snapshot 34 = .ok (.getfield 26, 3) := by decide +kernel
theorem dX9_snapshot_37 : decode cX9_snapshot 37 = .ok (.bipush 6, 2) := by decide +kernel
theorem dX9_snapshot_39 : decode cX9_snapshot 39 = .ok (.aload_n 0, 1) := by decide +kernel
theorem dX9_snapshot_40 : decode cX9_snapshot 40 = .ok (.getfield 9, 3) := by decide +kernel
theorem dX9_snapshot_43 : decode cX9_snapshot 43 = .ok (.bipush 23, 2) := by decide +kernel
theorem dX9_snapshot_45 : decode cX9_snapshot 45 = .ok (.iaload, 1) := by decide +kernel
theorem dX9_snapshot_46 : decode cX9_snapshot 46 = .ok (.imul, 1) := by decide +kernel
theorem dX9_snapshot_47 : decode cX9_snapshot 47 = .ok (.invokestatic 214, 3) := by decide +kernel
theorem dX9_snapshot_50 : decode cX9_snapshot 50 = .ok (.aload_n 0, 1) := by decide +kernel
theorem dX9_snapshot_51 : decode cX9_snapshot 51 = .ok (.iconst 1, 1) := by decide +kernel
theorem dX9_snapshot_52 : decode cX9_snapshot 52 = .ok (.putfield 240, 3) := by decide +kernel
theorem dX9_snapshot_55 : decode cX9_snapshot 55 = .ok (.aload_n 0, 1) := by decide +kernel
theorem dX9_snapshot_56 : decode cX9_snapshot 56 = .ok (.getfield 9, 3) := by decide +kernel
theorem dX9_snapshot_59 : decode cX9_snapshot 59 = .ok (.bipush 24, 2) := by decide +kernel
theorem dX9_snapshot_61 : decode cX9_snapshot 61 = .ok (.iaload, 1) := by decide +kernel
theorem dX9_snapshot_62 : decode cX9_snapshot 62 = .ok (.ireturn, 1) := by decide +kernel
set_option maxRecDepth 20000 in
theorem ggX9_restore_X9_copies : GoodIn wsX9_restore wsX9_copies := goodIn_ca (goodIn_r _ [12] (by decide +kernel) (by decide +kernel)) (goodIn_sub (fun _ h => List.mem_cons_of_mem _ (List.mem_append_right _ h)) (by decide +kernel))
set_option maxRecDepth 20000 in
theorem gX9_restore_X9_copies : GoodIn wsX9_restore (va_wsS RX9 214 yX9_copies wsX9_copies) := goodIn_app (goodIn_of _ (by decide +kernel)) ggX9_restore_X9_copies
theorem dX9_restore_0 : decode cX9_restore 0 = .ok (.aload_n 0, 1) := by decide +kernel
theorem dX9_restore_1 : decode cX9_restore 1 = .ok (.aload_n 0, 1) := by decide +kernel
theorem dX9_restore_2 : decode cX9_restore 2 = .ok (.getfield 240, 3) := by decide +kernel
theorem dX9_restore_5 : decode cX9_restore 5 = .ok (.ifCond .eq 7, 3) := by decide +kernel
theorem dX9_restore_8 : decode cX9_restore 8 = .ok (.iconst 0, 1) := by decide +kernel
theorem dX9_restore_9 : decode cX9_restore 9 = .ok (.goto 4, 3) := by decide +kernel
theorem dX9_restore_12 : decode cX9_restore 12 = .ok (.iconst 1, 1) := by decide +kernel
theorem dX9_restore_13 : decode cX9_restore 13 = .ok (.putfield 55, 3) := by decide +kernel
theorem dX9_restore_16 : decode cX9_restore 16 = .ok (.aload_n 0, 1) := by decide +kernel
theorem dX9_restore_17 : decode cX9_restore 17 = .ok (.getfield 240, 3) := by decide +kernel
theorem dX9_restore_20 : decode cX9_restore 20 = .ok (.ifCond .ne 11, 3) := by decide +kernel
theorem dX9_restore_23 : decode cX9_restore 23 = .ok (.aload_n 0, 1) := by decide +kernel
theorem dX9_restore_24 : decode cX9_restore 24 = .ok (.bipush 7, 2) := by decide +kernel
theorem dX9_restore_26 : decode cX9_restore 26 = .ok (.putfield 166, 3) := by decide +kernel
theorem dX9_restore_29 : decode cX9_restore 29 = .ok (.iconst 0, 1) := by decide +kernel
theorem dX9_restore_30 : decode cX9_restore 30 = .ok (.ireturn, 1) := by decide +kernel
theorem dX9_restore_31 : decode cX9_restore 31 = .ok (.aload_n 0, 1) := by decide +kernel
theorem dX9_restore_32 : decode cX9_restore 32 = .ok (.getfield 13, 3) := by decide +kernel
theorem dX9_restore_35 : decode cX9_restore 35 = .ok (.aload_n 0, 1) := by decide +kernel
theorem dX9_restore_36 : decode cX9_restore 36 = .ok (.getfield 9, 3) := by decide +kernel
theorem dX9_restore_39 : decode cX9_restore 39 = .ok (.sipush 6441, 3) := by decide +kernel
theorem dX9_restore_42 : decode cX9_restore 42 = .ok (.invokestatic 214, 3) := by decide +kernel
theorem dX9_restore_45 : decode cX9_restore 45 = .ok (.aload_n 0, 1) := by decide +kernel
theorem dX9_restore_46 : decode cX9_restore 46 = .ok (.getfield 26, 3) := by decide +kernel
theorem dX9_restore_49 : decode cX9_restore 49 = .ok (.aload_n 0, 1) := by decide +kernel
theorem dX9_restore_50 : decode cX9_restore 50 = .ok (.getfield 23, 3) := by decide +kernel
theorem dX9_restore_53 : decode cX9_restore 53 = .ok (.bipush 6, 2) := by decide +kernel
theorem dX9_restore_55 : decode cX9_restore 55 = .ok (.aload_n 0, 1) := by decide +kernel
theorem dX9_restore_56 : decode cX9_restore 56 = .ok (.getfield 9, 3) := by decide +kernel
theorem dX9_restore_59 : decode cX9_restore 59 = .ok (.bipush 23, 2) := by decide +kernel
theorem dX9_restore_61 : decode cX9_restore 61 = .ok (.iaload, 1) := by decide +kernel
theorem dX9_restore_62 : decode cX9_restore 62 = .ok (.imul, 1) := by decide +kernel
theorem dX9_restore_63 : decode cX9_restore 63 = .ok (.invokestatic 214, 3) := by decide +kernel
theorem dX9_restore_66 : decode cX9_restore 66 = .ok (.aload_n 0, 1) := by decide +kernel
theorem dX9_restore_67 : decode cX9_restore 67 = .ok (.iconst 0, 1) := by decide +kernel
theorem dX9_restore_68 : decode cX9_restore 68 = .ok (.putfield 84, 3) := by decide +kernel
theorem dX9_restore_71 : decode cX9_restore 71 = .ok (.aload_n 0, 1) := by decide +kernel
theorem dX9_restore_72 : decode cX9_restore 72 = .ok (.getfield 9, 3) := by decide +kernel
theorem dX9_restore_75 : decode cX9_restore 75 = .ok (.bipush 24, 2) := by decide +kernel
theorem dX9_restore_77 : decode cX9_restore 77 = .ok (.iaload, 1) := by decide +kernel
theorem dX9_restore_78 : decode cX9_restore 78 = .ok (.ireturn, 1) := by decide +kernel
theorem dJx00060_init_a7421_0 : decode cJx00060_init_a7421 0 = .ok (.aload_n 0, 1) := by decide +kernel
theorem dJx00060_init_a7421_1 : decode cJx00060_init_a7421 1 = .ok (.aload_n 1, 1) := by decide +kernel
theorem dJx00060_init_a7421_2 : decode cJx00060_init_a7421 2 = .ok (.invokespecial 7, 3) := by decide +kernel
theorem dJx00060_init_a7421_5 : decode cJx00060_init_a7421 5 = .ok (.return_, 1) := by decide +kernel
theorem dJ9_max_7cf53_0 : decode cJ9_max_7cf53 0 = .ok (.iload_n 0, 1) := by decide +kernel
theorem dJ9_max_7cf53_1 : decode cJ9_max_7cf53 1 = .ok (.iload_n 1, 1) := by decide +kernel
theorem dJ9_max_7cf53_2 : decode cJ9_max_7cf53 2 = .ok (.if_icmp .lt 7, 3) := by decide +kernel
theorem dJ9_max_7cf53_5 : decode cJ9_max_7cf53 5 = .ok (.iload_n 0, 1) := by decide +kernel
theorem dJ9_max_7cf53_6 : decode cJ9_max_7cf53 6 = .ok (.goto 4, 3) := by decide +kernel
theorem dJ9_max_7cf53_9 : decode cJ9_max_7cf53 9 = .ok (.iload_n 1, 1) := by decide +kernel
theorem dJ9_max_7cf53_10 : decode cJ9_max_7cf53 10 = .ok (.ireturn, 1) := by decide +kernel
theorem dJ9_min_7cf53_0 : decode cJ9_min_7cf53 0 = .ok (.iload_n 0, 1) := by decide +kernel
theorem dJ9_min_7cf53_1 : decode cJ9_min_7cf53 1 = .ok (.iload_n 1, 1) := by decide +kernel
theorem dJ9_min_7cf53_2 : decode cJ9_min_7cf53 2 = .ok (.if_icmp .gt 7, 3) := by decide +kernel
theorem dJ9_min_7cf53_5 : decode cJ9_min_7cf53 5 = .ok (.iload_n 0, 1) := by decide +kernel
theorem dJ9_min_7cf53_6 : decode cJ9_min_7cf53 6 = .ok (.goto 4, 3) := by decide +kernel
theorem dJ9_min_7cf53_9 : decode cJ9_min_7cf53 9 = .ok (.iload_n 1, 1) := by decide +kernel
theorem dJ9_min_7cf53_10 : decode cJ9_min_7cf53 10 = .ok (.ireturn, 1) := by decide +kernel
