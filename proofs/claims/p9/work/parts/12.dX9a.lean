theorem dX9_init_0 : decode cX9_init 0 = .ok (.aload_n 0, 1) := by decide +kernel
theorem dX9_init_1 : decode cX9_init 1 = .ok (.invokespecial 3, 3) := by decide +kernel
theorem dX9_init_4 : decode cX9_init 4 = .ok (.aload_n 0, 1) := by decide +kernel
theorem dX9_init_5 : decode cX9_init 5 = .ok (.sipush 6441, 3) := by decide +kernel
theorem dX9_init_8 : decode cX9_init 8 = .ok (.newarray .int, 2) := by decide +kernel
theorem dX9_init_10 : decode cX9_init 10 = .ok (.putfield 9, 3) := by decide +kernel
theorem dX9_init_13 : decode cX9_init 13 = .ok (.aload_n 0, 1) := by decide +kernel
theorem dX9_init_14 : decode cX9_init 14 = .ok (.sipush 6441, 3) := by decide +kernel
theorem dX9_init_17 : decode cX9_init 17 = .ok (.newarray .int, 2) := by decide +kernel
theorem dX9_init_19 : decode cX9_init 19 = .ok (.putfield 13, 3) := by decide +kernel
theorem dX9_init_22 : decode cX9_init 22 = .ok (.aload_n 0, 1) := by decide +kernel
theorem dX9_init_23 : decode cX9_init 23 = .ok (.sipush 6441, 3) := by decide +kernel
theorem dX9_init_26 : decode cX9_init 26 = .ok (.newarray .int, 2) := by decide +kernel
theorem dX9_init_28 : decode cX9_init 28 = .ok (.putfield 16, 3) := by decide +kernel
theorem dX9_init_31 : decode cX9_init 31 = .ok (.aload_n 0, 1) := by decide +kernel
theorem dX9_init_32 : decode cX9_init 32 = .ok (.ldc 19, 2) := by decide +kernel
theorem dX9_init_34 : decode cX9_init 34 = .ok (.newarray .int, 2) := by decide +kernel
theorem dX9_init_36 : decode cX9_init 36 = .ok (.putfield 20, 3) := by decide +kernel
theorem dX9_init_39 : decode cX9_init 39 = .ok (.aload_n 0, 1) := by decide +kernel
theorem dX9_init_40 : decode cX9_init 40 = .ok (.sipush 24000, 3) := by decide +kernel
theorem dX9_init_43 : decode cX9_init 43 = .ok (.newarray .int, 2) := by decide +kernel
theorem dX9_init_45 : decode cX9_init 45 = .ok (.putfield 23, 3) := by decide +kernel
theorem dX9_init_48 : decode cX9_init 48 = .ok (.aload_n 0, 1) := by decide +kernel
theorem dX9_init_49 : decode cX9_init 49 = .ok (.sipush 24000, 3) := by decide +kernel
theorem dX9_init_52 : decode cX9_init 52 = .ok (.newarray .int, 2) := by decide +kernel
theorem dX9_init_54 : decode cX9_init 54 = .ok (.putfield 26, 3) := by decide +kernel
theorem dX9_init_57 : decode cX9_init 57 = .ok (.aload_n 0, 1) := by decide +kernel
theorem dX9_init_58 : decode cX9_init 58 = .ok (.bipush 60, 2) := by decide +kernel
theorem dX9_init_60 : decode cX9_init 60 = .ok (.newarray .int, 2) := by decide +kernel
theorem dX9_init_62 : decode cX9_init 62 = .ok (.putfield 29, 3) := by decide +kernel
theorem dX9_init_65 : decode cX9_init 65 = .ok (.aload_n 0, 1) := by decide +kernel
theorem dX9_init_66 : decode cX9_init 66 = .ok (.iconst (-1), 1) := by decide +kernel
theorem dX9_init_67 : decode cX9_init 67 = .ok (.putfield 32, 3) := by decide +kernel
theorem dX9_init_70 : decode cX9_init 70 = .ok (.aload_n 0, 1) := by decide +kernel
theorem dX9_init_71 : decode cX9_init 71 = .ok (.iconst (-1), 1) := by decide +kernel
theorem dX9_init_72 : decode cX9_init 72 = .ok (.putfield 36, 3) := by decide +kernel
theorem dX9_init_75 : decode cX9_init 75 = .ok (.aload_n 0, 1) := by decide +kernel
theorem dX9_init_76 : decode cX9_init 76 = .ok (.sipush 240, 3) := by decide +kernel
theorem dX9_init_79 : decode cX9_init 79 = .ok (.newarray .int, 2) := by decide +kernel
theorem dX9_init_81 : decode cX9_init 81 = .ok (.putfield 39, 3) := by decide +kernel
theorem dX9_init_84 : decode cX9_init 84 = .ok (.aload_n 0, 1) := by decide +kernel
theorem dX9_init_85 : decode cX9_init 85 = .ok (.iconst 2, 1) := by decide +kernel
theorem dX9_init_86 : decode cX9_init 86 = .ok (.newarray .int, 2) := by decide +kernel
theorem dX9_init_88 : decode cX9_init 88 = .ok (.putfield 42, 3) := by decide +kernel
theorem dX9_init_91 : decode cX9_init 91 = .ok (.aload_n 0, 1) := by decide +kernel
theorem dX9_init_92 : decode cX9_init 92 = .ok (.iconst 2, 1) := by decide +kernel
theorem dX9_init_93 : decode cX9_init 93 = .ok (.newarray .int, 2) := by decide +kernel
theorem dX9_init_95 : decode cX9_init 95 = .ok (.putfield 45, 3) := by decide +kernel
theorem dX9_init_98 : decode cX9_init 98 = .ok (.aload_n 0, 1) := by decide +kernel
theorem dX9_init_99 : decode cX9_init 99 = .ok (.bipush 42, 2) := by decide +kernel
theorem dX9_init_101 : decode cX9_init 101 = .ok (.newarray .int, 2) := by decide +kernel
theorem dX9_init_103 : decode cX9_init 103 = .ok (.putfield 48, 3) := by decide +kernel
theorem dX9_init_106 : decode cX9_init 106 = .ok (.aload_n 0, 1) := by decide +kernel
theorem dX9_init_107 : decode cX9_init 107 = .ok (.bipush 42, 2) := by decide +kernel
theorem dX9_init_109 : decode cX9_init 109 = .ok (.newarray .float, 2) := by decide +kernel
theorem dX9_init_111 : decode cX9_init 111 = .ok (.putfield 51, 3) := by decide +kernel
theorem dX9_init_114 : decode cX9_init 114 = .ok (.return_, 1) := by decide +kernel
theorem dX9_thrown_0 : decode cX9_thrown 0 = .ok (.aload_n 0, 1) := by decide +kernel
theorem dX9_thrown_1 : decode cX9_thrown 1 = .ok (.getfield 55, 3) := by decide +kernel
theorem dX9_thrown_4 : decode cX9_thrown 4 = .ok (.ireturn, 1) := by decide +kernel
theorem dX9_no_0 : decode cX9_no 0 = .ok (.aload_n 0, 1) := by decide +kernel
theorem dX9_no_1 : decode cX9_no 1 = .ok (.iload_n 1, 1) := by decide +kernel
theorem dX9_no_2 : decode cX9_no 2 = .ok (.putfield 55, 3) := by decide +kernel
theorem dX9_no_5 : decode cX9_no 5 = .ok (.iconst 0, 1) := by decide +kernel
theorem dX9_no_6 : decode cX9_no 6 = .ok (.ireturn, 1) := by decide +kernel
theorem dX9_isIn_0 : decode cX9_isIn 0 = .ok (.iload_n 0, 1) := by decide +kernel
theorem dX9_isIn_1 : decode cX9_isIn 1 = .ok (.iload_n 1, 1) := by decide +kernel
theorem dX9_isIn_2 : decode cX9_isIn 2 = .ok (.if_icmp .lt 12, 3) := by decide +kernel
theorem dX9_isIn_5 : decode cX9_isIn 5 = .ok (.iload_n 0, 1) := by decide +kernel
theorem dX9_isIn_6 : decode cX9_isIn 6 = .ok (.iload_n 2, 1) := by decide +kernel
theorem dX9_isIn_7 : decode cX9_isIn 7 = .ok (.if_icmp .gt 7, 3) := by decide +kernel
theorem dX9_isIn_10 : decode cX9_isIn 10 = .ok (.iconst 1, 1) := by decide +kernel
theorem dX9_isIn_11 : decode cX9_isIn 11 = .ok (.goto 4, 3) := by decide +kernel
theorem dX9_isIn_14 : decode cX9_isIn 14 = .ok (.iconst 0, 1) := by decide +kernel
theorem dX9_isIn_15 : decode cX9_isIn 15 = .ok (.ireturn, 1) := by decide +kernel
theorem dX9_copies_0 : decode cX9_copies 0 = .ok (.iconst 0, 1) := by decide +kernel
theorem dX9_copies_1 : decode cX9_copies 1 = .ok (.istore_n 3, 1) := by decide +kernel
theorem dX9_copies_2 : decode cX9_copies 2 = .ok (.iload_n 3, 1) := by decide +kernel
theorem dX9_copies_3 : decode cX9_copies 3 = .ok (.iload_n 2, 1) := by decide +kernel
theorem dX9_copies_4 : decode cX9_copies 4 = .ok (.if_icmp .ge 15, 3) := by decide +kernel
theorem dX9_copies_7 : decode cX9_copies 7 = .ok (.aload_n 1, 1) := by decide +kernel
theorem dX9_copies_8 : decode cX9_copies 8 = .ok (.iload_n 3, 1) := by decide +kernel
theorem dX9_copies_9 : decode cX9_copies 9 = .ok (.aload_n 0, 1) := by decide +kernel
theorem dX9_copies_10 : decode cX9_copies 10 = .ok (.iload_n 3, 1) := by decide +kernel
theorem dX9_copies_11 : decode cX9_copies 11 = .ok (.iaload, 1) := by decide +kernel
theorem dX9_copies_12 : decode cX9_copies 12 = .ok (.iastore, 1) := by decide +kernel
theorem dX9_copies_13 : decode cX9_copies 13 = .ok (.iinc 3 1, 3) := by decide +kernel
theorem dX9_copies_16 : decode cX9_copies 16 = .ok (.goto (-14), 3) := by decide +kernel
theorem dX9_copies_19 : decode cX9_copies 19 = .ok (.return_, 1) := by decide +kernel
theorem dX9_at_0 : decode cX9_at 0 = .ok (.bipush 25, 2) := by decide +kernel
theorem dX9_at_2 : decode cX9_at 2 = .ok (.bipush 11, 2) := by decide +kernel
theorem dX9_at_4 : decode cX9_at 4 = .ok (.iload_n 0, 1) := by decide +kernel
theorem dX9_at_5 : decode cX9_at 5 = .ok (.imul, 1) := by decide +kernel
theorem dX9_at_6 : decode cX9_at 6 = .ok (.iadd, 1) := by decide +kernel
theorem dX9_at_7 : decode cX9_at 7 = .ok (.iload_n 1, 1) := by decide +kernel
theorem dX9_at_8 : decode cX9_at 8 = .ok (.iadd, 1) := by decide +kernel
theorem dX9_at_9 : decode cX9_at 9 = .ok (.ireturn, 1) := by decide +kernel
theorem dX9_batterAt_0 : decode cX9_batterAt 0 = .ok (.bipush 69, 2) := by decide +kernel
theorem dX9_batterAt_2 : decode cX9_batterAt 2 = .ok (.bipush 6, 2) := by decide +kernel
theorem dX9_batterAt_4 : decode cX9_batterAt 4 = .ok (.bipush 11, 2) := by decide +kernel
theorem dX9_batterAt_6 : decode cX9_batterAt 6 = .ok (.iload_n 0, 1) := by decide +kernel
theorem dX9_batterAt_7 : decode cX9_batterAt 7 = .ok (.imul, 1) := by decide +kernel
theorem dX9_batterAt_8 : decode cX9_batterAt 8 = .ok (.iload_n 1, 1) := by decide +kernel
theorem dX9_batterAt_9 : decode cX9_batterAt 9 = .ok (.iadd, 1) := by decide +kernel
theorem dX9_batterAt_10 : decode cX9_batterAt 10 = .ok (.imul, 1) := by decide +kernel
theorem dX9_batterAt_11 : decode cX9_batterAt 11 = .ok (.iadd, 1) := by decide +kernel
theorem dX9_batterAt_12 : decode cX9_batterAt 12 = .ok (.iload_n 2, 1) := by decide +kernel
theorem dX9_batterAt_13 : decode cX9_batterAt 13 = .ok (.iadd, 1) := by decide +kernel
theorem dX9_batterAt_14 : decode cX9_batterAt 14 = .ok (.ireturn, 1) := by decide +kernel
theorem dX9_bowlerAt_0 : decode cX9_bowlerAt 0 = .ok (.sipush 333, 3) := by decide +kernel
theorem dX9_bowlerAt_3 : decode cX9_bowlerAt 3 = .ok (.bipush 7, 2) := by decide +kernel
theorem dX9_bowlerAt_5 : decode cX9_bowlerAt 5 = .ok (.bipush 11, 2) := by decide +kernel
theorem dX9_bowlerAt_7 : decode cX9_bowlerAt 7 = .ok (.iload_n 0, 1) := by decide +kernel
theorem dX9_bowlerAt_8 : decode cX9_bowlerAt 8 = .ok (.imul, 1) := by decide +kernel
theorem dX9_bowlerAt_9 : decode cX9_bowlerAt 9 = .ok (.iload_n 1, 1) := by decide +kernel
theorem dX9_bowlerAt_10 : decode cX9_bowlerAt 10 = .ok (.iadd, 1) := by decide +kernel
theorem dX9_bowlerAt_11 : decode cX9_bowlerAt 11 = .ok (.imul, 1) := by decide +kernel
theorem dX9_bowlerAt_12 : decode cX9_bowlerAt 12 = .ok (.iadd, 1) := by decide +kernel
theorem dX9_bowlerAt_13 : decode cX9_bowlerAt 13 = .ok (.iload_n 2, 1) := by decide +kernel
theorem dX9_bowlerAt_14 : decode cX9_bowlerAt 14 = .ok (.iadd, 1) := by decide +kernel
theorem dX9_bowlerAt_15 : decode cX9_bowlerAt 15 = .ok (.ireturn, 1) := by decide +kernel
theorem dX9_last_0 : decode cX9_last 0 = .ok (.iconst 2, 1) := by decide +kernel
theorem dX9_last_1 : decode cX9_last 1 = .ok (.aload_n 0, 1) := by decide +kernel
theorem dX9_last_2 : decode cX9_last 2 = .ok (.getfield 9, 3) := by decide +kernel
theorem dX9_last_5 : decode cX9_last 5 = .ok (.iconst 1, 1) := by decide +kernel
theorem dX9_last_6 : decode cX9_last 6 = .ok (.iaload, 1) := by decide +kernel
theorem dX9_last_7 : decode cX9_last 7 = .ok (.imul, 1) := by decide +kernel
theorem dX9_last_8 : decode cX9_last 8 = .ok (.iconst 1, 1) := by decide +kernel
theorem dX9_last_9 : decode cX9_last 9 = .ok (.isub, 1) := by decide +kernel
theorem dX9_last_10 : decode cX9_last 10 = .ok (.ireturn, 1) := by decide +kernel
theorem dX9_team_0 : decode cX9_team 0 = .ok (.aload_n 0, 1) := by decide +kernel
theorem dX9_team_1 : decode cX9_team 1 = .ok (.getfield 9, 3) := by decide +kernel
theorem dX9_team_4 : decode cX9_team 4 = .ok (.iconst 2, 1) := by decide +kernel
theorem dX9_team_5 : decode cX9_team 5 = .ok (.iaload, 1) := by decide +kernel
theorem dX9_team_6 : decode cX9_team 6 = .ok (.iload_n 1, 1) := by decide +kernel
theorem dX9_team_7 : decode cX9_team 7 = .ok (.iadd, 1) := by decide +kernel
theorem dX9_team_8 : decode cX9_team 8 = .ok (.iconst 2, 1) := by decide +kernel
theorem dX9_team_9 : decode cX9_team 9 = .ok (.irem, 1) := by decide +kernel
theorem dX9_team_10 : decode cX9_team 10 = .ok (.ireturn, 1) := by decide +kernel
theorem dX9_worth_0 : decode cX9_worth 0 = .ok (.bipush 10, 2) := by decide +kernel
theorem dX9_worth_2 : decode cX9_worth 2 = .ok (.iload_n 1, 1) := by decide +kernel
theorem dX9_worth_3 : decode cX9_worth 3 = .ok (.isub, 1) := by decide +kernel
theorem dX9_worth_4 : decode cX9_worth 4 = .ok (.sipush 240, 3) := by decide +kernel
theorem dX9_worth_7 : decode cX9_worth 7 = .ok (.iload_n 0, 1) := by decide +kernel
theorem dX9_worth_8 : decode cX9_worth 8 = .ok (.imul, 1) := by decide +kernel
theorem dX9_worth_9 : decode cX9_worth 9 = .ok (.iload_n 0, 1) := by decide +kernel
theorem dX9_worth_10 : decode cX9_worth 10 = .ok (.iload_n 0, 1) := by decide +kernel
theorem dX9_worth_11 : decode cX9_worth 11 = .ok (.imul, 1) := by decide +kernel
theorem dX9_worth_12 : decode cX9_worth 12 = .ok (.isub, 1) := by decide +kernel
theorem dX9_worth_13 : decode cX9_worth 13 = .ok (.imul, 1) := by decide +kernel
theorem dX9_worth_14 : decode cX9_worth 14 = .ok (.ireturn, 1) := by decide +kernel
theorem dX9_share_0 : decode cX9_share 0 = .ok (.aload_n 0, 1) := by decide +kernel
theorem dX9_share_1 : decode cX9_share 1 = .ok (.getfield 9, 3) := by decide +kernel
theorem dX9_share_4 : decode cX9_share 4 = .ok (.bipush 6, 2) := by decide +kernel
theorem dX9_share_6 : decode cX9_share 6 = .ok (.iaload, 1) := by decide +kernel
theorem dX9_share_7 : decode cX9_share 7 = .ok (.istore_n 1, 1) := by decide +kernel
theorem dX9_share_8 : decode cX9_share 8 = .ok (.aload_n 0, 1) := by decide +kernel
theorem dX9_share_9 : decode cX9_share 9 = .ok (.getfield 9, 3) := by decide +kernel
theorem dX9_share_12 : decode cX9_share 12 = .ok (.bipush 7, 2) := by decide +kernel
theorem dX9_share_14 : decode cX9_share 14 = .ok (.iaload, 1) := by decide +kernel
theorem dX9_share_15 : decode cX9_share 15 = .ok (.istore_n 2, 1) := by decide +kernel
theorem dX9_share_16 : decode cX9_share 16 = .ok (.sipush 841, 3) := by decide +kernel
theorem dX9_share_19 : decode cX9_share 19 = .ok (.bipush 8, 2) := by decide +kernel
theorem dX9_share_21 : decode cX9_share 21 = .ok (.aload_n 0, 1) := by decide +kernel
theorem dX9_share_22 : decode cX9_share 22 = .ok (.getfield 9, 3) := by decide +kernel
theorem dX9_share_25 : decode cX9_share 25 = .ok (.bipush 22, 2) := by decide +kernel
theorem dX9_share_27 : decode cX9_share 27 = .ok (.iaload, 1) := by decide +kernel
theorem dX9_share_28 : decode cX9_share 28 = .ok (.imul, 1) := by decide +kernel
theorem dX9_share_29 : decode cX9_share 29 = .ok (.iadd, 1) := by decide +kernel
theorem dX9_share_30 : decode cX9_share 30 = .ok (.istore_n 3, 1) := by decide +kernel
theorem dX9_share_31 : decode cX9_share 31 = .ok (.iconst 0, 1) := by decide +kernel
theorem dX9_share_32 : decode cX9_share 32 = .ok (.istore 4, 2) := by decide +kernel
theorem dX9_share_34 : decode cX9_share 34 = .ok (.iload 4, 2) := by decide +kernel
theorem dX9_share_36 : decode cX9_share 36 = .ok (.bipush 8, 2) := by decide +kernel
theorem dX9_share_38 : decode cX9_share 38 = .ok (.if_icmp .ge 19, 3) := by decide +kernel
theorem dX9_share_41 : decode cX9_share 41 = .ok (.aload_n 0, 1) := by decide +kernel
theorem dX9_share_42 : decode cX9_share 42 = .ok (.getfield 9, 3) := by decide +kernel
theorem dX9_share_45 : decode cX9_share 45 = .ok (.iload_n 3, 1) := by decide +kernel
theorem dX9_share_46 : decode cX9_share 46 = .ok (.iload 4, 2) := by decide +kernel
theorem dX9_share_48 : decode cX9_share 48 = .ok (.iadd, 1) := by decide +kernel
theorem dX9_share_49 : decode cX9_share 49 = .ok (.iconst 0, 1) := by decide +kernel
theorem dX9_share_50 : decode cX9_share 50 = .ok (.iastore, 1) := by decide +kernel
theorem dX9_share_51 : decode cX9_share 51 = .ok (.iinc 4 1, 3) := by decide +kernel
theorem dX9_share_54 : decode cX9_share 54 = .ok (.goto (-20), 3) := by decide +kernel
theorem dX9_share_57 : decode cX9_share 57 = .ok (.aload_n 0, 1) := by decide +kernel
theorem dX9_share_58 : decode cX9_share 58 = .ok (.getfield 9, 3) := by decide +kernel
theorem dX9_share_61 : decode cX9_share 61 = .ok (.iload_n 3, 1) := by decide +kernel
theorem dX9_share_62 : decode cX9_share 62 = .ok (.iconst 2, 1) := by decide +kernel
theorem dX9_share_63 : decode cX9_share 63 = .ok (.iadd, 1) := by decide +kernel
theorem dX9_share_64 : decode cX9_share 64 = .ok (.iload_n 1, 1) := by decide +kernel
theorem dX9_share_65 : decode cX9_share 65 = .ok (.iload_n 2, 1) := by decide +kernel
theorem dX9_share_66 : decode cX9_share 66 = .ok (.if_icmp .ge 7, 3) := by decide +kernel
theorem dX9_share_69 : decode cX9_share 69 = .ok (.iload_n 1, 1) := by decide +kernel
theorem dX9_share_70 : decode cX9_share 70 = .ok (.goto 4, 3) := by decide +kernel
theorem dX9_share_73 : decode cX9_share 73 = .ok (.iload_n 2, 1) := by decide +kernel
theorem dX9_share_74 : decode cX9_share 74 = .ok (.iastore, 1) := by decide +kernel
theorem dX9_share_75 : decode cX9_share 75 = .ok (.aload_n 0, 1) := by decide +kernel
theorem dX9_share_76 : decode cX9_share 76 = .ok (.getfield 9, 3) := by decide +kernel
theorem dX9_share_79 : decode cX9_share 79 = .ok (.iload_n 3, 1) := by decide +kernel
theorem dX9_share_80 : decode cX9_share 80 = .ok (.iconst 3, 1) := by decide +kernel
theorem dX9_share_81 : decode cX9_share 81 = .ok (.iadd, 1) := by decide +kernel
theorem dX9_share_82 : decode cX9_share 82 = .ok (.iload_n 1, 1) := by decide +kernel
theorem dX9_share_83 : decode cX9_share 83 = .ok (.iload_n 2, 1) := by decide +kernel
theorem dX9_share_84 : decode cX9_share 84 = .ok (.if_icmp .ge 7, 3) := by decide +kernel
theorem dX9_share_87 : decode cX9_share 87 = .ok (.iload_n 2, 1) := by decide +kernel
theorem dX9_share_88 : decode cX9_share 88 = .ok (.goto 4, 3) := by decide +kernel
theorem dX9_share_91 : decode cX9_share 91 = .ok (.iload_n 1, 1) := by decide +kernel
theorem dX9_share_92 : decode cX9_share 92 = .ok (.iastore, 1) := by decide +kernel
theorem dX9_share_93 : decode cX9_share 93 = .ok (.aload_n 0, 1) := by decide +kernel
theorem dX9_share_94 : decode cX9_share 94 = .ok (.getfield 9, 3) := by decide +kernel
theorem dX9_share_97 : decode cX9_share 97 = .ok (.iload_n 3, 1) := by decide +kernel
theorem dX9_share_98 : decode cX9_share 98 = .ok (.bipush 7, 2) := by decide +kernel
theorem dX9_share_100 : decode cX9_share 100 = .ok (.iadd, 1) := by decide +kernel
theorem dX9_share_101 : decode cX9_share 101 = .ok (.iconst 1, 1) := by decide +kernel
theorem dX9_share_102 : decode cX9_share 102 = .ok (.iastore, 1) := by decide +kernel
theorem dX9_share_103 : decode cX9_share 103 = .ok (.aload_n 0, 1) := by decide +kernel
theorem dX9_share_104 : decode cX9_share 104 = .ok (.getfield 9, 3) := by decide +kernel
theorem dX9_share_107 : decode cX9_share 107 = .ok (.bipush 22, 2) := by decide +kernel
theorem dX9_share_109 : decode cX9_share 109 = .ok (.dup2, 1) := by decide +kernel
theorem dX9_share_110 : decode cX9_share 110 = .ok (.iaload, 1) := by decide +kernel
theorem dX9_share_111 : decode cX9_share 111 = .ok (.iconst 1, 1) := by decide +kernel
theorem dX9_share_112 : decode cX9_share 112 = .ok (.iadd, 1) := by decide +kernel
theorem dX9_share_113 : decode cX9_share 113 = .ok (.iastore, 1) := by decide +kernel
theorem dX9_share_114 : decode cX9_share 114 = .ok (.return_, 1) := by decide +kernel
theorem dX9_opens_0 : decode cX9_opens 0 = .ok (.aload_n 0, 1) := by decide +kernel
theorem dX9_opens_1 : decode cX9_opens 1 = .ok (.getfield 9, 3) := by decide +kernel
theorem dX9_opens_4 : decode cX9_opens 4 = .ok (.iconst 4, 1) := by decide +kernel
theorem dX9_opens_5 : decode cX9_opens 5 = .ok (.iload_n 1, 1) := by decide +kernel
theorem dX9_opens_6 : decode cX9_opens 6 = .ok (.iastore, 1) := by decide +kernel
theorem dX9_opens_7 : decode cX9_opens 7 = .ok (.aload_n 0, 1) := by decide +kernel
theorem dX9_opens_8 : decode cX9_opens 8 = .ok (.getfield 9, 3) := by decide +kernel
theorem dX9_opens_11 : decode cX9_opens 11 = .ok (.bipush 6, 2) := by decide +kernel
theorem dX9_opens_13 : decode cX9_opens 13 = .ok (.iconst 0, 1) := by decide +kernel
theorem dX9_opens_14 : decode cX9_opens 14 = .ok (.iastore, 1) := by decide +kernel
theorem dX9_opens_15 : decode cX9_opens 15 = .ok (.aload_n 0, 1) := by decide +kernel
theorem dX9_opens_16 : decode cX9_opens 16 = .ok (.getfield 9, 3) := by decide +kernel
theorem dX9_opens_19 : decode cX9_opens 19 = .ok (.bipush 7, 2) := by decide +kernel
theorem dX9_opens_21 : decode cX9_opens 21 = .ok (.iconst 1, 1) := by decide +kernel
theorem dX9_opens_22 : decode cX9_opens 22 = .ok (.iastore, 1) := by decide +kernel
theorem dX9_opens_23 : decode cX9_opens 23 = .ok (.aload_n 0, 1) := by decide +kernel
theorem dX9_opens_24 : decode cX9_opens 24 = .ok (.getfield 9, 3) := by decide +kernel
theorem dX9_opens_27 : decode cX9_opens 27 = .ok (.bipush 8, 2) := by decide +kernel
theorem dX9_opens_29 : decode cX9_opens 29 = .ok (.iconst (-1), 1) := by decide +kernel
theorem dX9_opens_30 : decode cX9_opens 30 = .ok (.iastore, 1) := by decide +kernel
theorem dX9_opens_31 : decode cX9_opens 31 = .ok (.aload_n 0, 1) := by decide +kernel
theorem dX9_opens_32 : decode cX9_opens 32 = .ok (.getfield 9, 3) := by decide +kernel
theorem dX9_opens_35 : decode cX9_opens 35 = .ok (.bipush 9, 2) := by decide +kernel
theorem dX9_opens_37 : decode cX9_opens 37 = .ok (.iconst (-1), 1) := by decide +kernel
theorem dX9_opens_38 : decode cX9_opens 38 = .ok (.iastore, 1) := by decide +kernel
theorem dX9_opens_39 : decode cX9_opens 39 = .ok (.aload_n 0, 1) := by decide +kernel
theorem dX9_opens_40 : decode cX9_opens 40 = .ok (.getfield 9, 3) := by decide +kernel
theorem dX9_opens_43 : decode cX9_opens 43 = .ok (.bipush 10, 2) := by decide +kernel
theorem dX9_opens_45 : decode cX9_opens 45 = .ok (.iconst 0, 1) := by decide +kernel
theorem dX9_opens_46 : decode cX9_opens 46 = .ok (.iastore, 1) := by decide +kernel
theorem dX9_opens_47 : decode cX9_opens 47 = .ok (.aload_n 0, 1) := by decide +kernel
theorem dX9_opens_48 : decode cX9_opens 48 = .ok (.getfield 9, 3) := by decide +kernel
theorem dX9_opens_51 : decode cX9_opens 51 = .ok (.bipush 11, 2) := by decide +kernel
theorem dX9_opens_53 : decode cX9_opens 53 = .ok (.iconst 0, 1) := by decide +kernel
theorem dX9_opens_54 : decode cX9_opens 54 = .ok (.iastore, 1) := by decide +kernel
theorem dX9_opens_55 : decode cX9_opens 55 = .ok (.aload_n 0, 1) := by decide +kernel
theorem dX9_opens_56 : decode cX9_opens 56 = .ok (.getfield 9, 3) := by decide +kernel
theorem dX9_opens_59 : decode cX9_opens 59 = .ok (.bipush 12, 2) := by decide +kernel
theorem dX9_opens_61 : decode cX9_opens 61 = .ok (.iconst (-1), 1) := by decide +kernel
theorem dX9_opens_62 : decode cX9_opens 62 = .ok (.iastore, 1) := by decide +kernel
theorem dX9_opens_63 : decode cX9_opens 63 = .ok (.iload_n 1, 1) := by decide +kernel
theorem dX9_opens_64 : decode cX9_opens 64 = .ok (.ifCond .eq 13, 3) := by decide +kernel
theorem dX9_opens_67 : decode cX9_opens 67 = .ok (.aload_n 0, 1) := by decide +kernel
theorem dX9_opens_68 : decode cX9_opens 68 = .ok (.getfield 9, 3) := by decide +kernel
theorem dX9_opens_71 : decode cX9_opens 71 = .ok (.iconst 1, 1) := by decide +kernel
theorem dX9_opens_72 : decode cX9_opens 72 = .ok (.iaload, 1) := by decide +kernel
theorem dX9_opens_73 : decode cX9_opens 73 = .ok (.iconst 2, 1) := by decide +kernel
theorem dX9_opens_74 : decode cX9_opens 74 = .ok (.if_icmp .ne 16, 3) := by decide +kernel
theorem dX9_opens_77 : decode cX9_opens 77 = .ok (.aload_n 0, 1) := by decide +kernel
theorem dX9_opens_78 : decode cX9_opens 78 = .ok (.getfield 9, 3) := by decide +kernel
theorem dX9_opens_81 : decode cX9_opens 81 = .ok (.bipush 13, 2) := by decide +kernel
theorem dX9_opens_83 : decode cX9_opens 83 = .ok (.aload_n 0, 1) := by decide +kernel
theorem dX9_opens_84 : decode cX9_opens 84 = .ok (.getfield 9, 3) := by decide +kernel
theorem dX9_opens_87 : decode cX9_opens 87 = .ok (.iconst 3, 1) := by decide +kernel
theorem dX9_opens_88 : decode cX9_opens 88 = .ok (.iaload, 1) := by decide +kernel
theorem dX9_opens_89 : decode cX9_opens 89 = .ok (.iastore, 1) := by decide +kernel
theorem dX9_opens_90 : decode cX9_opens 90 = .ok (.aload_n 0, 1) := by decide +kernel
theorem dX9_opens_91 : decode cX9_opens 91 = .ok (.getfield 9, 3) := by decide +kernel
theorem dX9_opens_94 : decode cX9_opens 94 = .ok (.bipush 18, 2) := by decide +kernel
theorem dX9_opens_96 : decode cX9_opens 96 = .ok (.iload_n 1, 1) := by decide +kernel
theorem dX9_opens_97 : decode cX9_opens 97 = .ok (.iadd, 1) := by decide +kernel
theorem dX9_opens_98 : decode cX9_opens 98 = .ok (.aload_n 0, 1) := by decide +kernel
theorem dX9_opens_99 : decode cX9_opens 99 = .ok (.getfield 9, 3) := by decide +kernel
theorem dX9_opens_102 : decode cX9_opens 102 = .ok (.bipush 13, 2) := by decide +kernel
theorem dX9_opens_104 : decode cX9_opens 104 = .ok (.iaload, 1) := by decide +kernel
theorem dX9_opens_105 : decode cX9_opens 105 = .ok (.iastore, 1) := by decide +kernel
theorem dX9_opens_106 : decode cX9_opens 106 = .ok (.aload_n 0, 1) := by decide +kernel
theorem dX9_opens_107 : decode cX9_opens 107 = .ok (.getfield 9, 3) := by decide +kernel
theorem dX9_opens_110 : decode cX9_opens 110 = .ok (.bipush 14, 2) := by decide +kernel
theorem dX9_opens_112 : decode cX9_opens 112 = .ok (.iload_n 1, 1) := by decide +kernel
theorem dX9_opens_113 : decode cX9_opens 113 = .ok (.iadd, 1) := by decide +kernel
theorem dX9_opens_114 : decode cX9_opens 114 = .ok (.aload_n 0, 1) := by decide +kernel
theorem dX9_opens_115 : decode cX9_opens 115 = .ok (.getfield 9, 3) := by decide +kernel
theorem dX9_opens_118 : decode cX9_opens 118 = .ok (.iconst 1, 1) := by decide +kernel
theorem dX9_opens_119 : decode cX9_opens 119 = .ok (.iaload, 1) := by decide +kernel
theorem dX9_opens_120 : decode cX9_opens 120 = .ok (.iconst 1, 1) := by decide +kernel
theorem dX9_opens_121 : decode cX9_opens 121 = .ok (.if_icmp .ne 20, 3) := by decide +kernel
theorem dX9_opens_124 : decode cX9_opens 124 = .ok (.bipush 6, 2) := by decide +kernel
theorem dX9_opens_126 : decode cX9_opens 126 = .ok (.aload_n 0, 1) := by decide +kernel
theorem dX9_opens_127 : decode cX9_opens 127 = .ok (.getfield 9, 3) := by decide +kernel
theorem dX9_opens_130 : decode cX9_opens 130 = .ok (.bipush 13, 2) := by decide +kernel
theorem dX9_opens_132 : decode cX9_opens 132 = .ok (.iaload, 1) := by decide +kernel
theorem dX9_opens_133 : decode cX9_opens 133 = .ok (.imul, 1) := by decide +kernel
theorem dX9_opens_134 : decode cX9_opens 134 = .ok (.iconst 0, 1) := by decide +kernel
theorem dX9_opens_135 : decode cX9_opens 135 = .ok (.invokestatic 58, 3) := by decide +kernel
theorem dX9_opens_138 : decode cX9_opens 138 = .ok (.goto 4, 3) := by decide +kernel
theorem dX9_opens_141 : decode cX9_opens 141 = .ok (.iconst 0, 1) := by decide +kernel
theorem dX9_opens_142 : decode cX9_opens 142 = .ok (.iastore, 1) := by decide +kernel
theorem dX9_opens_143 : decode cX9_opens 143 = .ok (.aload_n 0, 1) := by decide +kernel
theorem dX9_opens_144 : decode cX9_opens 144 = .ok (.getfield 9, 3) := by decide +kernel
theorem dX9_opens_147 : decode cX9_opens 147 = .ok (.iload_n 1, 1) := by decide +kernel
theorem dX9_opens_148 : decode cX9_opens 148 = .ok (.bipush 9, 2) := by decide +kernel
theorem dX9_opens_150 : decode cX9_opens 150 = .ok (.invokestatic 62, 3) := by decide +kernel
theorem dX9_opens_153 : decode cX9_opens 153 = .ok (.aload_n 0, 1) := by decide +kernel
theorem dX9_opens_154 : decode cX9_opens 154 = .ok (.getfield 9, 3) := by decide +kernel
theorem dX9_opens_157 : decode cX9_opens 157 = .ok (.bipush 22, 2) := by decide +kernel
theorem dX9_opens_159 : decode cX9_opens 159 = .ok (.iaload, 1) := by decide +kernel
theorem dX9_opens_160 : decode cX9_opens 160 = .ok (.iastore, 1) := by decide +kernel
theorem dX9_opens_161 : decode cX9_opens 161 = .ok (.iconst 0, 1) := by decide +kernel
theorem dX9_opens_162 : decode cX9_opens 162 = .ok (.istore_n 2, 1) := by decide +kernel
theorem dX9_opens_163 : decode cX9_opens 163 = .ok (.iload_n 2, 1) := by decide +kernel
theorem dX9_opens_164 : decode cX9_opens 164 = .ok (.bipush 11, 2) := by decide +kernel
theorem dX9_opens_166 : decode cX9_opens 166 = .ok (.if_icmp .ge 43, 3) := by decide +kernel
theorem dX9_opens_169 : decode cX9_opens 169 = .ok (.aload_n 0, 1) := by decide +kernel
theorem dX9_opens_170 : decode cX9_opens 170 = .ok (.getfield 9, 3) := by decide +kernel
theorem dX9_opens_173 : decode cX9_opens 173 = .ok (.iload_n 1, 1) := by decide +kernel
theorem dX9_opens_174 : decode cX9_opens 174 = .ok (.iload_n 2, 1) := by decide +kernel
theorem dX9_opens_175 : decode cX9_opens 175 = .ok (.iconst 4, 1) := by decide +kernel
theorem dX9_opens_176 : decode cX9_opens 176 = .ok (.invokestatic 65, 3) := by decide +kernel
theorem dX9_opens_179 : decode cX9_opens 179 = .ok (.iload_n 2, 1) := by decide +kernel
theorem dX9_opens_180 : decode cX9_opens 180 = .ok (.iconst 2, 1) := by decide +kernel
theorem dX9_opens_181 : decode cX9_opens 181 = .ok (.if_icmp .ge 7, 3) := by decide +kernel
theorem dX9_opens_184 : decode cX9_opens 184 = .ok (.iconst (-1), 1) := by decide +kernel
theorem dX9_opens_185 : decode cX9_opens 185 = .ok (.goto 5, 3) := by decide +kernel
theorem dX9_opens_188 : decode cX9_opens 188 = .ok (.bipush (-2), 2) := by decide +kernel
theorem dX9_opens_190 : decode cX9_opens 190 = .ok (.iastore, 1) := by decide +kernel
theorem dX9_opens_191 : decode cX9_opens 191 = .ok (.aload_n 0, 1) := by decide +kernel
theorem dX9_opens_192 : decode cX9_opens 192 = .ok (.getfield 9, 3) := by decide +kernel
theorem dX9_opens_195 : decode cX9_opens 195 = .ok (.iload_n 1, 1) := by decide +kernel
theorem dX9_opens_196 : decode cX9_opens 196 = .ok (.iload_n 2, 1) := by decide +kernel
theorem dX9_opens_197 : decode cX9_opens 197 = .ok (.iconst 5, 1) := by decide +kernel
theorem dX9_opens_198 : decode cX9_opens 198 = .ok (.invokestatic 65, 3) := by decide +kernel
theorem dX9_opens_201 : decode cX9_opens 201 = .ok (.iconst (-1), 1) := by decide +kernel
theorem dX9_opens_202 : decode cX9_opens 202 = .ok (.iastore, 1) := by decide +kernel
theorem dX9_opens_203 : decode cX9_opens 203 = .ok (.iinc 2 1, 3) := by decide +kernel
theorem dX9_opens_206 : decode cX9_opens 206 = .ok (.goto (-43), 3) := by decide +kernel
theorem dX9_opens_209 : decode cX9_opens 209 = .ok (.aload_n 0, 1) := by decide +kernel
theorem dX9_opens_210 : decode cX9_opens 210 = .ok (.invokevirtual 69, 3) := by decide +kernel
theorem dX9_opens_213 : decode cX9_opens 213 = .ok (.return_, 1) := by decide +kernel
theorem dX9_begins_0 : decode cX9_begins 0 = .ok (.iconst 0, 1) := by decide +kernel
theorem dX9_begins_1 : decode cX9_begins 1 = .ok (.istore 4, 2) := by decide +kernel
theorem dX9_begins_3 : decode cX9_begins 3 = .ok (.iload 4, 2) := by decide +kernel
theorem dX9_begins_5 : decode cX9_begins 5 = .ok (.sipush 6441, 3) := by decide +kernel
theorem dX9_begins_8 : decode cX9_begins 8 = .ok (.if_icmp .ge 17, 3) := by decide +kernel
theorem dX9_begins_11 : decode cX9_begins 11 = .ok (.aload_n 0, 1) := by decide +kernel
theorem dX9_begins_12 : decode cX9_begins 12 = .ok (.getfield 9, 3) := by decide +kernel
theorem dX9_begins_15 : decode cX9_begins 15 = .ok (.iload 4, 2) := by decide +kernel
theorem dX9_begins_17 : decode cX9_begins 17 = .ok (.iconst 0, 1) := by decide +kernel
theorem dX9_begins_18 : decode cX9_begins 18 = .ok (.iastore, 1) := by decide +kernel
theorem dX9_begins_19 : decode cX9_begins 19 = .ok (.iinc 4 1, 3) := by decide +kernel
theorem dX9_begins_22 : decode cX9_begins 22 = .ok (.goto (-19), 3) := by decide +kernel
theorem dX9_begins_25 : decode cX9_begins 25 = .ok (.aload_n 0, 1) := by decide +kernel
theorem dX9_begins_26 : decode cX9_begins 26 = .ok (.getfield 9, 3) := by decide +kernel
theorem dX9_begins_29 : decode cX9_begins 29 = .ok (.iconst 0, 1) := by decide +kernel
theorem dX9_begins_30 : decode cX9_begins 30 = .ok (.iconst 1, 1) := by decide +kernel
theorem dX9_begins_31 : decode cX9_begins 31 = .ok (.iastore, 1) := by decide +kernel
theorem dX9_begins_32 : decode cX9_begins 32 = .ok (.aload_n 0, 1) := by decide +kernel
theorem dX9_begins_33 : decode cX9_begins 33 = .ok (.getfield 9, 3) := by decide +kernel
theorem dX9_begins_36 : decode cX9_begins 36 = .ok (.iconst 1, 1) := by decide +kernel
theorem dX9_begins_37 : decode cX9_begins 37 = .ok (.iload_n 2, 1) := by decide +kernel
theorem dX9_begins_38 : decode cX9_begins 38 = .ok (.iastore, 1) := by decide +kernel
theorem dX9_begins_39 : decode cX9_begins 39 = .ok (.aload_n 0, 1) := by decide +kernel
theorem dX9_begins_40 : decode cX9_begins 40 = .ok (.getfield 9, 3) := by decide +kernel
theorem dX9_begins_43 : decode cX9_begins 43 = .ok (.iconst 2, 1) := by decide +kernel
theorem dX9_begins_44 : decode cX9_begins 44 = .ok (.iload_n 3, 1) := by decide +kernel
theorem dX9_begins_45 : decode cX9_begins 45 = .ok (.iastore, 1) := by decide +kernel
theorem dX9_begins_46 : decode cX9_begins 46 = .ok (.aload_n 0, 1) := by decide +kernel
theorem dX9_begins_47 : decode cX9_begins 47 = .ok (.getfield 9, 3) := by decide +kernel
theorem dX9_begins_50 : decode cX9_begins 50 = .ok (.iconst 3, 1) := by decide +kernel
theorem dX9_begins_51 : decode cX9_begins 51 = .ok (.iload_n 1, 1) := by decide +kernel
theorem dX9_begins_52 : decode cX9_begins 52 = .ok (.iastore, 1) := by decide +kernel
theorem dX9_begins_53 : decode cX9_begins 53 = .ok (.aload_n 0, 1) := by decide +kernel
theorem dX9_begins_54 : decode cX9_begins 54 = .ok (.iconst 0, 1) := by decide +kernel
theorem dX9_begins_55 : decode cX9_begins 55 = .ok (.invokevirtual 72, 3) := by decide +kernel
theorem dX9_begins_58 : decode cX9_begins 58 = .ok (.return_, 1) := by decide +kernel
theorem dX9_fifth_0 : decode cX9_fifth 0 = .ok (.iload_n 0, 1) := by decide +kernel
theorem dX9_fifth_1 : decode cX9_fifth 1 = .ok (.iconst 4, 1) := by decide +kernel
theorem dX9_fifth_2 : decode cX9_fifth 2 = .ok (.iadd, 1) := by decide +kernel
theorem dX9_fifth_3 : decode cX9_fifth 3 = .ok (.iconst 5, 1) := by decide +kernel
theorem dX9_fifth_4 : decode cX9_fifth 4 = .ok (.idiv, 1) := by decide +kernel
theorem dX9_fifth_5 : decode cX9_fifth 5 = .ok (.ireturn, 1) := by decide +kernel
theorem dX9_begin_0 : decode cX9_begin 0 = .ok (.aload_n 0, 1) := by decide +kernel
theorem dX9_begin_1 : decode cX9_begin 1 = .ok (.iload_n 1, 1) := by decide +kernel
theorem dX9_begin_2 : decode cX9_begin 2 = .ok (.iconst 1, 1) := by decide +kernel
theorem dX9_begin_3 : decode cX9_begin 3 = .ok (.bipush 20, 2) := by decide +kernel
theorem dX9_begin_5 : decode cX9_begin 5 = .ok (.invokestatic 76, 3) := by decide +kernel
theorem dX9_begin_8 : decode cX9_begin 8 = .ok (.ifCond .eq 25, 3) := by decide +kernel
theorem dX9_begin_11 : decode cX9_begin 11 = .ok (.iload_n 2, 1) := by decide +kernel
theorem dX9_begin_12 : decode cX9_begin 12 = .ok (.iconst 1, 1) := by decide +kernel
theorem dX9_begin_13 : decode cX9_begin 13 = .ok (.iconst 2, 1) := by decide +kernel
theorem dX9_begin_14 : decode cX9_begin 14 = .ok (.invokestatic 76, 3) := by decide +kernel
theorem dX9_begin_17 : decode cX9_begin 17 = .ok (.ifCond .eq 16, 3) := by decide +kernel
theorem dX9_begin_20 : decode cX9_begin 20 = .ok (.iload_n 3, 1) := by decide +kernel
theorem dX9_begin_21 : decode cX9_begin 21 = .ok (.iconst 0, 1) := by decide +kernel
theorem dX9_begin_22 : decode cX9_begin 22 = .ok (.iconst 1, 1) := by decide +kernel
theorem dX9_begin_23 : decode cX9_begin 23 = .ok (.invokestatic 76, 3) := by decide +kernel
theorem dX9_begin_26 : decode cX9_begin 26 = .ok (.ifCond .eq 7, 3) := by decide +kernel
theorem dX9_begin_29 : decode cX9_begin 29 = .ok (.iconst 0, 1) := by decide +kernel
theorem dX9_begin_30 : decode cX9_begin 30 = .ok (.goto 4, 3) := by decide +kernel
theorem dX9_begin_33 : decode cX9_begin 33 = .ok (.iconst 1, 1) := by decide +kernel
theorem dX9_begin_34 : decode cX9_begin 34 = .ok (.putfield 55, 3) := by decide +kernel
theorem dX9_begin_37 : decode cX9_begin 37 = .ok (.aload_n 0, 1) := by decide +kernel
theorem dX9_begin_38 : decode cX9_begin 38 = .ok (.getfield 55, 3) := by decide +kernel
theorem dX9_begin_41 : decode cX9_begin 41 = .ok (.iconst 1, 1) := by decide +kernel
theorem dX9_begin_42 : decode cX9_begin 42 = .ok (.if_icmp .ne 5, 3) := by decide +kernel
theorem dX9_begin_45 : decode cX9_begin 45 = .ok (.iconst 0, 1) := by decide +kernel
theorem dX9_begin_46 : decode cX9_begin 46 = .ok (.ireturn, 1) := by decide +kernel
theorem dX9_begin_47 : decode cX9_begin 47 = .ok (.aload_n 0, 1) := by decide +kernel
theorem dX9_begin_48 : decode cX9_begin 48 = .ok (.iload_n 1, 1) := by decide +kernel
theorem dX9_begin_49 : decode cX9_begin 49 = .ok (.iload_n 2, 1) := by decide +kernel
theorem dX9_begin_50 : decode cX9_begin 50 = .ok (.iload_n 3, 1) := by decide +kernel
theorem dX9_begin_51 : decode cX9_begin 51 = .ok (.invokevirtual 80, 3) := by decide +kernel
theorem dX9_begin_54 : decode cX9_begin 54 = .ok (.aload_n 0, 1) := by decide +kernel
theorem dX9_begin_55 : decode cX9_begin 55 = .ok (.iconst 0, 1) := by decide +kernel
theorem dX9_begin_56 : decode cX9_begin 56 = .ok (.putfield 84, 3) := by decide +kernel
theorem dX9_begin_59 : decode cX9_begin 59 = .ok (.iload_n 1, 1) := by decide +kernel
theorem dX9_begin_60 : decode cX9_begin 60 = .ok (.invokestatic 87, 3) := by decide +kernel
theorem dX9_begin_63 : decode cX9_begin 63 = .ok (.ireturn, 1) := by decide +kernel
theorem dX9_target_0 : decode cX9_target 0 = .ok (.aload_n 0, 1) := by decide +kernel
theorem dX9_target_1 : decode cX9_target 1 = .ok (.getfield 9, 3) := by decide +kernel
theorem dX9_target_4 : decode cX9_target 4 = .ok (.iconst 1, 1) := by decide +kernel
theorem dX9_target_5 : decode cX9_target 5 = .ok (.iaload, 1) := by decide +kernel
theorem dX9_target_6 : decode cX9_target 6 = .ok (.iconst 2, 1) := by decide +kernel
theorem dX9_target_7 : decode cX9_target 7 = .ok (.if_icmp .ne 38, 3) := by decide +kernel
theorem dX9_target_10 : decode cX9_target 10 = .ok (.aload_n 0, 1) := by decide +kernel
theorem dX9_target_11 : decode cX9_target 11 = .ok (.getfield 9, 3) := by decide +kernel
theorem dX9_target_14 : decode cX9_target 14 = .ok (.iconst 0, 1) := by decide +kernel
theorem dX9_target_15 : decode cX9_target 15 = .ok (.iconst 0, 1) := by decide +kernel
theorem dX9_target_16 : decode cX9_target 16 = .ok (.invokestatic 62, 3) := by decide +kernel
theorem dX9_target_19 : decode cX9_target 19 = .ok (.iaload, 1) := by decide +kernel
theorem dX9_target_20 : decode cX9_target 20 = .ok (.aload_n 0, 1) := by decide +kernel
theorem dX9_target_21 : decode cX9_target 21 = .ok (.getfield 9, 3) := by decide +kernel
theorem dX9_target_24 : decode cX9_target 24 = .ok (.iconst 2, 1) := by decide +kernel
theorem dX9_target_25 : decode cX9_target 25 = .ok (.iconst 0, 1) := by decide +kernel
theorem dX9_target_26 : decode cX9_target 26 = .ok (.invokestatic 62, 3) := by decide +kernel
theorem dX9_target_29 : decode cX9_target 29 = .ok (.iaload, 1) := by decide +kernel
theorem dX9_target_30 : decode cX9_target 30 = .ok (.iadd, 1) := by decide +kernel
theorem dX9_target_31 : decode cX9_target 31 = .ok (.aload_n 0, 1) := by decide +kernel
theorem dX9_target_32 : decode cX9_target 32 = .ok (.getfield 9, 3) := by decide +kernel
theorem dX9_target_35 : decode cX9_target 35 = .ok (.iconst 1, 1) := by decide +kernel
theorem dX9_target_36 : decode cX9_target 36 = .ok (.iconst 0, 1) := by decide +kernel
theorem dX9_target_37 : decode cX9_target 37 = .ok (.invokestatic 62, 3) := by decide +kernel
theorem dX9_target_40 : decode cX9_target 40 = .ok (.iaload, 1) := by decide +kernel
theorem dX9_target_41 : decode cX9_target 41 = .ok (.isub, 1) := by decide +kernel
theorem dX9_target_42 : decode cX9_target 42 = .ok (.iconst 1, 1) := by decide +kernel
theorem dX9_target_43 : decode cX9_target 43 = .ok (.iadd, 1) := by decide +kernel
theorem dX9_target_44 : decode cX9_target 44 = .ok (.ireturn, 1) := by decide +kernel
theorem dX9_target_45 : decode cX9_target 45 = .ok (.aload_n 0, 1) := by decide +kernel
theorem dX9_target_46 : decode cX9_target 46 = .ok (.getfield 9, 3) := by decide +kernel
theorem dX9_target_49 : decode cX9_target 49 = .ok (.iconst 0, 1) := by decide +kernel
theorem dX9_target_50 : decode cX9_target 50 = .ok (.iconst 0, 1) := by decide +kernel
theorem dX9_target_51 : decode cX9_target 51 = .ok (.invokestatic 62, 3) := by decide +kernel
theorem dX9_target_54 : decode cX9_target 54 = .ok (.iaload, 1) := by decide +kernel
theorem dX9_target_55 : decode cX9_target 55 = .ok (.i2l, 1) := by decide +kernel
theorem dX9_target_56 : decode cX9_target 56 = .ok (.lstore_n 1, 1) := by decide +kernel
theorem dX9_target_57 : decode cX9_target 57 = .ok (.aload_n 0, 1) := by decide +kernel
theorem dX9_target_58 : decode cX9_target 58 = .ok (.getfield 9, 3) := by decide +kernel
theorem dX9_target_61 : decode cX9_target 61 = .ok (.bipush 14, 2) := by decide +kernel
theorem dX9_target_63 : decode cX9_target 63 = .ok (.iaload, 1) := by decide +kernel
theorem dX9_target_64 : decode cX9_target 64 = .ok (.i2l, 1) := by decide +kernel
theorem dX9_target_65 : decode cX9_target 65 = .ok (.lstore_n 3, 1) := by decide +kernel
theorem dX9_target_66 : decode cX9_target 66 = .ok (.aload_n 0, 1) := by decide +kernel
theorem dX9_target_67 : decode cX9_target 67 = .ok (.getfield 9, 3) := by decide +kernel
theorem dX9_target_70 : decode cX9_target 70 = .ok (.bipush 15, 2) := by decide +kernel
theorem dX9_target_72 : decode cX9_target 72 = .ok (.iaload, 1) := by decide +kernel
theorem dX9_target_73 : decode cX9_target 73 = .ok (.i2l, 1) := by decide +kernel
theorem dX9_target_74 : decode cX9_target 74 = .ok (.lstore 5, 2) := by decide +kernel
theorem dX9_target_76 : decode cX9_target 76 = .ok (.lload 5, 2) := by decide +kernel
theorem dX9_target_78 : decode cX9_target 78 = .ok (.lload_n 3, 1) := by decide +kernel
theorem dX9_target_79 : decode cX9_target 79 = .ok (.lcmp, 1) := by decide +kernel
theorem dX9_target_80 : decode cX9_target 80 = .ok (.ifCond .gt 14, 3) := by decide +kernel
theorem dX9_target_83 : decode cX9_target 83 = .ok (.lload_n 1, 1) := by decide +kernel
theorem dX9_target_84 : decode cX9_target 84 = .ok (.lload 5, 2) := by decide +kernel
theorem dX9_target_86 : decode cX9_target 86 = .ok (.lmul, 1) := by decide +kernel
theorem dX9_target_87 : decode cX9_target 87 = .ok (.lload_n 3, 1) := by decide +kernel
theorem dX9_target_88 : decode cX9_target 88 = .ok (.ldiv, 1) := by decide +kernel
theorem dX9_target_89 : decode cX9_target 89 = .ok (.lconst 1, 1) := by decide +kernel
theorem dX9_target_90 : decode cX9_target 90 = .ok (.ladd, 1) := by decide +kernel
theorem dX9_target_91 : decode cX9_target 91 = .ok (.goto 19, 3) := by decide +kernel
theorem dX9_target_94 : decode cX9_target 94 = .ok (.lload_n 1, 1) := by decide +kernel
theorem dX9_target_95 : decode cX9_target 95 = .ok (.ldc2_w 91, 3) := by decide +kernel
theorem dX9_target_98 : decode cX9_target 98 = .ok (.lload 5, 2) := by decide +kernel
theorem dX9_target_100 : decode cX9_target 100 = .ok (.lload_n 3, 1) := by decide +kernel
theorem dX9_target_101 : decode cX9_target 101 = .ok (.lsub, 1) := by decide +kernel
theorem dX9_target_102 : decode cX9_target 102 = .ok (.lmul, 1) := by decide +kernel
theorem dX9_target_103 : decode cX9_target 103 = .ok (.ldc2_w 93, 3) := by decide +kernel
theorem dX9_target_106 : decode cX9_target 106 = .ok (.ldiv, 1) := by decide +kernel
theorem dX9_target_107 : decode cX9_target 107 = .ok (.ladd, 1) := by decide +kernel
theorem dX9_target_108 : decode cX9_target 108 = .ok (.lconst 1, 1) := by decide +kernel
theorem dX9_target_109 : decode cX9_target 109 = .ok (.ladd, 1) := by decide +kernel
theorem dX9_target_110 : decode cX9_target 110 = .ok (.l2i, 1) := by decide +kernel
theorem dX9_target_111 : decode cX9_target 111 = .ok (.ireturn, 1) := by decide +kernel
theorem dX9_looks_0 : decode cX9_looks 0 = .ok (.aload_n 0, 1) := by decide +kernel
theorem dX9_looks_1 : decode cX9_looks 1 = .ok (.getfield 9, 3) := by decide +kernel
theorem dX9_looks_4 : decode cX9_looks 4 = .ok (.iconst 4, 1) := by decide +kernel
theorem dX9_looks_5 : decode cX9_looks 5 = .ok (.iaload, 1) := by decide +kernel
theorem dX9_looks_6 : decode cX9_looks 6 = .ok (.istore_n 3, 1) := by decide +kernel
theorem dX9_looks_7 : decode cX9_looks 7 = .ok (.aload_n 0, 1) := by decide +kernel
theorem dX9_looks_8 : decode cX9_looks 8 = .ok (.getfield 9, 3) := by decide +kernel
theorem dX9_looks_11 : decode cX9_looks 11 = .ok (.iload_n 3, 1) := by decide +kernel
theorem dX9_looks_12 : decode cX9_looks 12 = .ok (.bipush 8, 2) := by decide +kernel
theorem dX9_looks_14 : decode cX9_looks 14 = .ok (.invokestatic 62, 3) := by decide +kernel
theorem dX9_looks_17 : decode cX9_looks 17 = .ok (.iaload, 1) := by decide +kernel
theorem dX9_looks_18 : decode cX9_looks 18 = .ok (.aload_n 0, 1) := by decide +kernel
theorem dX9_looks_19 : decode cX9_looks 19 = .ok (.getfield 9, 3) := by decide +kernel
theorem dX9_looks_22 : decode cX9_looks 22 = .ok (.bipush 13, 2) := by decide +kernel
theorem dX9_looks_24 : decode cX9_looks 24 = .ok (.iaload, 1) := by decide +kernel
theorem dX9_looks_25 : decode cX9_looks 25 = .ok (.if_icmp .ne 7, 3) := by decide +kernel
theorem dX9_looks_28 : decode cX9_looks 28 = .ok (.iconst 1, 1) := by decide +kernel
theorem dX9_looks_29 : decode cX9_looks 29 = .ok (.goto 4, 3) := by decide +kernel
theorem dX9_looks_32 : decode cX9_looks 32 = .ok (.iconst 0, 1) := by decide +kernel
theorem dX9_looks_33 : decode cX9_looks 33 = .ok (.istore 4, 2) := by decide +kernel
theorem dX9_looks_35 : decode cX9_looks 35 = .ok (.iload_n 1, 1) := by decide +kernel
theorem dX9_looks_36 : decode cX9_looks 36 = .ok (.ifCond .eq 7, 3) := by decide +kernel
theorem dX9_looks_39 : decode cX9_looks 39 = .ok (.iconst 2, 1) := by decide +kernel
theorem dX9_looks_40 : decode cX9_looks 40 = .ok (.goto 5, 3) := by decide +kernel
theorem dX9_looks_43 : decode cX9_looks 43 = .ok (.iload 4, 2) := by decide +kernel
theorem dX9_looks_45 : decode cX9_looks 45 = .ok (.istore 4, 2) := by decide +kernel
theorem dX9_looks_47 : decode cX9_looks 47 = .ok (.iload_n 2, 1) := by decide +kernel
theorem dX9_looks_48 : decode cX9_looks 48 = .ok (.ifCond .eq 7, 3) := by decide +kernel
theorem dX9_looks_51 : decode cX9_looks 51 = .ok (.iconst 3, 1) := by decide +kernel
theorem dX9_looks_52 : decode cX9_looks 52 = .ok (.goto 5, 3) := by decide +kernel
theorem dX9_looks_55 : decode cX9_looks 55 = .ok (.iload 4, 2) := by decide +kernel
theorem dX9_looks_57 : decode cX9_looks 57 = .ok (.istore 4, 2) := by decide +kernel
theorem dX9_looks_59 : decode cX9_looks 59 = .ok (.iload_n 3, 1) := by decide +kernel
theorem dX9_looks_60 : decode cX9_looks 60 = .ok (.aload_n 0, 1) := by decide +kernel
theorem dX9_looks_61 : decode cX9_looks 61 = .ok (.invokevirtual 95, 3) := by decide +kernel
theorem dX9_looks_64 : decode cX9_looks 64 = .ok (.if_icmp .ne 24, 3) := by decide +kernel
theorem dX9_looks_67 : decode cX9_looks 67 = .ok (.aload_n 0, 1) := by decide +kernel
theorem dX9_looks_68 : decode cX9_looks 68 = .ok (.getfield 9, 3) := by decide +kernel
theorem dX9_looks_71 : decode cX9_looks 71 = .ok (.iload_n 3, 1) := by decide +kernel
theorem dX9_looks_72 : decode cX9_looks 72 = .ok (.iconst 0, 1) := by decide +kernel
theorem dX9_looks_73 : decode cX9_looks 73 = .ok (.invokestatic 62, 3) := by decide +kernel
theorem dX9_looks_76 : decode cX9_looks 76 = .ok (.iaload, 1) := by decide +kernel
theorem dX9_looks_77 : decode cX9_looks 77 = .ok (.aload_n 0, 1) := by decide +kernel
theorem dX9_looks_78 : decode cX9_looks 78 = .ok (.invokevirtual 99, 3) := by decide +kernel
theorem dX9_looks_81 : decode cX9_looks 81 = .ok (.if_icmp .lt 7, 3) := by decide +kernel
theorem dX9_looks_84 : decode cX9_looks 84 = .ok (.iconst 4, 1) := by decide +kernel
theorem dX9_looks_85 : decode cX9_looks 85 = .ok (.goto 5, 3) := by decide +kernel
theorem dX9_looks_88 : decode cX9_looks 88 = .ok (.iload 4, 2) := by decide +kernel
theorem dX9_looks_90 : decode cX9_looks 90 = .ok (.istore 4, 2) := by decide +kernel
theorem dX9_looks_92 : decode cX9_looks 92 = .ok (.aload_n 0, 1) := by decide +kernel
theorem dX9_looks_93 : decode cX9_looks 93 = .ok (.getfield 9, 3) := by decide +kernel
theorem dX9_looks_96 : decode cX9_looks 96 = .ok (.iload_n 3, 1) := by decide +kernel
theorem dX9_looks_97 : decode cX9_looks 97 = .ok (.bipush 7, 2) := by decide +kernel
theorem dX9_looks_99 : decode cX9_looks 99 = .ok (.invokestatic 62, 3) := by decide +kernel
theorem dX9_looks_102 : decode cX9_looks 102 = .ok (.iload 4, 2) := by decide +kernel
theorem dX9_looks_104 : decode cX9_looks 104 = .ok (.iastore, 1) := by decide +kernel
theorem dX9_looks_105 : decode cX9_looks 105 = .ok (.iload 4, 2) := by decide +kernel
theorem dX9_looks_107 : decode cX9_looks 107 = .ok (.ifCond .ne 4, 3) := by decide +kernel
theorem dX9_looks_110 : decode cX9_looks 110 = .ok (.return_, 1) := by decide +kernel
theorem dX9_looks_111 : decode cX9_looks 111 = .ok (.iload_n 3, 1) := by decide +kernel
theorem dX9_looks_112 : decode cX9_looks 112 = .ok (.aload_n 0, 1) := by decide +kernel
theorem dX9_looks_113 : decode cX9_looks 113 = .ok (.invokevirtual 95, 3) := by decide +kernel
theorem dX9_looks_116 : decode cX9_looks 116 = .ok (.if_icmp .eq 25, 3) := by decide +kernel
theorem dX9_looks_119 : decode cX9_looks 119 = .ok (.aload_n 0, 1) := by decide +kernel
theorem dX9_looks_120 : decode cX9_looks 120 = .ok (.getfield 9, 3) := by decide +kernel
theorem dX9_looks_123 : decode cX9_looks 123 = .ok (.iconst 1, 1) := by decide +kernel
theorem dX9_looks_124 : decode cX9_looks 124 = .ok (.iaload, 1) := by decide +kernel
theorem dX9_looks_125 : decode cX9_looks 125 = .ok (.iconst 2, 1) := by decide +kernel
theorem dX9_looks_126 : decode cX9_looks 126 = .ok (.if_icmp .ne 25, 3) := by decide +kernel
theorem dX9_looks_129 : decode cX9_looks 129 = .ok (.iload_n 3, 1) := by decide +kernel
theorem dX9_looks_130 : decode cX9_looks 130 = .ok (.iconst 2, 1) := by decide +kernel
theorem dX9_looks_131 : decode cX9_looks 131 = .ok (.if_icmp .ne 20, 3) := by decide +kernel
theorem dX9_looks_134 : decode cX9_looks 134 = .ok (.aload_n 0, 1) := by decide +kernel
theorem dX9_looks_135 : decode cX9_looks 135 = .ok (.invokevirtual 99, 3) := by decide +kernel
theorem dX9_looks_138 : decode cX9_looks 138 = .ok (.ifCond .gt 13, 3) := by decide +kernel
theorem dX9_looks_141 : decode cX9_looks 141 = .ok (.aload_n 0, 1) := by decide +kernel
theorem dX9_looks_142 : decode cX9_looks 142 = .ok (.getfield 9, 3) := by decide +kernel
theorem dX9_looks_145 : decode cX9_looks 145 = .ok (.iconst 5, 1) := by decide +kernel
theorem dX9_looks_146 : decode cX9_looks 146 = .ok (.iconst 1, 1) := by decide +kernel
theorem dX9_looks_147 : decode cX9_looks 147 = .ok (.iastore, 1) := by decide +kernel
theorem dX9_looks_148 : decode cX9_looks 148 = .ok (.goto 10, 3) := by decide +kernel
theorem dX9_looks_151 : decode cX9_looks 151 = .ok (.aload_n 0, 1) := by decide +kernel
theorem dX9_looks_152 : decode cX9_looks 152 = .ok (.iload_n 3, 1) := by decide +kernel
theorem dX9_looks_153 : decode cX9_looks 153 = .ok (.iconst 1, 1) := by decide +kernel
theorem dX9_looks_154 : decode cX9_looks 154 = .ok (.iadd, 1) := by decide +kernel
theorem dX9_looks_155 : decode cX9_looks 155 = .ok (.invokevirtual 72, 3) := by decide +kernel
theorem dX9_looks_158 : decode cX9_looks 158 = .ok (.return_, 1) := by decide +kernel
theorem dX9_noMatch_0 : decode cX9_noMatch 0 = .ok (.aload_n 0, 1) := by decide +kernel
theorem dX9_noMatch_1 : decode cX9_noMatch 1 = .ok (.getfield 9, 3) := by decide +kernel
theorem dX9_noMatch_4 : decode cX9_noMatch 4 = .ok (.iconst 0, 1) := by decide +kernel
theorem dX9_noMatch_5 : decode cX9_noMatch 5 = .ok (.iaload, 1) := by decide +kernel
theorem dX9_noMatch_6 : decode cX9_noMatch 6 = .ok (.ifCond .eq 13, 3) := by decide +kernel
theorem dX9_noMatch_9 : decode cX9_noMatch 9 = .ok (.aload_n 0, 1) := by decide +kernel
theorem dX9_noMatch_10 : decode cX9_noMatch 10 = .ok (.getfield 9, 3) := by decide +kernel
theorem dX9_noMatch_13 : decode cX9_noMatch 13 = .ok (.iconst 5, 1) := by decide +kernel
theorem dX9_noMatch_14 : decode cX9_noMatch 14 = .ok (.iaload, 1) := by decide +kernel
theorem dX9_noMatch_15 : decode cX9_noMatch 15 = .ok (.iconst 1, 1) := by decide +kernel
theorem dX9_noMatch_16 : decode cX9_noMatch 16 = .ok (.if_icmp .ne 7, 3) := by decide +kernel
theorem dX9_noMatch_19 : decode cX9_noMatch 19 = .ok (.iconst 1, 1) := by decide +kernel
theorem dX9_noMatch_20 : decode cX9_noMatch 20 = .ok (.goto 4, 3) := by decide +kernel
theorem dX9_noMatch_23 : decode cX9_noMatch 23 = .ok (.iconst 0, 1) := by decide +kernel
theorem dX9_noMatch_24 : decode cX9_noMatch 24 = .ok (.ireturn, 1) := by decide +kernel
theorem dX9_refusesBowl_0 : decode cX9_refusesBowl 0 = .ok (.aload_n 0, 1) := by decide +kernel
theorem dX9_refusesBowl_1 : decode cX9_refusesBowl 1 = .ok (.invokevirtual 102, 3) := by decide +kernel
theorem dX9_refusesBowl_4 : decode cX9_refusesBowl 4 = .ok (.iconst 1, 1) := by decide +kernel
theorem dX9_refusesBowl_5 : decode cX9_refusesBowl 5 = .ok (.if_icmp .ne 5, 3) := by decide +kernel
theorem dX9_refusesBowl_8 : decode cX9_refusesBowl 8 = .ok (.iconst 1, 1) := by decide +kernel
theorem dX9_refusesBowl_9 : decode cX9_refusesBowl 9 = .ok (.ireturn, 1) := by decide +kernel
theorem dX9_refusesBowl_10 : decode cX9_refusesBowl 10 = .ok (.aload_n 0, 1) := by decide +kernel
theorem dX9_refusesBowl_11 : decode cX9_refusesBowl 11 = .ok (.getfield 9, 3) := by decide +kernel
theorem dX9_refusesBowl_14 : decode cX9_refusesBowl 14 = .ok (.bipush 9, 2) := by decide +kernel
theorem dX9_refusesBowl_16 : decode cX9_refusesBowl 16 = .ok (.iaload, 1) := by decide +kernel
theorem dX9_refusesBowl_17 : decode cX9_refusesBowl 17 = .ok (.ifCond .lt 5, 3) := by decide +kernel
theorem dX9_refusesBowl_20 : decode cX9_refusesBowl 20 = .ok (.iconst 2, 1) := by decide +kernel
theorem dX9_refusesBowl_21 : decode cX9_refusesBowl 21 = .ok (.ireturn, 1) := by decide +kernel
theorem dX9_refusesBowl_22 : decode cX9_refusesBowl 22 = .ok (.aload_n 0, 1) := by decide +kernel
theorem dX9_refusesBowl_23 : decode cX9_refusesBowl 23 = .ok (.getfield 9, 3) := by decide +kernel
theorem dX9_refusesBowl_26 : decode cX9_refusesBowl 26 = .ok (.iconst 4, 1) := by decide +kernel
theorem dX9_refusesBowl_27 : decode cX9_refusesBowl 27 = .ok (.iaload, 1) := by decide +kernel
theorem dX9_refusesBowl_28 : decode cX9_refusesBowl 28 = .ok (.istore_n 2, 1) := by decide +kernel
theorem dX9_refusesBowl_29 : decode cX9_refusesBowl 29 = .ok (.aload_n 0, 1) := by decide +kernel
theorem dX9_refusesBowl_30 : decode cX9_refusesBowl 30 = .ok (.getfield 9, 3) := by decide +kernel
theorem dX9_refusesBowl_33 : decode cX9_refusesBowl 33 = .ok (.bipush 12, 2) := by decide +kernel
theorem dX9_refusesBowl_35 : decode cX9_refusesBowl 35 = .ok (.iaload, 1) := by decide +kernel
theorem dX9_refusesBowl_36 : decode cX9_refusesBowl 36 = .ok (.iload_n 1, 1) := by decide +kernel
theorem dX9_refusesBowl_37 : decode cX9_refusesBowl 37 = .ok (.if_icmp .eq 30, 3) := by decide +kernel
theorem dX9_refusesBowl_40 : decode cX9_refusesBowl 40 = .ok (.aload_n 0, 1) := by decide +kernel
theorem dX9_refusesBowl_41 : decode cX9_refusesBowl 41 = .ok (.getfield 9, 3) := by decide +kernel
theorem dX9_refusesBowl_44 : decode cX9_refusesBowl 44 = .ok (.iload_n 2, 1) := by decide +kernel
theorem dX9_refusesBowl_45 : decode cX9_refusesBowl 45 = .ok (.iload_n 1, 1) := by decide +kernel
theorem dX9_refusesBowl_46 : decode cX9_refusesBowl 46 = .ok (.bipush 6, 2) := by decide +kernel
theorem dX9_refusesBowl_48 : decode cX9_refusesBowl 48 = .ok (.invokestatic 105, 3) := by decide +kernel
theorem dX9_refusesBowl_51 : decode cX9_refusesBowl 51 = .ok (.iaload, 1) := by decide +kernel
theorem dX9_refusesBowl_52 : decode cX9_refusesBowl 52 = .ok (.aload_n 0, 1) := by decide +kernel
theorem dX9_refusesBowl_53 : decode cX9_refusesBowl 53 = .ok (.getfield 9, 3) := by decide +kernel
theorem dX9_refusesBowl_56 : decode cX9_refusesBowl 56 = .ok (.bipush 18, 2) := by decide +kernel
theorem dX9_refusesBowl_58 : decode cX9_refusesBowl 58 = .ok (.iload_n 2, 1) := by decide +kernel
theorem dX9_refusesBowl_59 : decode cX9_refusesBowl 59 = .ok (.iadd, 1) := by decide +kernel
theorem dX9_refusesBowl_60 : decode cX9_refusesBowl 60 = .ok (.iaload, 1) := by decide +kernel
theorem dX9_refusesBowl_61 : decode cX9_refusesBowl 61 = .ok (.invokestatic 87, 3) := by decide +kernel
theorem dX9_refusesBowl_64 : decode cX9_refusesBowl 64 = .ok (.if_icmp .lt 7, 3) := by decide +kernel
theorem dX9_refusesBowl_67 : decode cX9_refusesBowl 67 = .ok (.iconst 4, 1) := by decide +kernel
theorem dX9_refusesBowl_68 : decode cX9_refusesBowl 68 = .ok (.goto 4, 3) := by decide +kernel
theorem dX9_refusesBowl_71 : decode cX9_refusesBowl 71 = .ok (.iconst 0, 1) := by decide +kernel
theorem dX9_refusesBowl_72 : decode cX9_refusesBowl 72 = .ok (.ireturn, 1) := by decide +kernel
theorem dX9_refusesBall_0 : decode cX9_refusesBall 0 = .ok (.aload_n 0, 1) := by decide +kernel
theorem dX9_refusesBall_1 : decode cX9_refusesBall 1 = .ok (.invokevirtual 102, 3) := by decide +kernel
theorem dX9_refusesBall_4 : decode cX9_refusesBall 4 = .ok (.iconst 1, 1) := by decide +kernel
theorem dX9_refusesBall_5 : decode cX9_refusesBall 5 = .ok (.if_icmp .ne 7, 3) := by decide +kernel
theorem dX9_refusesBall_8 : decode cX9_refusesBall 8 = .ok (.iconst 1, 1) := by decide +kernel
theorem dX9_refusesBall_9 : decode cX9_refusesBall 9 = .ok (.goto 18, 3) := by decide +kernel
theorem dX9_refusesBall_12 : decode cX9_refusesBall 12 = .ok (.aload_n 0, 1) := by decide +kernel
theorem dX9_refusesBall_13 : decode cX9_refusesBall 13 = .ok (.getfield 9, 3) := by decide +kernel
theorem dX9_refusesBall_16 : decode cX9_refusesBall 16 = .ok (.bipush 9, 2) := by decide +kernel
theorem dX9_refusesBall_18 : decode cX9_refusesBall 18 = .ok (.iaload, 1) := by decide +kernel
theorem dX9_refusesBall_19 : decode cX9_refusesBall 19 = .ok (.ifCond .ge 7, 3) := by decide +kernel
theorem dX9_refusesBall_22 : decode cX9_refusesBall 22 = .ok (.iconst 3, 1) := by decide +kernel
theorem dX9_refusesBall_23 : decode cX9_refusesBall 23 = .ok (.goto 4, 3) := by decide +kernel
theorem dX9_refusesBall_26 : decode cX9_refusesBall 26 = .ok (.iconst 0, 1) := by decide +kernel
theorem dX9_refusesBall_27 : decode cX9_refusesBall 27 = .ok (.ireturn, 1) := by decide +kernel
theorem dX9_refusesWicket_0 : decode cX9_refusesWicket 0 = .ok (.aload_n 0, 1) := by decide +kernel
theorem dX9_refusesWicket_1 : decode cX9_refusesWicket 1 = .ok (.invokevirtual 108, 3) := by decide +kernel
theorem dX9_refusesWicket_4 : decode cX9_refusesWicket 4 = .ok (.ifCond .le 8, 3) := by decide +kernel
theorem dX9_refusesWicket_7 : decode cX9_refusesWicket 7 = .ok (.aload_n 0, 1) := by decide +kernel
theorem dX9_refusesWicket_8 : decode cX9_refusesWicket 8 = .ok (.invokevirtual 108, 3) := by decide +kernel
theorem dX9_refusesWicket_11 : decode cX9_refusesWicket 11 = .ok (.ireturn, 1) := by decide +kernel
theorem dX9_refusesWicket_12 : decode cX9_refusesWicket 12 = .ok (.iload_n 1, 1) := by decide +kernel
theorem dX9_refusesWicket_13 : decode cX9_refusesWicket 13 = .ok (.iconst 5, 1) := by decide +kernel
theorem dX9_refusesWicket_14 : decode cX9_refusesWicket 14 = .ok (.if_icmp .ne 7, 3) := by decide +kernel
theorem dX9_refusesWicket_17 : decode cX9_refusesWicket 17 = .ok (.iconst 1, 1) := by decide +kernel
theorem dX9_refusesWicket_18 : decode cX9_refusesWicket 18 = .ok (.goto 4, 3) := by decide +kernel
theorem dX9_refusesWicket_21 : decode cX9_refusesWicket 21 = .ok (.iconst 0, 1) := by decide +kernel
theorem dX9_refusesWicket_22 : decode cX9_refusesWicket 22 = .ok (.istore 6, 2) := by decide +kernel
theorem dX9_refusesWicket_24 : decode cX9_refusesWicket 24 = .ok (.iload 6, 2) := by decide +kernel
theorem dX9_refusesWicket_26 : decode cX9_refusesWicket 26 = .ok (.ifCond .ne 17, 3) := by decide +kernel
theorem dX9_refusesWicket_29 : decode cX9_refusesWicket 29 = .ok (.iload_n 2, 1) := by decide +kernel
theorem dX9_refusesWicket_30 : decode cX9_refusesWicket 30 = .ok (.ifCond .eq 13, 3) := by decide +kernel
theorem dX9_refusesWicket_33 : decode cX9_refusesWicket 33 = .ok (.iload_n 2, 1) := by decide +kernel
theorem dX9_refusesWicket_34 : decode cX9_refusesWicket 34 = .ok (.iconst 1, 1) := by decide +kernel
theorem dX9_refusesWicket_35 : decode cX9_refusesWicket 35 = .ok (.if_icmp .ne 12, 3) := by decide +kernel
theorem dX9_refusesWicket_38 : decode cX9_refusesWicket 38 = .ok (.iload_n 1, 1) := by decide +kernel
theorem dX9_refusesWicket_39 : decode cX9_refusesWicket 39 = .ok (.iconst 3, 1) := by decide +kernel
theorem dX9_refusesWicket_40 : decode cX9_refusesWicket 40 = .ok (.if_icmp .ne 7, 3) := by decide +kernel
theorem dX9_refusesWicket_43 : decode cX9_refusesWicket 43 = .ok (.iconst 1, 1) := by decide +kernel
theorem dX9_refusesWicket_44 : decode cX9_refusesWicket 44 = .ok (.goto 4, 3) := by decide +kernel
theorem dX9_refusesWicket_47 : decode cX9_refusesWicket 47 = .ok (.iconst 0, 1) := by decide +kernel
theorem dX9_refusesWicket_48 : decode cX9_refusesWicket 48 = .ok (.istore 7, 2) := by decide +kernel
theorem dX9_refusesWicket_50 : decode cX9_refusesWicket 50 = .ok (.iload 7, 2) := by decide +kernel
theorem dX9_refusesWicket_52 : decode cX9_refusesWicket 52 = .ok (.ifCond .eq 32, 3) := by decide +kernel
theorem dX9_refusesWicket_55 : decode cX9_refusesWicket 55 = .ok (.iload 6, 2) := by decide +kernel
theorem dX9_refusesWicket_57 : decode cX9_refusesWicket 57 = .ok (.ifCond .ne 12, 3) := by decide +kernel
theorem dX9_refusesWicket_60 : decode cX9_refusesWicket 60 = .ok (.iload_n 3, 1) := by decide +kernel
theorem dX9_refusesWicket_61 : decode cX9_refusesWicket 61 = .ok (.ifCond .ne 23, 3) := by decide +kernel
theorem dX9_refusesWicket_64 : decode cX9_refusesWicket 64 = .ok (.iload 4, 2) := by decide +kernel
theorem dX9_refusesWicket_66 : decode cX9_refusesWicket 66 = .ok (.ifCond .gt 18, 3) := by decide +kernel
theorem dX9_refusesWicket_69 : decode cX9_refusesWicket 69 = .ok (.iload 5, 2) := by decide +kernel
theorem dX9_refusesWicket_71 : decode cX9_refusesWicket 71 = .ok (.ifCond .eq 18, 3) := by decide +kernel
theorem dX9_refusesWicket_74 : decode cX9_refusesWicket 74 = .ok (.iload 6, 2) := by decide +kernel
theorem dX9_refusesWicket_76 : decode cX9_refusesWicket 76 = .ok (.ifCond .ne 13, 3) := by decide +kernel
theorem dX9_refusesWicket_79 : decode cX9_refusesWicket 79 = .ok (.iload_n 1, 1) := by decide +kernel
theorem dX9_refusesWicket_80 : decode cX9_refusesWicket 80 = .ok (.iconst 1, 1) := by decide +kernel
theorem dX9_refusesWicket_81 : decode cX9_refusesWicket 81 = .ok (.if_icmp .eq 8, 3) := by decide +kernel
theorem dX9_refusesWicket_84 : decode cX9_refusesWicket 84 = .ok (.bipush 6, 2) := by decide +kernel
theorem dX9_refusesWicket_86 : decode cX9_refusesWicket 86 = .ok (.goto 4, 3) := by decide +kernel
theorem dX9_refusesWicket_89 : decode cX9_refusesWicket 89 = .ok (.iconst 0, 1) := by decide +kernel
theorem dX9_refusesWicket_90 : decode cX9_refusesWicket 90 = .ok (.ireturn, 1) := by decide +kernel
theorem dX9_refuses_0 : decode cX9_refuses 0 = .ok (.iload_n 1, 1) := by decide +kernel
theorem dX9_refuses_1 : decode cX9_refuses 1 = .ok (.tableswitch 156 0 6 #[43, 49, 54, 156, 85, 156, 111], 43) := by decide +kernel
theorem dX9_refuses_44 : decode cX9_refuses 44 = .ok (.aload_n 0, 1) := by decide +kernel
theorem dX9_refuses_45 : decode cX9_refuses 45 = .ok (.iload_n 2, 1) := by decide +kernel
theorem dX9_refuses_46 : decode cX9_refuses 46 = .ok (.invokevirtual 111, 3) := by decide +kernel
theorem dX9_refuses_49 : decode cX9_refuses 49 = .ok (.ireturn, 1) := by decide +kernel
theorem dX9_refuses_50 : decode cX9_refuses 50 = .ok (.aload_n 0, 1) := by decide +kernel
theorem dX9_refuses_51 : decode cX9_refuses 51 = .ok (.invokevirtual 108, 3) := by decide +kernel
theorem dX9_refuses_54 : decode cX9_refuses 54 = .ok (.ireturn, 1) := by decide +kernel
theorem dX9_refuses_55 : decode cX9_refuses 55 = .ok (.aload_n 0, 1) := by decide +kernel
theorem dX9_refuses_56 : decode cX9_refuses 56 = .ok (.iload_n 2, 1) := by decide +kernel
theorem dX9_refuses_57 : decode cX9_refuses 57 = .ok (.iload_n 3, 1) := by decide +kernel
theorem dX9_refuses_58 : decode cX9_refuses 58 = .ok (.iload 4, 2) := by decide +kernel
theorem dX9_refuses_60 : decode cX9_refuses 60 = .ok (.iconst 1, 1) := by decide +kernel
theorem dX9_refuses_61 : decode cX9_refuses 61 = .ok (.if_icmp .ne 7, 3) := by decide +kernel
theorem dX9_refuses_64 : decode cX9_refuses 64 = .ok (.iconst 1, 1) := by decide +kernel
theorem dX9_refuses_65 : decode cX9_refuses 65 = .ok (.goto 4, 3) := by decide +kernel
theorem dX9_refuses_68 : decode cX9_refuses 68 = .ok (.iconst 0, 1) := by decide +kernel
theorem dX9_refuses_69 : decode cX9_refuses 69 = .ok (.iload 5, 2) := by decide +kernel
theorem dX9_refuses_71 : decode cX9_refuses 71 = .ok (.iload 6, 2) := by decide +kernel
theorem dX9_refuses_73 : decode cX9_refuses 73 = .ok (.iconst 1, 1) := by decide +kernel
theorem dX9_refuses_74 : decode cX9_refuses 74 = .ok (.if_icmp .ne 7, 3) := by decide +kernel
theorem dX9_refuses_77 : decode cX9_refuses 77 = .ok (.iconst 1, 1) := by decide +kernel
theorem dX9_refuses_78 : decode cX9_refuses 78 = .ok (.goto 4, 3) := by decide +kernel
theorem dX9_refuses_81 : decode cX9_refuses 81 = .ok (.iconst 0, 1) := by decide +kernel
theorem dX9_refuses_82 : decode cX9_refuses 82 = .ok (.invokevirtual 114, 3) := by decide +kernel
theorem dX9_refuses_85 : decode cX9_refuses 85 = .ok (.ireturn, 1) := by decide +kernel
theorem dX9_refuses_86 : decode cX9_refuses 86 = .ok (.aload_n 0, 1) := by decide +kernel
theorem dX9_refuses_87 : decode cX9_refuses 87 = .ok (.invokevirtual 102, 3) := by decide +kernel
theorem dX9_refuses_90 : decode cX9_refuses 90 = .ok (.iconst 1, 1) := by decide +kernel
theorem dX9_refuses_91 : decode cX9_refuses 91 = .ok (.if_icmp .ne 7, 3) := by decide +kernel
theorem dX9_refuses_94 : decode cX9_refuses 94 = .ok (.iconst 1, 1) := by decide +kernel
theorem dX9_refuses_95 : decode cX9_refuses 95 = .ok (.goto 16, 3) := by decide +kernel
theorem dX9_refuses_98 : decode cX9_refuses 98 = .ok (.aload_n 0, 1) := by decide +kernel
theorem dX9_refuses_99 : decode cX9_refuses 99 = .ok (.iload_n 2, 1) := by decide +kernel
theorem dX9_refuses_100 : decode cX9_refuses 100 = .ok (.invokevirtual 118, 3) := by decide +kernel
theorem dX9_refuses_103 : decode cX9_refuses 103 = .ok (.ifCond .eq 7, 3) := by decide +kernel
theorem dX9_refuses_106 : decode cX9_refuses 106 = .ok (.iconst 0, 1) := by decide +kernel
theorem dX9_refuses_107 : decode cX9_refuses 107 = .ok (.goto 4, 3) := by decide +kernel
theorem dX9_refuses_110 : decode cX9_refuses 110 = .ok (.iconst 5, 1) := by decide +kernel
theorem dX9_refuses_111 : decode cX9_refuses 111 = .ok (.ireturn, 1) := by decide +kernel
theorem dX9_refuses_112 : decode cX9_refuses 112 = .ok (.aload_n 0, 1) := by decide +kernel
theorem dX9_refuses_113 : decode cX9_refuses 113 = .ok (.invokevirtual 102, 3) := by decide +kernel
theorem dX9_refuses_116 : decode cX9_refuses 116 = .ok (.iconst 1, 1) := by decide +kernel
theorem dX9_refuses_117 : decode cX9_refuses 117 = .ok (.if_icmp .ne 7, 3) := by decide +kernel
theorem dX9_refuses_120 : decode cX9_refuses 120 = .ok (.iconst 1, 1) := by decide +kernel
theorem dX9_refuses_121 : decode cX9_refuses 121 = .ok (.goto 35, 3) := by decide +kernel
theorem dX9_refuses_124 : decode cX9_refuses 124 = .ok (.aload_n 0, 1) := by decide +kernel
theorem dX9_refuses_125 : decode cX9_refuses 125 = .ok (.getfield 9, 3) := by decide +kernel
theorem dX9_refuses_128 : decode cX9_refuses 128 = .ok (.iconst 1, 1) := by decide +kernel
theorem dX9_refuses_129 : decode cX9_refuses 129 = .ok (.iaload, 1) := by decide +kernel
theorem dX9_refuses_130 : decode cX9_refuses 130 = .ok (.iconst 2, 1) := by decide +kernel
theorem dX9_refuses_131 : decode cX9_refuses 131 = .ok (.if_icmp .eq 19, 3) := by decide +kernel
theorem dX9_refuses_134 : decode cX9_refuses 134 = .ok (.aload_n 0, 1) := by decide +kernel
theorem dX9_refuses_135 : decode cX9_refuses 135 = .ok (.getfield 9, 3) := by decide +kernel
theorem dX9_refuses_138 : decode cX9_refuses 138 = .ok (.bipush 13, 2) := by decide +kernel
theorem dX9_refuses_140 : decode cX9_refuses 140 = .ok (.iaload, 1) := by decide +kernel
theorem dX9_refuses_141 : decode cX9_refuses 141 = .ok (.iload_n 2, 1) := by decide +kernel
theorem dX9_refuses_142 : decode cX9_refuses 142 = .ok (.isub, 1) := by decide +kernel
theorem dX9_refuses_143 : decode cX9_refuses 143 = .ok (.aload_n 0, 1) := by decide +kernel
theorem dX9_refuses_144 : decode cX9_refuses 144 = .ok (.invokevirtual 122, 3) := by decide +kernel
theorem dX9_refuses_147 : decode cX9_refuses 147 = .ok (.if_icmp .gt 8, 3) := by decide +kernel
theorem dX9_refuses_150 : decode cX9_refuses 150 = .ok (.bipush 8, 2) := by decide +kernel
theorem dX9_refuses_152 : decode cX9_refuses 152 = .ok (.goto 4, 3) := by decide +kernel
theorem dX9_refuses_155 : decode cX9_refuses 155 = .ok (.iconst 0, 1) := by decide +kernel
theorem dX9_refuses_156 : decode cX9_refuses 156 = .ok (.ireturn, 1) := by decide +kernel
theorem dX9_refuses_157 : decode cX9_refuses 157 = .ok (.aload_n 0, 1) := by decide +kernel
theorem dX9_refuses_158 : decode cX9_refuses 158 = .ok (.invokevirtual 102, 3) := by decide +kernel
theorem dX9_refuses_161 : decode cX9_refuses 161 = .ok (.ireturn, 1) := by decide +kernel
theorem dX9_does_0 : decode cX9_does 0 = .ok (.bipush 6, 2) := by decide +kernel
theorem dX9_does_2 : decode cX9_does 2 = .ok (.aload_n 0, 1) := by decide +kernel
theorem dX9_does_3 : decode cX9_does 3 = .ok (.getfield 9, 3) := by decide +kernel
theorem dX9_does_6 : decode cX9_does 6 = .ok (.bipush 23, 2) := by decide +kernel
theorem dX9_does_8 : decode cX9_does 8 = .ok (.iaload, 1) := by decide +kernel
theorem dX9_does_9 : decode cX9_does 9 = .ok (.imul, 1) := by decide +kernel
theorem dX9_does_10 : decode cX9_does 10 = .ok (.istore 7, 2) := by decide +kernel
theorem dX9_does_12 : decode cX9_does 12 = .ok (.aload_n 0, 1) := by decide +kernel
theorem dX9_does_13 : decode cX9_does 13 = .ok (.getfield 23, 3) := by decide +kernel
theorem dX9_does_16 : decode cX9_does 16 = .ok (.iload 7, 2) := by decide +kernel
theorem dX9_does_18 : decode cX9_does 18 = .ok (.iload_n 1, 1) := by decide +kernel
theorem dX9_does_19 : decode cX9_does 19 = .ok (.iastore, 1) := by decide +kernel
theorem dX9_does_20 : decode cX9_does 20 = .ok (.aload_n 0, 1) := by decide +kernel
theorem dX9_does_21 : decode cX9_does 21 = .ok (.getfield 23, 3) := by decide +kernel
theorem dX9_does_24 : decode cX9_does 24 = .ok (.iload 7, 2) := by decide +kernel
theorem dX9_does_26 : decode cX9_does 26 = .ok (.iconst 1, 1) := by decide +kernel
theorem dX9_does_27 : decode cX9_does 27 = .ok (.iadd, 1) := by decide +kernel
theorem dX9_does_28 : decode cX9_does 28 = .ok (.iload_n 2, 1) := by decide +kernel
theorem dX9_does_29 : decode cX9_does 29 = .ok (.iastore, 1) := by decide +kernel
theorem dX9_does_30 : decode cX9_does 30 = .ok (.aload_n 0, 1) := by decide +kernel
theorem dX9_does_31 : decode cX9_does 31 = .ok (.getfield 23, 3) := by decide +kernel
theorem dX9_does_34 : decode cX9_does 34 = .ok (.iload 7, 2) := by decide +kernel
theorem dX9_does_36 : decode cX9_does 36 = .ok (.iconst 2, 1) := by decide +kernel
theorem dX9_does_37 : decode cX9_does 37 = .ok (.iadd, 1) := by decide +kernel
theorem dX9_does_38 : decode cX9_does 38 = .ok (.iload_n 3, 1) := by decide +kernel
theorem dX9_does_39 : decode cX9_does 39 = .ok (.iastore, 1) := by decide +kernel
theorem dX9_does_40 : decode cX9_does 40 = .ok (.aload_n 0, 1) := by decide +kernel
theorem dX9_does_41 : decode cX9_does 41 = .ok (.getfield 23, 3) := by decide +kernel
theorem dX9_does_44 : decode cX9_does 44 = .ok (.iload 7, 2) := by decide +kernel
theorem dX9_does_46 : decode cX9_does 46 = .ok (.iconst 3, 1) := by decide +kernel
theorem dX9_does_47 : decode cX9_does 47 = .ok (.iadd, 1) := by decide +kernel
theorem dX9_does_48 : decode cX9_does 48 = .ok (.iload 4, 2) := by decide +kernel
theorem dX9_does_50 : decode cX9_does 50 = .ok (.iastore, 1) := by decide +kernel
theorem dX9_does_51 : decode cX9_does 51 = .ok (.aload_n 0, 1) := by decide +kernel
theorem dX9_does_52 : decode cX9_does 52 = .ok (.getfield 23, 3) := by decide +kernel
theorem dX9_does_55 : decode cX9_does 55 = .ok (.iload 7, 2) := by decide +kernel
theorem dX9_does_57 : decode cX9_does 57 = .ok (.iconst 4, 1) := by decide +kernel
theorem dX9_does_58 : decode cX9_does 58 = .ok (.iadd, 1) := by decide +kernel
theorem dX9_does_59 : decode cX9_does 59 = .ok (.iload 5, 2) := by decide +kernel
theorem dX9_does_61 : decode cX9_does 61 = .ok (.iastore, 1) := by decide +kernel
theorem dX9_does_62 : decode cX9_does 62 = .ok (.aload_n 0, 1) := by decide +kernel
theorem dX9_does_63 : decode cX9_does 63 = .ok (.getfield 23, 3) := by decide +kernel
theorem dX9_does_66 : decode cX9_does 66 = .ok (.iload 7, 2) := by decide +kernel
theorem dX9_does_68 : decode cX9_does 68 = .ok (.iconst 5, 1) := by decide +kernel
theorem dX9_does_69 : decode cX9_does 69 = .ok (.iadd, 1) := by decide +kernel
theorem dX9_does_70 : decode cX9_does 70 = .ok (.iload 6, 2) := by decide +kernel
theorem dX9_does_72 : decode cX9_does 72 = .ok (.iastore, 1) := by decide +kernel
theorem dX9_does_73 : decode cX9_does 73 = .ok (.aload_n 0, 1) := by decide +kernel
theorem dX9_does_74 : decode cX9_does 74 = .ok (.getfield 9, 3) := by decide +kernel
theorem dX9_does_77 : decode cX9_does 77 = .ok (.bipush 23, 2) := by decide +kernel
theorem dX9_does_79 : decode cX9_does 79 = .ok (.dup2, 1) := by decide +kernel
theorem dX9_does_80 : decode cX9_does 80 = .ok (.iaload, 1) := by decide +kernel
theorem dX9_does_81 : decode cX9_does 81 = .ok (.iconst 1, 1) := by decide +kernel
theorem dX9_does_82 : decode cX9_does 82 = .ok (.iadd, 1) := by decide +kernel
theorem dX9_does_83 : decode cX9_does 83 = .ok (.iastore, 1) := by decide +kernel
theorem dX9_does_84 : decode cX9_does 84 = .ok (.iload_n 1, 1) := by decide +kernel
theorem dX9_does_85 : decode cX9_does 85 = .ok (.tableswitch 182 0 5 #[39, 65, 83, 114, 139, 156], 39) := by decide +kernel
theorem dX9_does_124 : decode cX9_does 124 = .ok (.aload_n 0, 1) := by decide +kernel
theorem dX9_does_125 : decode cX9_does 125 = .ok (.getfield 9, 3) := by decide +kernel
theorem dX9_does_128 : decode cX9_does 128 = .ok (.bipush 9, 2) := by decide +kernel
theorem dX9_does_130 : decode cX9_does 130 = .ok (.iload_n 2, 1) := by decide +kernel
theorem dX9_does_131 : decode cX9_does 131 = .ok (.iastore, 1) := by decide +kernel
theorem dX9_does_132 : decode cX9_does 132 = .ok (.aload_n 0, 1) := by decide +kernel
theorem dX9_does_133 : decode cX9_does 133 = .ok (.getfield 9, 3) := by decide +kernel
theorem dX9_does_136 : decode cX9_does 136 = .ok (.aload_n 0, 1) := by decide +kernel
theorem dX9_does_137 : decode cX9_does 137 = .ok (.getfield 9, 3) := by decide +kernel
theorem dX9_does_140 : decode cX9_does 140 = .ok (.iconst 4, 1) := by decide +kernel
theorem dX9_does_141 : decode cX9_does 141 = .ok (.iaload, 1) := by decide +kernel
theorem dX9_does_142 : decode cX9_does 142 = .ok (.iload_n 2, 1) := by decide +kernel
theorem dX9_does_143 : decode cX9_does 143 = .ok (.bipush 6, 2) := by decide +kernel
theorem dX9_does_145 : decode cX9_does 145 = .ok (.invokestatic 105, 3) := by decide +kernel
theorem dX9_does_148 : decode cX9_does 148 = .ok (.iaload, 1) := by decide +kernel
theorem dX9_does_149 : decode cX9_does 149 = .ok (.ireturn, 1) := by decide +kernel
theorem dX9_does_150 : decode cX9_does 150 = .ok (.aload_n 0, 1) := by decide +kernel
theorem dX9_does_151 : decode cX9_does 151 = .ok (.iload_n 2, 1) := by decide +kernel
theorem dX9_does_152 : decode cX9_does 152 = .ok (.iload_n 3, 1) := by decide +kernel
theorem dX9_does_153 : decode cX9_does 153 = .ok (.iload 4, 2) := by decide +kernel
theorem dX9_does_155 : decode cX9_does 155 = .ok (.iconst 1, 1) := by decide +kernel
theorem dX9_does_156 : decode cX9_does 156 = .ok (.if_icmp .ne 7, 3) := by decide +kernel
theorem dX9_does_159 : decode cX9_does 159 = .ok (.iconst 1, 1) := by decide +kernel
theorem dX9_does_160 : decode cX9_does 160 = .ok (.goto 4, 3) := by decide +kernel
theorem dX9_does_163 : decode cX9_does 163 = .ok (.iconst 0, 1) := by decide +kernel
theorem dX9_does_164 : decode cX9_does 164 = .ok (.invokevirtual 125, 3) := by decide +kernel
theorem dX9_does_167 : decode cX9_does 167 = .ok (.ireturn, 1) := by decide +kernel
theorem dX9_does_168 : decode cX9_does 168 = .ok (.aload_n 0, 1) := by decide +kernel
theorem dX9_does_169 : decode cX9_does 169 = .ok (.iload_n 2, 1) := by decide +kernel
theorem dX9_does_170 : decode cX9_does 170 = .ok (.iload_n 3, 1) := by decide +kernel
theorem dX9_does_171 : decode cX9_does 171 = .ok (.iload 4, 2) := by decide +kernel
theorem dX9_does_173 : decode cX9_does 173 = .ok (.iconst 1, 1) := by decide +kernel
theorem dX9_does_174 : decode cX9_does 174 = .ok (.if_icmp .ne 7, 3) := by decide +kernel
theorem dX9_does_177 : decode cX9_does 177 = .ok (.iconst 1, 1) := by decide +kernel
theorem dX9_does_178 : decode cX9_does 178 = .ok (.goto 4, 3) := by decide +kernel
theorem dX9_does_181 : decode cX9_does 181 = .ok (.iconst 0, 1) := by decide +kernel
theorem dX9_does_182 : decode cX9_does 182 = .ok (.iload 5, 2) := by decide +kernel
theorem dX9_does_184 : decode cX9_does 184 = .ok (.iload 6, 2) := by decide +kernel
theorem dX9_does_186 : decode cX9_does 186 = .ok (.iconst 1, 1) := by decide +kernel
theorem dX9_does_187 : decode cX9_does 187 = .ok (.if_icmp .ne 7, 3) := by decide +kernel
theorem dX9_does_190 : decode cX9_does 190 = .ok (.iconst 1, 1) := by decide +kernel
theorem dX9_does_191 : decode cX9_does 191 = .ok (.goto 4, 3) := by decide +kernel
theorem dX9_does_194 : decode cX9_does 194 = .ok (.iconst 0, 1) := by decide +kernel
theorem dX9_does_195 : decode cX9_does 195 = .ok (.invokevirtual 129, 3) := by decide +kernel
theorem dX9_does_198 : decode cX9_does 198 = .ok (.ireturn, 1) := by decide +kernel
theorem dX9_does_199 : decode cX9_does 199 = .ok (.aload_n 0, 1) := by decide +kernel
theorem dX9_does_200 : decode cX9_does 200 = .ok (.iload_n 2, 1) := by decide +kernel
theorem dX9_does_201 : decode cX9_does 201 = .ok (.iconst 1, 1) := by decide +kernel
theorem dX9_does_202 : decode cX9_does 202 = .ok (.if_icmp .ne 7, 3) := by decide +kernel
theorem dX9_does_205 : decode cX9_does 205 = .ok (.iconst 1, 1) := by decide +kernel
theorem dX9_does_206 : decode cX9_does 206 = .ok (.goto 4, 3) := by decide +kernel
theorem dX9_does_209 : decode cX9_does 209 = .ok (.iconst 0, 1) := by decide +kernel
theorem dX9_does_210 : decode cX9_does 210 = .ok (.iload_n 3, 1) := by decide +kernel
theorem dX9_does_211 : decode cX9_does 211 = .ok (.iconst 1, 1) := by decide +kernel
theorem dX9_does_212 : decode cX9_does 212 = .ok (.if_icmp .ne 7, 3) := by decide +kernel
theorem dX9_does_215 : decode cX9_does 215 = .ok (.iconst 1, 1) := by decide +kernel
theorem dX9_does_216 : decode cX9_does 216 = .ok (.goto 4, 3) := by decide +kernel
theorem dX9_does_219 : decode cX9_does 219 = .ok (.iconst 0, 1) := by decide +kernel
theorem dX9_does_220 : decode cX9_does 220 = .ok (.invokevirtual 132, 3) := by decide +kernel
theorem dX9_does_223 : decode cX9_does 223 = .ok (.ireturn, 1) := by decide +kernel
theorem dX9_does_224 : decode cX9_does 224 = .ok (.aload_n 0, 1) := by decide +kernel
theorem dX9_does_225 : decode cX9_does 225 = .ok (.invokevirtual 136, 3) := by decide +kernel
theorem dX9_does_228 : decode cX9_does 228 = .ok (.istore 8, 2) := by decide +kernel
