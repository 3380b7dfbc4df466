theorem dX3_init_0 : decode cX3_init 0 = .ok (.aload_n 0, 1) := by decide +kernel
theorem dX3_init_1 : decode cX3_init 1 = .ok (.invokespecial 3, 3) := by decide +kernel
theorem dX3_init_4 : decode cX3_init 4 = .ok (.aload_n 0, 1) := by decide +kernel
theorem dX3_init_5 : decode cX3_init 5 = .ok (.bipush 20, 2) := by decide +kernel
theorem dX3_init_7 : decode cX3_init 7 = .ok (.newarray .int, 2) := by decide +kernel
theorem dX3_init_9 : decode cX3_init 9 = .ok (.putfield 9, 3) := by decide +kernel
theorem dX3_init_12 : decode cX3_init 12 = .ok (.aload_n 0, 1) := by decide +kernel
theorem dX3_init_13 : decode cX3_init 13 = .ok (.iconst 0, 1) := by decide +kernel
theorem dX3_init_14 : decode cX3_init 14 = .ok (.putfield 15, 3) := by decide +kernel
theorem dX3_init_17 : decode cX3_init 17 = .ok (.aload_n 0, 1) := by decide +kernel
theorem dX3_init_18 : decode cX3_init 18 = .ok (.iconst 0, 1) := by decide +kernel
theorem dX3_init_19 : decode cX3_init 19 = .ok (.putfield 19, 3) := by decide +kernel
theorem dX3_init_22 : decode cX3_init 22 = .ok (.aload_n 0, 1) := by decide +kernel
theorem dX3_init_23 : decode cX3_init 23 = .ok (.iconst 0, 1) := by decide +kernel
theorem dX3_init_24 : decode cX3_init 24 = .ok (.putfield 22, 3) := by decide +kernel
theorem dX3_init_27 : decode cX3_init 27 = .ok (.aload_n 0, 1) := by decide +kernel
theorem dX3_init_28 : decode cX3_init 28 = .ok (.iconst (-1), 1) := by decide +kernel
theorem dX3_init_29 : decode cX3_init 29 = .ok (.putfield 25, 3) := by decide +kernel
theorem dX3_init_32 : decode cX3_init 32 = .ok (.aload_n 0, 1) := by decide +kernel
theorem dX3_init_33 : decode cX3_init 33 = .ok (.iconst (-1), 1) := by decide +kernel
theorem dX3_init_34 : decode cX3_init 34 = .ok (.putfield 28, 3) := by decide +kernel
theorem dX3_init_37 : decode cX3_init 37 = .ok (.aload_n 0, 1) := by decide +kernel
theorem dX3_init_38 : decode cX3_init 38 = .ok (.iconst 0, 1) := by decide +kernel
theorem dX3_init_39 : decode cX3_init 39 = .ok (.putfield 31, 3) := by decide +kernel
theorem dX3_init_42 : decode cX3_init 42 = .ok (.aload_n 0, 1) := by decide +kernel
theorem dX3_init_43 : decode cX3_init 43 = .ok (.iconst 0, 1) := by decide +kernel
theorem dX3_init_44 : decode cX3_init 44 = .ok (.putfield 34, 3) := by decide +kernel
theorem dX3_init_47 : decode cX3_init 47 = .ok (.aload_n 0, 1) := by decide +kernel
theorem dX3_init_48 : decode cX3_init 48 = .ok (.iconst 0, 1) := by decide +kernel
theorem dX3_init_49 : decode cX3_init 49 = .ok (.putfield 37, 3) := by decide +kernel
theorem dX3_init_52 : decode cX3_init 52 = .ok (.return_, 1) := by decide +kernel
theorem dX3_quota_0 : decode cX3_quota 0 = .ok (.iload_n 0, 1) := by decide +kernel
theorem dX3_quota_1 : decode cX3_quota 1 = .ok (.iconst 4, 1) := by decide +kernel
theorem dX3_quota_2 : decode cX3_quota 2 = .ok (.iadd, 1) := by decide +kernel
theorem dX3_quota_3 : decode cX3_quota 3 = .ok (.iconst 5, 1) := by decide +kernel
theorem dX3_quota_4 : decode cX3_quota 4 = .ok (.idiv, 1) := by decide +kernel
theorem dX3_quota_5 : decode cX3_quota 5 = .ok (.ireturn, 1) := by decide +kernel
theorem dX3_start_0 : decode cX3_start 0 = .ok (.aload_n 0, 1) := by decide +kernel
theorem dX3_start_1 : decode cX3_start 1 = .ok (.iload_n 1, 1) := by decide +kernel
theorem dX3_start_2 : decode cX3_start 2 = .ok (.putfield 15, 3) := by decide +kernel
theorem dX3_start_5 : decode cX3_start 5 = .ok (.aload_n 0, 1) := by decide +kernel
theorem dX3_start_6 : decode cX3_start 6 = .ok (.iload_n 1, 1) := by decide +kernel
theorem dX3_start_7 : decode cX3_start 7 = .ok (.putfield 19, 3) := by decide +kernel
theorem dX3_start_10 : decode cX3_start 10 = .ok (.aload_n 0, 1) := by decide +kernel
theorem dX3_start_11 : decode cX3_start 11 = .ok (.iconst 0, 1) := by decide +kernel
theorem dX3_start_12 : decode cX3_start 12 = .ok (.putfield 22, 3) := by decide +kernel
theorem dX3_start_15 : decode cX3_start 15 = .ok (.aload_n 0, 1) := by decide +kernel
theorem dX3_start_16 : decode cX3_start 16 = .ok (.iconst (-1), 1) := by decide +kernel
theorem dX3_start_17 : decode cX3_start 17 = .ok (.putfield 28, 3) := by decide +kernel
theorem dX3_start_20 : decode cX3_start 20 = .ok (.aload_n 0, 1) := by decide +kernel
theorem dX3_start_21 : decode cX3_start 21 = .ok (.invokevirtual 41, 3) := by decide +kernel
theorem dX3_start_24 : decode cX3_start 24 = .ok (.return_, 1) := by decide +kernel
theorem dX3_rest_0 : decode cX3_rest 0 = .ok (.aload_n 0, 1) := by decide +kernel
theorem dX3_rest_1 : decode cX3_rest 1 = .ok (.iconst (-1), 1) := by decide +kernel
theorem dX3_rest_2 : decode cX3_rest 2 = .ok (.putfield 25, 3) := by decide +kernel
theorem dX3_rest_5 : decode cX3_rest 5 = .ok (.aload_n 0, 1) := by decide +kernel
theorem dX3_rest_6 : decode cX3_rest 6 = .ok (.iconst 0, 1) := by decide +kernel
theorem dX3_rest_7 : decode cX3_rest 7 = .ok (.putfield 31, 3) := by decide +kernel
theorem dX3_rest_10 : decode cX3_rest 10 = .ok (.aload_n 0, 1) := by decide +kernel
theorem dX3_rest_11 : decode cX3_rest 11 = .ok (.iconst 0, 1) := by decide +kernel
theorem dX3_rest_12 : decode cX3_rest 12 = .ok (.putfield 34, 3) := by decide +kernel
theorem dX3_rest_15 : decode cX3_rest 15 = .ok (.aload_n 0, 1) := by decide +kernel
theorem dX3_rest_16 : decode cX3_rest 16 = .ok (.iconst 0, 1) := by decide +kernel
theorem dX3_rest_17 : decode cX3_rest 17 = .ok (.putfield 37, 3) := by decide +kernel
theorem dX3_rest_20 : decode cX3_rest 20 = .ok (.return_, 1) := by decide +kernel
theorem dX3_finishOver_0 : decode cX3_finishOver 0 = .ok (.aload_n 0, 1) := by decide +kernel
theorem dX3_finishOver_1 : decode cX3_finishOver 1 = .ok (.getfield 22, 3) := by decide +kernel
theorem dX3_finishOver_4 : decode cX3_finishOver 4 = .ok (.ifCond .lt 35, 3) := by decide +kernel
theorem dX3_finishOver_7 : decode cX3_finishOver 7 = .ok (.aload_n 0, 1) := by decide +kernel
theorem dX3_finishOver_8 : decode cX3_finishOver 8 = .ok (.getfield 22, 3) := by decide +kernel
theorem dX3_finishOver_11 : decode cX3_finishOver 11 = .ok (.aload_n 0, 1) := by decide +kernel
theorem dX3_finishOver_12 : decode cX3_finishOver 12 = .ok (.getfield 9, 3) := by decide +kernel
theorem dX3_finishOver_15 : decode cX3_finishOver 15 = .ok (.arraylength, 1) := by decide +kernel
theorem dX3_finishOver_16 : decode cX3_finishOver 16 = .ok (.if_icmp .ge 23, 3) := by decide +kernel
theorem dX3_finishOver_19 : decode cX3_finishOver 19 = .ok (.aload_n 0, 1) := by decide +kernel
theorem dX3_finishOver_20 : decode cX3_finishOver 20 = .ok (.getfield 9, 3) := by decide +kernel
theorem dX3_finishOver_23 : decode cX3_finishOver 23 = .ok (.aload_n 0, 1) := by decide +kernel
theorem dX3_finishOver_24 : decode cX3_finishOver 24 = .ok (.getfield 22, 3) := by decide +kernel
theorem dX3_finishOver_27 : decode cX3_finishOver 27 = .ok (.iload_n 1, 1) := by decide +kernel
theorem dX3_finishOver_28 : decode cX3_finishOver 28 = .ok (.iastore, 1) := by decide +kernel
theorem dX3_finishOver_29 : decode cX3_finishOver 29 = .ok (.aload_n 0, 1) := by decide +kernel
theorem dX3_finishOver_30 : decode cX3_finishOver 30 = .ok (.dup, 1) := by decide +kernel
theorem dX3_finishOver_31 : decode cX3_finishOver 31 = .ok (.getfield 22, 3) := by decide +kernel
theorem dX3_finishOver_34 : decode cX3_finishOver 34 = .ok (.iconst 1, 1) := by decide +kernel
theorem dX3_finishOver_35 : decode cX3_finishOver 35 = .ok (.iadd, 1) := by decide +kernel
theorem dX3_finishOver_36 : decode cX3_finishOver 36 = .ok (.putfield 22, 3) := by decide +kernel
theorem dX3_finishOver_39 : decode cX3_finishOver 39 = .ok (.aload_n 0, 1) := by decide +kernel
theorem dX3_finishOver_40 : decode cX3_finishOver 40 = .ok (.aload_n 0, 1) := by decide +kernel
theorem dX3_finishOver_41 : decode cX3_finishOver 41 = .ok (.getfield 25, 3) := by decide +kernel
theorem dX3_finishOver_44 : decode cX3_finishOver 44 = .ok (.putfield 28, 3) := by decide +kernel
theorem dX3_finishOver_47 : decode cX3_finishOver 47 = .ok (.aload_n 0, 1) := by decide +kernel
theorem dX3_finishOver_48 : decode cX3_finishOver 48 = .ok (.invokevirtual 41, 3) := by decide +kernel
theorem dX3_finishOver_51 : decode cX3_finishOver 51 = .ok (.return_, 1) := by decide +kernel
theorem dX3_begun_0 : decode cX3_begun 0 = .ok (.aload_n 0, 1) := by decide +kernel
theorem dX3_begun_1 : decode cX3_begun 1 = .ok (.getfield 37, 3) := by decide +kernel
theorem dX3_begun_4 : decode cX3_begun 4 = .ok (.ifCond .eq 12, 3) := by decide +kernel
theorem dX3_begun_7 : decode cX3_begun 7 = .ok (.aload_n 0, 1) := by decide +kernel
theorem dX3_begun_8 : decode cX3_begun 8 = .ok (.getfield 22, 3) := by decide +kernel
theorem dX3_begun_11 : decode cX3_begun 11 = .ok (.iconst 1, 1) := by decide +kernel
theorem dX3_begun_12 : decode cX3_begun 12 = .ok (.iadd, 1) := by decide +kernel
theorem dX3_begun_13 : decode cX3_begun 13 = .ok (.goto 7, 3) := by decide +kernel
theorem dX3_begun_16 : decode cX3_begun 16 = .ok (.aload_n 0, 1) := by decide +kernel
theorem dX3_begun_17 : decode cX3_begun 17 = .ok (.getfield 22, 3) := by decide +kernel
theorem dX3_begun_20 : decode cX3_begun 20 = .ok (.ireturn, 1) := by decide +kernel
theorem dX3_runsAfter_0 : decode cX3_runsAfter 0 = .ok (.iload_n 1, 1) := by decide +kernel
theorem dX3_runsAfter_1 : decode cX3_runsAfter 1 = .ok (.ifCond .lt 29, 3) := by decide +kernel
theorem dX3_runsAfter_4 : decode cX3_runsAfter 4 = .ok (.iload_n 1, 1) := by decide +kernel
theorem dX3_runsAfter_5 : decode cX3_runsAfter 5 = .ok (.aload_n 0, 1) := by decide +kernel
theorem dX3_runsAfter_6 : decode cX3_runsAfter 6 = .ok (.getfield 22, 3) := by decide +kernel
theorem dX3_runsAfter_9 : decode cX3_runsAfter 9 = .ok (.if_icmp .ge 21, 3) := by decide +kernel
theorem dX3_runsAfter_12 : decode cX3_runsAfter 12 = .ok (.iload_n 1, 1) := by decide +kernel
theorem dX3_runsAfter_13 : decode cX3_runsAfter 13 = .ok (.aload_n 0, 1) := by decide +kernel
theorem dX3_runsAfter_14 : decode cX3_runsAfter 14 = .ok (.getfield 9, 3) := by decide +kernel
theorem dX3_runsAfter_17 : decode cX3_runsAfter 17 = .ok (.arraylength, 1) := by decide +kernel
theorem dX3_runsAfter_18 : decode cX3_runsAfter 18 = .ok (.if_icmp .ge 12, 3) := by decide +kernel
theorem dX3_runsAfter_21 : decode cX3_runsAfter 21 = .ok (.aload_n 0, 1) := by decide +kernel
theorem dX3_runsAfter_22 : decode cX3_runsAfter 22 = .ok (.getfield 9, 3) := by decide +kernel
theorem dX3_runsAfter_25 : decode cX3_runsAfter 25 = .ok (.iload_n 1, 1) := by decide +kernel
theorem dX3_runsAfter_26 : decode cX3_runsAfter 26 = .ok (.iaload, 1) := by decide +kernel
theorem dX3_runsAfter_27 : decode cX3_runsAfter 27 = .ok (.goto 4, 3) := by decide +kernel
theorem dX3_runsAfter_30 : decode cX3_runsAfter 30 = .ok (.iload_n 2, 1) := by decide +kernel
theorem dX3_runsAfter_31 : decode cX3_runsAfter 31 = .ok (.ireturn, 1) := by decide +kernel
theorem dX3_isLike_0 : decode cX3_isLike 0 = .ok (.iconst 0, 1) := by decide +kernel
theorem dX3_isLike_1 : decode cX3_isLike 1 = .ok (.istore_n 2, 1) := by decide +kernel
theorem dX3_isLike_2 : decode cX3_isLike 2 = .ok (.iload_n 2, 1) := by decide +kernel
theorem dX3_isLike_3 : decode cX3_isLike 3 = .ok (.aload_n 0, 1) := by decide +kernel
theorem dX3_isLike_4 : decode cX3_isLike 4 = .ok (.getfield 22, 3) := by decide +kernel
theorem dX3_isLike_7 : decode cX3_isLike 7 = .ok (.if_icmp .ge 26, 3) := by decide +kernel
theorem dX3_isLike_10 : decode cX3_isLike 10 = .ok (.aload_n 0, 1) := by decide +kernel
theorem dX3_isLike_11 : decode cX3_isLike 11 = .ok (.iload_n 2, 1) := by decide +kernel
theorem dX3_isLike_12 : decode cX3_isLike 12 = .ok (.iconst 0, 1) := by decide +kernel
theorem dX3_isLike_13 : decode cX3_isLike 13 = .ok (.invokevirtual 44, 3) := by decide +kernel
theorem dX3_isLike_16 : decode cX3_isLike 16 = .ok (.aload_n 1, 1) := by decide +kernel
theorem dX3_isLike_17 : decode cX3_isLike 17 = .ok (.iload_n 2, 1) := by decide +kernel
theorem dX3_isLike_18 : decode cX3_isLike 18 = .ok (.iconst 0, 1) := by decide +kernel
theorem dX3_isLike_19 : decode cX3_isLike 19 = .ok (.invokevirtual 44, 3) := by decide +kernel
theorem dX3_isLike_22 : decode cX3_isLike 22 = .ok (.if_icmp .eq 5, 3) := by decide +kernel
theorem dX3_isLike_25 : decode cX3_isLike 25 = .ok (.iconst 0, 1) := by decide +kernel
theorem dX3_isLike_26 : decode cX3_isLike 26 = .ok (.ireturn, 1) := by decide +kernel
theorem dX3_isLike_27 : decode cX3_isLike 27 = .ok (.iinc 2 1, 3) := by decide +kernel
theorem dX3_isLike_30 : decode cX3_isLike 30 = .ok (.goto (-28), 3) := by decide +kernel
theorem dX3_isLike_33 : decode cX3_isLike 33 = .ok (.aload_n 0, 1) := by decide +kernel
theorem dX3_isLike_34 : decode cX3_isLike 34 = .ok (.getfield 15, 3) := by decide +kernel
theorem dX3_isLike_37 : decode cX3_isLike 37 = .ok (.aload_n 1, 1) := by decide +kernel
theorem dX3_isLike_38 : decode cX3_isLike 38 = .ok (.getfield 15, 3) := by decide +kernel
theorem dX3_isLike_41 : decode cX3_isLike 41 = .ok (.if_icmp .ne 84, 3) := by decide +kernel
theorem dX3_isLike_44 : decode cX3_isLike 44 = .ok (.aload_n 0, 1) := by decide +kernel
theorem dX3_isLike_45 : decode cX3_isLike 45 = .ok (.getfield 19, 3) := by decide +kernel
theorem dX3_isLike_48 : decode cX3_isLike 48 = .ok (.aload_n 1, 1) := by decide +kernel
theorem dX3_isLike_49 : decode cX3_isLike 49 = .ok (.getfield 19, 3) := by decide +kernel
theorem dX3_isLike_52 : decode cX3_isLike 52 = .ok (.if_icmp .ne 73, 3) := by decide +kernel
theorem dX3_isLike_55 : decode cX3_isLike 55 = .ok (.aload_n 0, 1) := by decide +kernel
theorem dX3_isLike_56 : decode cX3_isLike 56 = .ok (.getfield 22, 3) := by decide +kernel
theorem dX3_isLike_59 : decode cX3_isLike 59 = .ok (.aload_n 1, 1) := by decide +kernel
theorem dX3_isLike_60 : decode cX3_isLike 60 = .ok (.getfield 22, 3) := by decide +kernel
theorem dX3_isLike_63 : decode cX3_isLike 63 = .ok (.if_icmp .ne 62, 3) := by decide +kernel
theorem dX3_isLike_66 : decode cX3_isLike 66 = .ok (.aload_n 0, 1) := by decide +kernel
theorem dX3_isLike_67 : decode cX3_isLike 67 = .ok (.getfield 25, 3) := by decide +kernel
theorem dX3_isLike_70 : decode cX3_isLike 70 = .ok (.aload_n 1, 1) := by decide +kernel
theorem dX3_isLike_71 : decode cX3_isLike 71 = .ok (.getfield 25, 3) := by decide +kernel
theorem dX3_isLike_74 : decode cX3_isLike 74 = .ok (.if_icmp .ne 51, 3) := by decide +kernel
theorem dX3_isLike_77 : decode cX3_isLike 77 = .ok (.aload_n 0, 1) := by decide +kernel
theorem dX3_isLike_78 : decode cX3_isLike 78 = .ok (.getfield 28, 3) := by decide +kernel
theorem dX3_isLike_81 : decode cX3_isLike 81 = .ok (.aload_n 1, 1) := by decide +kernel
theorem dX3_isLike_82 : decode cX3_isLike 82 = .ok (.getfield 28, 3) := by decide +kernel
theorem dX3_isLike_85 : decode cX3_isLike 85 = .ok (.if_icmp .ne 40, 3) := by decide +kernel
theorem dX3_isLike_88 : decode cX3_isLike 88 = .ok (.aload_n 0, 1) := by decide +kernel
theorem dX3_isLike_89 : decode cX3_isLike 89 = .ok (.getfield 31, 3) := by decide +kernel
theorem dX3_isLike_92 : decode cX3_isLike 92 = .ok (.aload_n 1, 1) := by decide +kernel
theorem dX3_isLike_93 : decode cX3_isLike 93 = .ok (.getfield 31, 3) := by decide +kernel
theorem dX3_isLike_96 : decode cX3_isLike 96 = .ok (.if_icmp .ne 29, 3) := by decide +kernel
theorem dX3_isLike_99 : decode cX3_isLike 99 = .ok (.aload_n 0, 1) := by decide +kernel
theorem dX3_isLike_100 : decode cX3_isLike 100 = .ok (.getfield 34, 3) := by decide +kernel
theorem dX3_isLike_103 : decode cX3_isLike 103 = .ok (.aload_n 1, 1) := by decide +kernel
theorem dX3_isLike_104 : decode cX3_isLike 104 = .ok (.getfield 34, 3) := by decide +kernel
theorem dX3_isLike_107 : decode cX3_isLike 107 = .ok (.if_icmp .ne 18, 3) := by decide +kernel
theorem dX3_isLike_110 : decode cX3_isLike 110 = .ok (.aload_n 0, 1) := by decide +kernel
theorem dX3_isLike_111 : decode cX3_isLike 111 = .ok (.getfield 37, 3) := by decide +kernel
theorem dX3_isLike_114 : decode cX3_isLike 114 = .ok (.aload_n 1, 1) := by decide +kernel
theorem dX3_isLike_115 : decode cX3_isLike 115 = .ok (.getfield 37, 3) := by decide +kernel
theorem dX3_isLike_118 : decode cX3_isLike 118 = .ok (.if_icmp .ne 7, 3) := by decide +kernel
theorem dX3_isLike_121 : decode cX3_isLike 121 = .ok (.iconst 1, 1) := by decide +kernel
theorem dX3_isLike_122 : decode cX3_isLike 122 = .ok (.goto 4, 3) := by decide +kernel
theorem dX3_isLike_125 : decode cX3_isLike 125 = .ok (.iconst 0, 1) := by decide +kernel
theorem dX3_isLike_126 : decode cX3_isLike 126 = .ok (.ireturn, 1) := by decide +kernel
