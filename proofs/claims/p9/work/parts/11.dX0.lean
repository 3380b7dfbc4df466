theorem dX0_init_0 : decode cX0_init 0 = .ok (.aload_n 0, 1) := by decide +kernel
theorem dX0_init_1 : decode cX0_init 1 = .ok (.invokespecial 3, 3) := by decide +kernel
theorem dX0_init_4 : decode cX0_init 4 = .ok (.aload_n 0, 1) := by decide +kernel
theorem dX0_init_5 : decode cX0_init 5 = .ok (.new 9, 3) := by decide +kernel
theorem dX0_init_8 : decode cX0_init 8 = .ok (.dup, 1) := by decide +kernel
theorem dX0_init_9 : decode cX0_init 9 = .ok (.iconst 1, 1) := by decide +kernel
theorem dX0_init_10 : decode cX0_init 10 = .ok (.bipush 8, 2) := by decide +kernel
theorem dX0_init_12 : decode cX0_init 12 = .ok (.invokespecial 13, 3) := by decide +kernel
theorem dX0_init_15 : decode cX0_init 15 = .ok (.putfield 16, 3) := by decide +kernel
theorem dX0_init_18 : decode cX0_init 18 = .ok (.aload_n 0, 1) := by decide +kernel
theorem dX0_init_19 : decode cX0_init 19 = .ok (.new 9, 3) := by decide +kernel
theorem dX0_init_22 : decode cX0_init 22 = .ok (.dup, 1) := by decide +kernel
theorem dX0_init_23 : decode cX0_init 23 = .ok (.bipush 11, 2) := by decide +kernel
theorem dX0_init_25 : decode cX0_init 25 = .ok (.bipush 6, 2) := by decide +kernel
theorem dX0_init_27 : decode cX0_init 27 = .ok (.invokespecial 13, 3) := by decide +kernel
theorem dX0_init_30 : decode cX0_init 30 = .ok (.putfield 20, 3) := by decide +kernel
theorem dX0_init_33 : decode cX0_init 33 = .ok (.aload_n 0, 1) := by decide +kernel
theorem dX0_init_34 : decode cX0_init 34 = .ok (.new 9, 3) := by decide +kernel
theorem dX0_init_37 : decode cX0_init 37 = .ok (.dup, 1) := by decide +kernel
theorem dX0_init_38 : decode cX0_init 38 = .ok (.bipush 11, 2) := by decide +kernel
theorem dX0_init_40 : decode cX0_init 40 = .ok (.bipush 7, 2) := by decide +kernel
theorem dX0_init_42 : decode cX0_init 42 = .ok (.invokespecial 13, 3) := by decide +kernel
theorem dX0_init_45 : decode cX0_init 45 = .ok (.putfield 23, 3) := by decide +kernel
theorem dX0_init_48 : decode cX0_init 48 = .ok (.aload_n 0, 1) := by decide +kernel
theorem dX0_init_49 : decode cX0_init 49 = .ok (.new 9, 3) := by decide +kernel
theorem dX0_init_52 : decode cX0_init 52 = .ok (.dup, 1) := by decide +kernel
theorem dX0_init_53 : decode cX0_init 53 = .ok (.sipush 513, 3) := by decide +kernel
theorem dX0_init_56 : decode cX0_init 56 = .ok (.bipush 8, 2) := by decide +kernel
theorem dX0_init_58 : decode cX0_init 58 = .ok (.invokespecial 13, 3) := by decide +kernel
theorem dX0_init_61 : decode cX0_init 61 = .ok (.putfield 26, 3) := by decide +kernel
theorem dX0_init_64 : decode cX0_init 64 = .ok (.aload_n 0, 1) := by decide +kernel
theorem dX0_init_65 : decode cX0_init 65 = .ok (.new 9, 3) := by decide +kernel
theorem dX0_init_68 : decode cX0_init 68 = .ok (.dup, 1) := by decide +kernel
theorem dX0_init_69 : decode cX0_init 69 = .ok (.bipush 11, 2) := by decide +kernel
theorem dX0_init_71 : decode cX0_init 71 = .ok (.iconst 3, 1) := by decide +kernel
theorem dX0_init_72 : decode cX0_init 72 = .ok (.invokespecial 13, 3) := by decide +kernel
theorem dX0_init_75 : decode cX0_init 75 = .ok (.putfield 29, 3) := by decide +kernel
theorem dX0_init_78 : decode cX0_init 78 = .ok (.aload_n 0, 1) := by decide +kernel
theorem dX0_init_79 : decode cX0_init 79 = .ok (.new 32, 3) := by decide +kernel
theorem dX0_init_82 : decode cX0_init 82 = .ok (.dup, 1) := by decide +kernel
theorem dX0_init_83 : decode cX0_init 83 = .ok (.invokespecial 34, 3) := by decide +kernel
theorem dX0_init_86 : decode cX0_init 86 = .ok (.putfield 35, 3) := by decide +kernel
theorem dX0_init_89 : decode cX0_init 89 = .ok (.aload_n 0, 1) := by decide +kernel
theorem dX0_init_90 : decode cX0_init 90 = .ok (.iconst 0, 1) := by decide +kernel
theorem dX0_init_91 : decode cX0_init 91 = .ok (.putfield 39, 3) := by decide +kernel
theorem dX0_init_94 : decode cX0_init 94 = .ok (.aload_n 0, 1) := by decide +kernel
theorem dX0_init_95 : decode cX0_init 95 = .ok (.iconst 0, 1) := by decide +kernel
theorem dX0_init_96 : decode cX0_init 96 = .ok (.putfield 43, 3) := by decide +kernel
theorem dX0_init_99 : decode cX0_init 99 = .ok (.aload_n 0, 1) := by decide +kernel
theorem dX0_init_100 : decode cX0_init 100 = .ok (.iconst 1, 1) := by decide +kernel
theorem dX0_init_101 : decode cX0_init 101 = .ok (.putfield 46, 3) := by decide +kernel
theorem dX0_init_104 : decode cX0_init 104 = .ok (.aload_n 0, 1) := by decide +kernel
theorem dX0_init_105 : decode cX0_init 105 = .ok (.iconst (-1), 1) := by decide +kernel
theorem dX0_init_106 : decode cX0_init 106 = .ok (.putfield 49, 3) := by decide +kernel
theorem dX0_init_109 : decode cX0_init 109 = .ok (.aload_n 0, 1) := by decide +kernel
theorem dX0_init_110 : decode cX0_init 110 = .ok (.iconst 0, 1) := by decide +kernel
theorem dX0_init_111 : decode cX0_init 111 = .ok (.putfield 52, 3) := by decide +kernel
theorem dX0_init_114 : decode cX0_init 114 = .ok (.return_, 1) := by decide +kernel
theorem dX0_start_0 : decode cX0_start 0 = .ok (.aload_n 0, 1) := by decide +kernel
theorem dX0_start_1 : decode cX0_start 1 = .ok (.getfield 16, 3) := by decide +kernel
theorem dX0_start_4 : decode cX0_start 4 = .ok (.iconst 1, 1) := by decide +kernel
theorem dX0_start_5 : decode cX0_start 5 = .ok (.invokevirtual 56, 3) := by decide +kernel
theorem dX0_start_8 : decode cX0_start 8 = .ok (.aload_n 0, 1) := by decide +kernel
theorem dX0_start_9 : decode cX0_start 9 = .ok (.getfield 20, 3) := by decide +kernel
theorem dX0_start_12 : decode cX0_start 12 = .ok (.bipush 11, 2) := by decide +kernel
theorem dX0_start_14 : decode cX0_start 14 = .ok (.invokevirtual 56, 3) := by decide +kernel
theorem dX0_start_17 : decode cX0_start 17 = .ok (.aload_n 0, 1) := by decide +kernel
theorem dX0_start_18 : decode cX0_start 18 = .ok (.getfield 23, 3) := by decide +kernel
theorem dX0_start_21 : decode cX0_start 21 = .ok (.bipush 11, 2) := by decide +kernel
theorem dX0_start_23 : decode cX0_start 23 = .ok (.invokevirtual 56, 3) := by decide +kernel
theorem dX0_start_26 : decode cX0_start 26 = .ok (.aload_n 0, 1) := by decide +kernel
theorem dX0_start_27 : decode cX0_start 27 = .ok (.getfield 26, 3) := by decide +kernel
theorem dX0_start_30 : decode cX0_start 30 = .ok (.iconst 0, 1) := by decide +kernel
theorem dX0_start_31 : decode cX0_start 31 = .ok (.invokevirtual 56, 3) := by decide +kernel
theorem dX0_start_34 : decode cX0_start 34 = .ok (.aload_n 0, 1) := by decide +kernel
theorem dX0_start_35 : decode cX0_start 35 = .ok (.getfield 29, 3) := by decide +kernel
theorem dX0_start_38 : decode cX0_start 38 = .ok (.iconst 0, 1) := by decide +kernel
theorem dX0_start_39 : decode cX0_start 39 = .ok (.invokevirtual 56, 3) := by decide +kernel
theorem dX0_start_42 : decode cX0_start 42 = .ok (.aload_n 0, 1) := by decide +kernel
theorem dX0_start_43 : decode cX0_start 43 = .ok (.getfield 35, 3) := by decide +kernel
theorem dX0_start_46 : decode cX0_start 46 = .ok (.iload_n 1, 1) := by decide +kernel
theorem dX0_start_47 : decode cX0_start 47 = .ok (.invokevirtual 60, 3) := by decide +kernel
theorem dX0_start_50 : decode cX0_start 50 = .ok (.iconst 0, 1) := by decide +kernel
theorem dX0_start_51 : decode cX0_start 51 = .ok (.istore_n 3, 1) := by decide +kernel
theorem dX0_start_52 : decode cX0_start 52 = .ok (.iload_n 3, 1) := by decide +kernel
theorem dX0_start_53 : decode cX0_start 53 = .ok (.bipush 11, 2) := by decide +kernel
theorem dX0_start_55 : decode cX0_start 55 = .ok (.if_icmp .ge 39, 3) := by decide +kernel
theorem dX0_start_58 : decode cX0_start 58 = .ok (.aload_n 0, 1) := by decide +kernel
theorem dX0_start_59 : decode cX0_start 59 = .ok (.getfield 20, 3) := by decide +kernel
theorem dX0_start_62 : decode cX0_start 62 = .ok (.iload_n 3, 1) := by decide +kernel
theorem dX0_start_63 : decode cX0_start 63 = .ok (.iconst 4, 1) := by decide +kernel
theorem dX0_start_64 : decode cX0_start 64 = .ok (.iload_n 3, 1) := by decide +kernel
theorem dX0_start_65 : decode cX0_start 65 = .ok (.iconst 2, 1) := by decide +kernel
theorem dX0_start_66 : decode cX0_start 66 = .ok (.if_icmp .ge 7, 3) := by decide +kernel
theorem dX0_start_69 : decode cX0_start 69 = .ok (.iconst (-1), 1) := by decide +kernel
theorem dX0_start_70 : decode cX0_start 70 = .ok (.goto 5, 3) := by decide +kernel
theorem dX0_start_73 : decode cX0_start 73 = .ok (.bipush (-2), 2) := by decide +kernel
theorem dX0_start_75 : decode cX0_start 75 = .ok (.invokevirtual 63, 3) := by decide +kernel
theorem dX0_start_78 : decode cX0_start 78 = .ok (.aload_n 0, 1) := by decide +kernel
theorem dX0_start_79 : decode cX0_start 79 = .ok (.getfield 20, 3) := by decide +kernel
theorem dX0_start_82 : decode cX0_start 82 = .ok (.iload_n 3, 1) := by decide +kernel
theorem dX0_start_83 : decode cX0_start 83 = .ok (.iconst 5, 1) := by decide +kernel
theorem dX0_start_84 : decode cX0_start 84 = .ok (.iconst (-1), 1) := by decide +kernel
theorem dX0_start_85 : decode cX0_start 85 = .ok (.invokevirtual 63, 3) := by decide +kernel
theorem dX0_start_88 : decode cX0_start 88 = .ok (.iinc 3 1, 3) := by decide +kernel
theorem dX0_start_91 : decode cX0_start 91 = .ok (.goto (-39), 3) := by decide +kernel
theorem dX0_start_94 : decode cX0_start 94 = .ok (.aload_n 0, 1) := by decide +kernel
theorem dX0_start_95 : decode cX0_start 95 = .ok (.iload_n 2, 1) := by decide +kernel
theorem dX0_start_96 : decode cX0_start 96 = .ok (.ifCond .eq 10, 3) := by decide +kernel
theorem dX0_start_99 : decode cX0_start 99 = .ok (.aload_n 0, 1) := by decide +kernel
theorem dX0_start_100 : decode cX0_start 100 = .ok (.invokevirtual 67, 3) := by decide +kernel
theorem dX0_start_103 : decode cX0_start 103 = .ok (.goto 4, 3) := by decide +kernel
theorem dX0_start_106 : decode cX0_start 106 = .ok (.iconst 0, 1) := by decide +kernel
theorem dX0_start_107 : decode cX0_start 107 = .ok (.putfield 39, 3) := by decide +kernel
theorem dX0_start_110 : decode cX0_start 110 = .ok (.aload_n 0, 1) := by decide +kernel
theorem dX0_start_111 : decode cX0_start 111 = .ok (.iconst 0, 1) := by decide +kernel
theorem dX0_start_112 : decode cX0_start 112 = .ok (.putfield 43, 3) := by decide +kernel
theorem dX0_start_115 : decode cX0_start 115 = .ok (.aload_n 0, 1) := by decide +kernel
theorem dX0_start_116 : decode cX0_start 116 = .ok (.iconst 1, 1) := by decide +kernel
theorem dX0_start_117 : decode cX0_start 117 = .ok (.putfield 46, 3) := by decide +kernel
theorem dX0_start_120 : decode cX0_start 120 = .ok (.aload_n 0, 1) := by decide +kernel
theorem dX0_start_121 : decode cX0_start 121 = .ok (.iconst (-1), 1) := by decide +kernel
theorem dX0_start_122 : decode cX0_start 122 = .ok (.putfield 49, 3) := by decide +kernel
theorem dX0_start_125 : decode cX0_start 125 = .ok (.aload_n 0, 1) := by decide +kernel
theorem dX0_start_126 : decode cX0_start 126 = .ok (.iconst 0, 1) := by decide +kernel
theorem dX0_start_127 : decode cX0_start 127 = .ok (.putfield 52, 3) := by decide +kernel
theorem dX0_start_130 : decode cX0_start 130 = .ok (.aload_n 0, 1) := by decide +kernel
theorem dX0_start_131 : decode cX0_start 131 = .ok (.invokevirtual 71, 3) := by decide +kernel
theorem dX0_start_134 : decode cX0_start 134 = .ok (.return_, 1) := by decide +kernel
theorem dX0_total_0 : decode cX0_total 0 = .ok (.aload_n 0, 1) := by decide +kernel
theorem dX0_total_1 : decode cX0_total 1 = .ok (.getfield 16, 3) := by decide +kernel
theorem dX0_total_4 : decode cX0_total 4 = .ok (.iconst 0, 1) := by decide +kernel
theorem dX0_total_5 : decode cX0_total 5 = .ok (.iload_n 1, 1) := by decide +kernel
theorem dX0_total_6 : decode cX0_total 6 = .ok (.invokevirtual 74, 3) := by decide +kernel
theorem dX0_total_9 : decode cX0_total 9 = .ok (.ireturn, 1) := by decide +kernel
theorem dX0_value_0 : decode cX0_value 0 = .ok (.bipush 6, 2) := by decide +kernel
theorem dX0_value_2 : decode cX0_value 2 = .ok (.aload_n 0, 1) := by decide +kernel
theorem dX0_value_3 : decode cX0_value 3 = .ok (.getfield 35, 3) := by decide +kernel
theorem dX0_value_6 : decode cX0_value 6 = .ok (.getfield 78, 3) := by decide +kernel
theorem dX0_value_9 : decode cX0_value 9 = .ok (.imul, 1) := by decide +kernel
theorem dX0_value_10 : decode cX0_value 10 = .ok (.aload_n 0, 1) := by decide +kernel
theorem dX0_value_11 : decode cX0_value 11 = .ok (.getfield 16, 3) := by decide +kernel
theorem dX0_value_14 : decode cX0_value 14 = .ok (.iconst 0, 1) := by decide +kernel
theorem dX0_value_15 : decode cX0_value 15 = .ok (.iconst 2, 1) := by decide +kernel
theorem dX0_value_16 : decode cX0_value 16 = .ok (.invokevirtual 74, 3) := by decide +kernel
theorem dX0_value_19 : decode cX0_value 19 = .ok (.isub, 1) := by decide +kernel
theorem dX0_value_20 : decode cX0_value 20 = .ok (.istore_n 1, 1) := by decide +kernel
theorem dX0_value_21 : decode cX0_value 21 = .ok (.bipush 10, 2) := by decide +kernel
theorem dX0_value_23 : decode cX0_value 23 = .ok (.aload_n 0, 1) := by decide +kernel
theorem dX0_value_24 : decode cX0_value 24 = .ok (.getfield 16, 3) := by decide +kernel
theorem dX0_value_27 : decode cX0_value 27 = .ok (.iconst 0, 1) := by decide +kernel
theorem dX0_value_28 : decode cX0_value 28 = .ok (.iconst 1, 1) := by decide +kernel
theorem dX0_value_29 : decode cX0_value 29 = .ok (.invokevirtual 74, 3) := by decide +kernel
theorem dX0_value_32 : decode cX0_value 32 = .ok (.isub, 1) := by decide +kernel
theorem dX0_value_33 : decode cX0_value 33 = .ok (.sipush 240, 3) := by decide +kernel
theorem dX0_value_36 : decode cX0_value 36 = .ok (.iload_n 1, 1) := by decide +kernel
theorem dX0_value_37 : decode cX0_value 37 = .ok (.imul, 1) := by decide +kernel
theorem dX0_value_38 : decode cX0_value 38 = .ok (.iload_n 1, 1) := by decide +kernel
theorem dX0_value_39 : decode cX0_value 39 = .ok (.iload_n 1, 1) := by decide +kernel
theorem dX0_value_40 : decode cX0_value 40 = .ok (.imul, 1) := by decide +kernel
theorem dX0_value_41 : decode cX0_value 41 = .ok (.isub, 1) := by decide +kernel
theorem dX0_value_42 : decode cX0_value 42 = .ok (.imul, 1) := by decide +kernel
theorem dX0_value_43 : decode cX0_value 43 = .ok (.ireturn, 1) := by decide +kernel
theorem dX0_bowlRefusal_0 : decode cX0_bowlRefusal 0 = .ok (.aload_n 0, 1) := by decide +kernel
theorem dX0_bowlRefusal_1 : decode cX0_bowlRefusal 1 = .ok (.getfield 35, 3) := by decide +kernel
theorem dX0_bowlRefusal_4 : decode cX0_bowlRefusal 4 = .ok (.getfield 81, 3) := by decide +kernel
theorem dX0_bowlRefusal_7 : decode cX0_bowlRefusal 7 = .ok (.iconst (-1), 1) := by decide +kernel
theorem dX0_bowlRefusal_8 : decode cX0_bowlRefusal 8 = .ok (.if_icmp .eq 5, 3) := by decide +kernel
theorem dX0_bowlRefusal_11 : decode cX0_bowlRefusal 11 = .ok (.iconst 2, 1) := by decide +kernel
theorem dX0_bowlRefusal_12 : decode cX0_bowlRefusal 12 = .ok (.ireturn, 1) := by decide +kernel
theorem dX0_bowlRefusal_13 : decode cX0_bowlRefusal 13 = .ok (.aload_n 0, 1) := by decide +kernel
theorem dX0_bowlRefusal_14 : decode cX0_bowlRefusal 14 = .ok (.iload_n 1, 1) := by decide +kernel
theorem dX0_bowlRefusal_15 : decode cX0_bowlRefusal 15 = .ok (.invokevirtual 84, 3) := by decide +kernel
theorem dX0_bowlRefusal_18 : decode cX0_bowlRefusal 18 = .ok (.aload_n 0, 1) := by decide +kernel
theorem dX0_bowlRefusal_19 : decode cX0_bowlRefusal 19 = .ok (.getfield 35, 3) := by decide +kernel
theorem dX0_bowlRefusal_22 : decode cX0_bowlRefusal 22 = .ok (.getfield 88, 3) := by decide +kernel
theorem dX0_bowlRefusal_25 : decode cX0_bowlRefusal 25 = .ok (.invokestatic 91, 3) := by decide +kernel
theorem dX0_bowlRefusal_28 : decode cX0_bowlRefusal 28 = .ok (.if_icmp .lt 7, 3) := by decide +kernel
theorem dX0_bowlRefusal_31 : decode cX0_bowlRefusal 31 = .ok (.iconst 1, 1) := by decide +kernel
theorem dX0_bowlRefusal_32 : decode cX0_bowlRefusal 32 = .ok (.goto 4, 3) := by decide +kernel
theorem dX0_bowlRefusal_35 : decode cX0_bowlRefusal 35 = .ok (.iconst 0, 1) := by decide +kernel
theorem dX0_bowlRefusal_36 : decode cX0_bowlRefusal 36 = .ok (.istore_n 2, 1) := by decide +kernel
theorem dX0_bowlRefusal_37 : decode cX0_bowlRefusal 37 = .ok (.iload_n 1, 1) := by decide +kernel
theorem dX0_bowlRefusal_38 : decode cX0_bowlRefusal 38 = .ok (.aload_n 0, 1) := by decide +kernel
theorem dX0_bowlRefusal_39 : decode cX0_bowlRefusal 39 = .ok (.getfield 35, 3) := by decide +kernel
theorem dX0_bowlRefusal_42 : decode cX0_bowlRefusal 42 = .ok (.getfield 94, 3) := by decide +kernel
theorem dX0_bowlRefusal_45 : decode cX0_bowlRefusal 45 = .ok (.if_icmp .eq 7, 3) := by decide +kernel
theorem dX0_bowlRefusal_48 : decode cX0_bowlRefusal 48 = .ok (.iload_n 2, 1) := by decide +kernel
theorem dX0_bowlRefusal_49 : decode cX0_bowlRefusal 49 = .ok (.ifCond .eq 7, 3) := by decide +kernel
theorem dX0_bowlRefusal_52 : decode cX0_bowlRefusal 52 = .ok (.iconst 4, 1) := by decide +kernel
theorem dX0_bowlRefusal_53 : decode cX0_bowlRefusal 53 = .ok (.goto 4, 3) := by decide +kernel
theorem dX0_bowlRefusal_56 : decode cX0_bowlRefusal 56 = .ok (.iconst 0, 1) := by decide +kernel
theorem dX0_bowlRefusal_57 : decode cX0_bowlRefusal 57 = .ok (.ireturn, 1) := by decide +kernel
theorem dX0_completeOvers_0 : decode cX0_completeOvers 0 = .ok (.aload_n 0, 1) := by decide +kernel
theorem dX0_completeOvers_1 : decode cX0_completeOvers 1 = .ok (.getfield 23, 3) := by decide +kernel
theorem dX0_completeOvers_4 : decode cX0_completeOvers 4 = .ok (.iload_n 1, 1) := by decide +kernel
theorem dX0_completeOvers_5 : decode cX0_completeOvers 5 = .ok (.bipush 6, 2) := by decide +kernel
theorem dX0_completeOvers_7 : decode cX0_completeOvers 7 = .ok (.invokevirtual 74, 3) := by decide +kernel
theorem dX0_completeOvers_10 : decode cX0_completeOvers 10 = .ok (.ireturn, 1) := by decide +kernel
theorem dX0_startOver_0 : decode cX0_startOver 0 = .ok (.aload_n 0, 1) := by decide +kernel
theorem dX0_startOver_1 : decode cX0_startOver 1 = .ok (.getfield 35, 3) := by decide +kernel
theorem dX0_startOver_4 : decode cX0_startOver 4 = .ok (.iload_n 1, 1) := by decide +kernel
theorem dX0_startOver_5 : decode cX0_startOver 5 = .ok (.putfield 81, 3) := by decide +kernel
theorem dX0_startOver_8 : decode cX0_startOver 8 = .ok (.aload_n 0, 1) := by decide +kernel
theorem dX0_startOver_9 : decode cX0_startOver 9 = .ok (.iload_n 1, 1) := by decide +kernel
theorem dX0_startOver_10 : decode cX0_startOver 10 = .ok (.invokevirtual 84, 3) := by decide +kernel
theorem dX0_startOver_13 : decode cX0_startOver 13 = .ok (.ireturn, 1) := by decide +kernel
theorem dX0_finishOver_0 : decode cX0_finishOver 0 = .ok (.aload_n 0, 1) := by decide +kernel
theorem dX0_finishOver_1 : decode cX0_finishOver 1 = .ok (.getfield 35, 3) := by decide +kernel
theorem dX0_finishOver_4 : decode cX0_finishOver 4 = .ok (.getfield 97, 3) := by decide +kernel
theorem dX0_finishOver_7 : decode cX0_finishOver 7 = .ok (.bipush 6, 2) := by decide +kernel
theorem dX0_finishOver_9 : decode cX0_finishOver 9 = .ok (.if_icmp .ge 4, 3) := by decide +kernel
theorem dX0_finishOver_12 : decode cX0_finishOver 12 = .ok (.return_, 1) := by decide +kernel
theorem dX0_finishOver_13 : decode cX0_finishOver 13 = .ok (.aload_n 0, 1) := by decide +kernel
theorem dX0_finishOver_14 : decode cX0_finishOver 14 = .ok (.invokevirtual 100, 3) := by decide +kernel
theorem dX0_finishOver_17 : decode cX0_finishOver 17 = .ok (.aload_n 0, 1) := by decide +kernel
theorem dX0_finishOver_18 : decode cX0_finishOver 18 = .ok (.getfield 23, 3) := by decide +kernel
theorem dX0_finishOver_21 : decode cX0_finishOver 21 = .ok (.aload_n 0, 1) := by decide +kernel
theorem dX0_finishOver_22 : decode cX0_finishOver 22 = .ok (.getfield 35, 3) := by decide +kernel
theorem dX0_finishOver_25 : decode cX0_finishOver 25 = .ok (.getfield 81, 3) := by decide +kernel
theorem dX0_finishOver_28 : decode cX0_finishOver 28 = .ok (.bipush 6, 2) := by decide +kernel
theorem dX0_finishOver_30 : decode cX0_finishOver 30 = .ok (.iconst 1, 1) := by decide +kernel
theorem dX0_finishOver_31 : decode cX0_finishOver 31 = .ok (.invokevirtual 103, 3) := by decide +kernel
theorem dX0_finishOver_34 : decode cX0_finishOver 34 = .ok (.aload_n 0, 1) := by decide +kernel
theorem dX0_finishOver_35 : decode cX0_finishOver 35 = .ok (.getfield 23, 3) := by decide +kernel
theorem dX0_finishOver_38 : decode cX0_finishOver 38 = .ok (.aload_n 0, 1) := by decide +kernel
theorem dX0_finishOver_39 : decode cX0_finishOver 39 = .ok (.getfield 35, 3) := by decide +kernel
theorem dX0_finishOver_42 : decode cX0_finishOver 42 = .ok (.getfield 81, 3) := by decide +kernel
theorem dX0_finishOver_45 : decode cX0_finishOver 45 = .ok (.iconst 3, 1) := by decide +kernel
theorem dX0_finishOver_46 : decode cX0_finishOver 46 = .ok (.aload_n 0, 1) := by decide +kernel
theorem dX0_finishOver_47 : decode cX0_finishOver 47 = .ok (.getfield 35, 3) := by decide +kernel
theorem dX0_finishOver_50 : decode cX0_finishOver 50 = .ok (.getfield 106, 3) := by decide +kernel
theorem dX0_finishOver_53 : decode cX0_finishOver 53 = .ok (.ifCond .ne 7, 3) := by decide +kernel
theorem dX0_finishOver_56 : decode cX0_finishOver 56 = .ok (.iconst 1, 1) := by decide +kernel
theorem dX0_finishOver_57 : decode cX0_finishOver 57 = .ok (.goto 4, 3) := by decide +kernel
theorem dX0_finishOver_60 : decode cX0_finishOver 60 = .ok (.iconst 0, 1) := by decide +kernel
theorem dX0_finishOver_61 : decode cX0_finishOver 61 = .ok (.invokevirtual 103, 3) := by decide +kernel
theorem dX0_finishOver_64 : decode cX0_finishOver 64 = .ok (.aload_n 0, 1) := by decide +kernel
theorem dX0_finishOver_65 : decode cX0_finishOver 65 = .ok (.getfield 35, 3) := by decide +kernel
theorem dX0_finishOver_68 : decode cX0_finishOver 68 = .ok (.aload_n 0, 1) := by decide +kernel
theorem dX0_finishOver_69 : decode cX0_finishOver 69 = .ok (.iconst 0, 1) := by decide +kernel
theorem dX0_finishOver_70 : decode cX0_finishOver 70 = .ok (.invokevirtual 109, 3) := by decide +kernel
theorem dX0_finishOver_73 : decode cX0_finishOver 73 = .ok (.invokevirtual 112, 3) := by decide +kernel
theorem dX0_finishOver_76 : decode cX0_finishOver 76 = .ok (.return_, 1) := by decide +kernel
theorem dX0_canLose_0 : decode cX0_canLose 0 = .ok (.aload_n 0, 1) := by decide +kernel
theorem dX0_canLose_1 : decode cX0_canLose 1 = .ok (.getfield 35, 3) := by decide +kernel
theorem dX0_canLose_4 : decode cX0_canLose 4 = .ok (.getfield 78, 3) := by decide +kernel
theorem dX0_canLose_7 : decode cX0_canLose 7 = .ok (.iload_n 1, 1) := by decide +kernel
theorem dX0_canLose_8 : decode cX0_canLose 8 = .ok (.isub, 1) := by decide +kernel
theorem dX0_canLose_9 : decode cX0_canLose 9 = .ok (.aload_n 0, 1) := by decide +kernel
theorem dX0_canLose_10 : decode cX0_canLose 10 = .ok (.getfield 35, 3) := by decide +kernel
theorem dX0_canLose_13 : decode cX0_canLose 13 = .ok (.invokevirtual 115, 3) := by decide +kernel
theorem dX0_canLose_16 : decode cX0_canLose 16 = .ok (.if_icmp .le 7, 3) := by decide +kernel
theorem dX0_canLose_19 : decode cX0_canLose 19 = .ok (.iconst 1, 1) := by decide +kernel
theorem dX0_canLose_20 : decode cX0_canLose 20 = .ok (.goto 4, 3) := by decide +kernel
theorem dX0_canLose_23 : decode cX0_canLose 23 = .ok (.iconst 0, 1) := by decide +kernel
theorem dX0_canLose_24 : decode cX0_canLose 24 = .ok (.ireturn, 1) := by decide +kernel
theorem dX0_lowerLimit_0 : decode cX0_lowerLimit 0 = .ok (.aload_n 0, 1) := by decide +kernel
theorem dX0_lowerLimit_1 : decode cX0_lowerLimit 1 = .ok (.invokevirtual 67, 3) := by decide +kernel
theorem dX0_lowerLimit_4 : decode cX0_lowerLimit 4 = .ok (.istore_n 2, 1) := by decide +kernel
theorem dX0_lowerLimit_5 : decode cX0_lowerLimit 5 = .ok (.aload_n 0, 1) := by decide +kernel
theorem dX0_lowerLimit_6 : decode cX0_lowerLimit 6 = .ok (.getfield 35, 3) := by decide +kernel
theorem dX0_lowerLimit_9 : decode cX0_lowerLimit 9 = .ok (.dup, 1) := by decide +kernel
theorem dX0_lowerLimit_10 : decode cX0_lowerLimit 10 = .ok (.getfield 78, 3) := by decide +kernel
theorem dX0_lowerLimit_13 : decode cX0_lowerLimit 13 = .ok (.iload_n 1, 1) := by decide +kernel
theorem dX0_lowerLimit_14 : decode cX0_lowerLimit 14 = .ok (.isub, 1) := by decide +kernel
theorem dX0_lowerLimit_15 : decode cX0_lowerLimit 15 = .ok (.putfield 78, 3) := by decide +kernel
theorem dX0_lowerLimit_18 : decode cX0_lowerLimit 18 = .ok (.aload_n 0, 1) := by decide +kernel
theorem dX0_lowerLimit_19 : decode cX0_lowerLimit 19 = .ok (.dup, 1) := by decide +kernel
theorem dX0_lowerLimit_20 : decode cX0_lowerLimit 20 = .ok (.getfield 39, 3) := by decide +kernel
theorem dX0_lowerLimit_23 : decode cX0_lowerLimit 23 = .ok (.iload_n 2, 1) := by decide +kernel
theorem dX0_lowerLimit_24 : decode cX0_lowerLimit 24 = .ok (.aload_n 0, 1) := by decide +kernel
theorem dX0_lowerLimit_25 : decode cX0_lowerLimit 25 = .ok (.invokevirtual 67, 3) := by decide +kernel
theorem dX0_lowerLimit_28 : decode cX0_lowerLimit 28 = .ok (.isub, 1) := by decide +kernel
theorem dX0_lowerLimit_29 : decode cX0_lowerLimit 29 = .ok (.isub, 1) := by decide +kernel
theorem dX0_lowerLimit_30 : decode cX0_lowerLimit 30 = .ok (.putfield 39, 3) := by decide +kernel
theorem dX0_lowerLimit_33 : decode cX0_lowerLimit 33 = .ok (.aload_n 0, 1) := by decide +kernel
theorem dX0_lowerLimit_34 : decode cX0_lowerLimit 34 = .ok (.getfield 35, 3) := by decide +kernel
theorem dX0_lowerLimit_37 : decode cX0_lowerLimit 37 = .ok (.getfield 78, 3) := by decide +kernel
theorem dX0_lowerLimit_40 : decode cX0_lowerLimit 40 = .ok (.ireturn, 1) := by decide +kernel
theorem dX0_scoreBall_0 : decode cX0_scoreBall 0 = .ok (.aload_n 0, 1) := by decide +kernel
theorem dX0_scoreBall_1 : decode cX0_scoreBall 1 = .ok (.aload_n 1, 1) := by decide +kernel
theorem dX0_scoreBall_2 : decode cX0_scoreBall 2 = .ok (.invokevirtual 118, 3) := by decide +kernel
theorem dX0_scoreBall_5 : decode cX0_scoreBall 5 = .ok (.aload_n 0, 1) := by decide +kernel
theorem dX0_scoreBall_6 : decode cX0_scoreBall 6 = .ok (.invokevirtual 122, 3) := by decide +kernel
theorem dX0_scoreBall_9 : decode cX0_scoreBall 9 = .ok (.aload_n 1, 1) := by decide +kernel
theorem dX0_scoreBall_10 : decode cX0_scoreBall 10 = .ok (.invokevirtual 124, 3) := by decide +kernel
theorem dX0_scoreBall_13 : decode cX0_scoreBall 13 = .ok (.ireturn, 1) := by decide +kernel
theorem dX0_scoreWicket_0 : decode cX0_scoreWicket 0 = .ok (.aload_n 1, 1) := by decide +kernel
theorem dX0_scoreWicket_1 : decode cX0_scoreWicket 1 = .ok (.getfield 129, 3) := by decide +kernel
theorem dX0_scoreWicket_4 : decode cX0_scoreWicket 4 = .ok (.ifCond .eq 10, 3) := by decide +kernel
theorem dX0_scoreWicket_7 : decode cX0_scoreWicket 7 = .ok (.aload_n 0, 1) := by decide +kernel
theorem dX0_scoreWicket_8 : decode cX0_scoreWicket 8 = .ok (.getfield 46, 3) := by decide +kernel
theorem dX0_scoreWicket_11 : decode cX0_scoreWicket 11 = .ok (.goto 7, 3) := by decide +kernel
theorem dX0_scoreWicket_14 : decode cX0_scoreWicket 14 = .ok (.aload_n 0, 1) := by decide +kernel
theorem dX0_scoreWicket_15 : decode cX0_scoreWicket 15 = .ok (.getfield 43, 3) := by decide +kernel
theorem dX0_scoreWicket_18 : decode cX0_scoreWicket 18 = .ok (.istore_n 2, 1) := by decide +kernel
theorem dX0_scoreWicket_19 : decode cX0_scoreWicket 19 = .ok (.aload_n 0, 1) := by decide +kernel
theorem dX0_scoreWicket_20 : decode cX0_scoreWicket 20 = .ok (.invokevirtual 131, 3) := by decide +kernel
theorem dX0_scoreWicket_23 : decode cX0_scoreWicket 23 = .ok (.istore_n 3, 1) := by decide +kernel
theorem dX0_scoreWicket_24 : decode cX0_scoreWicket 24 = .ok (.aload_n 0, 1) := by decide +kernel
theorem dX0_scoreWicket_25 : decode cX0_scoreWicket 25 = .ok (.aload_n 1, 1) := by decide +kernel
theorem dX0_scoreWicket_26 : decode cX0_scoreWicket 26 = .ok (.invokevirtual 118, 3) := by decide +kernel
theorem dX0_scoreWicket_29 : decode cX0_scoreWicket 29 = .ok (.aload_n 1, 1) := by decide +kernel
theorem dX0_scoreWicket_30 : decode cX0_scoreWicket 30 = .ok (.getfield 134, 3) := by decide +kernel
theorem dX0_scoreWicket_33 : decode cX0_scoreWicket 33 = .ok (.ifCond .eq 7, 3) := by decide +kernel
theorem dX0_scoreWicket_36 : decode cX0_scoreWicket 36 = .ok (.aload_n 0, 1) := by decide +kernel
theorem dX0_scoreWicket_37 : decode cX0_scoreWicket 37 = .ok (.invokevirtual 100, 3) := by decide +kernel
theorem dX0_scoreWicket_40 : decode cX0_scoreWicket 40 = .ok (.aload_n 0, 1) := by decide +kernel
theorem dX0_scoreWicket_41 : decode cX0_scoreWicket 41 = .ok (.iload_n 2, 1) := by decide +kernel
theorem dX0_scoreWicket_42 : decode cX0_scoreWicket 42 = .ok (.aload_n 1, 1) := by decide +kernel
theorem dX0_scoreWicket_43 : decode cX0_scoreWicket 43 = .ok (.getfield 137, 3) := by decide +kernel
theorem dX0_scoreWicket_46 : decode cX0_scoreWicket 46 = .ok (.invokevirtual 140, 3) := by decide +kernel
theorem dX0_scoreWicket_49 : decode cX0_scoreWicket 49 = .ok (.aload_n 0, 1) := by decide +kernel
theorem dX0_scoreWicket_50 : decode cX0_scoreWicket 50 = .ok (.iload_n 2, 1) := by decide +kernel
theorem dX0_scoreWicket_51 : decode cX0_scoreWicket 51 = .ok (.aload_n 1, 1) := by decide +kernel
theorem dX0_scoreWicket_52 : decode cX0_scoreWicket 52 = .ok (.getfield 137, 3) := by decide +kernel
theorem dX0_scoreWicket_55 : decode cX0_scoreWicket 55 = .ok (.iload_n 3, 1) := by decide +kernel
theorem dX0_scoreWicket_56 : decode cX0_scoreWicket 56 = .ok (.invokevirtual 143, 3) := by decide +kernel
theorem dX0_scoreWicket_59 : decode cX0_scoreWicket 59 = .ok (.aload_n 0, 1) := by decide +kernel
theorem dX0_scoreWicket_60 : decode cX0_scoreWicket 60 = .ok (.invokevirtual 122, 3) := by decide +kernel
theorem dX0_scoreWicket_63 : decode cX0_scoreWicket 63 = .ok (.aload_n 0, 1) := by decide +kernel
theorem dX0_scoreWicket_64 : decode cX0_scoreWicket 64 = .ok (.iconst 1, 1) := by decide +kernel
theorem dX0_scoreWicket_65 : decode cX0_scoreWicket 65 = .ok (.invokevirtual 109, 3) := by decide +kernel
theorem dX0_scoreWicket_68 : decode cX0_scoreWicket 68 = .ok (.ireturn, 1) := by decide +kernel
theorem dX0_count_0 : decode cX0_count 0 = .ok (.aload_n 0, 1) := by decide +kernel
theorem dX0_count_1 : decode cX0_count 1 = .ok (.getfield 16, 3) := by decide +kernel
theorem dX0_count_4 : decode cX0_count 4 = .ok (.iconst 0, 1) := by decide +kernel
theorem dX0_count_5 : decode cX0_count 5 = .ok (.iconst 0, 1) := by decide +kernel
theorem dX0_count_6 : decode cX0_count 6 = .ok (.aload_n 1, 1) := by decide +kernel
theorem dX0_count_7 : decode cX0_count 7 = .ok (.invokevirtual 124, 3) := by decide +kernel
theorem dX0_count_10 : decode cX0_count 10 = .ok (.invokevirtual 103, 3) := by decide +kernel
theorem dX0_count_13 : decode cX0_count 13 = .ok (.aload_n 0, 1) := by decide +kernel
theorem dX0_count_14 : decode cX0_count 14 = .ok (.getfield 16, 3) := by decide +kernel
theorem dX0_count_17 : decode cX0_count 17 = .ok (.iconst 0, 1) := by decide +kernel
theorem dX0_count_18 : decode cX0_count 18 = .ok (.iconst 2, 1) := by decide +kernel
theorem dX0_count_19 : decode cX0_count 19 = .ok (.aload_n 1, 1) := by decide +kernel
theorem dX0_count_20 : decode cX0_count 20 = .ok (.invokevirtual 146, 3) := by decide +kernel
theorem dX0_count_23 : decode cX0_count 23 = .ok (.ifCond .eq 7, 3) := by decide +kernel
theorem dX0_count_26 : decode cX0_count 26 = .ok (.iconst 1, 1) := by decide +kernel
theorem dX0_count_27 : decode cX0_count 27 = .ok (.goto 4, 3) := by decide +kernel
theorem dX0_count_30 : decode cX0_count 30 = .ok (.iconst 0, 1) := by decide +kernel
theorem dX0_count_31 : decode cX0_count 31 = .ok (.invokevirtual 103, 3) := by decide +kernel
theorem dX0_count_34 : decode cX0_count 34 = .ok (.aload_n 0, 1) := by decide +kernel
theorem dX0_count_35 : decode cX0_count 35 = .ok (.aload_n 1, 1) := by decide +kernel
theorem dX0_count_36 : decode cX0_count 36 = .ok (.invokevirtual 150, 3) := by decide +kernel
theorem dX0_count_39 : decode cX0_count 39 = .ok (.aload_n 0, 1) := by decide +kernel
theorem dX0_count_40 : decode cX0_count 40 = .ok (.aload_n 1, 1) := by decide +kernel
theorem dX0_count_41 : decode cX0_count 41 = .ok (.invokevirtual 153, 3) := by decide +kernel
theorem dX0_count_44 : decode cX0_count 44 = .ok (.aload_n 0, 1) := by decide +kernel
theorem dX0_count_45 : decode cX0_count 45 = .ok (.aload_n 1, 1) := by decide +kernel
theorem dX0_count_46 : decode cX0_count 46 = .ok (.invokevirtual 156, 3) := by decide +kernel
theorem dX0_count_49 : decode cX0_count 49 = .ok (.aload_n 0, 1) := by decide +kernel
theorem dX0_count_50 : decode cX0_count 50 = .ok (.aload_n 1, 1) := by decide +kernel
theorem dX0_count_51 : decode cX0_count 51 = .ok (.invokevirtual 159, 3) := by decide +kernel
theorem dX0_count_54 : decode cX0_count 54 = .ok (.aload_n 1, 1) := by decide +kernel
theorem dX0_count_55 : decode cX0_count 55 = .ok (.invokevirtual 162, 3) := by decide +kernel
theorem dX0_count_58 : decode cX0_count 58 = .ok (.ifCond .eq 7, 3) := by decide +kernel
theorem dX0_count_61 : decode cX0_count 61 = .ok (.aload_n 0, 1) := by decide +kernel
theorem dX0_count_62 : decode cX0_count 62 = .ok (.invokevirtual 100, 3) := by decide +kernel
theorem dX0_count_65 : decode cX0_count 65 = .ok (.return_, 1) := by decide +kernel
theorem dX0_countExtras_0 : decode cX0_countExtras 0 = .ok (.aload_n 1, 1) := by decide +kernel
theorem dX0_countExtras_1 : decode cX0_countExtras 1 = .ok (.getfield 165, 3) := by decide +kernel
theorem dX0_countExtras_4 : decode cX0_countExtras 4 = .ok (.tableswitch 94 1 4 #[32, 48, 61, 77], 32) := by decide +kernel
theorem dX0_countExtras_36 : decode cX0_countExtras 36 = .ok (.aload_n 0, 1) := by decide +kernel
theorem dX0_countExtras_37 : decode cX0_countExtras 37 = .ok (.getfield 16, 3) := by decide +kernel
theorem dX0_countExtras_40 : decode cX0_countExtras 40 = .ok (.iconst 0, 1) := by decide +kernel
theorem dX0_countExtras_41 : decode cX0_countExtras 41 = .ok (.iconst 3, 1) := by decide +kernel
theorem dX0_countExtras_42 : decode cX0_countExtras 42 = .ok (.aload_n 1, 1) := by decide +kernel
theorem dX0_countExtras_43 : decode cX0_countExtras 43 = .ok (.invokevirtual 124, 3) := by decide +kernel
theorem dX0_countExtras_46 : decode cX0_countExtras 46 = .ok (.invokevirtual 103, 3) := by decide +kernel
theorem dX0_countExtras_49 : decode cX0_countExtras 49 = .ok (.goto 49, 3) := by decide +kernel
theorem dX0_countExtras_52 : decode cX0_countExtras 52 = .ok (.aload_n 0, 1) := by decide +kernel
theorem dX0_countExtras_53 : decode cX0_countExtras 53 = .ok (.getfield 16, 3) := by decide +kernel
theorem dX0_countExtras_56 : decode cX0_countExtras 56 = .ok (.iconst 0, 1) := by decide +kernel
theorem dX0_countExtras_57 : decode cX0_countExtras 57 = .ok (.iconst 4, 1) := by decide +kernel
theorem dX0_countExtras_58 : decode cX0_countExtras 58 = .ok (.iconst 1, 1) := by decide +kernel
theorem dX0_countExtras_59 : decode cX0_countExtras 59 = .ok (.invokevirtual 103, 3) := by decide +kernel
theorem dX0_countExtras_62 : decode cX0_countExtras 62 = .ok (.goto 36, 3) := by decide +kernel
theorem dX0_countExtras_65 : decode cX0_countExtras 65 = .ok (.aload_n 0, 1) := by decide +kernel
theorem dX0_countExtras_66 : decode cX0_countExtras 66 = .ok (.getfield 16, 3) := by decide +kernel
theorem dX0_countExtras_69 : decode cX0_countExtras 69 = .ok (.iconst 0, 1) := by decide +kernel
theorem dX0_countExtras_70 : decode cX0_countExtras 70 = .ok (.iconst 5, 1) := by decide +kernel
theorem dX0_countExtras_71 : decode cX0_countExtras 71 = .ok (.aload_n 1, 1) := by decide +kernel
theorem dX0_countExtras_72 : decode cX0_countExtras 72 = .ok (.getfield 168, 3) := by decide +kernel
theorem dX0_countExtras_75 : decode cX0_countExtras 75 = .ok (.invokevirtual 103, 3) := by decide +kernel
theorem dX0_countExtras_78 : decode cX0_countExtras 78 = .ok (.goto 20, 3) := by decide +kernel
theorem dX0_countExtras_81 : decode cX0_countExtras 81 = .ok (.aload_n 0, 1) := by decide +kernel
theorem dX0_countExtras_82 : decode cX0_countExtras 82 = .ok (.getfield 16, 3) := by decide +kernel
theorem dX0_countExtras_85 : decode cX0_countExtras 85 = .ok (.iconst 0, 1) := by decide +kernel
theorem dX0_countExtras_86 : decode cX0_countExtras 86 = .ok (.bipush 6, 2) := by decide +kernel
theorem dX0_countExtras_88 : decode cX0_countExtras 88 = .ok (.aload_n 1, 1) := by decide +kernel
theorem dX0_countExtras_89 : decode cX0_countExtras 89 = .ok (.getfield 168, 3) := by decide +kernel
theorem dX0_countExtras_92 : decode cX0_countExtras 92 = .ok (.invokevirtual 103, 3) := by decide +kernel
theorem dX0_countExtras_95 : decode cX0_countExtras 95 = .ok (.goto 3, 3) := by decide +kernel
theorem dX0_countExtras_98 : decode cX0_countExtras 98 = .ok (.return_, 1) := by decide +kernel
theorem dX0_countForBowler_0 : decode cX0_countForBowler 0 = .ok (.aload_n 1, 1) := by decide +kernel
theorem dX0_countForBowler_1 : decode cX0_countForBowler 1 = .ok (.invokevirtual 146, 3) := by decide +kernel
theorem dX0_countForBowler_4 : decode cX0_countForBowler 4 = .ok (.ifCond .eq 7, 3) := by decide +kernel
theorem dX0_countForBowler_7 : decode cX0_countForBowler 7 = .ok (.iconst 1, 1) := by decide +kernel
theorem dX0_countForBowler_8 : decode cX0_countForBowler 8 = .ok (.goto 4, 3) := by decide +kernel
theorem dX0_countForBowler_11 : decode cX0_countForBowler 11 = .ok (.iconst 0, 1) := by decide +kernel
theorem dX0_countForBowler_12 : decode cX0_countForBowler 12 = .ok (.istore_n 2, 1) := by decide +kernel
theorem dX0_countForBowler_13 : decode cX0_countForBowler 13 = .ok (.aload_n 0, 1) := by decide +kernel
theorem dX0_countForBowler_14 : decode cX0_countForBowler 14 = .ok (.getfield 35, 3) := by decide +kernel
theorem dX0_countForBowler_17 : decode cX0_countForBowler 17 = .ok (.iconst 1, 1) := by decide +kernel
theorem dX0_countForBowler_18 : decode cX0_countForBowler 18 = .ok (.putfield 171, 3) := by decide +kernel
theorem dX0_countForBowler_21 : decode cX0_countForBowler 21 = .ok (.aload_n 0, 1) := by decide +kernel
theorem dX0_countForBowler_22 : decode cX0_countForBowler 22 = .ok (.getfield 35, 3) := by decide +kernel
theorem dX0_countForBowler_25 : decode cX0_countForBowler 25 = .ok (.dup, 1) := by decide +kernel
theorem dX0_countForBowler_26 : decode cX0_countForBowler 26 = .ok (.getfield 97, 3) := by decide +kernel
theorem dX0_countForBowler_29 : decode cX0_countForBowler 29 = .ok (.iload_n 2, 1) := by decide +kernel
theorem dX0_countForBowler_30 : decode cX0_countForBowler 30 = .ok (.iadd, 1) := by decide +kernel
theorem dX0_countForBowler_31 : decode cX0_countForBowler 31 = .ok (.putfield 97, 3) := by decide +kernel
theorem dX0_countForBowler_34 : decode cX0_countForBowler 34 = .ok (.aload_n 0, 1) := by decide +kernel
theorem dX0_countForBowler_35 : decode cX0_countForBowler 35 = .ok (.getfield 35, 3) := by decide +kernel
theorem dX0_countForBowler_38 : decode cX0_countForBowler 38 = .ok (.dup, 1) := by decide +kernel
theorem dX0_countForBowler_39 : decode cX0_countForBowler 39 = .ok (.getfield 106, 3) := by decide +kernel
theorem dX0_countForBowler_42 : decode cX0_countForBowler 42 = .ok (.aload_n 1, 1) := by decide +kernel
theorem dX0_countForBowler_43 : decode cX0_countForBowler 43 = .ok (.invokevirtual 174, 3) := by decide +kernel
theorem dX0_countForBowler_46 : decode cX0_countForBowler 46 = .ok (.iadd, 1) := by decide +kernel
theorem dX0_countForBowler_47 : decode cX0_countForBowler 47 = .ok (.putfield 106, 3) := by decide +kernel
theorem dX0_countForBowler_50 : decode cX0_countForBowler 50 = .ok (.aload_n 0, 1) := by decide +kernel
theorem dX0_countForBowler_51 : decode cX0_countForBowler 51 = .ok (.getfield 23, 3) := by decide +kernel
theorem dX0_countForBowler_54 : decode cX0_countForBowler 54 = .ok (.aload_n 0, 1) := by decide +kernel
theorem dX0_countForBowler_55 : decode cX0_countForBowler 55 = .ok (.getfield 35, 3) := by decide +kernel
theorem dX0_countForBowler_58 : decode cX0_countForBowler 58 = .ok (.getfield 81, 3) := by decide +kernel
theorem dX0_countForBowler_61 : decode cX0_countForBowler 61 = .ok (.iconst 0, 1) := by decide +kernel
theorem dX0_countForBowler_62 : decode cX0_countForBowler 62 = .ok (.iload_n 2, 1) := by decide +kernel
theorem dX0_countForBowler_63 : decode cX0_countForBowler 63 = .ok (.invokevirtual 103, 3) := by decide +kernel
theorem dX0_countForBowler_66 : decode cX0_countForBowler 66 = .ok (.aload_n 0, 1) := by decide +kernel
theorem dX0_countForBowler_67 : decode cX0_countForBowler 67 = .ok (.getfield 23, 3) := by decide +kernel
theorem dX0_countForBowler_70 : decode cX0_countForBowler 70 = .ok (.aload_n 0, 1) := by decide +kernel
theorem dX0_countForBowler_71 : decode cX0_countForBowler 71 = .ok (.getfield 35, 3) := by decide +kernel
theorem dX0_countForBowler_74 : decode cX0_countForBowler 74 = .ok (.getfield 81, 3) := by decide +kernel
theorem dX0_countForBowler_77 : decode cX0_countForBowler 77 = .ok (.iconst 1, 1) := by decide +kernel
theorem dX0_countForBowler_78 : decode cX0_countForBowler 78 = .ok (.aload_n 1, 1) := by decide +kernel
theorem dX0_countForBowler_79 : decode cX0_countForBowler 79 = .ok (.invokevirtual 174, 3) := by decide +kernel
theorem dX0_countForBowler_82 : decode cX0_countForBowler 82 = .ok (.invokevirtual 103, 3) := by decide +kernel
theorem dX0_countForBowler_85 : decode cX0_countForBowler 85 = .ok (.aload_n 0, 1) := by decide +kernel
theorem dX0_countForBowler_86 : decode cX0_countForBowler 86 = .ok (.getfield 23, 3) := by decide +kernel
theorem dX0_countForBowler_89 : decode cX0_countForBowler 89 = .ok (.aload_n 0, 1) := by decide +kernel
theorem dX0_countForBowler_90 : decode cX0_countForBowler 90 = .ok (.getfield 35, 3) := by decide +kernel
theorem dX0_countForBowler_93 : decode cX0_countForBowler 93 = .ok (.getfield 81, 3) := by decide +kernel
theorem dX0_countForBowler_96 : decode cX0_countForBowler 96 = .ok (.iconst 4, 1) := by decide +kernel
theorem dX0_countForBowler_97 : decode cX0_countForBowler 97 = .ok (.aload_n 1, 1) := by decide +kernel
theorem dX0_countForBowler_98 : decode cX0_countForBowler 98 = .ok (.getfield 165, 3) := by decide +kernel
theorem dX0_countForBowler_101 : decode cX0_countForBowler 101 = .ok (.iconst 1, 1) := by decide +kernel
theorem dX0_countForBowler_102 : decode cX0_countForBowler 102 = .ok (.if_icmp .ne 7, 3) := by decide +kernel
theorem dX0_countForBowler_105 : decode cX0_countForBowler 105 = .ok (.iconst 1, 1) := by decide +kernel
theorem dX0_countForBowler_106 : decode cX0_countForBowler 106 = .ok (.goto 4, 3) := by decide +kernel
theorem dX0_countForBowler_109 : decode cX0_countForBowler 109 = .ok (.iconst 0, 1) := by decide +kernel
theorem dX0_countForBowler_110 : decode cX0_countForBowler 110 = .ok (.invokevirtual 103, 3) := by decide +kernel
theorem dX0_countForBowler_113 : decode cX0_countForBowler 113 = .ok (.aload_n 0, 1) := by decide +kernel
theorem dX0_countForBowler_114 : decode cX0_countForBowler 114 = .ok (.getfield 23, 3) := by decide +kernel
theorem dX0_countForBowler_117 : decode cX0_countForBowler 117 = .ok (.aload_n 0, 1) := by decide +kernel
theorem dX0_countForBowler_118 : decode cX0_countForBowler 118 = .ok (.getfield 35, 3) := by decide +kernel
theorem dX0_countForBowler_121 : decode cX0_countForBowler 121 = .ok (.getfield 81, 3) := by decide +kernel
theorem dX0_countForBowler_124 : decode cX0_countForBowler 124 = .ok (.iconst 5, 1) := by decide +kernel
theorem dX0_countForBowler_125 : decode cX0_countForBowler 125 = .ok (.aload_n 1, 1) := by decide +kernel
theorem dX0_countForBowler_126 : decode cX0_countForBowler 126 = .ok (.getfield 165, 3) := by decide +kernel
theorem dX0_countForBowler_129 : decode cX0_countForBowler 129 = .ok (.iconst 2, 1) := by decide +kernel
theorem dX0_countForBowler_130 : decode cX0_countForBowler 130 = .ok (.if_icmp .ne 7, 3) := by decide +kernel
theorem dX0_countForBowler_133 : decode cX0_countForBowler 133 = .ok (.iconst 1, 1) := by decide +kernel
theorem dX0_countForBowler_134 : decode cX0_countForBowler 134 = .ok (.goto 4, 3) := by decide +kernel
theorem dX0_countForBowler_137 : decode cX0_countForBowler 137 = .ok (.iconst 0, 1) := by decide +kernel
theorem dX0_countForBowler_138 : decode cX0_countForBowler 138 = .ok (.invokevirtual 103, 3) := by decide +kernel
theorem dX0_countForBowler_141 : decode cX0_countForBowler 141 = .ok (.return_, 1) := by decide +kernel
theorem dX0_countForStriker_0 : decode cX0_countForStriker 0 = .ok (.aload_n 0, 1) := by decide +kernel
theorem dX0_countForStriker_1 : decode cX0_countForStriker 1 = .ok (.getfield 20, 3) := by decide +kernel
theorem dX0_countForStriker_4 : decode cX0_countForStriker 4 = .ok (.aload_n 0, 1) := by decide +kernel
theorem dX0_countForStriker_5 : decode cX0_countForStriker 5 = .ok (.getfield 43, 3) := by decide +kernel
theorem dX0_countForStriker_8 : decode cX0_countForStriker 8 = .ok (.iconst 0, 1) := by decide +kernel
theorem dX0_countForStriker_9 : decode cX0_countForStriker 9 = .ok (.aload_n 1, 1) := by decide +kernel
theorem dX0_countForStriker_10 : decode cX0_countForStriker 10 = .ok (.invokevirtual 177, 3) := by decide +kernel
theorem dX0_countForStriker_13 : decode cX0_countForStriker 13 = .ok (.invokevirtual 103, 3) := by decide +kernel
theorem dX0_countForStriker_16 : decode cX0_countForStriker 16 = .ok (.aload_n 0, 1) := by decide +kernel
theorem dX0_countForStriker_17 : decode cX0_countForStriker 17 = .ok (.getfield 20, 3) := by decide +kernel
theorem dX0_countForStriker_20 : decode cX0_countForStriker 20 = .ok (.aload_n 0, 1) := by decide +kernel
theorem dX0_countForStriker_21 : decode cX0_countForStriker 21 = .ok (.getfield 43, 3) := by decide +kernel
theorem dX0_countForStriker_24 : decode cX0_countForStriker 24 = .ok (.iconst 1, 1) := by decide +kernel
theorem dX0_countForStriker_25 : decode cX0_countForStriker 25 = .ok (.aload_n 1, 1) := by decide +kernel
theorem dX0_countForStriker_26 : decode cX0_countForStriker 26 = .ok (.getfield 165, 3) := by decide +kernel
theorem dX0_countForStriker_29 : decode cX0_countForStriker 29 = .ok (.iconst 1, 1) := by decide +kernel
theorem dX0_countForStriker_30 : decode cX0_countForStriker 30 = .ok (.if_icmp .ne 7, 3) := by decide +kernel
theorem dX0_countForStriker_33 : decode cX0_countForStriker 33 = .ok (.iconst 0, 1) := by decide +kernel
theorem dX0_countForStriker_34 : decode cX0_countForStriker 34 = .ok (.goto 4, 3) := by decide +kernel
theorem dX0_countForStriker_37 : decode cX0_countForStriker 37 = .ok (.iconst 1, 1) := by decide +kernel
theorem dX0_countForStriker_38 : decode cX0_countForStriker 38 = .ok (.invokevirtual 103, 3) := by decide +kernel
theorem dX0_countForStriker_41 : decode cX0_countForStriker 41 = .ok (.aload_n 1, 1) := by decide +kernel
theorem dX0_countForStriker_42 : decode cX0_countForStriker 42 = .ok (.getfield 180, 3) := by decide +kernel
theorem dX0_countForStriker_45 : decode cX0_countForStriker 45 = .ok (.ifCond .eq 28, 3) := by decide +kernel
theorem dX0_countForStriker_48 : decode cX0_countForStriker 48 = .ok (.aload_n 0, 1) := by decide +kernel
theorem dX0_countForStriker_49 : decode cX0_countForStriker 49 = .ok (.getfield 20, 3) := by decide +kernel
theorem dX0_countForStriker_52 : decode cX0_countForStriker 52 = .ok (.aload_n 0, 1) := by decide +kernel
theorem dX0_countForStriker_53 : decode cX0_countForStriker 53 = .ok (.getfield 43, 3) := by decide +kernel
theorem dX0_countForStriker_56 : decode cX0_countForStriker 56 = .ok (.aload_n 1, 1) := by decide +kernel
theorem dX0_countForStriker_57 : decode cX0_countForStriker 57 = .ok (.getfield 168, 3) := by decide +kernel
theorem dX0_countForStriker_60 : decode cX0_countForStriker 60 = .ok (.iconst 4, 1) := by decide +kernel
theorem dX0_countForStriker_61 : decode cX0_countForStriker 61 = .ok (.if_icmp .ne 7, 3) := by decide +kernel
theorem dX0_countForStriker_64 : decode cX0_countForStriker 64 = .ok (.iconst 2, 1) := by decide +kernel
theorem dX0_countForStriker_65 : decode cX0_countForStriker 65 = .ok (.goto 4, 3) := by decide +kernel
theorem dX0_countForStriker_68 : decode cX0_countForStriker 68 = .ok (.iconst 3, 1) := by decide +kernel
theorem dX0_countForStriker_69 : decode cX0_countForStriker 69 = .ok (.iconst 1, 1) := by decide +kernel
theorem dX0_countForStriker_70 : decode cX0_countForStriker 70 = .ok (.invokevirtual 103, 3) := by decide +kernel
theorem dX0_countForStriker_73 : decode cX0_countForStriker 73 = .ok (.return_, 1) := by decide +kernel
theorem dX0_countForPartnership_0 : decode cX0_countForPartnership 0 = .ok (.aload_n 0, 1) := by decide +kernel
theorem dX0_countForPartnership_1 : decode cX0_countForPartnership 1 = .ok (.getfield 26, 3) := by decide +kernel
theorem dX0_countForPartnership_4 : decode cX0_countForPartnership 4 = .ok (.invokevirtual 183, 3) := by decide +kernel
theorem dX0_countForPartnership_7 : decode cX0_countForPartnership 7 = .ok (.istore_n 2, 1) := by decide +kernel
theorem dX0_countForPartnership_8 : decode cX0_countForPartnership 8 = .ok (.aload_n 0, 1) := by decide +kernel
theorem dX0_countForPartnership_9 : decode cX0_countForPartnership 9 = .ok (.getfield 26, 3) := by decide +kernel
theorem dX0_countForPartnership_12 : decode cX0_countForPartnership 12 = .ok (.iload_n 2, 1) := by decide +kernel
theorem dX0_countForPartnership_13 : decode cX0_countForPartnership 13 = .ok (.iconst 0, 1) := by decide +kernel
theorem dX0_countForPartnership_14 : decode cX0_countForPartnership 14 = .ok (.aload_n 1, 1) := by decide +kernel
theorem dX0_countForPartnership_15 : decode cX0_countForPartnership 15 = .ok (.invokevirtual 124, 3) := by decide +kernel
theorem dX0_countForPartnership_18 : decode cX0_countForPartnership 18 = .ok (.invokevirtual 103, 3) := by decide +kernel
theorem dX0_countForPartnership_21 : decode cX0_countForPartnership 21 = .ok (.aload_n 0, 1) := by decide +kernel
theorem dX0_countForPartnership_22 : decode cX0_countForPartnership 22 = .ok (.getfield 26, 3) := by decide +kernel
theorem dX0_countForPartnership_25 : decode cX0_countForPartnership 25 = .ok (.iload_n 2, 1) := by decide +kernel
theorem dX0_countForPartnership_26 : decode cX0_countForPartnership 26 = .ok (.iconst 1, 1) := by decide +kernel
theorem dX0_countForPartnership_27 : decode cX0_countForPartnership 27 = .ok (.aload_n 1, 1) := by decide +kernel
theorem dX0_countForPartnership_28 : decode cX0_countForPartnership 28 = .ok (.invokevirtual 146, 3) := by decide +kernel
theorem dX0_countForPartnership_31 : decode cX0_countForPartnership 31 = .ok (.ifCond .eq 7, 3) := by decide +kernel
theorem dX0_countForPartnership_34 : decode cX0_countForPartnership 34 = .ok (.iconst 1, 1) := by decide +kernel
theorem dX0_countForPartnership_35 : decode cX0_countForPartnership 35 = .ok (.goto 4, 3) := by decide +kernel
theorem dX0_countForPartnership_38 : decode cX0_countForPartnership 38 = .ok (.iconst 0, 1) := by decide +kernel
theorem dX0_countForPartnership_39 : decode cX0_countForPartnership 39 = .ok (.invokevirtual 103, 3) := by decide +kernel
theorem dX0_countForPartnership_42 : decode cX0_countForPartnership 42 = .ok (.aload_n 0, 1) := by decide +kernel
theorem dX0_countForPartnership_43 : decode cX0_countForPartnership 43 = .ok (.getfield 26, 3) := by decide +kernel
theorem dX0_countForPartnership_46 : decode cX0_countForPartnership 46 = .ok (.iload_n 2, 1) := by decide +kernel
theorem dX0_countForPartnership_47 : decode cX0_countForPartnership 47 = .ok (.aload_n 0, 1) := by decide +kernel
theorem dX0_countForPartnership_48 : decode cX0_countForPartnership 48 = .ok (.getfield 43, 3) := by decide +kernel
theorem dX0_countForPartnership_51 : decode cX0_countForPartnership 51 = .ok (.aload_n 0, 1) := by decide +kernel
theorem dX0_countForPartnership_52 : decode cX0_countForPartnership 52 = .ok (.getfield 46, 3) := by decide +kernel
theorem dX0_countForPartnership_55 : decode cX0_countForPartnership 55 = .ok (.if_icmp .ge 7, 3) := by decide +kernel
theorem dX0_countForPartnership_58 : decode cX0_countForPartnership 58 = .ok (.iconst 4, 1) := by decide +kernel
theorem dX0_countForPartnership_59 : decode cX0_countForPartnership 59 = .ok (.goto 4, 3) := by decide +kernel
theorem dX0_countForPartnership_62 : decode cX0_countForPartnership 62 = .ok (.iconst 5, 1) := by decide +kernel
theorem dX0_countForPartnership_63 : decode cX0_countForPartnership 63 = .ok (.aload_n 1, 1) := by decide +kernel
theorem dX0_countForPartnership_64 : decode cX0_countForPartnership 64 = .ok (.invokevirtual 177, 3) := by decide +kernel
theorem dX0_countForPartnership_67 : decode cX0_countForPartnership 67 = .ok (.invokevirtual 103, 3) := by decide +kernel
theorem dX0_countForPartnership_70 : decode cX0_countForPartnership 70 = .ok (.aload_n 0, 1) := by decide +kernel
theorem dX0_countForPartnership_71 : decode cX0_countForPartnership 71 = .ok (.getfield 26, 3) := by decide +kernel
theorem dX0_countForPartnership_74 : decode cX0_countForPartnership 74 = .ok (.iload_n 2, 1) := by decide +kernel
theorem dX0_countForPartnership_75 : decode cX0_countForPartnership 75 = .ok (.bipush 6, 2) := by decide +kernel
theorem dX0_countForPartnership_77 : decode cX0_countForPartnership 77 = .ok (.aload_n 1, 1) := by decide +kernel
theorem dX0_countForPartnership_78 : decode cX0_countForPartnership 78 = .ok (.invokevirtual 124, 3) := by decide +kernel
theorem dX0_countForPartnership_81 : decode cX0_countForPartnership 81 = .ok (.aload_n 1, 1) := by decide +kernel
theorem dX0_countForPartnership_82 : decode cX0_countForPartnership 82 = .ok (.invokevirtual 177, 3) := by decide +kernel
theorem dX0_countForPartnership_85 : decode cX0_countForPartnership 85 = .ok (.isub, 1) := by decide +kernel
theorem dX0_countForPartnership_86 : decode cX0_countForPartnership 86 = .ok (.invokevirtual 103, 3) := by decide +kernel
theorem dX0_countForPartnership_89 : decode cX0_countForPartnership 89 = .ok (.return_, 1) := by decide +kernel
theorem dX0_countWicket_0 : decode cX0_countWicket 0 = .ok (.aload_n 0, 1) := by decide +kernel
theorem dX0_countWicket_1 : decode cX0_countWicket 1 = .ok (.getfield 16, 3) := by decide +kernel
theorem dX0_countWicket_4 : decode cX0_countWicket 4 = .ok (.iconst 0, 1) := by decide +kernel
theorem dX0_countWicket_5 : decode cX0_countWicket 5 = .ok (.iconst 1, 1) := by decide +kernel
theorem dX0_countWicket_6 : decode cX0_countWicket 6 = .ok (.iconst 1, 1) := by decide +kernel
theorem dX0_countWicket_7 : decode cX0_countWicket 7 = .ok (.invokevirtual 103, 3) := by decide +kernel
theorem dX0_countWicket_10 : decode cX0_countWicket 10 = .ok (.aload_n 0, 1) := by decide +kernel
theorem dX0_countWicket_11 : decode cX0_countWicket 11 = .ok (.getfield 29, 3) := by decide +kernel
theorem dX0_countWicket_14 : decode cX0_countWicket 14 = .ok (.invokevirtual 186, 3) := by decide +kernel
theorem dX0_countWicket_17 : decode cX0_countWicket 17 = .ok (.aload_n 0, 1) := by decide +kernel
theorem dX0_countWicket_18 : decode cX0_countWicket 18 = .ok (.getfield 29, 3) := by decide +kernel
theorem dX0_countWicket_21 : decode cX0_countWicket 21 = .ok (.aload_n 0, 1) := by decide +kernel
theorem dX0_countWicket_22 : decode cX0_countWicket 22 = .ok (.getfield 29, 3) := by decide +kernel
theorem dX0_countWicket_25 : decode cX0_countWicket 25 = .ok (.invokevirtual 183, 3) := by decide +kernel
theorem dX0_countWicket_28 : decode cX0_countWicket 28 = .ok (.iconst 0, 1) := by decide +kernel
theorem dX0_countWicket_29 : decode cX0_countWicket 29 = .ok (.iload_n 1, 1) := by decide +kernel
theorem dX0_countWicket_30 : decode cX0_countWicket 30 = .ok (.invokevirtual 63, 3) := by decide +kernel
theorem dX0_countWicket_33 : decode cX0_countWicket 33 = .ok (.aload_n 0, 1) := by decide +kernel
theorem dX0_countWicket_34 : decode cX0_countWicket 34 = .ok (.getfield 29, 3) := by decide +kernel
theorem dX0_countWicket_37 : decode cX0_countWicket 37 = .ok (.aload_n 0, 1) := by decide +kernel
theorem dX0_countWicket_38 : decode cX0_countWicket 38 = .ok (.getfield 29, 3) := by decide +kernel
theorem dX0_countWicket_41 : decode cX0_countWicket 41 = .ok (.invokevirtual 183, 3) := by decide +kernel
theorem dX0_countWicket_44 : decode cX0_countWicket 44 = .ok (.iconst 1, 1) := by decide +kernel
theorem dX0_countWicket_45 : decode cX0_countWicket 45 = .ok (.aload_n 0, 1) := by decide +kernel
theorem dX0_countWicket_46 : decode cX0_countWicket 46 = .ok (.iconst 0, 1) := by decide +kernel
theorem dX0_countWicket_47 : decode cX0_countWicket 47 = .ok (.invokevirtual 109, 3) := by decide +kernel
theorem dX0_countWicket_50 : decode cX0_countWicket 50 = .ok (.invokevirtual 63, 3) := by decide +kernel
theorem dX0_countWicket_53 : decode cX0_countWicket 53 = .ok (.aload_n 0, 1) := by decide +kernel
theorem dX0_countWicket_54 : decode cX0_countWicket 54 = .ok (.getfield 29, 3) := by decide +kernel
theorem dX0_countWicket_57 : decode cX0_countWicket 57 = .ok (.aload_n 0, 1) := by decide +kernel
theorem dX0_countWicket_58 : decode cX0_countWicket 58 = .ok (.getfield 29, 3) := by decide +kernel
theorem dX0_countWicket_61 : decode cX0_countWicket 61 = .ok (.invokevirtual 183, 3) := by decide +kernel
theorem dX0_countWicket_64 : decode cX0_countWicket 64 = .ok (.iconst 2, 1) := by decide +kernel
theorem dX0_countWicket_65 : decode cX0_countWicket 65 = .ok (.aload_n 0, 1) := by decide +kernel
theorem dX0_countWicket_66 : decode cX0_countWicket 66 = .ok (.iconst 2, 1) := by decide +kernel
theorem dX0_countWicket_67 : decode cX0_countWicket 67 = .ok (.invokevirtual 109, 3) := by decide +kernel
theorem dX0_countWicket_70 : decode cX0_countWicket 70 = .ok (.invokevirtual 63, 3) := by decide +kernel
theorem dX0_countWicket_73 : decode cX0_countWicket 73 = .ok (.iload_n 2, 1) := by decide +kernel
theorem dX0_countWicket_74 : decode cX0_countWicket 74 = .ok (.iconst 5, 1) := by decide +kernel
theorem dX0_countWicket_75 : decode cX0_countWicket 75 = .ok (.if_icmp .eq 35, 3) := by decide +kernel
theorem dX0_countWicket_78 : decode cX0_countWicket 78 = .ok (.aload_n 0, 1) := by decide +kernel
theorem dX0_countWicket_79 : decode cX0_countWicket 79 = .ok (.getfield 20, 3) := by decide +kernel
theorem dX0_countWicket_82 : decode cX0_countWicket 82 = .ok (.iload_n 1, 1) := by decide +kernel
theorem dX0_countWicket_83 : decode cX0_countWicket 83 = .ok (.iconst 5, 1) := by decide +kernel
theorem dX0_countWicket_84 : decode cX0_countWicket 84 = .ok (.aload_n 0, 1) := by decide +kernel
theorem dX0_countWicket_85 : decode cX0_countWicket 85 = .ok (.getfield 35, 3) := by decide +kernel
theorem dX0_countWicket_88 : decode cX0_countWicket 88 = .ok (.getfield 81, 3) := by decide +kernel
theorem dX0_countWicket_91 : decode cX0_countWicket 91 = .ok (.invokevirtual 63, 3) := by decide +kernel
theorem dX0_countWicket_94 : decode cX0_countWicket 94 = .ok (.aload_n 0, 1) := by decide +kernel
theorem dX0_countWicket_95 : decode cX0_countWicket 95 = .ok (.getfield 23, 3) := by decide +kernel
theorem dX0_countWicket_98 : decode cX0_countWicket 98 = .ok (.aload_n 0, 1) := by decide +kernel
theorem dX0_countWicket_99 : decode cX0_countWicket 99 = .ok (.getfield 35, 3) := by decide +kernel
theorem dX0_countWicket_102 : decode cX0_countWicket 102 = .ok (.getfield 81, 3) := by decide +kernel
theorem dX0_countWicket_105 : decode cX0_countWicket 105 = .ok (.iconst 2, 1) := by decide +kernel
theorem dX0_countWicket_106 : decode cX0_countWicket 106 = .ok (.iconst 1, 1) := by decide +kernel
theorem dX0_countWicket_107 : decode cX0_countWicket 107 = .ok (.invokevirtual 103, 3) := by decide +kernel
theorem dX0_countWicket_110 : decode cX0_countWicket 110 = .ok (.return_, 1) := by decide +kernel
theorem dX0_changeEnds_0 : decode cX0_changeEnds 0 = .ok (.aload_n 0, 1) := by decide +kernel
theorem dX0_changeEnds_1 : decode cX0_changeEnds 1 = .ok (.getfield 43, 3) := by decide +kernel
theorem dX0_changeEnds_4 : decode cX0_changeEnds 4 = .ok (.istore_n 1, 1) := by decide +kernel
theorem dX0_changeEnds_5 : decode cX0_changeEnds 5 = .ok (.aload_n 0, 1) := by decide +kernel
theorem dX0_changeEnds_6 : decode cX0_changeEnds 6 = .ok (.aload_n 0, 1) := by decide +kernel
theorem dX0_changeEnds_7 : decode cX0_changeEnds 7 = .ok (.getfield 46, 3) := by decide +kernel
theorem dX0_changeEnds_10 : decode cX0_changeEnds 10 = .ok (.putfield 43, 3) := by decide +kernel
theorem dX0_changeEnds_13 : decode cX0_changeEnds 13 = .ok (.aload_n 0, 1) := by decide +kernel
theorem dX0_changeEnds_14 : decode cX0_changeEnds 14 = .ok (.iload_n 1, 1) := by decide +kernel
theorem dX0_changeEnds_15 : decode cX0_changeEnds 15 = .ok (.putfield 46, 3) := by decide +kernel
theorem dX0_changeEnds_18 : decode cX0_changeEnds 18 = .ok (.return_, 1) := by decide +kernel
theorem dX0_retireBatter_0 : decode cX0_retireBatter 0 = .ok (.aload_n 0, 1) := by decide +kernel
theorem dX0_retireBatter_1 : decode cX0_retireBatter 1 = .ok (.invokevirtual 131, 3) := by decide +kernel
theorem dX0_retireBatter_4 : decode cX0_retireBatter 4 = .ok (.istore_n 2, 1) := by decide +kernel
theorem dX0_retireBatter_5 : decode cX0_retireBatter 5 = .ok (.aload_n 0, 1) := by decide +kernel
theorem dX0_retireBatter_6 : decode cX0_retireBatter 6 = .ok (.aload_n 1, 1) := by decide +kernel
theorem dX0_retireBatter_7 : decode cX0_retireBatter 7 = .ok (.getfield 129, 3) := by decide +kernel
theorem dX0_retireBatter_10 : decode cX0_retireBatter 10 = .ok (.ifCond .eq 10, 3) := by decide +kernel
theorem dX0_retireBatter_13 : decode cX0_retireBatter 13 = .ok (.aload_n 0, 1) := by decide +kernel
theorem dX0_retireBatter_14 : decode cX0_retireBatter 14 = .ok (.getfield 46, 3) := by decide +kernel
theorem dX0_retireBatter_17 : decode cX0_retireBatter 17 = .ok (.goto 7, 3) := by decide +kernel
theorem dX0_retireBatter_20 : decode cX0_retireBatter 20 = .ok (.aload_n 0, 1) := by decide +kernel
theorem dX0_retireBatter_21 : decode cX0_retireBatter 21 = .ok (.getfield 43, 3) := by decide +kernel
theorem dX0_retireBatter_24 : decode cX0_retireBatter 24 = .ok (.aload_n 1, 1) := by decide +kernel
theorem dX0_retireBatter_25 : decode cX0_retireBatter 25 = .ok (.getfield 189, 3) := by decide +kernel
theorem dX0_retireBatter_28 : decode cX0_retireBatter 28 = .ok (.ifCond .eq 8, 3) := by decide +kernel
theorem dX0_retireBatter_31 : decode cX0_retireBatter 31 = .ok (.bipush 6, 2) := by decide +kernel
theorem dX0_retireBatter_33 : decode cX0_retireBatter 33 = .ok (.goto 5, 3) := by decide +kernel
theorem dX0_retireBatter_36 : decode cX0_retireBatter 36 = .ok (.bipush 7, 2) := by decide +kernel
theorem dX0_retireBatter_38 : decode cX0_retireBatter 38 = .ok (.iload_n 2, 1) := by decide +kernel
theorem dX0_retireBatter_39 : decode cX0_retireBatter 39 = .ok (.invokevirtual 143, 3) := by decide +kernel
theorem dX0_retireBatter_42 : decode cX0_retireBatter 42 = .ok (.iload_n 2, 1) := by decide +kernel
theorem dX0_retireBatter_43 : decode cX0_retireBatter 43 = .ok (.ireturn, 1) := by decide +kernel
theorem dX0_canComeIn_0 : decode cX0_canComeIn 0 = .ok (.aload_n 0, 1) := by decide +kernel
theorem dX0_canComeIn_1 : decode cX0_canComeIn 1 = .ok (.getfield 20, 3) := by decide +kernel
theorem dX0_canComeIn_4 : decode cX0_canComeIn 4 = .ok (.iload_n 1, 1) := by decide +kernel
theorem dX0_canComeIn_5 : decode cX0_canComeIn 5 = .ok (.iconst 4, 1) := by decide +kernel
theorem dX0_canComeIn_6 : decode cX0_canComeIn 6 = .ok (.invokevirtual 74, 3) := by decide +kernel
theorem dX0_canComeIn_9 : decode cX0_canComeIn 9 = .ok (.istore_n 2, 1) := by decide +kernel
theorem dX0_canComeIn_10 : decode cX0_canComeIn 10 = .ok (.iload_n 2, 1) := by decide +kernel
theorem dX0_canComeIn_11 : decode cX0_canComeIn 11 = .ok (.bipush (-2), 2) := by decide +kernel
theorem dX0_canComeIn_13 : decode cX0_canComeIn 13 = .ok (.if_icmp .eq 9, 3) := by decide +kernel
theorem dX0_canComeIn_16 : decode cX0_canComeIn 16 = .ok (.iload_n 2, 1) := by decide +kernel
theorem dX0_canComeIn_17 : decode cX0_canComeIn 17 = .ok (.bipush 6, 2) := by decide +kernel
theorem dX0_canComeIn_19 : decode cX0_canComeIn 19 = .ok (.if_icmp .ne 7, 3) := by decide +kernel
theorem dX0_canComeIn_22 : decode cX0_canComeIn 22 = .ok (.iconst 1, 1) := by decide +kernel
theorem dX0_canComeIn_23 : decode cX0_canComeIn 23 = .ok (.goto 4, 3) := by decide +kernel
theorem dX0_canComeIn_26 : decode cX0_canComeIn 26 = .ok (.iconst 0, 1) := by decide +kernel
theorem dX0_canComeIn_27 : decode cX0_canComeIn 27 = .ok (.ireturn, 1) := by decide +kernel
theorem dX0_chooseNext_0 : decode cX0_chooseNext 0 = .ok (.aload_n 0, 1) := by decide +kernel
theorem dX0_chooseNext_1 : decode cX0_chooseNext 1 = .ok (.invokevirtual 131, 3) := by decide +kernel
theorem dX0_chooseNext_4 : decode cX0_chooseNext 4 = .ok (.istore_n 2, 1) := by decide +kernel
theorem dX0_chooseNext_5 : decode cX0_chooseNext 5 = .ok (.aload_n 0, 1) := by decide +kernel
theorem dX0_chooseNext_6 : decode cX0_chooseNext 6 = .ok (.iload_n 1, 1) := by decide +kernel
theorem dX0_chooseNext_7 : decode cX0_chooseNext 7 = .ok (.putfield 49, 3) := by decide +kernel
theorem dX0_chooseNext_10 : decode cX0_chooseNext 10 = .ok (.iload_n 2, 1) := by decide +kernel
theorem dX0_chooseNext_11 : decode cX0_chooseNext 11 = .ok (.ireturn, 1) := by decide +kernel
theorem dX0_nextBatter_0 : decode cX0_nextBatter 0 = .ok (.aload_n 0, 1) := by decide +kernel
theorem dX0_nextBatter_1 : decode cX0_nextBatter 1 = .ok (.getfield 49, 3) := by decide +kernel
theorem dX0_nextBatter_4 : decode cX0_nextBatter 4 = .ok (.iconst (-1), 1) := by decide +kernel
theorem dX0_nextBatter_5 : decode cX0_nextBatter 5 = .ok (.if_icmp .eq 8, 3) := by decide +kernel
theorem dX0_nextBatter_8 : decode cX0_nextBatter 8 = .ok (.aload_n 0, 1) := by decide +kernel
theorem dX0_nextBatter_9 : decode cX0_nextBatter 9 = .ok (.getfield 49, 3) := by decide +kernel
theorem dX0_nextBatter_12 : decode cX0_nextBatter 12 = .ok (.ireturn, 1) := by decide +kernel
theorem dX0_nextBatter_13 : decode cX0_nextBatter 13 = .ok (.aload_n 0, 1) := by decide +kernel
theorem dX0_nextBatter_14 : decode cX0_nextBatter 14 = .ok (.bipush (-2), 2) := by decide +kernel
theorem dX0_nextBatter_16 : decode cX0_nextBatter 16 = .ok (.invokevirtual 192, 3) := by decide +kernel
theorem dX0_nextBatter_19 : decode cX0_nextBatter 19 = .ok (.istore_n 1, 1) := by decide +kernel
theorem dX0_nextBatter_20 : decode cX0_nextBatter 20 = .ok (.iload_n 1, 1) := by decide +kernel
theorem dX0_nextBatter_21 : decode cX0_nextBatter 21 = .ok (.iconst (-1), 1) := by decide +kernel
theorem dX0_nextBatter_22 : decode cX0_nextBatter 22 = .ok (.if_icmp .eq 7, 3) := by decide +kernel
theorem dX0_nextBatter_25 : decode cX0_nextBatter 25 = .ok (.iload_n 1, 1) := by decide +kernel
theorem dX0_nextBatter_26 : decode cX0_nextBatter 26 = .ok (.goto 9, 3) := by decide +kernel
theorem dX0_nextBatter_29 : decode cX0_nextBatter 29 = .ok (.aload_n 0, 1) := by decide +kernel
theorem dX0_nextBatter_30 : decode cX0_nextBatter 30 = .ok (.bipush 6, 2) := by decide +kernel
theorem dX0_nextBatter_32 : decode cX0_nextBatter 32 = .ok (.invokevirtual 192, 3) := by decide +kernel
theorem dX0_nextBatter_35 : decode cX0_nextBatter 35 = .ok (.ireturn, 1) := by decide +kernel
theorem dX0_lowestWhoStands_0 : decode cX0_lowestWhoStands 0 = .ok (.iconst 0, 1) := by decide +kernel
theorem dX0_lowestWhoStands_1 : decode cX0_lowestWhoStands 1 = .ok (.istore_n 2, 1) := by decide +kernel
theorem dX0_lowestWhoStands_2 : decode cX0_lowestWhoStands 2 = .ok (.iload_n 2, 1) := by decide +kernel
theorem dX0_lowestWhoStands_3 : decode cX0_lowestWhoStands 3 = .ok (.bipush 11, 2) := by decide +kernel
theorem dX0_lowestWhoStands_5 : decode cX0_lowestWhoStands 5 = .ok (.if_icmp .ge 24, 3) := by decide +kernel
theorem dX0_lowestWhoStands_8 : decode cX0_lowestWhoStands 8 = .ok (.aload_n 0, 1) := by decide +kernel
theorem dX0_lowestWhoStands_9 : decode cX0_lowestWhoStands 9 = .ok (.getfield 20, 3) := by decide +kernel
theorem dX0_lowestWhoStands_12 : decode cX0_lowestWhoStands 12 = .ok (.iload_n 2, 1) := by decide +kernel
theorem dX0_lowestWhoStands_13 : decode cX0_lowestWhoStands 13 = .ok (.iconst 4, 1) := by decide +kernel
theorem dX0_lowestWhoStands_14 : decode cX0_lowestWhoStands 14 = .ok (.invokevirtual 74, 3) := by decide +kernel
theorem dX0_lowestWhoStands_17 : decode cX0_lowestWhoStands 17 = .ok (.iload_n 1, 1) := by decide +kernel
theorem dX0_lowestWhoStands_18 : decode cX0_lowestWhoStands 18 = .ok (.if_icmp .ne 5, 3) := by decide +kernel
theorem dX0_lowestWhoStands_21 : decode cX0_lowestWhoStands 21 = .ok (.iload_n 2, 1) := by decide +kernel
theorem dX0_lowestWhoStands_22 : decode cX0_lowestWhoStands 22 = .ok (.ireturn, 1) := by decide +kernel
theorem dX0_lowestWhoStands_23 : decode cX0_lowestWhoStands 23 = .ok (.iinc 2 1, 3) := by decide +kernel
theorem dX0_lowestWhoStands_26 : decode cX0_lowestWhoStands 26 = .ok (.goto (-24), 3) := by decide +kernel
theorem dX0_lowestWhoStands_29 : decode cX0_lowestWhoStands 29 = .ok (.iconst (-1), 1) := by decide +kernel
theorem dX0_lowestWhoStands_30 : decode cX0_lowestWhoStands 30 = .ok (.ireturn, 1) := by decide +kernel
theorem dX0_leave_0 : decode cX0_leave 0 = .ok (.aload_n 0, 1) := by decide +kernel
theorem dX0_leave_1 : decode cX0_leave 1 = .ok (.getfield 20, 3) := by decide +kernel
theorem dX0_leave_4 : decode cX0_leave 4 = .ok (.iload_n 1, 1) := by decide +kernel
theorem dX0_leave_5 : decode cX0_leave 5 = .ok (.iconst 4, 1) := by decide +kernel
theorem dX0_leave_6 : decode cX0_leave 6 = .ok (.iload_n 2, 1) := by decide +kernel
theorem dX0_leave_7 : decode cX0_leave 7 = .ok (.invokevirtual 63, 3) := by decide +kernel
theorem dX0_leave_10 : decode cX0_leave 10 = .ok (.aload_n 0, 1) := by decide +kernel
theorem dX0_leave_11 : decode cX0_leave 11 = .ok (.getfield 26, 3) := by decide +kernel
theorem dX0_leave_14 : decode cX0_leave 14 = .ok (.aload_n 0, 1) := by decide +kernel
theorem dX0_leave_15 : decode cX0_leave 15 = .ok (.getfield 26, 3) := by decide +kernel
theorem dX0_leave_18 : decode cX0_leave 18 = .ok (.invokevirtual 183, 3) := by decide +kernel
theorem dX0_leave_21 : decode cX0_leave 21 = .ok (.bipush 7, 2) := by decide +kernel
theorem dX0_leave_23 : decode cX0_leave 23 = .ok (.iconst 0, 1) := by decide +kernel
theorem dX0_leave_24 : decode cX0_leave 24 = .ok (.invokevirtual 63, 3) := by decide +kernel
theorem dX0_leave_27 : decode cX0_leave 27 = .ok (.iload_n 3, 1) := by decide +kernel
theorem dX0_leave_28 : decode cX0_leave 28 = .ok (.iconst (-1), 1) := by decide +kernel
theorem dX0_leave_29 : decode cX0_leave 29 = .ok (.if_icmp .ne 9, 3) := by decide +kernel
theorem dX0_leave_32 : decode cX0_leave 32 = .ok (.aload_n 0, 1) := by decide +kernel
theorem dX0_leave_33 : decode cX0_leave 33 = .ok (.iconst 1, 1) := by decide +kernel
theorem dX0_leave_34 : decode cX0_leave 34 = .ok (.putfield 52, 3) := by decide +kernel
theorem dX0_leave_37 : decode cX0_leave 37 = .ok (.return_, 1) := by decide +kernel
theorem dX0_leave_38 : decode cX0_leave 38 = .ok (.iload_n 1, 1) := by decide +kernel
theorem dX0_leave_39 : decode cX0_leave 39 = .ok (.aload_n 0, 1) := by decide +kernel
theorem dX0_leave_40 : decode cX0_leave 40 = .ok (.getfield 43, 3) := by decide +kernel
theorem dX0_leave_43 : decode cX0_leave 43 = .ok (.if_icmp .ne 11, 3) := by decide +kernel
theorem dX0_leave_46 : decode cX0_leave 46 = .ok (.aload_n 0, 1) := by decide +kernel
theorem dX0_leave_47 : decode cX0_leave 47 = .ok (.iload_n 3, 1) := by decide +kernel
theorem dX0_leave_48 : decode cX0_leave 48 = .ok (.putfield 43, 3) := by decide +kernel
theorem dX0_leave_51 : decode cX0_leave 51 = .ok (.goto 8, 3) := by decide +kernel
theorem dX0_leave_54 : decode cX0_leave 54 = .ok (.aload_n 0, 1) := by decide +kernel
theorem dX0_leave_55 : decode cX0_leave 55 = .ok (.iload_n 3, 1) := by decide +kernel
theorem dX0_leave_56 : decode cX0_leave 56 = .ok (.putfield 46, 3) := by decide +kernel
theorem dX0_leave_59 : decode cX0_leave 59 = .ok (.aload_n 0, 1) := by decide +kernel
theorem dX0_leave_60 : decode cX0_leave 60 = .ok (.iconst (-1), 1) := by decide +kernel
theorem dX0_leave_61 : decode cX0_leave 61 = .ok (.putfield 49, 3) := by decide +kernel
theorem dX0_leave_64 : decode cX0_leave 64 = .ok (.aload_n 0, 1) := by decide +kernel
theorem dX0_leave_65 : decode cX0_leave 65 = .ok (.getfield 20, 3) := by decide +kernel
theorem dX0_leave_68 : decode cX0_leave 68 = .ok (.iload_n 3, 1) := by decide +kernel
theorem dX0_leave_69 : decode cX0_leave 69 = .ok (.iconst 4, 1) := by decide +kernel
theorem dX0_leave_70 : decode cX0_leave 70 = .ok (.iconst (-1), 1) := by decide +kernel
theorem dX0_leave_71 : decode cX0_leave 71 = .ok (.invokevirtual 63, 3) := by decide +kernel
theorem dX0_leave_74 : decode cX0_leave 74 = .ok (.aload_n 0, 1) := by decide +kernel
theorem dX0_leave_75 : decode cX0_leave 75 = .ok (.invokevirtual 71, 3) := by decide +kernel
theorem dX0_leave_78 : decode cX0_leave 78 = .ok (.return_, 1) := by decide +kernel
theorem dX0_beginPartnership_0 : decode cX0_beginPartnership 0 = .ok (.aload_n 0, 1) := by decide +kernel
theorem dX0_beginPartnership_1 : decode cX0_beginPartnership 1 = .ok (.getfield 26, 3) := by decide +kernel
theorem dX0_beginPartnership_4 : decode cX0_beginPartnership 4 = .ok (.invokevirtual 186, 3) := by decide +kernel
theorem dX0_beginPartnership_7 : decode cX0_beginPartnership 7 = .ok (.aload_n 0, 1) := by decide +kernel
theorem dX0_beginPartnership_8 : decode cX0_beginPartnership 8 = .ok (.getfield 26, 3) := by decide +kernel
theorem dX0_beginPartnership_11 : decode cX0_beginPartnership 11 = .ok (.invokevirtual 183, 3) := by decide +kernel
theorem dX0_beginPartnership_14 : decode cX0_beginPartnership 14 = .ok (.istore_n 1, 1) := by decide +kernel
theorem dX0_beginPartnership_15 : decode cX0_beginPartnership 15 = .ok (.aload_n 0, 1) := by decide +kernel
theorem dX0_beginPartnership_16 : decode cX0_beginPartnership 16 = .ok (.getfield 26, 3) := by decide +kernel
theorem dX0_beginPartnership_19 : decode cX0_beginPartnership 19 = .ok (.iload_n 1, 1) := by decide +kernel
theorem dX0_beginPartnership_20 : decode cX0_beginPartnership 20 = .ok (.iconst 2, 1) := by decide +kernel
theorem dX0_beginPartnership_21 : decode cX0_beginPartnership 21 = .ok (.aload_n 0, 1) := by decide +kernel
theorem dX0_beginPartnership_22 : decode cX0_beginPartnership 22 = .ok (.getfield 43, 3) := by decide +kernel
theorem dX0_beginPartnership_25 : decode cX0_beginPartnership 25 = .ok (.aload_n 0, 1) := by decide +kernel
theorem dX0_beginPartnership_26 : decode cX0_beginPartnership 26 = .ok (.getfield 46, 3) := by decide +kernel
theorem dX0_beginPartnership_29 : decode cX0_beginPartnership 29 = .ok (.invokestatic 195, 3) := by decide +kernel
theorem dX0_beginPartnership_32 : decode cX0_beginPartnership 32 = .ok (.invokevirtual 63, 3) := by decide +kernel
theorem dX0_beginPartnership_35 : decode cX0_beginPartnership 35 = .ok (.aload_n 0, 1) := by decide +kernel
theorem dX0_beginPartnership_36 : decode cX0_beginPartnership 36 = .ok (.getfield 26, 3) := by decide +kernel
theorem dX0_beginPartnership_39 : decode cX0_beginPartnership 39 = .ok (.iload_n 1, 1) := by decide +kernel
theorem dX0_beginPartnership_40 : decode cX0_beginPartnership 40 = .ok (.iconst 3, 1) := by decide +kernel
theorem dX0_beginPartnership_41 : decode cX0_beginPartnership 41 = .ok (.aload_n 0, 1) := by decide +kernel
theorem dX0_beginPartnership_42 : decode cX0_beginPartnership 42 = .ok (.getfield 43, 3) := by decide +kernel
theorem dX0_beginPartnership_45 : decode cX0_beginPartnership 45 = .ok (.aload_n 0, 1) := by decide +kernel
theorem dX0_beginPartnership_46 : decode cX0_beginPartnership 46 = .ok (.getfield 46, 3) := by decide +kernel
theorem dX0_beginPartnership_49 : decode cX0_beginPartnership 49 = .ok (.invokestatic 200, 3) := by decide +kernel
theorem dX0_beginPartnership_52 : decode cX0_beginPartnership 52 = .ok (.invokevirtual 63, 3) := by decide +kernel
theorem dX0_beginPartnership_55 : decode cX0_beginPartnership 55 = .ok (.aload_n 0, 1) := by decide +kernel
theorem dX0_beginPartnership_56 : decode cX0_beginPartnership 56 = .ok (.getfield 26, 3) := by decide +kernel
theorem dX0_beginPartnership_59 : decode cX0_beginPartnership 59 = .ok (.iload_n 1, 1) := by decide +kernel
theorem dX0_beginPartnership_60 : decode cX0_beginPartnership 60 = .ok (.bipush 7, 2) := by decide +kernel
theorem dX0_beginPartnership_62 : decode cX0_beginPartnership 62 = .ok (.iconst 1, 1) := by decide +kernel
theorem dX0_beginPartnership_63 : decode cX0_beginPartnership 63 = .ok (.invokevirtual 63, 3) := by decide +kernel
theorem dX0_beginPartnership_66 : decode cX0_beginPartnership 66 = .ok (.return_, 1) := by decide +kernel
theorem dX0_ending_0 : decode cX0_ending 0 = .ok (.aload_n 0, 1) := by decide +kernel
theorem dX0_ending_1 : decode cX0_ending 1 = .ok (.getfield 52, 3) := by decide +kernel
theorem dX0_ending_4 : decode cX0_ending 4 = .ok (.ifCond .eq 5, 3) := by decide +kernel
theorem dX0_ending_7 : decode cX0_ending 7 = .ok (.iconst 2, 1) := by decide +kernel
theorem dX0_ending_8 : decode cX0_ending 8 = .ok (.ireturn, 1) := by decide +kernel
theorem dX0_ending_9 : decode cX0_ending 9 = .ok (.aload_n 0, 1) := by decide +kernel
theorem dX0_ending_10 : decode cX0_ending 10 = .ok (.getfield 35, 3) := by decide +kernel
theorem dX0_ending_13 : decode cX0_ending 13 = .ok (.getfield 203, 3) := by decide +kernel
theorem dX0_ending_16 : decode cX0_ending 16 = .ok (.aload_n 0, 1) := by decide +kernel
theorem dX0_ending_17 : decode cX0_ending 17 = .ok (.getfield 35, 3) := by decide +kernel
theorem dX0_ending_20 : decode cX0_ending 20 = .ok (.getfield 78, 3) := by decide +kernel
theorem dX0_ending_23 : decode cX0_ending 23 = .ok (.if_icmp .lt 7, 3) := by decide +kernel
theorem dX0_ending_26 : decode cX0_ending 26 = .ok (.iconst 1, 1) := by decide +kernel
theorem dX0_ending_27 : decode cX0_ending 27 = .ok (.goto 4, 3) := by decide +kernel
theorem dX0_ending_30 : decode cX0_ending 30 = .ok (.iconst 0, 1) := by decide +kernel
theorem dX0_ending_31 : decode cX0_ending 31 = .ok (.ireturn, 1) := by decide +kernel
theorem dX0_finish_0 : decode cX0_finish 0 = .ok (.aload_n 0, 1) := by decide +kernel
theorem dX0_finish_1 : decode cX0_finish 1 = .ok (.getfield 16, 3) := by decide +kernel
theorem dX0_finish_4 : decode cX0_finish 4 = .ok (.iconst 0, 1) := by decide +kernel
theorem dX0_finish_5 : decode cX0_finish 5 = .ok (.bipush 7, 2) := by decide +kernel
theorem dX0_finish_7 : decode cX0_finish 7 = .ok (.iload_n 1, 1) := by decide +kernel
theorem dX0_finish_8 : decode cX0_finish 8 = .ok (.invokevirtual 63, 3) := by decide +kernel
theorem dX0_finish_11 : decode cX0_finish 11 = .ok (.aload_n 0, 1) := by decide +kernel
theorem dX0_finish_12 : decode cX0_finish 12 = .ok (.iconst (-1), 1) := by decide +kernel
theorem dX0_finish_13 : decode cX0_finish 13 = .ok (.putfield 49, 3) := by decide +kernel
theorem dX0_finish_16 : decode cX0_finish 16 = .ok (.return_, 1) := by decide +kernel
theorem dX0_isLike_0 : decode cX0_isLike 0 = .ok (.aload_n 0, 1) := by decide +kernel
theorem dX0_isLike_1 : decode cX0_isLike 1 = .ok (.getfield 16, 3) := by decide +kernel
theorem dX0_isLike_4 : decode cX0_isLike 4 = .ok (.aload_n 1, 1) := by decide +kernel
theorem dX0_isLike_5 : decode cX0_isLike 5 = .ok (.getfield 16, 3) := by decide +kernel
theorem dX0_isLike_8 : decode cX0_isLike 8 = .ok (.invokevirtual 206, 3) := by decide +kernel
theorem dX0_isLike_11 : decode cX0_isLike 11 = .ok (.ifCond .eq 132, 3) := by decide +kernel
theorem dX0_isLike_14 : decode cX0_isLike 14 = .ok (.aload_n 0, 1) := by decide +kernel
theorem dX0_isLike_15 : decode cX0_isLike 15 = .ok (.getfield 20, 3) := by decide +kernel
theorem dX0_isLike_18 : decode cX0_isLike 18 = .ok (.aload_n 1, 1) := by decide +kernel
theorem dX0_isLike_19 : decode cX0_isLike 19 = .ok (.getfield 20, 3) := by decide +kernel
theorem dX0_isLike_22 : decode cX0_isLike 22 = .ok (.invokevirtual 206, 3) := by decide +kernel
theorem dX0_isLike_25 : decode cX0_isLike 25 = .ok (.ifCond .eq 118, 3) := by decide +kernel
theorem dX0_isLike_28 : decode cX0_isLike 28 = .ok (.aload_n 0, 1) := by decide +kernel
theorem dX0_isLike_29 : decode cX0_isLike 29 = .ok (.getfield 23, 3) := by decide +kernel
theorem dX0_isLike_32 : decode cX0_isLike 32 = .ok (.aload_n 1, 1) := by decide +kernel
theorem dX0_isLike_33 : decode cX0_isLike 33 = .ok (.getfield 23, 3) := by decide +kernel
theorem dX0_isLike_36 : decode cX0_isLike 36 = .ok (.invokevirtual 206, 3) := by decide +kernel
theorem dX0_isLike_39 : decode cX0_isLike 39 = .ok (.ifCond .eq 104, 3) := by decide +kernel
theorem dX0_isLike_42 : decode cX0_isLike 42 = .ok (.aload_n 0, 1) := by decide +kernel
theorem dX0_isLike_43 : decode cX0_isLike 43 = .ok (.getfield 26, 3) := by decide +kernel
theorem dX0_isLike_46 : decode cX0_isLike 46 = .ok (.aload_n 1, 1) := by decide +kernel
theorem dX0_isLike_47 : decode cX0_isLike 47 = .ok (.getfield 26, 3) := by decide +kernel
theorem dX0_isLike_50 : decode cX0_isLike 50 = .ok (.invokevirtual 206, 3) := by decide +kernel
theorem dX0_isLike_53 : decode cX0_isLike 53 = .ok (.ifCond .eq 90, 3) := by decide +kernel
theorem dX0_isLike_56 : decode cX0_isLike 56 = .ok (.aload_n 0, 1) := by decide +kernel
theorem dX0_isLike_57 : decode cX0_isLike 57 = .ok (.getfield 29, 3) := by decide +kernel
theorem dX0_isLike_60 : decode cX0_isLike 60 = .ok (.aload_n 1, 1) := by decide +kernel
theorem dX0_isLike_61 : decode cX0_isLike 61 = .ok (.getfield 29, 3) := by decide +kernel
theorem dX0_isLike_64 : decode cX0_isLike 64 = .ok (.invokevirtual 206, 3) := by decide +kernel
theorem dX0_isLike_67 : decode cX0_isLike 67 = .ok (.ifCond .eq 76, 3) := by decide +kernel
theorem dX0_isLike_70 : decode cX0_isLike 70 = .ok (.aload_n 0, 1) := by decide +kernel
theorem dX0_isLike_71 : decode cX0_isLike 71 = .ok (.getfield 35, 3) := by decide +kernel
theorem dX0_isLike_74 : decode cX0_isLike 74 = .ok (.aload_n 1, 1) := by decide +kernel
theorem dX0_isLike_75 : decode cX0_isLike 75 = .ok (.getfield 35, 3) := by decide +kernel
theorem dX0_isLike_78 : decode cX0_isLike 78 = .ok (.invokevirtual 210, 3) := by decide +kernel
theorem dX0_isLike_81 : decode cX0_isLike 81 = .ok (.ifCond .eq 62, 3) := by decide +kernel
theorem dX0_isLike_84 : decode cX0_isLike 84 = .ok (.aload_n 0, 1) := by decide +kernel
theorem dX0_isLike_85 : decode cX0_isLike 85 = .ok (.getfield 39, 3) := by decide +kernel
theorem dX0_isLike_88 : decode cX0_isLike 88 = .ok (.aload_n 1, 1) := by decide +kernel
theorem dX0_isLike_89 : decode cX0_isLike 89 = .ok (.getfield 39, 3) := by decide +kernel
theorem dX0_isLike_92 : decode cX0_isLike 92 = .ok (.if_icmp .ne 51, 3) := by decide +kernel
theorem dX0_isLike_95 : decode cX0_isLike 95 = .ok (.aload_n 0, 1) := by decide +kernel
theorem dX0_isLike_96 : decode cX0_isLike 96 = .ok (.getfield 43, 3) := by decide +kernel
theorem dX0_isLike_99 : decode cX0_isLike 99 = .ok (.aload_n 1, 1) := by decide +kernel
theorem dX0_isLike_100 : decode cX0_isLike 100 = .ok (.getfield 43, 3) := by decide +kernel
theorem dX0_isLike_103 : decode cX0_isLike 103 = .ok (.if_icmp .ne 40, 3) := by decide +kernel
theorem dX0_isLike_106 : decode cX0_isLike 106 = .ok (.aload_n 0, 1) := by decide +kernel
theorem dX0_isLike_107 : decode cX0_isLike 107 = .ok (.getfield 46, 3) := by decide +kernel
theorem dX0_isLike_110 : decode cX0_isLike 110 = .ok (.aload_n 1, 1) := by decide +kernel
theorem dX0_isLike_111 : decode cX0_isLike 111 = .ok (.getfield 46, 3) := by decide +kernel
theorem dX0_isLike_114 : decode cX0_isLike 114 = .ok (.if_icmp .ne 29, 3) := by decide +kernel
theorem dX0_isLike_117 : decode cX0_isLike 117 = .ok (.aload_n 0, 1) := by decide +kernel
theorem dX0_isLike_118 : decode cX0_isLike 118 = .ok (.getfield 49, 3) := by decide +kernel
theorem dX0_isLike_121 : decode cX0_isLike 121 = .ok (.aload_n 1, 1) := by decide +kernel
theorem dX0_isLike_122 : decode cX0_isLike 122 = .ok (.getfield 49, 3) := by decide +kernel
theorem dX0_isLike_125 : decode cX0_isLike 125 = .ok (.if_icmp .ne 18, 3) := by decide +kernel
theorem dX0_isLike_128 : decode cX0_isLike 128 = .ok (.aload_n 0, 1) := by decide +kernel
theorem dX0_isLike_129 : decode cX0_isLike 129 = .ok (.getfield 52, 3) := by decide +kernel
theorem dX0_isLike_132 : decode cX0_isLike 132 = .ok (.aload_n 1, 1) := by decide +kernel
theorem dX0_isLike_133 : decode cX0_isLike 133 = .ok (.getfield 52, 3) := by decide +kernel
theorem dX0_isLike_136 : decode cX0_isLike 136 = .ok (.if_icmp .ne 7, 3) := by decide +kernel
theorem dX0_isLike_139 : decode cX0_isLike 139 = .ok (.iconst 1, 1) := by decide +kernel
theorem dX0_isLike_140 : decode cX0_isLike 140 = .ok (.goto 4, 3) := by decide +kernel
theorem dX0_isLike_143 : decode cX0_isLike 143 = .ok (.iconst 0, 1) := by decide +kernel
theorem dX0_isLike_144 : decode cX0_isLike 144 = .ok (.ireturn, 1) := by decide +kernel
