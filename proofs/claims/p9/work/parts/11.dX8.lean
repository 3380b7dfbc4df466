theorem dX8_init_0 : decode cX8_init 0 = .ok (.aload_n 0, 1) := by decide +kernel
theorem dX8_init_1 : decode cX8_init 1 = .ok (.invokespecial 1, 3) := by decide +kernel
theorem dX8_init_4 : decode cX8_init 4 = .ok (.aload_n 0, 1) := by decide +kernel
theorem dX8_init_5 : decode cX8_init 5 = .ok (.new 7, 3) := by decide +kernel
theorem dX8_init_8 : decode cX8_init 8 = .ok (.dup, 1) := by decide +kernel
theorem dX8_init_9 : decode cX8_init 9 = .ok (.invokespecial 9, 3) := by decide +kernel
theorem dX8_init_12 : decode cX8_init 12 = .ok (.putfield 10, 3) := by decide +kernel
theorem dX8_init_15 : decode cX8_init 15 = .ok (.aload_n 0, 1) := by decide +kernel
theorem dX8_init_16 : decode cX8_init 16 = .ok (.new 7, 3) := by decide +kernel
theorem dX8_init_19 : decode cX8_init 19 = .ok (.dup, 1) := by decide +kernel
theorem dX8_init_20 : decode cX8_init 20 = .ok (.invokespecial 9, 3) := by decide +kernel
theorem dX8_init_23 : decode cX8_init 23 = .ok (.putfield 16, 3) := by decide +kernel
theorem dX8_init_26 : decode cX8_init 26 = .ok (.aload_n 0, 1) := by decide +kernel
theorem dX8_init_27 : decode cX8_init 27 = .ok (.new 19, 3) := by decide +kernel
theorem dX8_init_30 : decode cX8_init 30 = .ok (.dup, 1) := by decide +kernel
theorem dX8_init_31 : decode cX8_init 31 = .ok (.invokespecial 21, 3) := by decide +kernel
theorem dX8_init_34 : decode cX8_init 34 = .ok (.putfield 22, 3) := by decide +kernel
theorem dX8_init_37 : decode cX8_init 37 = .ok (.aload_n 0, 1) := by decide +kernel
theorem dX8_init_38 : decode cX8_init 38 = .ok (.new 19, 3) := by decide +kernel
theorem dX8_init_41 : decode cX8_init 41 = .ok (.dup, 1) := by decide +kernel
theorem dX8_init_42 : decode cX8_init 42 = .ok (.invokespecial 21, 3) := by decide +kernel
theorem dX8_init_45 : decode cX8_init 45 = .ok (.putfield 26, 3) := by decide +kernel
theorem dX8_init_48 : decode cX8_init 48 = .ok (.aload_n 0, 1) := by decide +kernel
theorem dX8_init_49 : decode cX8_init 49 = .ok (.new 29, 3) := by decide +kernel
theorem dX8_init_52 : decode cX8_init 52 = .ok (.dup, 1) := by decide +kernel
theorem dX8_init_53 : decode cX8_init 53 = .ok (.invokespecial 31, 3) := by decide +kernel
theorem dX8_init_56 : decode cX8_init 56 = .ok (.putfield 32, 3) := by decide +kernel
theorem dX8_init_59 : decode cX8_init 59 = .ok (.aload_n 0, 1) := by decide +kernel
theorem dX8_init_60 : decode cX8_init 60 = .ok (.new 36, 3) := by decide +kernel
theorem dX8_init_63 : decode cX8_init 63 = .ok (.dup, 1) := by decide +kernel
theorem dX8_init_64 : decode cX8_init 64 = .ok (.invokespecial 38, 3) := by decide +kernel
theorem dX8_init_67 : decode cX8_init 67 = .ok (.putfield 39, 3) := by decide +kernel
theorem dX8_init_70 : decode cX8_init 70 = .ok (.aload_n 0, 1) := by decide +kernel
theorem dX8_init_71 : decode cX8_init 71 = .ok (.new 36, 3) := by decide +kernel
theorem dX8_init_74 : decode cX8_init 74 = .ok (.dup, 1) := by decide +kernel
theorem dX8_init_75 : decode cX8_init 75 = .ok (.invokespecial 38, 3) := by decide +kernel
theorem dX8_init_78 : decode cX8_init 78 = .ok (.putfield 43, 3) := by decide +kernel
theorem dX8_init_81 : decode cX8_init 81 = .ok (.aload_n 0, 1) := by decide +kernel
theorem dX8_init_82 : decode cX8_init 82 = .ok (.iconst (-1), 1) := by decide +kernel
theorem dX8_init_83 : decode cX8_init 83 = .ok (.putfield 46, 3) := by decide +kernel
theorem dX8_init_86 : decode cX8_init 86 = .ok (.aload_n 0, 1) := by decide +kernel
theorem dX8_init_87 : decode cX8_init 87 = .ok (.iconst (-1), 1) := by decide +kernel
theorem dX8_init_88 : decode cX8_init 88 = .ok (.putfield 50, 3) := by decide +kernel
theorem dX8_init_91 : decode cX8_init 91 = .ok (.aload_n 0, 1) := by decide +kernel
theorem dX8_init_92 : decode cX8_init 92 = .ok (.iconst 0, 1) := by decide +kernel
theorem dX8_init_93 : decode cX8_init 93 = .ok (.putfield 53, 3) := by decide +kernel
theorem dX8_init_96 : decode cX8_init 96 = .ok (.return_, 1) := by decide +kernel
theorem dX8_begin_0 : decode cX8_begin 0 = .ok (.iload_n 1, 1) := by decide +kernel
theorem dX8_begin_1 : decode cX8_begin 1 = .ok (.iconst 1, 1) := by decide +kernel
theorem dX8_begin_2 : decode cX8_begin 2 = .ok (.bipush 20, 2) := by decide +kernel
theorem dX8_begin_4 : decode cX8_begin 4 = .ok (.invokestatic 56, 3) := by decide +kernel
theorem dX8_begin_7 : decode cX8_begin 7 = .ok (.ifCond .eq 21, 3) := by decide +kernel
theorem dX8_begin_10 : decode cX8_begin 10 = .ok (.iload_n 2, 1) := by decide +kernel
theorem dX8_begin_11 : decode cX8_begin 11 = .ok (.iconst 1, 1) := by decide +kernel
theorem dX8_begin_12 : decode cX8_begin 12 = .ok (.iconst 2, 1) := by decide +kernel
theorem dX8_begin_13 : decode cX8_begin 13 = .ok (.invokestatic 56, 3) := by decide +kernel
theorem dX8_begin_16 : decode cX8_begin 16 = .ok (.ifCond .eq 12, 3) := by decide +kernel
theorem dX8_begin_19 : decode cX8_begin 19 = .ok (.iload_n 3, 1) := by decide +kernel
theorem dX8_begin_20 : decode cX8_begin 20 = .ok (.iconst 0, 1) := by decide +kernel
theorem dX8_begin_21 : decode cX8_begin 21 = .ok (.iconst 1, 1) := by decide +kernel
theorem dX8_begin_22 : decode cX8_begin 22 = .ok (.invokestatic 56, 3) := by decide +kernel
theorem dX8_begin_25 : decode cX8_begin 25 = .ok (.ifCond .ne 13, 3) := by decide +kernel
theorem dX8_begin_28 : decode cX8_begin 28 = .ok (.new 60, 3) := by decide +kernel
theorem dX8_begin_31 : decode cX8_begin 31 = .ok (.dup, 1) := by decide +kernel
theorem dX8_begin_32 : decode cX8_begin 32 = .ok (.ldc 62, 2) := by decide +kernel
theorem dX8_begin_34 : decode cX8_begin 34 = .ok (.invokespecial 64, 3) := by decide +kernel
theorem dX8_begin_37 : decode cX8_begin 37 = .ok (.athrow, 1) := by decide +kernel
theorem dX8_begin_38 : decode cX8_begin 38 = .ok (.aload_n 0, 1) := by decide +kernel
theorem dX8_begin_39 : decode cX8_begin 39 = .ok (.getfield 22, 3) := by decide +kernel
theorem dX8_begin_42 : decode cX8_begin 42 = .ok (.iload_n 1, 1) := by decide +kernel
theorem dX8_begin_43 : decode cX8_begin 43 = .ok (.iload_n 2, 1) := by decide +kernel
theorem dX8_begin_44 : decode cX8_begin 44 = .ok (.iload_n 3, 1) := by decide +kernel
theorem dX8_begin_45 : decode cX8_begin 45 = .ok (.invokevirtual 67, 3) := by decide +kernel
theorem dX8_begin_48 : decode cX8_begin 48 = .ok (.aload_n 0, 1) := by decide +kernel
theorem dX8_begin_49 : decode cX8_begin 49 = .ok (.getfield 10, 3) := by decide +kernel
theorem dX8_begin_52 : decode cX8_begin 52 = .ok (.aload_n 0, 1) := by decide +kernel
theorem dX8_begin_53 : decode cX8_begin 53 = .ok (.getfield 22, 3) := by decide +kernel
theorem dX8_begin_56 : decode cX8_begin 56 = .ok (.invokevirtual 71, 3) := by decide +kernel
theorem dX8_begin_59 : decode cX8_begin 59 = .ok (.iload_n 1, 1) := by decide +kernel
theorem dX8_begin_60 : decode cX8_begin 60 = .ok (.invokestatic 75, 3) := by decide +kernel
theorem dX8_begin_63 : decode cX8_begin 63 = .ok (.ireturn, 1) := by decide +kernel
theorem dX8_bowl_0 : decode cX8_bowl 0 = .ok (.iload_n 1, 1) := by decide +kernel
theorem dX8_bowl_1 : decode cX8_bowl 1 = .ok (.invokestatic 81, 3) := by decide +kernel
theorem dX8_bowl_4 : decode cX8_bowl 4 = .ok (.ifCond .ne 13, 3) := by decide +kernel
theorem dX8_bowl_7 : decode cX8_bowl 7 = .ok (.new 85, 3) := by decide +kernel
theorem dX8_bowl_10 : decode cX8_bowl 10 = .ok (.dup, 1) := by decide +kernel
theorem dX8_bowl_11 : decode cX8_bowl 11 = .ok (.ldc 87, 2) := by decide +kernel
theorem dX8_bowl_13 : decode cX8_bowl 13 = .ok (.invokespecial 89, 3) := by decide +kernel
theorem dX8_bowl_16 : decode cX8_bowl 16 = .ok (.athrow, 1) := by decide +kernel
theorem dX8_bowl_17 : decode cX8_bowl 17 = .ok (.aload_n 0, 1) := by decide +kernel
theorem dX8_bowl_18 : decode cX8_bowl 18 = .ok (.iconst 1, 1) := by decide +kernel
theorem dX8_bowl_19 : decode cX8_bowl 19 = .ok (.iload_n 1, 1) := by decide +kernel
theorem dX8_bowl_20 : decode cX8_bowl 20 = .ok (.invokestatic 92, 3) := by decide +kernel
theorem dX8_bowl_23 : decode cX8_bowl 23 = .ok (.invokevirtual 96, 3) := by decide +kernel
theorem dX8_bowl_26 : decode cX8_bowl 26 = .ok (.ireturn, 1) := by decide +kernel
theorem dX8_ball_0 : decode cX8_ball 0 = .ok (.iload_n 1, 1) := by decide +kernel
theorem dX8_ball_1 : decode cX8_ball 1 = .ok (.iconst 0, 1) := by decide +kernel
theorem dX8_ball_2 : decode cX8_ball 2 = .ok (.iconst 4, 1) := by decide +kernel
theorem dX8_ball_3 : decode cX8_ball 3 = .ok (.invokestatic 56, 3) := by decide +kernel
theorem dX8_ball_6 : decode cX8_ball 6 = .ok (.ifCond .eq 30, 3) := by decide +kernel
theorem dX8_ball_9 : decode cX8_ball 9 = .ok (.iload_n 2, 1) := by decide +kernel
theorem dX8_ball_10 : decode cX8_ball 10 = .ok (.iload_n 1, 1) := by decide +kernel
theorem dX8_ball_11 : decode cX8_ball 11 = .ok (.invokestatic 100, 3) := by decide +kernel
theorem dX8_ball_14 : decode cX8_ball 14 = .ok (.iload_n 1, 1) := by decide +kernel
theorem dX8_ball_15 : decode cX8_ball 15 = .ok (.invokestatic 103, 3) := by decide +kernel
theorem dX8_ball_18 : decode cX8_ball 18 = .ok (.invokestatic 56, 3) := by decide +kernel
theorem dX8_ball_21 : decode cX8_ball 21 = .ok (.ifCond .eq 15, 3) := by decide +kernel
theorem dX8_ball_24 : decode cX8_ball 24 = .ok (.iload_n 3, 1) := by decide +kernel
theorem dX8_ball_25 : decode cX8_ball 25 = .ok (.ifCond .eq 21, 3) := by decide +kernel
theorem dX8_ball_28 : decode cX8_ball 28 = .ok (.iload_n 1, 1) := by decide +kernel
theorem dX8_ball_29 : decode cX8_ball 29 = .ok (.iload_n 2, 1) := by decide +kernel
theorem dX8_ball_30 : decode cX8_ball 30 = .ok (.invokestatic 106, 3) := by decide +kernel
theorem dX8_ball_33 : decode cX8_ball 33 = .ok (.ifCond .ne 13, 3) := by decide +kernel
theorem dX8_ball_36 : decode cX8_ball 36 = .ok (.new 60, 3) := by decide +kernel
theorem dX8_ball_39 : decode cX8_ball 39 = .ok (.dup, 1) := by decide +kernel
theorem dX8_ball_40 : decode cX8_ball 40 = .ok (.ldc 110, 2) := by decide +kernel
theorem dX8_ball_42 : decode cX8_ball 42 = .ok (.invokespecial 64, 3) := by decide +kernel
theorem dX8_ball_45 : decode cX8_ball 45 = .ok (.athrow, 1) := by decide +kernel
theorem dX8_ball_46 : decode cX8_ball 46 = .ok (.aload_n 0, 1) := by decide +kernel
theorem dX8_ball_47 : decode cX8_ball 47 = .ok (.iload_n 1, 1) := by decide +kernel
theorem dX8_ball_48 : decode cX8_ball 48 = .ok (.iload_n 2, 1) := by decide +kernel
theorem dX8_ball_49 : decode cX8_ball 49 = .ok (.iload_n 3, 1) := by decide +kernel
theorem dX8_ball_50 : decode cX8_ball 50 = .ok (.invokestatic 112, 3) := by decide +kernel
theorem dX8_ball_53 : decode cX8_ball 53 = .ok (.invokevirtual 96, 3) := by decide +kernel
theorem dX8_ball_56 : decode cX8_ball 56 = .ok (.ireturn, 1) := by decide +kernel
theorem dX8_wicket_0 : decode cX8_wicket 0 = .ok (.iload_n 1, 1) := by decide +kernel
theorem dX8_wicket_1 : decode cX8_wicket 1 = .ok (.iconst 0, 1) := by decide +kernel
theorem dX8_wicket_2 : decode cX8_wicket 2 = .ok (.iconst 5, 1) := by decide +kernel
theorem dX8_wicket_3 : decode cX8_wicket 3 = .ok (.invokestatic 56, 3) := by decide +kernel
theorem dX8_wicket_6 : decode cX8_wicket 6 = .ok (.ifCond .eq 22, 3) := by decide +kernel
theorem dX8_wicket_9 : decode cX8_wicket 9 = .ok (.iload_n 2, 1) := by decide +kernel
theorem dX8_wicket_10 : decode cX8_wicket 10 = .ok (.iconst 0, 1) := by decide +kernel
theorem dX8_wicket_11 : decode cX8_wicket 11 = .ok (.iconst 2, 1) := by decide +kernel
theorem dX8_wicket_12 : decode cX8_wicket 12 = .ok (.invokestatic 56, 3) := by decide +kernel
theorem dX8_wicket_15 : decode cX8_wicket 15 = .ok (.ifCond .eq 13, 3) := by decide +kernel
theorem dX8_wicket_18 : decode cX8_wicket 18 = .ok (.iload 4, 2) := by decide +kernel
theorem dX8_wicket_20 : decode cX8_wicket 20 = .ok (.iconst 0, 1) := by decide +kernel
theorem dX8_wicket_21 : decode cX8_wicket 21 = .ok (.iconst 3, 1) := by decide +kernel
theorem dX8_wicket_22 : decode cX8_wicket 22 = .ok (.invokestatic 56, 3) := by decide +kernel
theorem dX8_wicket_25 : decode cX8_wicket 25 = .ok (.ifCond .ne 13, 3) := by decide +kernel
theorem dX8_wicket_28 : decode cX8_wicket 28 = .ok (.new 60, 3) := by decide +kernel
theorem dX8_wicket_31 : decode cX8_wicket 31 = .ok (.dup, 1) := by decide +kernel
theorem dX8_wicket_32 : decode cX8_wicket 32 = .ok (.ldc 116, 2) := by decide +kernel
theorem dX8_wicket_34 : decode cX8_wicket 34 = .ok (.invokespecial 64, 3) := by decide +kernel
theorem dX8_wicket_37 : decode cX8_wicket 37 = .ok (.athrow, 1) := by decide +kernel
theorem dX8_wicket_38 : decode cX8_wicket 38 = .ok (.aload_n 0, 1) := by decide +kernel
theorem dX8_wicket_39 : decode cX8_wicket 39 = .ok (.iload_n 1, 1) := by decide +kernel
theorem dX8_wicket_40 : decode cX8_wicket 40 = .ok (.iload_n 2, 1) := by decide +kernel
theorem dX8_wicket_41 : decode cX8_wicket 41 = .ok (.iload_n 3, 1) := by decide +kernel
theorem dX8_wicket_42 : decode cX8_wicket 42 = .ok (.iload 4, 2) := by decide +kernel
theorem dX8_wicket_44 : decode cX8_wicket 44 = .ok (.iload 5, 2) := by decide +kernel
theorem dX8_wicket_46 : decode cX8_wicket 46 = .ok (.invokestatic 118, 3) := by decide +kernel
theorem dX8_wicket_49 : decode cX8_wicket 49 = .ok (.invokevirtual 96, 3) := by decide +kernel
theorem dX8_wicket_52 : decode cX8_wicket 52 = .ok (.ireturn, 1) := by decide +kernel
theorem dX8_retire_0 : decode cX8_retire 0 = .ok (.aload_n 0, 1) := by decide +kernel
theorem dX8_retire_1 : decode cX8_retire 1 = .ok (.iload_n 1, 1) := by decide +kernel
theorem dX8_retire_2 : decode cX8_retire 2 = .ok (.iload_n 2, 1) := by decide +kernel
theorem dX8_retire_3 : decode cX8_retire 3 = .ok (.invokestatic 122, 3) := by decide +kernel
theorem dX8_retire_6 : decode cX8_retire 6 = .ok (.invokevirtual 96, 3) := by decide +kernel
theorem dX8_retire_9 : decode cX8_retire 9 = .ok (.ireturn, 1) := by decide +kernel
theorem dX8_choose_0 : decode cX8_choose 0 = .ok (.iload_n 1, 1) := by decide +kernel
theorem dX8_choose_1 : decode cX8_choose 1 = .ok (.invokestatic 81, 3) := by decide +kernel
theorem dX8_choose_4 : decode cX8_choose 4 = .ok (.ifCond .ne 13, 3) := by decide +kernel
theorem dX8_choose_7 : decode cX8_choose 7 = .ok (.new 85, 3) := by decide +kernel
theorem dX8_choose_10 : decode cX8_choose 10 = .ok (.dup, 1) := by decide +kernel
theorem dX8_choose_11 : decode cX8_choose 11 = .ok (.ldc 87, 2) := by decide +kernel
theorem dX8_choose_13 : decode cX8_choose 13 = .ok (.invokespecial 89, 3) := by decide +kernel
theorem dX8_choose_16 : decode cX8_choose 16 = .ok (.athrow, 1) := by decide +kernel
theorem dX8_choose_17 : decode cX8_choose 17 = .ok (.aload_n 0, 1) := by decide +kernel
theorem dX8_choose_18 : decode cX8_choose 18 = .ok (.iconst 5, 1) := by decide +kernel
theorem dX8_choose_19 : decode cX8_choose 19 = .ok (.iload_n 1, 1) := by decide +kernel
theorem dX8_choose_20 : decode cX8_choose 20 = .ok (.invokestatic 92, 3) := by decide +kernel
theorem dX8_choose_23 : decode cX8_choose 23 = .ok (.invokevirtual 96, 3) := by decide +kernel
theorem dX8_choose_26 : decode cX8_choose 26 = .ok (.ireturn, 1) := by decide +kernel
theorem dX8_declare_0 : decode cX8_declare 0 = .ok (.aload_n 0, 1) := by decide +kernel
theorem dX8_declare_1 : decode cX8_declare 1 = .ok (.bipush 6, 2) := by decide +kernel
theorem dX8_declare_3 : decode cX8_declare 3 = .ok (.iconst 0, 1) := by decide +kernel
theorem dX8_declare_4 : decode cX8_declare 4 = .ok (.invokestatic 92, 3) := by decide +kernel
theorem dX8_declare_7 : decode cX8_declare 7 = .ok (.invokevirtual 96, 3) := by decide +kernel
theorem dX8_declare_10 : decode cX8_declare 10 = .ok (.ireturn, 1) := by decide +kernel
theorem dX8_loseOvers_0 : decode cX8_loseOvers 0 = .ok (.iload_n 1, 1) := by decide +kernel
theorem dX8_loseOvers_1 : decode cX8_loseOvers 1 = .ok (.iconst 1, 1) := by decide +kernel
theorem dX8_loseOvers_2 : decode cX8_loseOvers 2 = .ok (.bipush 19, 2) := by decide +kernel
theorem dX8_loseOvers_4 : decode cX8_loseOvers 4 = .ok (.invokestatic 56, 3) := by decide +kernel
theorem dX8_loseOvers_7 : decode cX8_loseOvers 7 = .ok (.ifCond .ne 13, 3) := by decide +kernel
theorem dX8_loseOvers_10 : decode cX8_loseOvers 10 = .ok (.new 60, 3) := by decide +kernel
theorem dX8_loseOvers_13 : decode cX8_loseOvers 13 = .ok (.dup, 1) := by decide +kernel
theorem dX8_loseOvers_14 : decode cX8_loseOvers 14 = .ok (.ldc 126, 2) := by decide +kernel
theorem dX8_loseOvers_16 : decode cX8_loseOvers 16 = .ok (.invokespecial 64, 3) := by decide +kernel
theorem dX8_loseOvers_19 : decode cX8_loseOvers 19 = .ok (.athrow, 1) := by decide +kernel
theorem dX8_loseOvers_20 : decode cX8_loseOvers 20 = .ok (.aload_n 0, 1) := by decide +kernel
theorem dX8_loseOvers_21 : decode cX8_loseOvers 21 = .ok (.bipush 7, 2) := by decide +kernel
theorem dX8_loseOvers_23 : decode cX8_loseOvers 23 = .ok (.iload_n 1, 1) := by decide +kernel
theorem dX8_loseOvers_24 : decode cX8_loseOvers 24 = .ok (.invokestatic 92, 3) := by decide +kernel
theorem dX8_loseOvers_27 : decode cX8_loseOvers 27 = .ok (.invokevirtual 96, 3) := by decide +kernel
theorem dX8_loseOvers_30 : decode cX8_loseOvers 30 = .ok (.ireturn, 1) := by decide +kernel
theorem dX8_carryOut_0 : decode cX8_carryOut 0 = .ok (.aload_n 0, 1) := by decide +kernel
theorem dX8_carryOut_1 : decode cX8_carryOut 1 = .ok (.getfield 10, 3) := by decide +kernel
theorem dX8_carryOut_4 : decode cX8_carryOut 4 = .ok (.aload_n 1, 1) := by decide +kernel
theorem dX8_carryOut_5 : decode cX8_carryOut 5 = .ok (.invokevirtual 128, 3) := by decide +kernel
theorem dX8_carryOut_8 : decode cX8_carryOut 8 = .ok (.istore_n 2, 1) := by decide +kernel
theorem dX8_carryOut_9 : decode cX8_carryOut 9 = .ok (.iload_n 2, 1) := by decide +kernel
theorem dX8_carryOut_10 : decode cX8_carryOut 10 = .ok (.ifCond .eq 18, 3) := by decide +kernel
theorem dX8_carryOut_13 : decode cX8_carryOut 13 = .ok (.aload_n 0, 1) := by decide +kernel
theorem dX8_carryOut_14 : decode cX8_carryOut 14 = .ok (.iload_n 2, 1) := by decide +kernel
theorem dX8_carryOut_15 : decode cX8_carryOut 15 = .ok (.putfield 53, 3) := by decide +kernel
theorem dX8_carryOut_18 : decode cX8_carryOut 18 = .ok (.new 131, 3) := by decide +kernel
theorem dX8_carryOut_21 : decode cX8_carryOut 21 = .ok (.dup, 1) := by decide +kernel
theorem dX8_carryOut_22 : decode cX8_carryOut 22 = .ok (.ldc 133, 2) := by decide +kernel
theorem dX8_carryOut_24 : decode cX8_carryOut 24 = .ok (.invokespecial 135, 3) := by decide +kernel
theorem dX8_carryOut_27 : decode cX8_carryOut 27 = .ok (.athrow, 1) := by decide +kernel
theorem dX8_carryOut_28 : decode cX8_carryOut 28 = .ok (.aload_n 0, 1) := by decide +kernel
theorem dX8_carryOut_29 : decode cX8_carryOut 29 = .ok (.getfield 22, 3) := by decide +kernel
theorem dX8_carryOut_32 : decode cX8_carryOut 32 = .ok (.iconst 1, 1) := by decide +kernel
theorem dX8_carryOut_33 : decode cX8_carryOut 33 = .ok (.invokevirtual 136, 3) := by decide +kernel
theorem dX8_carryOut_36 : decode cX8_carryOut 36 = .ok (.ifCond .ne 5, 3) := by decide +kernel
theorem dX8_carryOut_39 : decode cX8_carryOut 39 = .ok (.iconst 0, 1) := by decide +kernel
theorem dX8_carryOut_40 : decode cX8_carryOut 40 = .ok (.ireturn, 1) := by decide +kernel
theorem dX8_carryOut_41 : decode cX8_carryOut 41 = .ok (.aload_n 0, 1) := by decide +kernel
theorem dX8_carryOut_42 : decode cX8_carryOut 42 = .ok (.getfield 22, 3) := by decide +kernel
theorem dX8_carryOut_45 : decode cX8_carryOut 45 = .ok (.aload_n 1, 1) := by decide +kernel
theorem dX8_carryOut_46 : decode cX8_carryOut 46 = .ok (.invokevirtual 139, 3) := by decide +kernel
theorem dX8_carryOut_49 : decode cX8_carryOut 49 = .ok (.aload_n 0, 1) := by decide +kernel
theorem dX8_carryOut_50 : decode cX8_carryOut 50 = .ok (.getfield 22, 3) := by decide +kernel
theorem dX8_carryOut_53 : decode cX8_carryOut 53 = .ok (.invokevirtual 143, 3) := by decide +kernel
theorem dX8_carryOut_56 : decode cX8_carryOut 56 = .ok (.aload_n 0, 1) := by decide +kernel
theorem dX8_carryOut_57 : decode cX8_carryOut 57 = .ok (.getfield 10, 3) := by decide +kernel
theorem dX8_carryOut_60 : decode cX8_carryOut 60 = .ok (.aload_n 1, 1) := by decide +kernel
theorem dX8_carryOut_61 : decode cX8_carryOut 61 = .ok (.invokevirtual 146, 3) := by decide +kernel
theorem dX8_carryOut_64 : decode cX8_carryOut 64 = .ok (.ireturn, 1) := by decide +kernel
theorem dX8_append_0 : decode cX8_append 0 = .ok (.iload_n 1, 1) := by decide +kernel
theorem dX8_append_1 : decode cX8_append 1 = .ok (.bipush 32, 2) := by decide +kernel
theorem dX8_append_3 : decode cX8_append 3 = .ok (.bipush 126, 2) := by decide +kernel
theorem dX8_append_5 : decode cX8_append 5 = .ok (.invokestatic 56, 3) := by decide +kernel
theorem dX8_append_8 : decode cX8_append 8 = .ok (.ifCond .ne 13, 3) := by decide +kernel
theorem dX8_append_11 : decode cX8_append 11 = .ok (.new 60, 3) := by decide +kernel
theorem dX8_append_14 : decode cX8_append 14 = .ok (.dup, 1) := by decide +kernel
theorem dX8_append_15 : decode cX8_append 15 = .ok (.ldc 149, 2) := by decide +kernel
theorem dX8_append_17 : decode cX8_append 17 = .ok (.invokespecial 64, 3) := by decide +kernel
theorem dX8_append_20 : decode cX8_append 20 = .ok (.athrow, 1) := by decide +kernel
theorem dX8_append_21 : decode cX8_append 21 = .ok (.aload_n 0, 1) := by decide +kernel
theorem dX8_append_22 : decode cX8_append 22 = .ok (.getfield 32, 3) := by decide +kernel
theorem dX8_append_25 : decode cX8_append 25 = .ok (.invokevirtual 151, 3) := by decide +kernel
theorem dX8_append_28 : decode cX8_append 28 = .ok (.ifCond .eq 13, 3) := by decide +kernel
theorem dX8_append_31 : decode cX8_append 31 = .ok (.new 155, 3) := by decide +kernel
theorem dX8_append_34 : decode cX8_append 34 = .ok (.dup, 1) := by decide +kernel
theorem dX8_append_35 : decode cX8_append 35 = .ok (.ldc 157, 2) := by decide +kernel
theorem dX8_append_37 : decode cX8_append 37 = .ok (.invokespecial 159, 3) := by decide +kernel
theorem dX8_append_40 : decode cX8_append 40 = .ok (.athrow, 1) := by decide +kernel
theorem dX8_append_41 : decode cX8_append 41 = .ok (.aload_n 0, 1) := by decide +kernel
theorem dX8_append_42 : decode cX8_append 42 = .ok (.getfield 32, 3) := by decide +kernel
theorem dX8_append_45 : decode cX8_append 45 = .ok (.iload_n 1, 1) := by decide +kernel
theorem dX8_append_46 : decode cX8_append 46 = .ok (.invokevirtual 160, 3) := by decide +kernel
theorem dX8_append_49 : decode cX8_append 49 = .ok (.ireturn, 1) := by decide +kernel
theorem dX8_play_0 : decode cX8_play 0 = .ok (.aload_n 0, 1) := by decide +kernel
theorem dX8_play_1 : decode cX8_play 1 = .ok (.getfield 32, 3) := by decide +kernel
theorem dX8_play_4 : decode cX8_play 4 = .ok (.invokevirtual 164, 3) := by decide +kernel
theorem dX8_play_7 : decode cX8_play 7 = .ok (.istore_n 1, 1) := by decide +kernel
theorem dX8_play_8 : decode cX8_play 8 = .ok (.aload_n 0, 1) := by decide +kernel
theorem dX8_play_9 : decode cX8_play 9 = .ok (.getfield 32, 3) := by decide +kernel
theorem dX8_play_12 : decode cX8_play 12 = .ok (.invokevirtual 168, 3) := by decide +kernel
theorem dX8_play_15 : decode cX8_play 15 = .ok (.iload_n 1, 1) := by decide +kernel
theorem dX8_play_16 : decode cX8_play 16 = .ok (.ifCond .lt 18, 3) := by decide +kernel
theorem dX8_play_19 : decode cX8_play 19 = .ok (.aload_n 0, 1) := by decide +kernel
theorem dX8_play_20 : decode cX8_play 20 = .ok (.iload_n 1, 1) := by decide +kernel
theorem dX8_play_21 : decode cX8_play 21 = .ok (.putfield 46, 3) := by decide +kernel
theorem dX8_play_24 : decode cX8_play 24 = .ok (.new 60, 3) := by decide +kernel
theorem dX8_play_27 : decode cX8_play 27 = .ok (.dup, 1) := by decide +kernel
theorem dX8_play_28 : decode cX8_play 28 = .ok (.ldc 171, 2) := by decide +kernel
theorem dX8_play_30 : decode cX8_play 30 = .ok (.invokespecial 64, 3) := by decide +kernel
theorem dX8_play_33 : decode cX8_play 33 = .ok (.athrow, 1) := by decide +kernel
theorem dX8_play_34 : decode cX8_play 34 = .ok (.aload_n 0, 1) := by decide +kernel
theorem dX8_play_35 : decode cX8_play 35 = .ok (.getfield 22, 3) := by decide +kernel
theorem dX8_play_38 : decode cX8_play 38 = .ok (.aload_n 0, 1) := by decide +kernel
theorem dX8_play_39 : decode cX8_play 39 = .ok (.getfield 32, 3) := by decide +kernel
theorem dX8_play_42 : decode cX8_play 42 = .ok (.invokevirtual 173, 3) := by decide +kernel
theorem dX8_play_45 : decode cX8_play 45 = .ok (.invokevirtual 136, 3) := by decide +kernel
theorem dX8_play_48 : decode cX8_play 48 = .ok (.ifCond .ne 5, 3) := by decide +kernel
theorem dX8_play_51 : decode cX8_play 51 = .ok (.iconst 0, 1) := by decide +kernel
theorem dX8_play_52 : decode cX8_play 52 = .ok (.ireturn, 1) := by decide +kernel
theorem dX8_play_53 : decode cX8_play 53 = .ok (.aload_n 0, 1) := by decide +kernel
theorem dX8_play_54 : decode cX8_play 54 = .ok (.invokevirtual 176, 3) := by decide +kernel
theorem dX8_play_57 : decode cX8_play 57 = .ok (.istore_n 2, 1) := by decide +kernel
theorem dX8_play_58 : decode cX8_play 58 = .ok (.iload_n 2, 1) := by decide +kernel
theorem dX8_play_59 : decode cX8_play 59 = .ok (.ifCond .lt 29, 3) := by decide +kernel
theorem dX8_play_62 : decode cX8_play 62 = .ok (.aload_n 0, 1) := by decide +kernel
theorem dX8_play_63 : decode cX8_play 63 = .ok (.getfield 10, 3) := by decide +kernel
theorem dX8_play_66 : decode cX8_play 66 = .ok (.aload_n 0, 1) := by decide +kernel
theorem dX8_play_67 : decode cX8_play 67 = .ok (.getfield 22, 3) := by decide +kernel
theorem dX8_play_70 : decode cX8_play 70 = .ok (.invokevirtual 71, 3) := by decide +kernel
theorem dX8_play_73 : decode cX8_play 73 = .ok (.aload_n 0, 1) := by decide +kernel
theorem dX8_play_74 : decode cX8_play 74 = .ok (.iload_n 2, 1) := by decide +kernel
theorem dX8_play_75 : decode cX8_play 75 = .ok (.putfield 50, 3) := by decide +kernel
theorem dX8_play_78 : decode cX8_play 78 = .ok (.new 155, 3) := by decide +kernel
theorem dX8_play_81 : decode cX8_play 81 = .ok (.dup, 1) := by decide +kernel
theorem dX8_play_82 : decode cX8_play 82 = .ok (.ldc 179, 2) := by decide +kernel
theorem dX8_play_84 : decode cX8_play 84 = .ok (.invokespecial 159, 3) := by decide +kernel
theorem dX8_play_87 : decode cX8_play 87 = .ok (.athrow, 1) := by decide +kernel
theorem dX8_play_88 : decode cX8_play 88 = .ok (.aload_n 0, 1) := by decide +kernel
theorem dX8_play_89 : decode cX8_play 89 = .ok (.getfield 32, 3) := by decide +kernel
theorem dX8_play_92 : decode cX8_play 92 = .ok (.invokevirtual 173, 3) := by decide +kernel
theorem dX8_play_95 : decode cX8_play 95 = .ok (.ireturn, 1) := by decide +kernel
theorem dX8_carryOutElements_0 : decode cX8_carryOutElements 0 = .ok (.aload_n 0, 1) := by decide +kernel
theorem dX8_carryOutElements_1 : decode cX8_carryOutElements 1 = .ok (.getfield 32, 3) := by decide +kernel
theorem dX8_carryOutElements_4 : decode cX8_carryOutElements 4 = .ok (.invokevirtual 173, 3) := by decide +kernel
theorem dX8_carryOutElements_7 : decode cX8_carryOutElements 7 = .ok (.istore_n 1, 1) := by decide +kernel
theorem dX8_carryOutElements_8 : decode cX8_carryOutElements 8 = .ok (.iconst 0, 1) := by decide +kernel
theorem dX8_carryOutElements_9 : decode cX8_carryOutElements 9 = .ok (.istore_n 2, 1) := by decide +kernel
theorem dX8_carryOutElements_10 : decode cX8_carryOutElements 10 = .ok (.iload_n 2, 1) := by decide +kernel
theorem dX8_carryOutElements_11 : decode cX8_carryOutElements 11 = .ok (.iload_n 1, 1) := by decide +kernel
theorem dX8_carryOutElements_12 : decode cX8_carryOutElements 12 = .ok (.if_icmp .ge 52, 3) := by decide +kernel
theorem dX8_carryOutElements_15 : decode cX8_carryOutElements 15 = .ok (.aload_n 0, 1) := by decide +kernel
theorem dX8_carryOutElements_16 : decode cX8_carryOutElements 16 = .ok (.getfield 10, 3) := by decide +kernel
theorem dX8_carryOutElements_19 : decode cX8_carryOutElements 19 = .ok (.aload_n 0, 1) := by decide +kernel
theorem dX8_carryOutElements_20 : decode cX8_carryOutElements 20 = .ok (.getfield 32, 3) := by decide +kernel
theorem dX8_carryOutElements_23 : decode cX8_carryOutElements 23 = .ok (.iload_n 2, 1) := by decide +kernel
theorem dX8_carryOutElements_24 : decode cX8_carryOutElements 24 = .ok (.invokevirtual 181, 3) := by decide +kernel
theorem dX8_carryOutElements_27 : decode cX8_carryOutElements 27 = .ok (.invokevirtual 128, 3) := by decide +kernel
theorem dX8_carryOutElements_30 : decode cX8_carryOutElements 30 = .ok (.istore_n 3, 1) := by decide +kernel
theorem dX8_carryOutElements_31 : decode cX8_carryOutElements 31 = .ok (.iload_n 3, 1) := by decide +kernel
theorem dX8_carryOutElements_32 : decode cX8_carryOutElements 32 = .ok (.ifCond .eq 10, 3) := by decide +kernel
theorem dX8_carryOutElements_35 : decode cX8_carryOutElements 35 = .ok (.aload_n 0, 1) := by decide +kernel
theorem dX8_carryOutElements_36 : decode cX8_carryOutElements 36 = .ok (.iload_n 3, 1) := by decide +kernel
theorem dX8_carryOutElements_37 : decode cX8_carryOutElements 37 = .ok (.putfield 53, 3) := by decide +kernel
theorem dX8_carryOutElements_40 : decode cX8_carryOutElements 40 = .ok (.iload_n 2, 1) := by decide +kernel
theorem dX8_carryOutElements_41 : decode cX8_carryOutElements 41 = .ok (.ireturn, 1) := by decide +kernel
theorem dX8_carryOutElements_42 : decode cX8_carryOutElements 42 = .ok (.aload_n 0, 1) := by decide +kernel
theorem dX8_carryOutElements_43 : decode cX8_carryOutElements 43 = .ok (.getfield 10, 3) := by decide +kernel
theorem dX8_carryOutElements_46 : decode cX8_carryOutElements 46 = .ok (.aload_n 0, 1) := by decide +kernel
theorem dX8_carryOutElements_47 : decode cX8_carryOutElements 47 = .ok (.getfield 32, 3) := by decide +kernel
theorem dX8_carryOutElements_50 : decode cX8_carryOutElements 50 = .ok (.iload_n 2, 1) := by decide +kernel
theorem dX8_carryOutElements_51 : decode cX8_carryOutElements 51 = .ok (.invokevirtual 181, 3) := by decide +kernel
theorem dX8_carryOutElements_54 : decode cX8_carryOutElements 54 = .ok (.invokevirtual 146, 3) := by decide +kernel
theorem dX8_carryOutElements_57 : decode cX8_carryOutElements 57 = .ok (.pop, 1) := by decide +kernel
theorem dX8_carryOutElements_58 : decode cX8_carryOutElements 58 = .ok (.iinc 2 1, 3) := by decide +kernel
theorem dX8_carryOutElements_61 : decode cX8_carryOutElements 61 = .ok (.goto (-51), 3) := by decide +kernel
theorem dX8_carryOutElements_64 : decode cX8_carryOutElements 64 = .ok (.iconst 0, 1) := by decide +kernel
theorem dX8_carryOutElements_65 : decode cX8_carryOutElements 65 = .ok (.istore_n 2, 1) := by decide +kernel
theorem dX8_carryOutElements_66 : decode cX8_carryOutElements 66 = .ok (.iload_n 2, 1) := by decide +kernel
theorem dX8_carryOutElements_67 : decode cX8_carryOutElements 67 = .ok (.iload_n 1, 1) := by decide +kernel
theorem dX8_carryOutElements_68 : decode cX8_carryOutElements 68 = .ok (.if_icmp .ge 24, 3) := by decide +kernel
theorem dX8_carryOutElements_71 : decode cX8_carryOutElements 71 = .ok (.aload_n 0, 1) := by decide +kernel
theorem dX8_carryOutElements_72 : decode cX8_carryOutElements 72 = .ok (.getfield 22, 3) := by decide +kernel
theorem dX8_carryOutElements_75 : decode cX8_carryOutElements 75 = .ok (.aload_n 0, 1) := by decide +kernel
theorem dX8_carryOutElements_76 : decode cX8_carryOutElements 76 = .ok (.getfield 32, 3) := by decide +kernel
theorem dX8_carryOutElements_79 : decode cX8_carryOutElements 79 = .ok (.iload_n 2, 1) := by decide +kernel
theorem dX8_carryOutElements_80 : decode cX8_carryOutElements 80 = .ok (.invokevirtual 181, 3) := by decide +kernel
theorem dX8_carryOutElements_83 : decode cX8_carryOutElements 83 = .ok (.invokevirtual 139, 3) := by decide +kernel
theorem dX8_carryOutElements_86 : decode cX8_carryOutElements 86 = .ok (.iinc 2 1, 3) := by decide +kernel
theorem dX8_carryOutElements_89 : decode cX8_carryOutElements 89 = .ok (.goto (-23), 3) := by decide +kernel
theorem dX8_carryOutElements_92 : decode cX8_carryOutElements 92 = .ok (.aload_n 0, 1) := by decide +kernel
theorem dX8_carryOutElements_93 : decode cX8_carryOutElements 93 = .ok (.getfield 22, 3) := by decide +kernel
theorem dX8_carryOutElements_96 : decode cX8_carryOutElements 96 = .ok (.invokevirtual 143, 3) := by decide +kernel
theorem dX8_carryOutElements_99 : decode cX8_carryOutElements 99 = .ok (.iconst (-1), 1) := by decide +kernel
theorem dX8_carryOutElements_100 : decode cX8_carryOutElements 100 = .ok (.ireturn, 1) := by decide +kernel
theorem dX8_errorPosition_0 : decode cX8_errorPosition 0 = .ok (.aload_n 0, 1) := by decide +kernel
theorem dX8_errorPosition_1 : decode cX8_errorPosition 1 = .ok (.getfield 46, 3) := by decide +kernel
theorem dX8_errorPosition_4 : decode cX8_errorPosition 4 = .ok (.ifCond .ge 13, 3) := by decide +kernel
theorem dX8_errorPosition_7 : decode cX8_errorPosition 7 = .ok (.new 185, 3) := by decide +kernel
theorem dX8_errorPosition_10 : decode cX8_errorPosition 10 = .ok (.dup, 1) := by decide +kernel
theorem dX8_errorPosition_11 : decode cX8_errorPosition 11 = .ok (.ldc 187, 2) := by decide +kernel
theorem dX8_errorPosition_13 : decode cX8_errorPosition 13 = .ok (.invokespecial 189, 3) := by decide +kernel
theorem dX8_errorPosition_16 : decode cX8_errorPosition 16 = .ok (.athrow, 1) := by decide +kernel
theorem dX8_errorPosition_17 : decode cX8_errorPosition 17 = .ok (.aload_n 0, 1) := by decide +kernel
theorem dX8_errorPosition_18 : decode cX8_errorPosition 18 = .ok (.getfield 46, 3) := by decide +kernel
theorem dX8_errorPosition_21 : decode cX8_errorPosition 21 = .ok (.ireturn, 1) := by decide +kernel
theorem dX8_refused_0 : decode cX8_refused 0 = .ok (.aload_n 0, 1) := by decide +kernel
theorem dX8_refused_1 : decode cX8_refused 1 = .ok (.getfield 50, 3) := by decide +kernel
theorem dX8_refused_4 : decode cX8_refused 4 = .ok (.ifCond .ge 13, 3) := by decide +kernel
theorem dX8_refused_7 : decode cX8_refused 7 = .ok (.new 185, 3) := by decide +kernel
theorem dX8_refused_10 : decode cX8_refused 10 = .ok (.dup, 1) := by decide +kernel
theorem dX8_refused_11 : decode cX8_refused 11 = .ok (.ldc 190, 2) := by decide +kernel
theorem dX8_refused_13 : decode cX8_refused 13 = .ok (.invokespecial 189, 3) := by decide +kernel
theorem dX8_refused_16 : decode cX8_refused 16 = .ok (.athrow, 1) := by decide +kernel
theorem dX8_refused_17 : decode cX8_refused 17 = .ok (.aload_n 0, 1) := by decide +kernel
theorem dX8_refused_18 : decode cX8_refused 18 = .ok (.getfield 50, 3) := by decide +kernel
theorem dX8_refused_21 : decode cX8_refused 21 = .ok (.ireturn, 1) := by decide +kernel
theorem dX8_now_0 : decode cX8_now 0 = .ok (.iload_n 1, 1) := by decide +kernel
theorem dX8_now_1 : decode cX8_now 1 = .ok (.iconst 0, 1) := by decide +kernel
theorem dX8_now_2 : decode cX8_now 2 = .ok (.bipush 8, 2) := by decide +kernel
theorem dX8_now_4 : decode cX8_now 4 = .ok (.invokestatic 56, 3) := by decide +kernel
theorem dX8_now_7 : decode cX8_now 7 = .ok (.ifCond .ne 13, 3) := by decide +kernel
theorem dX8_now_10 : decode cX8_now 10 = .ok (.new 60, 3) := by decide +kernel
theorem dX8_now_13 : decode cX8_now 13 = .ok (.dup, 1) := by decide +kernel
theorem dX8_now_14 : decode cX8_now 14 = .ok (.ldc 192, 2) := by decide +kernel
theorem dX8_now_16 : decode cX8_now 16 = .ok (.invokespecial 64, 3) := by decide +kernel
theorem dX8_now_19 : decode cX8_now 19 = .ok (.athrow, 1) := by decide +kernel
theorem dX8_now_20 : decode cX8_now 20 = .ok (.aload_n 0, 1) := by decide +kernel
theorem dX8_now_21 : decode cX8_now 21 = .ok (.invokevirtual 194, 3) := by decide +kernel
theorem dX8_now_24 : decode cX8_now 24 = .ok (.aload_n 0, 1) := by decide +kernel
theorem dX8_now_25 : decode cX8_now 25 = .ok (.getfield 10, 3) := by decide +kernel
theorem dX8_now_28 : decode cX8_now 28 = .ok (.iload_n 1, 1) := by decide +kernel
theorem dX8_now_29 : decode cX8_now 29 = .ok (.invokevirtual 197, 3) := by decide +kernel
theorem dX8_now_32 : decode cX8_now 32 = .ok (.ireturn, 1) := by decide +kernel
theorem dX8_innings_0 : decode cX8_innings 0 = .ok (.aload_n 0, 1) := by decide +kernel
theorem dX8_innings_1 : decode cX8_innings 1 = .ok (.iload_n 1, 1) := by decide +kernel
theorem dX8_innings_2 : decode cX8_innings 2 = .ok (.invokevirtual 200, 3) := by decide +kernel
theorem dX8_innings_5 : decode cX8_innings 5 = .ok (.iload_n 2, 1) := by decide +kernel
theorem dX8_innings_6 : decode cX8_innings 6 = .ok (.iconst 0, 1) := by decide +kernel
theorem dX8_innings_7 : decode cX8_innings 7 = .ok (.bipush 7, 2) := by decide +kernel
theorem dX8_innings_9 : decode cX8_innings 9 = .ok (.invokestatic 56, 3) := by decide +kernel
theorem dX8_innings_12 : decode cX8_innings 12 = .ok (.ifCond .ne 13, 3) := by decide +kernel
theorem dX8_innings_15 : decode cX8_innings 15 = .ok (.new 60, 3) := by decide +kernel
theorem dX8_innings_18 : decode cX8_innings 18 = .ok (.dup, 1) := by decide +kernel
theorem dX8_innings_19 : decode cX8_innings 19 = .ok (.ldc 192, 2) := by decide +kernel
theorem dX8_innings_21 : decode cX8_innings 21 = .ok (.invokespecial 64, 3) := by decide +kernel
theorem dX8_innings_24 : decode cX8_innings 24 = .ok (.athrow, 1) := by decide +kernel
theorem dX8_innings_25 : decode cX8_innings 25 = .ok (.aload_n 0, 1) := by decide +kernel
theorem dX8_innings_26 : decode cX8_innings 26 = .ok (.getfield 10, 3) := by decide +kernel
theorem dX8_innings_29 : decode cX8_innings 29 = .ok (.iload_n 1, 1) := by decide +kernel
theorem dX8_innings_30 : decode cX8_innings 30 = .ok (.invokevirtual 206, 3) := by decide +kernel
theorem dX8_innings_33 : decode cX8_innings 33 = .ok (.iload_n 2, 1) := by decide +kernel
theorem dX8_innings_34 : decode cX8_innings 34 = .ok (.invokevirtual 210, 3) := by decide +kernel
theorem dX8_innings_37 : decode cX8_innings 37 = .ok (.ireturn, 1) := by decide +kernel
theorem dX8_batter_0 : decode cX8_batter 0 = .ok (.aload_n 0, 1) := by decide +kernel
theorem dX8_batter_1 : decode cX8_batter 1 = .ok (.iload_n 1, 1) := by decide +kernel
theorem dX8_batter_2 : decode cX8_batter 2 = .ok (.iload_n 2, 1) := by decide +kernel
theorem dX8_batter_3 : decode cX8_batter 3 = .ok (.invokevirtual 213, 3) := by decide +kernel
theorem dX8_batter_6 : decode cX8_batter 6 = .ok (.iload_n 3, 1) := by decide +kernel
theorem dX8_batter_7 : decode cX8_batter 7 = .ok (.iconst 0, 1) := by decide +kernel
theorem dX8_batter_8 : decode cX8_batter 8 = .ok (.iconst 5, 1) := by decide +kernel
theorem dX8_batter_9 : decode cX8_batter 9 = .ok (.invokestatic 56, 3) := by decide +kernel
theorem dX8_batter_12 : decode cX8_batter 12 = .ok (.ifCond .ne 13, 3) := by decide +kernel
theorem dX8_batter_15 : decode cX8_batter 15 = .ok (.new 60, 3) := by decide +kernel
theorem dX8_batter_18 : decode cX8_batter 18 = .ok (.dup, 1) := by decide +kernel
theorem dX8_batter_19 : decode cX8_batter 19 = .ok (.ldc 192, 2) := by decide +kernel
theorem dX8_batter_21 : decode cX8_batter 21 = .ok (.invokespecial 64, 3) := by decide +kernel
theorem dX8_batter_24 : decode cX8_batter 24 = .ok (.athrow, 1) := by decide +kernel
theorem dX8_batter_25 : decode cX8_batter 25 = .ok (.aload_n 0, 1) := by decide +kernel
theorem dX8_batter_26 : decode cX8_batter 26 = .ok (.getfield 10, 3) := by decide +kernel
theorem dX8_batter_29 : decode cX8_batter 29 = .ok (.iload_n 1, 1) := by decide +kernel
theorem dX8_batter_30 : decode cX8_batter 30 = .ok (.invokevirtual 206, 3) := by decide +kernel
theorem dX8_batter_33 : decode cX8_batter 33 = .ok (.getfield 217, 3) := by decide +kernel
theorem dX8_batter_36 : decode cX8_batter 36 = .ok (.iload_n 2, 1) := by decide +kernel
theorem dX8_batter_37 : decode cX8_batter 37 = .ok (.iload_n 3, 1) := by decide +kernel
theorem dX8_batter_38 : decode cX8_batter 38 = .ok (.invokevirtual 221, 3) := by decide +kernel
theorem dX8_batter_41 : decode cX8_batter 41 = .ok (.ireturn, 1) := by decide +kernel
theorem dX8_bowler_0 : decode cX8_bowler 0 = .ok (.aload_n 0, 1) := by decide +kernel
theorem dX8_bowler_1 : decode cX8_bowler 1 = .ok (.iload_n 1, 1) := by decide +kernel
theorem dX8_bowler_2 : decode cX8_bowler 2 = .ok (.iload_n 2, 1) := by decide +kernel
theorem dX8_bowler_3 : decode cX8_bowler 3 = .ok (.invokevirtual 213, 3) := by decide +kernel
theorem dX8_bowler_6 : decode cX8_bowler 6 = .ok (.iload_n 3, 1) := by decide +kernel
theorem dX8_bowler_7 : decode cX8_bowler 7 = .ok (.iconst 0, 1) := by decide +kernel
theorem dX8_bowler_8 : decode cX8_bowler 8 = .ok (.bipush 6, 2) := by decide +kernel
theorem dX8_bowler_10 : decode cX8_bowler 10 = .ok (.invokestatic 56, 3) := by decide +kernel
theorem dX8_bowler_13 : decode cX8_bowler 13 = .ok (.ifCond .ne 13, 3) := by decide +kernel
theorem dX8_bowler_16 : decode cX8_bowler 16 = .ok (.new 60, 3) := by decide +kernel
theorem dX8_bowler_19 : decode cX8_bowler 19 = .ok (.dup, 1) := by decide +kernel
theorem dX8_bowler_20 : decode cX8_bowler 20 = .ok (.ldc 192, 2) := by decide +kernel
theorem dX8_bowler_22 : decode cX8_bowler 22 = .ok (.invokespecial 64, 3) := by decide +kernel
theorem dX8_bowler_25 : decode cX8_bowler 25 = .ok (.athrow, 1) := by decide +kernel
theorem dX8_bowler_26 : decode cX8_bowler 26 = .ok (.aload_n 0, 1) := by decide +kernel
theorem dX8_bowler_27 : decode cX8_bowler 27 = .ok (.getfield 10, 3) := by decide +kernel
theorem dX8_bowler_30 : decode cX8_bowler 30 = .ok (.iload_n 1, 1) := by decide +kernel
theorem dX8_bowler_31 : decode cX8_bowler 31 = .ok (.invokevirtual 206, 3) := by decide +kernel
theorem dX8_bowler_34 : decode cX8_bowler 34 = .ok (.getfield 227, 3) := by decide +kernel
theorem dX8_bowler_37 : decode cX8_bowler 37 = .ok (.iload_n 2, 1) := by decide +kernel
theorem dX8_bowler_38 : decode cX8_bowler 38 = .ok (.iload_n 3, 1) := by decide +kernel
theorem dX8_bowler_39 : decode cX8_bowler 39 = .ok (.invokevirtual 221, 3) := by decide +kernel
theorem dX8_bowler_42 : decode cX8_bowler 42 = .ok (.ireturn, 1) := by decide +kernel
theorem dX8_partnership_0 : decode cX8_partnership 0 = .ok (.aload_n 0, 1) := by decide +kernel
theorem dX8_partnership_1 : decode cX8_partnership 1 = .ok (.iload_n 1, 1) := by decide +kernel
theorem dX8_partnership_2 : decode cX8_partnership 2 = .ok (.invokevirtual 200, 3) := by decide +kernel
theorem dX8_partnership_5 : decode cX8_partnership 5 = .ok (.aload_n 0, 1) := by decide +kernel
theorem dX8_partnership_6 : decode cX8_partnership 6 = .ok (.getfield 10, 3) := by decide +kernel
theorem dX8_partnership_9 : decode cX8_partnership 9 = .ok (.iload_n 1, 1) := by decide +kernel
theorem dX8_partnership_10 : decode cX8_partnership 10 = .ok (.invokevirtual 206, 3) := by decide +kernel
theorem dX8_partnership_13 : decode cX8_partnership 13 = .ok (.getfield 230, 3) := by decide +kernel
theorem dX8_partnership_16 : decode cX8_partnership 16 = .ok (.iload_n 2, 1) := by decide +kernel
theorem dX8_partnership_17 : decode cX8_partnership 17 = .ok (.iload_n 3, 1) := by decide +kernel
theorem dX8_partnership_18 : decode cX8_partnership 18 = .ok (.invokestatic 233, 3) := by decide +kernel
theorem dX8_partnership_21 : decode cX8_partnership 21 = .ok (.ireturn, 1) := by decide +kernel
theorem dX8_fall_0 : decode cX8_fall 0 = .ok (.aload_n 0, 1) := by decide +kernel
theorem dX8_fall_1 : decode cX8_fall 1 = .ok (.iload_n 1, 1) := by decide +kernel
theorem dX8_fall_2 : decode cX8_fall 2 = .ok (.invokevirtual 200, 3) := by decide +kernel
theorem dX8_fall_5 : decode cX8_fall 5 = .ok (.aload_n 0, 1) := by decide +kernel
theorem dX8_fall_6 : decode cX8_fall 6 = .ok (.getfield 10, 3) := by decide +kernel
theorem dX8_fall_9 : decode cX8_fall 9 = .ok (.iload_n 1, 1) := by decide +kernel
theorem dX8_fall_10 : decode cX8_fall 10 = .ok (.invokevirtual 206, 3) := by decide +kernel
theorem dX8_fall_13 : decode cX8_fall 13 = .ok (.getfield 237, 3) := by decide +kernel
theorem dX8_fall_16 : decode cX8_fall 16 = .ok (.iload_n 2, 1) := by decide +kernel
theorem dX8_fall_17 : decode cX8_fall 17 = .ok (.iload_n 3, 1) := by decide +kernel
theorem dX8_fall_18 : decode cX8_fall 18 = .ok (.invokestatic 233, 3) := by decide +kernel
theorem dX8_fall_21 : decode cX8_fall 21 = .ok (.ireturn, 1) := by decide +kernel
theorem dX8_tableNumber_0 : decode cX8_tableNumber 0 = .ok (.aload_n 0, 1) := by decide +kernel
theorem dX8_tableNumber_1 : decode cX8_tableNumber 1 = .ok (.iload_n 1, 1) := by decide +kernel
theorem dX8_tableNumber_2 : decode cX8_tableNumber 2 = .ok (.invokevirtual 240, 3) := by decide +kernel
theorem dX8_tableNumber_5 : decode cX8_tableNumber 5 = .ok (.ifCond .ne 13, 3) := by decide +kernel
theorem dX8_tableNumber_8 : decode cX8_tableNumber 8 = .ok (.new 185, 3) := by decide +kernel
theorem dX8_tableNumber_11 : decode cX8_tableNumber 11 = .ok (.dup, 1) := by decide +kernel
theorem dX8_tableNumber_12 : decode cX8_tableNumber 12 = .ok (.ldc 243, 2) := by decide +kernel
theorem dX8_tableNumber_14 : decode cX8_tableNumber 14 = .ok (.invokespecial 189, 3) := by decide +kernel
theorem dX8_tableNumber_17 : decode cX8_tableNumber 17 = .ok (.athrow, 1) := by decide +kernel
theorem dX8_tableNumber_18 : decode cX8_tableNumber 18 = .ok (.aload_n 0, 1) := by decide +kernel
theorem dX8_tableNumber_19 : decode cX8_tableNumber 19 = .ok (.iload_n 2, 1) := by decide +kernel
theorem dX8_tableNumber_20 : decode cX8_tableNumber 20 = .ok (.invokevirtual 245, 3) := by decide +kernel
theorem dX8_tableNumber_23 : decode cX8_tableNumber 23 = .ok (.ifCond .ne 13, 3) := by decide +kernel
theorem dX8_tableNumber_26 : decode cX8_tableNumber 26 = .ok (.new 60, 3) := by decide +kernel
theorem dX8_tableNumber_29 : decode cX8_tableNumber 29 = .ok (.dup, 1) := by decide +kernel
theorem dX8_tableNumber_30 : decode cX8_tableNumber 30 = .ok (.ldc 192, 2) := by decide +kernel
theorem dX8_tableNumber_32 : decode cX8_tableNumber 32 = .ok (.invokespecial 64, 3) := by decide +kernel
theorem dX8_tableNumber_35 : decode cX8_tableNumber 35 = .ok (.athrow, 1) := by decide +kernel
theorem dX8_tableNumber_36 : decode cX8_tableNumber 36 = .ok (.aload_n 0, 1) := by decide +kernel
theorem dX8_tableNumber_37 : decode cX8_tableNumber 37 = .ok (.iload_n 1, 1) := by decide +kernel
theorem dX8_tableNumber_38 : decode cX8_tableNumber 38 = .ok (.iload_n 2, 1) := by decide +kernel
theorem dX8_tableNumber_39 : decode cX8_tableNumber 39 = .ok (.invokevirtual 221, 3) := by decide +kernel
theorem dX8_tableNumber_42 : decode cX8_tableNumber 42 = .ok (.ireturn, 1) := by decide +kernel
theorem dX8_needed_0 : decode cX8_needed 0 = .ok (.aload_n 0, 1) := by decide +kernel
theorem dX8_needed_1 : decode cX8_needed 1 = .ok (.invokevirtual 194, 3) := by decide +kernel
theorem dX8_needed_4 : decode cX8_needed 4 = .ok (.aload_n 0, 1) := by decide +kernel
theorem dX8_needed_5 : decode cX8_needed 5 = .ok (.getfield 10, 3) := by decide +kernel
theorem dX8_needed_8 : decode cX8_needed 8 = .ok (.invokevirtual 248, 3) := by decide +kernel
theorem dX8_needed_11 : decode cX8_needed 11 = .ok (.ifCond .ne 13, 3) := by decide +kernel
theorem dX8_needed_14 : decode cX8_needed 14 = .ok (.new 185, 3) := by decide +kernel
theorem dX8_needed_17 : decode cX8_needed 17 = .ok (.dup, 1) := by decide +kernel
theorem dX8_needed_18 : decode cX8_needed 18 = .ok (.ldc 251, 2) := by decide +kernel
theorem dX8_needed_20 : decode cX8_needed 20 = .ok (.invokespecial 189, 3) := by decide +kernel
theorem dX8_needed_23 : decode cX8_needed 23 = .ok (.athrow, 1) := by decide +kernel
theorem dX8_needed_24 : decode cX8_needed 24 = .ok (.aload_n 0, 1) := by decide +kernel
theorem dX8_needed_25 : decode cX8_needed 25 = .ok (.getfield 10, 3) := by decide +kernel
theorem dX8_needed_28 : decode cX8_needed 28 = .ok (.invokevirtual 253, 3) := by decide +kernel
theorem dX8_needed_31 : decode cX8_needed 31 = .ok (.istore_n 2, 1) := by decide +kernel
theorem dX8_needed_32 : decode cX8_needed 32 = .ok (.iload_n 1, 1) := by decide +kernel
theorem dX8_needed_33 : decode cX8_needed 33 = .ok (.ifCond .eq 7, 3) := by decide +kernel
theorem dX8_needed_36 : decode cX8_needed 36 = .ok (.iload_n 2, 1) := by decide +kernel
theorem dX8_needed_37 : decode cX8_needed 37 = .ok (.goto 20, 3) := by decide +kernel
theorem dX8_needed_40 : decode cX8_needed 40 = .ok (.iconst 0, 1) := by decide +kernel
theorem dX8_needed_41 : decode cX8_needed 41 = .ok (.iload_n 2, 1) := by decide +kernel
theorem dX8_needed_42 : decode cX8_needed 42 = .ok (.aload_n 0, 1) := by decide +kernel
theorem dX8_needed_43 : decode cX8_needed 43 = .ok (.getfield 10, 3) := by decide +kernel
theorem dX8_needed_46 : decode cX8_needed 46 = .ok (.invokevirtual 256, 3) := by decide +kernel
theorem dX8_needed_49 : decode cX8_needed 49 = .ok (.iconst 0, 1) := by decide +kernel
theorem dX8_needed_50 : decode cX8_needed 50 = .ok (.invokevirtual 210, 3) := by decide +kernel
theorem dX8_needed_53 : decode cX8_needed 53 = .ok (.isub, 1) := by decide +kernel
theorem dX8_needed_54 : decode cX8_needed 54 = .ok (.invokestatic 260, 3) := by decide +kernel
theorem dX8_needed_57 : decode cX8_needed 57 = .ok (.ireturn, 1) := by decide +kernel
theorem dX8_result_0 : decode cX8_result 0 = .ok (.aload_n 0, 1) := by decide +kernel
theorem dX8_result_1 : decode cX8_result 1 = .ok (.getfield 10, 3) := by decide +kernel
theorem dX8_result_4 : decode cX8_result 4 = .ok (.invokevirtual 265, 3) := by decide +kernel
theorem dX8_result_7 : decode cX8_result 7 = .ok (.ireturn, 1) := by decide +kernel
theorem dX8_runRate_0 : decode cX8_runRate 0 = .ok (.aload_n 0, 1) := by decide +kernel
theorem dX8_runRate_1 : decode cX8_runRate 1 = .ok (.iload_n 1, 1) := by decide +kernel
theorem dX8_runRate_2 : decode cX8_runRate 2 = .ok (.invokevirtual 200, 3) := by decide +kernel
theorem dX8_runRate_5 : decode cX8_runRate 5 = .ok (.aload_n 0, 1) := by decide +kernel
theorem dX8_runRate_6 : decode cX8_runRate 6 = .ok (.getfield 10, 3) := by decide +kernel
theorem dX8_runRate_9 : decode cX8_runRate 9 = .ok (.iload_n 1, 1) := by decide +kernel
theorem dX8_runRate_10 : decode cX8_runRate 10 = .ok (.invokevirtual 206, 3) := by decide +kernel
theorem dX8_runRate_13 : decode cX8_runRate 13 = .ok (.iconst 2, 1) := by decide +kernel
theorem dX8_runRate_14 : decode cX8_runRate 14 = .ok (.invokevirtual 210, 3) := by decide +kernel
theorem dX8_runRate_17 : decode cX8_runRate 17 = .ok (.istore_n 2, 1) := by decide +kernel
theorem dX8_runRate_18 : decode cX8_runRate 18 = .ok (.iload_n 2, 1) := by decide +kernel
theorem dX8_runRate_19 : decode cX8_runRate 19 = .ok (.ifCond .ne 14, 3) := by decide +kernel
theorem dX8_runRate_22 : decode cX8_runRate 22 = .ok (.new 268, 3) := by decide +kernel
theorem dX8_runRate_25 : decode cX8_runRate 25 = .ok (.dup, 1) := by decide +kernel
theorem dX8_runRate_26 : decode cX8_runRate 26 = .ok (.ldc_w 270, 3) := by decide +kernel
theorem dX8_runRate_29 : decode cX8_runRate 29 = .ok (.invokespecial 272, 3) := by decide +kernel
theorem dX8_runRate_32 : decode cX8_runRate 32 = .ok (.athrow, 1) := by decide +kernel
theorem dX8_runRate_33 : decode cX8_runRate 33 = .ok (.aload_n 0, 1) := by decide +kernel
theorem dX8_runRate_34 : decode cX8_runRate 34 = .ok (.getfield 10, 3) := by decide +kernel
theorem dX8_runRate_37 : decode cX8_runRate 37 = .ok (.iload_n 1, 1) := by decide +kernel
theorem dX8_runRate_38 : decode cX8_runRate 38 = .ok (.invokevirtual 206, 3) := by decide +kernel
theorem dX8_runRate_41 : decode cX8_runRate 41 = .ok (.iconst 0, 1) := by decide +kernel
theorem dX8_runRate_42 : decode cX8_runRate 42 = .ok (.invokevirtual 210, 3) := by decide +kernel
theorem dX8_runRate_45 : decode cX8_runRate 45 = .ok (.bipush 6, 2) := by decide +kernel
theorem dX8_runRate_47 : decode cX8_runRate 47 = .ok (.imul, 1) := by decide +kernel
theorem dX8_runRate_48 : decode cX8_runRate 48 = .ok (.i2d, 1) := by decide +kernel
theorem dX8_runRate_49 : decode cX8_runRate 49 = .ok (.iload_n 2, 1) := by decide +kernel
theorem dX8_runRate_50 : decode cX8_runRate 50 = .ok (.i2d, 1) := by decide +kernel
theorem dX8_runRate_51 : decode cX8_runRate 51 = .ok (.ddiv, 1) := by decide +kernel
theorem dX8_runRate_52 : decode cX8_runRate 52 = .ok (.dreturn, 1) := by decide +kernel
theorem dX8_strikeRate_0 : decode cX8_strikeRate 0 = .ok (.aload_n 0, 1) := by decide +kernel
theorem dX8_strikeRate_1 : decode cX8_strikeRate 1 = .ok (.iload_n 1, 1) := by decide +kernel
theorem dX8_strikeRate_2 : decode cX8_strikeRate 2 = .ok (.iload_n 2, 1) := by decide +kernel
theorem dX8_strikeRate_3 : decode cX8_strikeRate 3 = .ok (.invokevirtual 213, 3) := by decide +kernel
theorem dX8_strikeRate_6 : decode cX8_strikeRate 6 = .ok (.aload_n 0, 1) := by decide +kernel
theorem dX8_strikeRate_7 : decode cX8_strikeRate 7 = .ok (.getfield 10, 3) := by decide +kernel
theorem dX8_strikeRate_10 : decode cX8_strikeRate 10 = .ok (.iload_n 1, 1) := by decide +kernel
theorem dX8_strikeRate_11 : decode cX8_strikeRate 11 = .ok (.invokevirtual 206, 3) := by decide +kernel
theorem dX8_strikeRate_14 : decode cX8_strikeRate 14 = .ok (.getfield 217, 3) := by decide +kernel
theorem dX8_strikeRate_17 : decode cX8_strikeRate 17 = .ok (.astore_n 3, 1) := by decide +kernel
theorem dX8_strikeRate_18 : decode cX8_strikeRate 18 = .ok (.aload_n 3, 1) := by decide +kernel
theorem dX8_strikeRate_19 : decode cX8_strikeRate 19 = .ok (.iload_n 2, 1) := by decide +kernel
theorem dX8_strikeRate_20 : decode cX8_strikeRate 20 = .ok (.iconst 1, 1) := by decide +kernel
theorem dX8_strikeRate_21 : decode cX8_strikeRate 21 = .ok (.invokevirtual 221, 3) := by decide +kernel
theorem dX8_strikeRate_24 : decode cX8_strikeRate 24 = .ok (.istore 4, 2) := by decide +kernel
theorem dX8_strikeRate_26 : decode cX8_strikeRate 26 = .ok (.iload 4, 2) := by decide +kernel
theorem dX8_strikeRate_28 : decode cX8_strikeRate 28 = .ok (.ifCond .ne 14, 3) := by decide +kernel
theorem dX8_strikeRate_31 : decode cX8_strikeRate 31 = .ok (.new 268, 3) := by decide +kernel
theorem dX8_strikeRate_34 : decode cX8_strikeRate 34 = .ok (.dup, 1) := by decide +kernel
theorem dX8_strikeRate_35 : decode cX8_strikeRate 35 = .ok (.ldc_w 273, 3) := by decide +kernel
theorem dX8_strikeRate_38 : decode cX8_strikeRate 38 = .ok (.invokespecial 272, 3) := by decide +kernel
theorem dX8_strikeRate_41 : decode cX8_strikeRate 41 = .ok (.athrow, 1) := by decide +kernel
theorem dX8_strikeRate_42 : decode cX8_strikeRate 42 = .ok (.aload_n 3, 1) := by decide +kernel
theorem dX8_strikeRate_43 : decode cX8_strikeRate 43 = .ok (.iload_n 2, 1) := by decide +kernel
theorem dX8_strikeRate_44 : decode cX8_strikeRate 44 = .ok (.iconst 0, 1) := by decide +kernel
theorem dX8_strikeRate_45 : decode cX8_strikeRate 45 = .ok (.invokevirtual 221, 3) := by decide +kernel
theorem dX8_strikeRate_48 : decode cX8_strikeRate 48 = .ok (.bipush 100, 2) := by decide +kernel
theorem dX8_strikeRate_50 : decode cX8_strikeRate 50 = .ok (.imul, 1) := by decide +kernel
theorem dX8_strikeRate_51 : decode cX8_strikeRate 51 = .ok (.i2f, 1) := by decide +kernel
theorem dX8_strikeRate_52 : decode cX8_strikeRate 52 = .ok (.iload 4, 2) := by decide +kernel
theorem dX8_strikeRate_54 : decode cX8_strikeRate 54 = .ok (.i2f, 1) := by decide +kernel
theorem dX8_strikeRate_55 : decode cX8_strikeRate 55 = .ok (.fdiv, 1) := by decide +kernel
theorem dX8_strikeRate_56 : decode cX8_strikeRate 56 = .ok (.freturn, 1) := by decide +kernel
theorem dX8_storeOvers_0 : decode cX8_storeOvers 0 = .ok (.iload_n 1, 1) := by decide +kernel
theorem dX8_storeOvers_1 : decode cX8_storeOvers 1 = .ok (.invokestatic 275, 3) := by decide +kernel
theorem dX8_storeOvers_4 : decode cX8_storeOvers 4 = .ok (.aload_n 0, 1) := by decide +kernel
theorem dX8_storeOvers_5 : decode cX8_storeOvers 5 = .ok (.iload_n 2, 1) := by decide +kernel
theorem dX8_storeOvers_6 : decode cX8_storeOvers 6 = .ok (.invokevirtual 200, 3) := by decide +kernel
theorem dX8_storeOvers_9 : decode cX8_storeOvers 9 = .ok (.aload_n 0, 1) := by decide +kernel
theorem dX8_storeOvers_10 : decode cX8_storeOvers 10 = .ok (.iload_n 1, 1) := by decide +kernel
theorem dX8_storeOvers_11 : decode cX8_storeOvers 11 = .ok (.invokevirtual 278, 3) := by decide +kernel
theorem dX8_storeOvers_14 : decode cX8_storeOvers 14 = .ok (.aload_n 0, 1) := by decide +kernel
theorem dX8_storeOvers_15 : decode cX8_storeOvers 15 = .ok (.getfield 10, 3) := by decide +kernel
theorem dX8_storeOvers_18 : decode cX8_storeOvers 18 = .ok (.iload_n 2, 1) := by decide +kernel
theorem dX8_storeOvers_19 : decode cX8_storeOvers 19 = .ok (.invokevirtual 206, 3) := by decide +kernel
theorem dX8_storeOvers_22 : decode cX8_storeOvers 22 = .ok (.iload_n 3, 1) := by decide +kernel
theorem dX8_storeOvers_23 : decode cX8_storeOvers 23 = .ok (.invokevirtual 282, 3) := by decide +kernel
theorem dX8_storeOvers_26 : decode cX8_storeOvers 26 = .ok (.ireturn, 1) := by decide +kernel
theorem dX8_copyOvers_0 : decode cX8_copyOvers 0 = .ok (.iload_n 1, 1) := by decide +kernel
theorem dX8_copyOvers_1 : decode cX8_copyOvers 1 = .ok (.invokestatic 275, 3) := by decide +kernel
theorem dX8_copyOvers_4 : decode cX8_copyOvers 4 = .ok (.aload_n 0, 1) := by decide +kernel
theorem dX8_copyOvers_5 : decode cX8_copyOvers 5 = .ok (.iload_n 1, 1) := by decide +kernel
theorem dX8_copyOvers_6 : decode cX8_copyOvers 6 = .ok (.invokevirtual 278, 3) := by decide +kernel
theorem dX8_copyOvers_9 : decode cX8_copyOvers 9 = .ok (.astore_n 3, 1) := by decide +kernel
theorem dX8_copyOvers_10 : decode cX8_copyOvers 10 = .ok (.aload_n 0, 1) := by decide +kernel
theorem dX8_copyOvers_11 : decode cX8_copyOvers 11 = .ok (.iconst 1, 1) := by decide +kernel
theorem dX8_copyOvers_12 : decode cX8_copyOvers 12 = .ok (.iload_n 1, 1) := by decide +kernel
theorem dX8_copyOvers_13 : decode cX8_copyOvers 13 = .ok (.isub, 1) := by decide +kernel
theorem dX8_copyOvers_14 : decode cX8_copyOvers 14 = .ok (.invokevirtual 278, 3) := by decide +kernel
theorem dX8_copyOvers_17 : decode cX8_copyOvers 17 = .ok (.astore 4, 2) := by decide +kernel
theorem dX8_copyOvers_19 : decode cX8_copyOvers 19 = .ok (.aload_n 3, 1) := by decide +kernel
theorem dX8_copyOvers_20 : decode cX8_copyOvers 20 = .ok (.getfield 286, 3) := by decide +kernel
theorem dX8_copyOvers_23 : decode cX8_copyOvers 23 = .ok (.ifCond .eq 11, 3) := by decide +kernel
theorem dX8_copyOvers_26 : decode cX8_copyOvers 26 = .ok (.aload 4, 2) := by decide +kernel
theorem dX8_copyOvers_28 : decode cX8_copyOvers 28 = .ok (.getfield 286, 3) := by decide +kernel
theorem dX8_copyOvers_31 : decode cX8_copyOvers 31 = .ok (.ifCond .ne 14, 3) := by decide +kernel
theorem dX8_copyOvers_34 : decode cX8_copyOvers 34 = .ok (.new 185, 3) := by decide +kernel
theorem dX8_copyOvers_37 : decode cX8_copyOvers 37 = .ok (.dup, 1) := by decide +kernel
theorem dX8_copyOvers_38 : decode cX8_copyOvers 38 = .ok (.ldc_w 290, 3) := by decide +kernel
theorem dX8_copyOvers_41 : decode cX8_copyOvers 41 = .ok (.invokespecial 189, 3) := by decide +kernel
theorem dX8_copyOvers_44 : decode cX8_copyOvers 44 = .ok (.athrow, 1) := by decide +kernel
theorem dX8_copyOvers_45 : decode cX8_copyOvers 45 = .ok (.aload_n 3, 1) := by decide +kernel
theorem dX8_copyOvers_46 : decode cX8_copyOvers 46 = .ok (.getfield 292, 3) := by decide +kernel
theorem dX8_copyOvers_49 : decode cX8_copyOvers 49 = .ok (.aload 4, 2) := by decide +kernel
theorem dX8_copyOvers_51 : decode cX8_copyOvers 51 = .ok (.getfield 292, 3) := by decide +kernel
theorem dX8_copyOvers_54 : decode cX8_copyOvers 54 = .ok (.if_icmp .eq 14, 3) := by decide +kernel
theorem dX8_copyOvers_57 : decode cX8_copyOvers 57 = .ok (.new 155, 3) := by decide +kernel
theorem dX8_copyOvers_60 : decode cX8_copyOvers 60 = .ok (.dup, 1) := by decide +kernel
theorem dX8_copyOvers_61 : decode cX8_copyOvers 61 = .ok (.ldc_w 295, 3) := by decide +kernel
theorem dX8_copyOvers_64 : decode cX8_copyOvers 64 = .ok (.invokespecial 159, 3) := by decide +kernel
theorem dX8_copyOvers_67 : decode cX8_copyOvers 67 = .ok (.athrow, 1) := by decide +kernel
theorem dX8_copyOvers_68 : decode cX8_copyOvers 68 = .ok (.iload_n 2, 1) := by decide +kernel
theorem dX8_copyOvers_69 : decode cX8_copyOvers 69 = .ok (.ifCond .lt 20, 3) := by decide +kernel
theorem dX8_copyOvers_72 : decode cX8_copyOvers 72 = .ok (.iload_n 2, 1) := by decide +kernel
theorem dX8_copyOvers_73 : decode cX8_copyOvers 73 = .ok (.aload_n 3, 1) := by decide +kernel
theorem dX8_copyOvers_74 : decode cX8_copyOvers 74 = .ok (.getfield 297, 3) := by decide +kernel
theorem dX8_copyOvers_77 : decode cX8_copyOvers 77 = .ok (.if_icmp .gt 12, 3) := by decide +kernel
theorem dX8_copyOvers_80 : decode cX8_copyOvers 80 = .ok (.iload_n 2, 1) := by decide +kernel
theorem dX8_copyOvers_81 : decode cX8_copyOvers 81 = .ok (.aload 4, 2) := by decide +kernel
theorem dX8_copyOvers_83 : decode cX8_copyOvers 83 = .ok (.getfield 297, 3) := by decide +kernel
theorem dX8_copyOvers_86 : decode cX8_copyOvers 86 = .ok (.if_icmp .le 14, 3) := by decide +kernel
theorem dX8_copyOvers_89 : decode cX8_copyOvers 89 = .ok (.new 60, 3) := by decide +kernel
theorem dX8_copyOvers_92 : decode cX8_copyOvers 92 = .ok (.dup, 1) := by decide +kernel
theorem dX8_copyOvers_93 : decode cX8_copyOvers 93 = .ok (.ldc_w 300, 3) := by decide +kernel
theorem dX8_copyOvers_96 : decode cX8_copyOvers 96 = .ok (.invokespecial 64, 3) := by decide +kernel
theorem dX8_copyOvers_99 : decode cX8_copyOvers 99 = .ok (.athrow, 1) := by decide +kernel
theorem dX8_copyOvers_100 : decode cX8_copyOvers 100 = .ok (.aload 4, 2) := by decide +kernel
theorem dX8_copyOvers_102 : decode cX8_copyOvers 102 = .ok (.aload_n 3, 1) := by decide +kernel
theorem dX8_copyOvers_103 : decode cX8_copyOvers 103 = .ok (.iload_n 2, 1) := by decide +kernel
theorem dX8_copyOvers_104 : decode cX8_copyOvers 104 = .ok (.invokevirtual 302, 3) := by decide +kernel
theorem dX8_copyOvers_107 : decode cX8_copyOvers 107 = .ok (.ireturn, 1) := by decide +kernel
theorem dX8_storedOvers_0 : decode cX8_storedOvers 0 = .ok (.iload_n 1, 1) := by decide +kernel
theorem dX8_storedOvers_1 : decode cX8_storedOvers 1 = .ok (.invokestatic 275, 3) := by decide +kernel
theorem dX8_storedOvers_4 : decode cX8_storedOvers 4 = .ok (.aload_n 0, 1) := by decide +kernel
theorem dX8_storedOvers_5 : decode cX8_storedOvers 5 = .ok (.iload_n 1, 1) := by decide +kernel
theorem dX8_storedOvers_6 : decode cX8_storedOvers 6 = .ok (.invokevirtual 278, 3) := by decide +kernel
theorem dX8_storedOvers_9 : decode cX8_storedOvers 9 = .ok (.iload_n 2, 1) := by decide +kernel
theorem dX8_storedOvers_10 : decode cX8_storedOvers 10 = .ok (.invokevirtual 306, 3) := by decide +kernel
theorem dX8_storedOvers_13 : decode cX8_storedOvers 13 = .ok (.ifCond .ne 14, 3) := by decide +kernel
theorem dX8_storedOvers_16 : decode cX8_storedOvers 16 = .ok (.new 185, 3) := by decide +kernel
theorem dX8_storedOvers_19 : decode cX8_storedOvers 19 = .ok (.dup, 1) := by decide +kernel
theorem dX8_storedOvers_20 : decode cX8_storedOvers 20 = .ok (.ldc_w 309, 3) := by decide +kernel
theorem dX8_storedOvers_23 : decode cX8_storedOvers 23 = .ok (.invokespecial 189, 3) := by decide +kernel
theorem dX8_storedOvers_26 : decode cX8_storedOvers 26 = .ok (.athrow, 1) := by decide +kernel
theorem dX8_storedOvers_27 : decode cX8_storedOvers 27 = .ok (.aload_n 0, 1) := by decide +kernel
theorem dX8_storedOvers_28 : decode cX8_storedOvers 28 = .ok (.iload_n 1, 1) := by decide +kernel
theorem dX8_storedOvers_29 : decode cX8_storedOvers 29 = .ok (.invokevirtual 278, 3) := by decide +kernel
theorem dX8_storedOvers_32 : decode cX8_storedOvers 32 = .ok (.iload_n 2, 1) := by decide +kernel
theorem dX8_storedOvers_33 : decode cX8_storedOvers 33 = .ok (.invokevirtual 311, 3) := by decide +kernel
theorem dX8_storedOvers_36 : decode cX8_storedOvers 36 = .ok (.freturn, 1) := by decide +kernel
theorem dX8_reason_0 : decode cX8_reason 0 = .ok (.aload_n 0, 1) := by decide +kernel
theorem dX8_reason_1 : decode cX8_reason 1 = .ok (.getfield 53, 3) := by decide +kernel
theorem dX8_reason_4 : decode cX8_reason 4 = .ok (.ireturn, 1) := by decide +kernel
theorem dX8_commandCount_0 : decode cX8_commandCount 0 = .ok (.aload_n 0, 1) := by decide +kernel
theorem dX8_commandCount_1 : decode cX8_commandCount 1 = .ok (.getfield 22, 3) := by decide +kernel
theorem dX8_commandCount_4 : decode cX8_commandCount 4 = .ok (.getfield 314, 3) := by decide +kernel
theorem dX8_commandCount_7 : decode cX8_commandCount 7 = .ok (.ireturn, 1) := by decide +kernel
theorem dX8_undo_0 : decode cX8_undo 0 = .ok (.aload_n 0, 1) := by decide +kernel
theorem dX8_undo_1 : decode cX8_undo 1 = .ok (.getfield 22, 3) := by decide +kernel
theorem dX8_undo_4 : decode cX8_undo 4 = .ok (.getfield 317, 3) := by decide +kernel
theorem dX8_undo_7 : decode cX8_undo 7 = .ok (.ifCond .ne 20, 3) := by decide +kernel
theorem dX8_undo_10 : decode cX8_undo 10 = .ok (.aload_n 0, 1) := by decide +kernel
theorem dX8_undo_11 : decode cX8_undo 11 = .ok (.bipush 7, 2) := by decide +kernel
theorem dX8_undo_13 : decode cX8_undo 13 = .ok (.putfield 53, 3) := by decide +kernel
theorem dX8_undo_16 : decode cX8_undo 16 = .ok (.new 131, 3) := by decide +kernel
theorem dX8_undo_19 : decode cX8_undo 19 = .ok (.dup, 1) := by decide +kernel
theorem dX8_undo_20 : decode cX8_undo 20 = .ok (.ldc_w 320, 3) := by decide +kernel
theorem dX8_undo_23 : decode cX8_undo 23 = .ok (.invokespecial 135, 3) := by decide +kernel
theorem dX8_undo_26 : decode cX8_undo 26 = .ok (.athrow, 1) := by decide +kernel
theorem dX8_undo_27 : decode cX8_undo 27 = .ok (.aload_n 0, 1) := by decide +kernel
theorem dX8_undo_28 : decode cX8_undo 28 = .ok (.getfield 22, 3) := by decide +kernel
theorem dX8_undo_31 : decode cX8_undo 31 = .ok (.invokevirtual 322, 3) := by decide +kernel
theorem dX8_undo_34 : decode cX8_undo 34 = .ok (.aload_n 0, 1) := by decide +kernel
theorem dX8_undo_35 : decode cX8_undo 35 = .ok (.getfield 10, 3) := by decide +kernel
theorem dX8_undo_38 : decode cX8_undo 38 = .ok (.aload_n 0, 1) := by decide +kernel
theorem dX8_undo_39 : decode cX8_undo 39 = .ok (.getfield 22, 3) := by decide +kernel
theorem dX8_undo_42 : decode cX8_undo 42 = .ok (.invokevirtual 71, 3) := by decide +kernel
theorem dX8_undo_45 : decode cX8_undo 45 = .ok (.aload_n 0, 1) := by decide +kernel
theorem dX8_undo_46 : decode cX8_undo 46 = .ok (.getfield 22, 3) := by decide +kernel
theorem dX8_undo_49 : decode cX8_undo 49 = .ok (.getfield 317, 3) := by decide +kernel
theorem dX8_undo_52 : decode cX8_undo 52 = .ok (.ireturn, 1) := by decide +kernel
theorem dX8_isReplayed_0 : decode cX8_isReplayed 0 = .ok (.aload_n 0, 1) := by decide +kernel
theorem dX8_isReplayed_1 : decode cX8_isReplayed 1 = .ok (.invokevirtual 194, 3) := by decide +kernel
theorem dX8_isReplayed_4 : decode cX8_isReplayed 4 = .ok (.aload_n 0, 1) := by decide +kernel
theorem dX8_isReplayed_5 : decode cX8_isReplayed 5 = .ok (.getfield 16, 3) := by decide +kernel
theorem dX8_isReplayed_8 : decode cX8_isReplayed 8 = .ok (.aload_n 0, 1) := by decide +kernel
theorem dX8_isReplayed_9 : decode cX8_isReplayed 9 = .ok (.getfield 22, 3) := by decide +kernel
theorem dX8_isReplayed_12 : decode cX8_isReplayed 12 = .ok (.invokevirtual 71, 3) := by decide +kernel
theorem dX8_isReplayed_15 : decode cX8_isReplayed 15 = .ok (.aload_n 0, 1) := by decide +kernel
theorem dX8_isReplayed_16 : decode cX8_isReplayed 16 = .ok (.getfield 16, 3) := by decide +kernel
theorem dX8_isReplayed_19 : decode cX8_isReplayed 19 = .ok (.aload_n 0, 1) := by decide +kernel
theorem dX8_isReplayed_20 : decode cX8_isReplayed 20 = .ok (.getfield 10, 3) := by decide +kernel
theorem dX8_isReplayed_23 : decode cX8_isReplayed 23 = .ok (.invokevirtual 325, 3) := by decide +kernel
theorem dX8_isReplayed_26 : decode cX8_isReplayed 26 = .ok (.ireturn, 1) := by decide +kernel
theorem dX8_snapshot_0 : decode cX8_snapshot 0 = .ok (.aload_n 0, 1) := by decide +kernel
theorem dX8_snapshot_1 : decode cX8_snapshot 1 = .ok (.invokevirtual 194, 3) := by decide +kernel
theorem dX8_snapshot_4 : decode cX8_snapshot 4 = .ok (.aload_n 0, 1) := by decide +kernel
theorem dX8_snapshot_5 : decode cX8_snapshot 5 = .ok (.getfield 26, 3) := by decide +kernel
theorem dX8_snapshot_8 : decode cX8_snapshot 8 = .ok (.aload_n 0, 1) := by decide +kernel
theorem dX8_snapshot_9 : decode cX8_snapshot 9 = .ok (.getfield 22, 3) := by decide +kernel
theorem dX8_snapshot_12 : decode cX8_snapshot 12 = .ok (.invokevirtual 329, 3) := by decide +kernel
theorem dX8_snapshot_15 : decode cX8_snapshot 15 = .ok (.aload_n 0, 1) := by decide +kernel
theorem dX8_snapshot_16 : decode cX8_snapshot 16 = .ok (.getfield 26, 3) := by decide +kernel
theorem dX8_snapshot_19 : decode cX8_snapshot 19 = .ok (.getfield 314, 3) := by decide +kernel
theorem dX8_snapshot_22 : decode cX8_snapshot 22 = .ok (.ireturn, 1) := by decide +kernel
theorem dX8_restore_0 : decode cX8_restore 0 = .ok (.aload_n 0, 1) := by decide +kernel
theorem dX8_restore_1 : decode cX8_restore 1 = .ok (.getfield 26, 3) := by decide +kernel
theorem dX8_restore_4 : decode cX8_restore 4 = .ok (.invokevirtual 332, 3) := by decide +kernel
theorem dX8_restore_7 : decode cX8_restore 7 = .ok (.ifCond .ne 20, 3) := by decide +kernel
theorem dX8_restore_10 : decode cX8_restore 10 = .ok (.aload_n 0, 1) := by decide +kernel
theorem dX8_restore_11 : decode cX8_restore 11 = .ok (.bipush 7, 2) := by decide +kernel
theorem dX8_restore_13 : decode cX8_restore 13 = .ok (.putfield 53, 3) := by decide +kernel
theorem dX8_restore_16 : decode cX8_restore 16 = .ok (.new 131, 3) := by decide +kernel
theorem dX8_restore_19 : decode cX8_restore 19 = .ok (.dup, 1) := by decide +kernel
theorem dX8_restore_20 : decode cX8_restore 20 = .ok (.ldc_w 335, 3) := by decide +kernel
theorem dX8_restore_23 : decode cX8_restore 23 = .ok (.invokespecial 135, 3) := by decide +kernel
theorem dX8_restore_26 : decode cX8_restore 26 = .ok (.athrow, 1) := by decide +kernel
theorem dX8_restore_27 : decode cX8_restore 27 = .ok (.aload_n 0, 1) := by decide +kernel
theorem dX8_restore_28 : decode cX8_restore 28 = .ok (.getfield 22, 3) := by decide +kernel
theorem dX8_restore_31 : decode cX8_restore 31 = .ok (.aload_n 0, 1) := by decide +kernel
theorem dX8_restore_32 : decode cX8_restore 32 = .ok (.getfield 26, 3) := by decide +kernel
theorem dX8_restore_35 : decode cX8_restore 35 = .ok (.invokevirtual 329, 3) := by decide +kernel
theorem dX8_restore_38 : decode cX8_restore 38 = .ok (.aload_n 0, 1) := by decide +kernel
theorem dX8_restore_39 : decode cX8_restore 39 = .ok (.getfield 10, 3) := by decide +kernel
theorem dX8_restore_42 : decode cX8_restore 42 = .ok (.aload_n 0, 1) := by decide +kernel
theorem dX8_restore_43 : decode cX8_restore 43 = .ok (.getfield 22, 3) := by decide +kernel
theorem dX8_restore_46 : decode cX8_restore 46 = .ok (.invokevirtual 71, 3) := by decide +kernel
theorem dX8_restore_49 : decode cX8_restore 49 = .ok (.aload_n 0, 1) := by decide +kernel
theorem dX8_restore_50 : decode cX8_restore 50 = .ok (.getfield 22, 3) := by decide +kernel
theorem dX8_restore_53 : decode cX8_restore 53 = .ok (.getfield 314, 3) := by decide +kernel
theorem dX8_restore_56 : decode cX8_restore 56 = .ok (.ireturn, 1) := by decide +kernel
theorem dX8_demandMatch_0 : decode cX8_demandMatch 0 = .ok (.aload_n 0, 1) := by decide +kernel
theorem dX8_demandMatch_1 : decode cX8_demandMatch 1 = .ok (.getfield 22, 3) := by decide +kernel
theorem dX8_demandMatch_4 : decode cX8_demandMatch 4 = .ok (.invokevirtual 332, 3) := by decide +kernel
theorem dX8_demandMatch_7 : decode cX8_demandMatch 7 = .ok (.ifCond .ne 19, 3) := by decide +kernel
theorem dX8_demandMatch_10 : decode cX8_demandMatch 10 = .ok (.aload_n 0, 1) := by decide +kernel
theorem dX8_demandMatch_11 : decode cX8_demandMatch 11 = .ok (.iconst 1, 1) := by decide +kernel
theorem dX8_demandMatch_12 : decode cX8_demandMatch 12 = .ok (.putfield 53, 3) := by decide +kernel
theorem dX8_demandMatch_15 : decode cX8_demandMatch 15 = .ok (.new 131, 3) := by decide +kernel
theorem dX8_demandMatch_18 : decode cX8_demandMatch 18 = .ok (.dup, 1) := by decide +kernel
theorem dX8_demandMatch_19 : decode cX8_demandMatch 19 = .ok (.ldc_w 337, 3) := by decide +kernel
theorem dX8_demandMatch_22 : decode cX8_demandMatch 22 = .ok (.invokespecial 135, 3) := by decide +kernel
theorem dX8_demandMatch_25 : decode cX8_demandMatch 25 = .ok (.athrow, 1) := by decide +kernel
theorem dX8_demandMatch_26 : decode cX8_demandMatch 26 = .ok (.return_, 1) := by decide +kernel
theorem dX8_demandInnings_0 : decode cX8_demandInnings 0 = .ok (.aload_n 0, 1) := by decide +kernel
theorem dX8_demandInnings_1 : decode cX8_demandInnings 1 = .ok (.getfield 10, 3) := by decide +kernel
theorem dX8_demandInnings_4 : decode cX8_demandInnings 4 = .ok (.iload_n 1, 1) := by decide +kernel
theorem dX8_demandInnings_5 : decode cX8_demandInnings 5 = .ok (.invokevirtual 339, 3) := by decide +kernel
theorem dX8_demandInnings_8 : decode cX8_demandInnings 8 = .ok (.ifCond .ne 14, 3) := by decide +kernel
theorem dX8_demandInnings_11 : decode cX8_demandInnings 11 = .ok (.new 85, 3) := by decide +kernel
theorem dX8_demandInnings_14 : decode cX8_demandInnings 14 = .ok (.dup, 1) := by decide +kernel
theorem dX8_demandInnings_15 : decode cX8_demandInnings 15 = .ok (.ldc_w 342, 3) := by decide +kernel
theorem dX8_demandInnings_18 : decode cX8_demandInnings 18 = .ok (.invokespecial 89, 3) := by decide +kernel
theorem dX8_demandInnings_21 : decode cX8_demandInnings 21 = .ok (.athrow, 1) := by decide +kernel
theorem dX8_demandInnings_22 : decode cX8_demandInnings 22 = .ok (.return_, 1) := by decide +kernel
theorem dX8_demandPlayer_0 : decode cX8_demandPlayer 0 = .ok (.aload_n 0, 1) := by decide +kernel
theorem dX8_demandPlayer_1 : decode cX8_demandPlayer 1 = .ok (.getfield 10, 3) := by decide +kernel
theorem dX8_demandPlayer_4 : decode cX8_demandPlayer 4 = .ok (.iload_n 1, 1) := by decide +kernel
theorem dX8_demandPlayer_5 : decode cX8_demandPlayer 5 = .ok (.invokevirtual 339, 3) := by decide +kernel
theorem dX8_demandPlayer_8 : decode cX8_demandPlayer 8 = .ok (.ifCond .eq 10, 3) := by decide +kernel
theorem dX8_demandPlayer_11 : decode cX8_demandPlayer 11 = .ok (.iload_n 2, 1) := by decide +kernel
theorem dX8_demandPlayer_12 : decode cX8_demandPlayer 12 = .ok (.invokestatic 81, 3) := by decide +kernel
theorem dX8_demandPlayer_15 : decode cX8_demandPlayer 15 = .ok (.ifCond .ne 14, 3) := by decide +kernel
theorem dX8_demandPlayer_18 : decode cX8_demandPlayer 18 = .ok (.new 85, 3) := by decide +kernel
theorem dX8_demandPlayer_21 : decode cX8_demandPlayer 21 = .ok (.dup, 1) := by decide +kernel
theorem dX8_demandPlayer_22 : decode cX8_demandPlayer 22 = .ok (.ldc_w 344, 3) := by decide +kernel
theorem dX8_demandPlayer_25 : decode cX8_demandPlayer 25 = .ok (.invokespecial 89, 3) := by decide +kernel
theorem dX8_demandPlayer_28 : decode cX8_demandPlayer 28 = .ok (.athrow, 1) := by decide +kernel
theorem dX8_demandPlayer_29 : decode cX8_demandPlayer 29 = .ok (.return_, 1) := by decide +kernel
theorem dX8_demandRow_0 : decode cX8_demandRow 0 = .ok (.iload_n 0, 1) := by decide +kernel
theorem dX8_demandRow_1 : decode cX8_demandRow 1 = .ok (.iconst 0, 1) := by decide +kernel
theorem dX8_demandRow_2 : decode cX8_demandRow 2 = .ok (.iconst 1, 1) := by decide +kernel
theorem dX8_demandRow_3 : decode cX8_demandRow 3 = .ok (.invokestatic 56, 3) := by decide +kernel
theorem dX8_demandRow_6 : decode cX8_demandRow 6 = .ok (.ifCond .ne 14, 3) := by decide +kernel
theorem dX8_demandRow_9 : decode cX8_demandRow 9 = .ok (.new 85, 3) := by decide +kernel
theorem dX8_demandRow_12 : decode cX8_demandRow 12 = .ok (.dup, 1) := by decide +kernel
theorem dX8_demandRow_13 : decode cX8_demandRow 13 = .ok (.ldc_w 346, 3) := by decide +kernel
theorem dX8_demandRow_16 : decode cX8_demandRow 16 = .ok (.invokespecial 89, 3) := by decide +kernel
theorem dX8_demandRow_19 : decode cX8_demandRow 19 = .ok (.athrow, 1) := by decide +kernel
theorem dX8_demandRow_20 : decode cX8_demandRow 20 = .ok (.return_, 1) := by decide +kernel
theorem dX8_rowAt_0 : decode cX8_rowAt 0 = .ok (.iload_n 1, 1) := by decide +kernel
theorem dX8_rowAt_1 : decode cX8_rowAt 1 = .ok (.ifCond .ne 10, 3) := by decide +kernel
theorem dX8_rowAt_4 : decode cX8_rowAt 4 = .ok (.aload_n 0, 1) := by decide +kernel
theorem dX8_rowAt_5 : decode cX8_rowAt 5 = .ok (.getfield 39, 3) := by decide +kernel
theorem dX8_rowAt_8 : decode cX8_rowAt 8 = .ok (.goto 7, 3) := by decide +kernel
theorem dX8_rowAt_11 : decode cX8_rowAt 11 = .ok (.aload_n 0, 1) := by decide +kernel
theorem dX8_rowAt_12 : decode cX8_rowAt 12 = .ok (.getfield 43, 3) := by decide +kernel
theorem dX8_rowAt_15 : decode cX8_rowAt 15 = .ok (.areturn, 1) := by decide +kernel
theorem dX8_isWithin_0 : decode cX8_isWithin 0 = .ok (.iload_n 1, 1) := by decide +kernel
theorem dX8_isWithin_1 : decode cX8_isWithin 1 = .ok (.iload_n 0, 1) := by decide +kernel
theorem dX8_isWithin_2 : decode cX8_isWithin 2 = .ok (.if_icmp .gt 12, 3) := by decide +kernel
theorem dX8_isWithin_5 : decode cX8_isWithin 5 = .ok (.iload_n 0, 1) := by decide +kernel
theorem dX8_isWithin_6 : decode cX8_isWithin 6 = .ok (.iload_n 2, 1) := by decide +kernel
theorem dX8_isWithin_7 : decode cX8_isWithin 7 = .ok (.if_icmp .gt 7, 3) := by decide +kernel
theorem dX8_isWithin_10 : decode cX8_isWithin 10 = .ok (.iconst 1, 1) := by decide +kernel
theorem dX8_isWithin_11 : decode cX8_isWithin 11 = .ok (.goto 4, 3) := by decide +kernel
theorem dX8_isWithin_14 : decode cX8_isWithin 14 = .ok (.iconst 0, 1) := by decide +kernel
theorem dX8_isWithin_15 : decode cX8_isWithin 15 = .ok (.ireturn, 1) := by decide +kernel
theorem dX8_isPlayer_0 : decode cX8_isPlayer 0 = .ok (.iload_n 0, 1) := by decide +kernel
theorem dX8_isPlayer_1 : decode cX8_isPlayer 1 = .ok (.iconst 0, 1) := by decide +kernel
theorem dX8_isPlayer_2 : decode cX8_isPlayer 2 = .ok (.bipush 10, 2) := by decide +kernel
theorem dX8_isPlayer_4 : decode cX8_isPlayer 4 = .ok (.invokestatic 56, 3) := by decide +kernel
theorem dX8_isPlayer_7 : decode cX8_isPlayer 7 = .ok (.ireturn, 1) := by decide +kernel
theorem dX8_leastRuns_0 : decode cX8_leastRuns 0 = .ok (.iload_n 0, 1) := by decide +kernel
theorem dX8_leastRuns_1 : decode cX8_leastRuns 1 = .ok (.iconst 3, 1) := by decide +kernel
theorem dX8_leastRuns_2 : decode cX8_leastRuns 2 = .ok (.if_icmp .eq 8, 3) := by decide +kernel
theorem dX8_leastRuns_5 : decode cX8_leastRuns 5 = .ok (.iload_n 0, 1) := by decide +kernel
theorem dX8_leastRuns_6 : decode cX8_leastRuns 6 = .ok (.iconst 4, 1) := by decide +kernel
theorem dX8_leastRuns_7 : decode cX8_leastRuns 7 = .ok (.if_icmp .ne 7, 3) := by decide +kernel
theorem dX8_leastRuns_10 : decode cX8_leastRuns 10 = .ok (.iconst 1, 1) := by decide +kernel
theorem dX8_leastRuns_11 : decode cX8_leastRuns 11 = .ok (.goto 4, 3) := by decide +kernel
theorem dX8_leastRuns_14 : decode cX8_leastRuns 14 = .ok (.iconst 0, 1) := by decide +kernel
theorem dX8_leastRuns_15 : decode cX8_leastRuns 15 = .ok (.ireturn, 1) := by decide +kernel
theorem dX8_mostRuns_0 : decode cX8_mostRuns 0 = .ok (.iload_n 0, 1) := by decide +kernel
theorem dX8_mostRuns_1 : decode cX8_mostRuns 1 = .ok (.ifCond .eq 8, 3) := by decide +kernel
theorem dX8_mostRuns_4 : decode cX8_mostRuns 4 = .ok (.iload_n 0, 1) := by decide +kernel
theorem dX8_mostRuns_5 : decode cX8_mostRuns 5 = .ok (.iconst 2, 1) := by decide +kernel
theorem dX8_mostRuns_6 : decode cX8_mostRuns 6 = .ok (.if_icmp .ne 8, 3) := by decide +kernel
theorem dX8_mostRuns_9 : decode cX8_mostRuns 9 = .ok (.bipush 6, 2) := by decide +kernel
theorem dX8_mostRuns_11 : decode cX8_mostRuns 11 = .ok (.goto 4, 3) := by decide +kernel
theorem dX8_mostRuns_14 : decode cX8_mostRuns 14 = .ok (.iconst 4, 1) := by decide +kernel
theorem dX8_mostRuns_15 : decode cX8_mostRuns 15 = .ok (.ireturn, 1) := by decide +kernel
theorem dX8_canBeBoundary_0 : decode cX8_canBeBoundary 0 = .ok (.iload_n 0, 1) := by decide +kernel
theorem dX8_canBeBoundary_1 : decode cX8_canBeBoundary 1 = .ok (.ifCond .eq 8, 3) := by decide +kernel
theorem dX8_canBeBoundary_4 : decode cX8_canBeBoundary 4 = .ok (.iload_n 0, 1) := by decide +kernel
theorem dX8_canBeBoundary_5 : decode cX8_canBeBoundary 5 = .ok (.iconst 2, 1) := by decide +kernel
theorem dX8_canBeBoundary_6 : decode cX8_canBeBoundary 6 = .ok (.if_icmp .ne 18, 3) := by decide +kernel
theorem dX8_canBeBoundary_9 : decode cX8_canBeBoundary 9 = .ok (.iload_n 1, 1) := by decide +kernel
theorem dX8_canBeBoundary_10 : decode cX8_canBeBoundary 10 = .ok (.iconst 4, 1) := by decide +kernel
theorem dX8_canBeBoundary_11 : decode cX8_canBeBoundary 11 = .ok (.if_icmp .eq 9, 3) := by decide +kernel
theorem dX8_canBeBoundary_14 : decode cX8_canBeBoundary 14 = .ok (.iload_n 1, 1) := by decide +kernel
theorem dX8_canBeBoundary_15 : decode cX8_canBeBoundary 15 = .ok (.bipush 6, 2) := by decide +kernel
theorem dX8_canBeBoundary_17 : decode cX8_canBeBoundary 17 = .ok (.if_icmp .ne 7, 3) := by decide +kernel
theorem dX8_canBeBoundary_20 : decode cX8_canBeBoundary 20 = .ok (.iconst 1, 1) := by decide +kernel
theorem dX8_canBeBoundary_21 : decode cX8_canBeBoundary 21 = .ok (.goto 4, 3) := by decide +kernel
theorem dX8_canBeBoundary_24 : decode cX8_canBeBoundary 24 = .ok (.iconst 0, 1) := by decide +kernel
theorem dX8_canBeBoundary_25 : decode cX8_canBeBoundary 25 = .ok (.ireturn, 1) := by decide +kernel
