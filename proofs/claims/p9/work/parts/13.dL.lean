theorem dL_begin_0 : decode cL_begin 0 = .ok (.aload 4, 2) := by decide +kernel
theorem dL_begin_2 : decode cL_begin 2 = .ok (.iconst 0, 1) := by decide +kernel
theorem dL_begin_3 : decode cL_begin 3 = .ok (.aload_n 0, 1) := by decide +kernel
theorem dL_begin_4 : decode cL_begin 4 = .ok (.iload_n 1, 1) := by decide +kernel
theorem dL_begin_5 : decode cL_begin 5 = .ok (.iload_n 2, 1) := by decide +kernel
theorem dL_begin_6 : decode cL_begin 6 = .ok (.iload_n 3, 1) := by decide +kernel
theorem dL_begin_7 : decode cL_begin 7 = .ok (.invokevirtual 7, 3) := by decide +kernel
theorem dL_begin_10 : decode cL_begin 10 = .ok (.i2l, 1) := by decide +kernel
theorem dL_begin_11 : decode cL_begin 11 = .ok (.lastore, 1) := by decide +kernel
theorem dL_begin_12 : decode cL_begin 12 = .ok (.goto 7, 3) := by decide +kernel
theorem dL_begin_15 : decode cL_begin 15 = .ok (.astore 5, 2) := by decide +kernel
theorem dL_begin_17 : decode cL_begin 17 = .ok (.iconst 1, 1) := by decide +kernel
theorem dL_begin_18 : decode cL_begin 18 = .ok (.ireturn, 1) := by decide +kernel
theorem dL_begin_19 : decode cL_begin 19 = .ok (.iconst 0, 1) := by decide +kernel
theorem dL_begin_20 : decode cL_begin 20 = .ok (.ireturn, 1) := by decide +kernel
theorem dL_bowl_0 : decode cL_bowl 0 = .ok (.aload_n 2, 1) := by decide +kernel
theorem dL_bowl_1 : decode cL_bowl 1 = .ok (.iconst 0, 1) := by decide +kernel
theorem dL_bowl_2 : decode cL_bowl 2 = .ok (.aload_n 0, 1) := by decide +kernel
theorem dL_bowl_3 : decode cL_bowl 3 = .ok (.iload_n 1, 1) := by decide +kernel
theorem dL_bowl_4 : decode cL_bowl 4 = .ok (.invokevirtual 15, 3) := by decide +kernel
theorem dL_bowl_7 : decode cL_bowl 7 = .ok (.i2l, 1) := by decide +kernel
theorem dL_bowl_8 : decode cL_bowl 8 = .ok (.lastore, 1) := by decide +kernel
theorem dL_bowl_9 : decode cL_bowl 9 = .ok (.goto 9, 3) := by decide +kernel
theorem dL_bowl_12 : decode cL_bowl 12 = .ok (.astore_n 3, 1) := by decide +kernel
theorem dL_bowl_13 : decode cL_bowl 13 = .ok (.iconst 1, 1) := by decide +kernel
theorem dL_bowl_14 : decode cL_bowl 14 = .ok (.ireturn, 1) := by decide +kernel
theorem dL_bowl_15 : decode cL_bowl 15 = .ok (.astore_n 3, 1) := by decide +kernel
theorem dL_bowl_16 : decode cL_bowl 16 = .ok (.iconst 2, 1) := by decide +kernel
theorem dL_bowl_17 : decode cL_bowl 17 = .ok (.ireturn, 1) := by decide +kernel
theorem dL_bowl_18 : decode cL_bowl 18 = .ok (.iconst 0, 1) := by decide +kernel
theorem dL_bowl_19 : decode cL_bowl 19 = .ok (.ireturn, 1) := by decide +kernel
theorem dL_ball_0 : decode cL_ball 0 = .ok (.aload 4, 2) := by decide +kernel
theorem dL_ball_2 : decode cL_ball 2 = .ok (.iconst 0, 1) := by decide +kernel
theorem dL_ball_3 : decode cL_ball 3 = .ok (.aload_n 0, 1) := by decide +kernel
theorem dL_ball_4 : decode cL_ball 4 = .ok (.iload_n 1, 1) := by decide +kernel
theorem dL_ball_5 : decode cL_ball 5 = .ok (.iload_n 2, 1) := by decide +kernel
theorem dL_ball_6 : decode cL_ball 6 = .ok (.iload_n 3, 1) := by decide +kernel
theorem dL_ball_7 : decode cL_ball 7 = .ok (.invokevirtual 23, 3) := by decide +kernel
theorem dL_ball_10 : decode cL_ball 10 = .ok (.i2l, 1) := by decide +kernel
theorem dL_ball_11 : decode cL_ball 11 = .ok (.lastore, 1) := by decide +kernel
theorem dL_ball_12 : decode cL_ball 12 = .ok (.goto 11, 3) := by decide +kernel
theorem dL_ball_15 : decode cL_ball 15 = .ok (.astore 5, 2) := by decide +kernel
theorem dL_ball_17 : decode cL_ball 17 = .ok (.iconst 1, 1) := by decide +kernel
theorem dL_ball_18 : decode cL_ball 18 = .ok (.ireturn, 1) := by decide +kernel
theorem dL_ball_19 : decode cL_ball 19 = .ok (.astore 5, 2) := by decide +kernel
theorem dL_ball_21 : decode cL_ball 21 = .ok (.iconst 2, 1) := by decide +kernel
theorem dL_ball_22 : decode cL_ball 22 = .ok (.ireturn, 1) := by decide +kernel
theorem dL_ball_23 : decode cL_ball 23 = .ok (.iconst 0, 1) := by decide +kernel
theorem dL_ball_24 : decode cL_ball 24 = .ok (.ireturn, 1) := by decide +kernel
theorem dL_wicket_0 : decode cL_wicket 0 = .ok (.aload 6, 2) := by decide +kernel
theorem dL_wicket_2 : decode cL_wicket 2 = .ok (.iconst 0, 1) := by decide +kernel
theorem dL_wicket_3 : decode cL_wicket 3 = .ok (.aload_n 0, 1) := by decide +kernel
theorem dL_wicket_4 : decode cL_wicket 4 = .ok (.iload_n 1, 1) := by decide +kernel
theorem dL_wicket_5 : decode cL_wicket 5 = .ok (.iload_n 2, 1) := by decide +kernel
theorem dL_wicket_6 : decode cL_wicket 6 = .ok (.iload_n 3, 1) := by decide +kernel
theorem dL_wicket_7 : decode cL_wicket 7 = .ok (.iload 4, 2) := by decide +kernel
theorem dL_wicket_9 : decode cL_wicket 9 = .ok (.iload 5, 2) := by decide +kernel
theorem dL_wicket_11 : decode cL_wicket 11 = .ok (.invokevirtual 27, 3) := by decide +kernel
theorem dL_wicket_14 : decode cL_wicket 14 = .ok (.i2l, 1) := by decide +kernel
theorem dL_wicket_15 : decode cL_wicket 15 = .ok (.lastore, 1) := by decide +kernel
theorem dL_wicket_16 : decode cL_wicket 16 = .ok (.goto 11, 3) := by decide +kernel
theorem dL_wicket_19 : decode cL_wicket 19 = .ok (.astore 7, 2) := by decide +kernel
theorem dL_wicket_21 : decode cL_wicket 21 = .ok (.iconst 1, 1) := by decide +kernel
theorem dL_wicket_22 : decode cL_wicket 22 = .ok (.ireturn, 1) := by decide +kernel
theorem dL_wicket_23 : decode cL_wicket 23 = .ok (.astore 7, 2) := by decide +kernel
theorem dL_wicket_25 : decode cL_wicket 25 = .ok (.iconst 2, 1) := by decide +kernel
theorem dL_wicket_26 : decode cL_wicket 26 = .ok (.ireturn, 1) := by decide +kernel
theorem dL_wicket_27 : decode cL_wicket 27 = .ok (.iconst 0, 1) := by decide +kernel
theorem dL_wicket_28 : decode cL_wicket 28 = .ok (.ireturn, 1) := by decide +kernel
theorem dL_retire_0 : decode cL_retire 0 = .ok (.aload_n 3, 1) := by decide +kernel
theorem dL_retire_1 : decode cL_retire 1 = .ok (.iconst 0, 1) := by decide +kernel
theorem dL_retire_2 : decode cL_retire 2 = .ok (.aload_n 0, 1) := by decide +kernel
theorem dL_retire_3 : decode cL_retire 3 = .ok (.iload_n 1, 1) := by decide +kernel
theorem dL_retire_4 : decode cL_retire 4 = .ok (.iload_n 2, 1) := by decide +kernel
theorem dL_retire_5 : decode cL_retire 5 = .ok (.invokevirtual 31, 3) := by decide +kernel
theorem dL_retire_8 : decode cL_retire 8 = .ok (.i2l, 1) := by decide +kernel
theorem dL_retire_9 : decode cL_retire 9 = .ok (.lastore, 1) := by decide +kernel
theorem dL_retire_10 : decode cL_retire 10 = .ok (.goto 7, 3) := by decide +kernel
theorem dL_retire_13 : decode cL_retire 13 = .ok (.astore 4, 2) := by decide +kernel
theorem dL_retire_15 : decode cL_retire 15 = .ok (.iconst 1, 1) := by decide +kernel
theorem dL_retire_16 : decode cL_retire 16 = .ok (.ireturn, 1) := by decide +kernel
theorem dL_retire_17 : decode cL_retire 17 = .ok (.iconst 0, 1) := by decide +kernel
theorem dL_retire_18 : decode cL_retire 18 = .ok (.ireturn, 1) := by decide +kernel
theorem dL_choose_0 : decode cL_choose 0 = .ok (.aload_n 2, 1) := by decide +kernel
theorem dL_choose_1 : decode cL_choose 1 = .ok (.iconst 0, 1) := by decide +kernel
theorem dL_choose_2 : decode cL_choose 2 = .ok (.aload_n 0, 1) := by decide +kernel
theorem dL_choose_3 : decode cL_choose 3 = .ok (.iload_n 1, 1) := by decide +kernel
theorem dL_choose_4 : decode cL_choose 4 = .ok (.invokevirtual 35, 3) := by decide +kernel
theorem dL_choose_7 : decode cL_choose 7 = .ok (.i2l, 1) := by decide +kernel
theorem dL_choose_8 : decode cL_choose 8 = .ok (.lastore, 1) := by decide +kernel
theorem dL_choose_9 : decode cL_choose 9 = .ok (.goto 9, 3) := by decide +kernel
theorem dL_choose_12 : decode cL_choose 12 = .ok (.astore_n 3, 1) := by decide +kernel
theorem dL_choose_13 : decode cL_choose 13 = .ok (.iconst 1, 1) := by decide +kernel
theorem dL_choose_14 : decode cL_choose 14 = .ok (.ireturn, 1) := by decide +kernel
theorem dL_choose_15 : decode cL_choose 15 = .ok (.astore_n 3, 1) := by decide +kernel
theorem dL_choose_16 : decode cL_choose 16 = .ok (.iconst 2, 1) := by decide +kernel
theorem dL_choose_17 : decode cL_choose 17 = .ok (.ireturn, 1) := by decide +kernel
theorem dL_choose_18 : decode cL_choose 18 = .ok (.iconst 0, 1) := by decide +kernel
theorem dL_choose_19 : decode cL_choose 19 = .ok (.ireturn, 1) := by decide +kernel
theorem dL_declare_0 : decode cL_declare 0 = .ok (.aload_n 1, 1) := by decide +kernel
theorem dL_declare_1 : decode cL_declare 1 = .ok (.iconst 0, 1) := by decide +kernel
theorem dL_declare_2 : decode cL_declare 2 = .ok (.aload_n 0, 1) := by decide +kernel
theorem dL_declare_3 : decode cL_declare 3 = .ok (.invokevirtual 38, 3) := by decide +kernel
theorem dL_declare_6 : decode cL_declare 6 = .ok (.i2l, 1) := by decide +kernel
theorem dL_declare_7 : decode cL_declare 7 = .ok (.lastore, 1) := by decide +kernel
theorem dL_declare_8 : decode cL_declare 8 = .ok (.goto 6, 3) := by decide +kernel
theorem dL_declare_11 : decode cL_declare 11 = .ok (.astore_n 2, 1) := by decide +kernel
theorem dL_declare_12 : decode cL_declare 12 = .ok (.iconst 1, 1) := by decide +kernel
theorem dL_declare_13 : decode cL_declare 13 = .ok (.ireturn, 1) := by decide +kernel
theorem dL_declare_14 : decode cL_declare 14 = .ok (.iconst 0, 1) := by decide +kernel
theorem dL_declare_15 : decode cL_declare 15 = .ok (.ireturn, 1) := by decide +kernel
theorem dL_loseOvers_0 : decode cL_loseOvers 0 = .ok (.aload_n 2, 1) := by decide +kernel
theorem dL_loseOvers_1 : decode cL_loseOvers 1 = .ok (.iconst 0, 1) := by decide +kernel
theorem dL_loseOvers_2 : decode cL_loseOvers 2 = .ok (.aload_n 0, 1) := by decide +kernel
theorem dL_loseOvers_3 : decode cL_loseOvers 3 = .ok (.iload_n 1, 1) := by decide +kernel
theorem dL_loseOvers_4 : decode cL_loseOvers 4 = .ok (.invokevirtual 42, 3) := by decide +kernel
theorem dL_loseOvers_7 : decode cL_loseOvers 7 = .ok (.i2l, 1) := by decide +kernel
theorem dL_loseOvers_8 : decode cL_loseOvers 8 = .ok (.lastore, 1) := by decide +kernel
theorem dL_loseOvers_9 : decode cL_loseOvers 9 = .ok (.goto 9, 3) := by decide +kernel
theorem dL_loseOvers_12 : decode cL_loseOvers 12 = .ok (.astore_n 3, 1) := by decide +kernel
theorem dL_loseOvers_13 : decode cL_loseOvers 13 = .ok (.iconst 1, 1) := by decide +kernel
theorem dL_loseOvers_14 : decode cL_loseOvers 14 = .ok (.ireturn, 1) := by decide +kernel
theorem dL_loseOvers_15 : decode cL_loseOvers 15 = .ok (.astore_n 3, 1) := by decide +kernel
theorem dL_loseOvers_16 : decode cL_loseOvers 16 = .ok (.iconst 2, 1) := by decide +kernel
theorem dL_loseOvers_17 : decode cL_loseOvers 17 = .ok (.ireturn, 1) := by decide +kernel
theorem dL_loseOvers_18 : decode cL_loseOvers 18 = .ok (.iconst 0, 1) := by decide +kernel
theorem dL_loseOvers_19 : decode cL_loseOvers 19 = .ok (.ireturn, 1) := by decide +kernel
theorem dL_append_0 : decode cL_append 0 = .ok (.aload_n 2, 1) := by decide +kernel
theorem dL_append_1 : decode cL_append 1 = .ok (.iconst 0, 1) := by decide +kernel
theorem dL_append_2 : decode cL_append 2 = .ok (.aload_n 0, 1) := by decide +kernel
theorem dL_append_3 : decode cL_append 3 = .ok (.iload_n 1, 1) := by decide +kernel
theorem dL_append_4 : decode cL_append 4 = .ok (.invokevirtual 45, 3) := by decide +kernel
theorem dL_append_7 : decode cL_append 7 = .ok (.i2l, 1) := by decide +kernel
theorem dL_append_8 : decode cL_append 8 = .ok (.lastore, 1) := by decide +kernel
theorem dL_append_9 : decode cL_append 9 = .ok (.goto 9, 3) := by decide +kernel
theorem dL_append_12 : decode cL_append 12 = .ok (.astore_n 3, 1) := by decide +kernel
theorem dL_append_13 : decode cL_append 13 = .ok (.iconst 1, 1) := by decide +kernel
theorem dL_append_14 : decode cL_append 14 = .ok (.ireturn, 1) := by decide +kernel
theorem dL_append_15 : decode cL_append 15 = .ok (.astore_n 3, 1) := by decide +kernel
theorem dL_append_16 : decode cL_append 16 = .ok (.iconst 2, 1) := by decide +kernel
theorem dL_append_17 : decode cL_append 17 = .ok (.ireturn, 1) := by decide +kernel
theorem dL_append_18 : decode cL_append 18 = .ok (.iconst 0, 1) := by decide +kernel
theorem dL_append_19 : decode cL_append 19 = .ok (.ireturn, 1) := by decide +kernel
theorem dL_play_0 : decode cL_play 0 = .ok (.aload_n 1, 1) := by decide +kernel
theorem dL_play_1 : decode cL_play 1 = .ok (.iconst 0, 1) := by decide +kernel
theorem dL_play_2 : decode cL_play 2 = .ok (.aload_n 0, 1) := by decide +kernel
theorem dL_play_3 : decode cL_play 3 = .ok (.invokevirtual 51, 3) := by decide +kernel
theorem dL_play_6 : decode cL_play 6 = .ok (.i2l, 1) := by decide +kernel
theorem dL_play_7 : decode cL_play 7 = .ok (.lastore, 1) := by decide +kernel
theorem dL_play_8 : decode cL_play 8 = .ok (.goto 9, 3) := by decide +kernel
theorem dL_play_11 : decode cL_play 11 = .ok (.astore_n 2, 1) := by decide +kernel
theorem dL_play_12 : decode cL_play 12 = .ok (.iconst 1, 1) := by decide +kernel
theorem dL_play_13 : decode cL_play 13 = .ok (.ireturn, 1) := by decide +kernel
theorem dL_play_14 : decode cL_play 14 = .ok (.astore_n 2, 1) := by decide +kernel
theorem dL_play_15 : decode cL_play 15 = .ok (.iconst 2, 1) := by decide +kernel
theorem dL_play_16 : decode cL_play 16 = .ok (.ireturn, 1) := by decide +kernel
theorem dL_play_17 : decode cL_play 17 = .ok (.iconst 0, 1) := by decide +kernel
theorem dL_play_18 : decode cL_play 18 = .ok (.ireturn, 1) := by decide +kernel
theorem dL_errorPosition_0 : decode cL_errorPosition 0 = .ok (.aload_n 1, 1) := by decide +kernel
theorem dL_errorPosition_1 : decode cL_errorPosition 1 = .ok (.iconst 0, 1) := by decide +kernel
theorem dL_errorPosition_2 : decode cL_errorPosition 2 = .ok (.aload_n 0, 1) := by decide +kernel
theorem dL_errorPosition_3 : decode cL_errorPosition 3 = .ok (.invokevirtual 54, 3) := by decide +kernel
theorem dL_errorPosition_6 : decode cL_errorPosition 6 = .ok (.i2l, 1) := by decide +kernel
theorem dL_errorPosition_7 : decode cL_errorPosition 7 = .ok (.lastore, 1) := by decide +kernel
theorem dL_errorPosition_8 : decode cL_errorPosition 8 = .ok (.goto 6, 3) := by decide +kernel
theorem dL_errorPosition_11 : decode cL_errorPosition 11 = .ok (.astore_n 2, 1) := by decide +kernel
theorem dL_errorPosition_12 : decode cL_errorPosition 12 = .ok (.iconst 1, 1) := by decide +kernel
theorem dL_errorPosition_13 : decode cL_errorPosition 13 = .ok (.ireturn, 1) := by decide +kernel
theorem dL_errorPosition_14 : decode cL_errorPosition 14 = .ok (.iconst 0, 1) := by decide +kernel
theorem dL_errorPosition_15 : decode cL_errorPosition 15 = .ok (.ireturn, 1) := by decide +kernel
theorem dL_refused_0 : decode cL_refused 0 = .ok (.aload_n 1, 1) := by decide +kernel
theorem dL_refused_1 : decode cL_refused 1 = .ok (.iconst 0, 1) := by decide +kernel
theorem dL_refused_2 : decode cL_refused 2 = .ok (.aload_n 0, 1) := by decide +kernel
theorem dL_refused_3 : decode cL_refused 3 = .ok (.invokevirtual 59, 3) := by decide +kernel
theorem dL_refused_6 : decode cL_refused 6 = .ok (.i2l, 1) := by decide +kernel
theorem dL_refused_7 : decode cL_refused 7 = .ok (.lastore, 1) := by decide +kernel
theorem dL_refused_8 : decode cL_refused 8 = .ok (.goto 6, 3) := by decide +kernel
theorem dL_refused_11 : decode cL_refused 11 = .ok (.astore_n 2, 1) := by decide +kernel
theorem dL_refused_12 : decode cL_refused 12 = .ok (.iconst 1, 1) := by decide +kernel
theorem dL_refused_13 : decode cL_refused 13 = .ok (.ireturn, 1) := by decide +kernel
theorem dL_refused_14 : decode cL_refused 14 = .ok (.iconst 0, 1) := by decide +kernel
theorem dL_refused_15 : decode cL_refused 15 = .ok (.ireturn, 1) := by decide +kernel
theorem dL_now_0 : decode cL_now 0 = .ok (.aload_n 2, 1) := by decide +kernel
theorem dL_now_1 : decode cL_now 1 = .ok (.iconst 0, 1) := by decide +kernel
theorem dL_now_2 : decode cL_now 2 = .ok (.aload_n 0, 1) := by decide +kernel
theorem dL_now_3 : decode cL_now 3 = .ok (.iload_n 1, 1) := by decide +kernel
theorem dL_now_4 : decode cL_now 4 = .ok (.invokevirtual 62, 3) := by decide +kernel
theorem dL_now_7 : decode cL_now 7 = .ok (.i2l, 1) := by decide +kernel
theorem dL_now_8 : decode cL_now 8 = .ok (.lastore, 1) := by decide +kernel
theorem dL_now_9 : decode cL_now 9 = .ok (.goto 9, 3) := by decide +kernel
theorem dL_now_12 : decode cL_now 12 = .ok (.astore_n 3, 1) := by decide +kernel
theorem dL_now_13 : decode cL_now 13 = .ok (.iconst 1, 1) := by decide +kernel
theorem dL_now_14 : decode cL_now 14 = .ok (.ireturn, 1) := by decide +kernel
theorem dL_now_15 : decode cL_now 15 = .ok (.astore_n 3, 1) := by decide +kernel
theorem dL_now_16 : decode cL_now 16 = .ok (.iconst 2, 1) := by decide +kernel
theorem dL_now_17 : decode cL_now 17 = .ok (.ireturn, 1) := by decide +kernel
theorem dL_now_18 : decode cL_now 18 = .ok (.iconst 0, 1) := by decide +kernel
theorem dL_now_19 : decode cL_now 19 = .ok (.ireturn, 1) := by decide +kernel
theorem dL_innings_0 : decode cL_innings 0 = .ok (.aload_n 3, 1) := by decide +kernel
theorem dL_innings_1 : decode cL_innings 1 = .ok (.iconst 0, 1) := by decide +kernel
theorem dL_innings_2 : decode cL_innings 2 = .ok (.aload_n 0, 1) := by decide +kernel
theorem dL_innings_3 : decode cL_innings 3 = .ok (.iload_n 1, 1) := by decide +kernel
theorem dL_innings_4 : decode cL_innings 4 = .ok (.iload_n 2, 1) := by decide +kernel
theorem dL_innings_5 : decode cL_innings 5 = .ok (.invokevirtual 65, 3) := by decide +kernel
theorem dL_innings_8 : decode cL_innings 8 = .ok (.i2l, 1) := by decide +kernel
theorem dL_innings_9 : decode cL_innings 9 = .ok (.lastore, 1) := by decide +kernel
theorem dL_innings_10 : decode cL_innings 10 = .ok (.goto 11, 3) := by decide +kernel
theorem dL_innings_13 : decode cL_innings 13 = .ok (.astore 4, 2) := by decide +kernel
theorem dL_innings_15 : decode cL_innings 15 = .ok (.iconst 1, 1) := by decide +kernel
theorem dL_innings_16 : decode cL_innings 16 = .ok (.ireturn, 1) := by decide +kernel
theorem dL_innings_17 : decode cL_innings 17 = .ok (.astore 4, 2) := by decide +kernel
theorem dL_innings_19 : decode cL_innings 19 = .ok (.iconst 2, 1) := by decide +kernel
theorem dL_innings_20 : decode cL_innings 20 = .ok (.ireturn, 1) := by decide +kernel
theorem dL_innings_21 : decode cL_innings 21 = .ok (.iconst 0, 1) := by decide +kernel
theorem dL_innings_22 : decode cL_innings 22 = .ok (.ireturn, 1) := by decide +kernel
theorem dL_batter_0 : decode cL_batter 0 = .ok (.aload 4, 2) := by decide +kernel
theorem dL_batter_2 : decode cL_batter 2 = .ok (.iconst 0, 1) := by decide +kernel
theorem dL_batter_3 : decode cL_batter 3 = .ok (.aload_n 0, 1) := by decide +kernel
theorem dL_batter_4 : decode cL_batter 4 = .ok (.iload_n 1, 1) := by decide +kernel
theorem dL_batter_5 : decode cL_batter 5 = .ok (.iload_n 2, 1) := by decide +kernel
theorem dL_batter_6 : decode cL_batter 6 = .ok (.iload_n 3, 1) := by decide +kernel
theorem dL_batter_7 : decode cL_batter 7 = .ok (.invokevirtual 69, 3) := by decide +kernel
theorem dL_batter_10 : decode cL_batter 10 = .ok (.i2l, 1) := by decide +kernel
theorem dL_batter_11 : decode cL_batter 11 = .ok (.lastore, 1) := by decide +kernel
theorem dL_batter_12 : decode cL_batter 12 = .ok (.goto 11, 3) := by decide +kernel
theorem dL_batter_15 : decode cL_batter 15 = .ok (.astore 5, 2) := by decide +kernel
theorem dL_batter_17 : decode cL_batter 17 = .ok (.iconst 1, 1) := by decide +kernel
theorem dL_batter_18 : decode cL_batter 18 = .ok (.ireturn, 1) := by decide +kernel
theorem dL_batter_19 : decode cL_batter 19 = .ok (.astore 5, 2) := by decide +kernel
theorem dL_batter_21 : decode cL_batter 21 = .ok (.iconst 2, 1) := by decide +kernel
theorem dL_batter_22 : decode cL_batter 22 = .ok (.ireturn, 1) := by decide +kernel
theorem dL_batter_23 : decode cL_batter 23 = .ok (.iconst 0, 1) := by decide +kernel
theorem dL_batter_24 : decode cL_batter 24 = .ok (.ireturn, 1) := by decide +kernel
theorem dL_bowler_0 : decode cL_bowler 0 = .ok (.aload 4, 2) := by decide +kernel
theorem dL_bowler_2 : decode cL_bowler 2 = .ok (.iconst 0, 1) := by decide +kernel
theorem dL_bowler_3 : decode cL_bowler 3 = .ok (.aload_n 0, 1) := by decide +kernel
theorem dL_bowler_4 : decode cL_bowler 4 = .ok (.iload_n 1, 1) := by decide +kernel
theorem dL_bowler_5 : decode cL_bowler 5 = .ok (.iload_n 2, 1) := by decide +kernel
theorem dL_bowler_6 : decode cL_bowler 6 = .ok (.iload_n 3, 1) := by decide +kernel
theorem dL_bowler_7 : decode cL_bowler 7 = .ok (.invokevirtual 72, 3) := by decide +kernel
theorem dL_bowler_10 : decode cL_bowler 10 = .ok (.i2l, 1) := by decide +kernel
theorem dL_bowler_11 : decode cL_bowler 11 = .ok (.lastore, 1) := by decide +kernel
theorem dL_bowler_12 : decode cL_bowler 12 = .ok (.goto 11, 3) := by decide +kernel
theorem dL_bowler_15 : decode cL_bowler 15 = .ok (.astore 5, 2) := by decide +kernel
theorem dL_bowler_17 : decode cL_bowler 17 = .ok (.iconst 1, 1) := by decide +kernel
theorem dL_bowler_18 : decode cL_bowler 18 = .ok (.ireturn, 1) := by decide +kernel
theorem dL_bowler_19 : decode cL_bowler 19 = .ok (.astore 5, 2) := by decide +kernel
theorem dL_bowler_21 : decode cL_bowler 21 = .ok (.iconst 2, 1) := by decide +kernel
theorem dL_bowler_22 : decode cL_bowler 22 = .ok (.ireturn, 1) := by decide +kernel
theorem dL_bowler_23 : decode cL_bowler 23 = .ok (.iconst 0, 1) := by decide +kernel
theorem dL_bowler_24 : decode cL_bowler 24 = .ok (.ireturn, 1) := by decide +kernel
theorem dL_partnership_0 : decode cL_partnership 0 = .ok (.aload 4, 2) := by decide +kernel
theorem dL_partnership_2 : decode cL_partnership 2 = .ok (.iconst 0, 1) := by decide +kernel
theorem dL_partnership_3 : decode cL_partnership 3 = .ok (.aload_n 0, 1) := by decide +kernel
theorem dL_partnership_4 : decode cL_partnership 4 = .ok (.iload_n 1, 1) := by decide +kernel
theorem dL_partnership_5 : decode cL_partnership 5 = .ok (.iload_n 2, 1) := by decide +kernel
theorem dL_partnership_6 : decode cL_partnership 6 = .ok (.iload_n 3, 1) := by decide +kernel
theorem dL_partnership_7 : decode cL_partnership 7 = .ok (.invokevirtual 75, 3) := by decide +kernel
theorem dL_partnership_10 : decode cL_partnership 10 = .ok (.i2l, 1) := by decide +kernel
theorem dL_partnership_11 : decode cL_partnership 11 = .ok (.lastore, 1) := by decide +kernel
theorem dL_partnership_12 : decode cL_partnership 12 = .ok (.goto 15, 3) := by decide +kernel
theorem dL_partnership_15 : decode cL_partnership 15 = .ok (.astore 5, 2) := by decide +kernel
theorem dL_partnership_17 : decode cL_partnership 17 = .ok (.iconst 1, 1) := by decide +kernel
theorem dL_partnership_18 : decode cL_partnership 18 = .ok (.ireturn, 1) := by decide +kernel
theorem dL_partnership_19 : decode cL_partnership 19 = .ok (.astore 5, 2) := by decide +kernel
theorem dL_partnership_21 : decode cL_partnership 21 = .ok (.iconst 2, 1) := by decide +kernel
theorem dL_partnership_22 : decode cL_partnership 22 = .ok (.ireturn, 1) := by decide +kernel
theorem dL_partnership_23 : decode cL_partnership 23 = .ok (.astore 5, 2) := by decide +kernel
theorem dL_partnership_25 : decode cL_partnership 25 = .ok (.iconst 3, 1) := by decide +kernel
theorem dL_partnership_26 : decode cL_partnership 26 = .ok (.ireturn, 1) := by decide +kernel
theorem dL_partnership_27 : decode cL_partnership 27 = .ok (.iconst 0, 1) := by decide +kernel
theorem dL_partnership_28 : decode cL_partnership 28 = .ok (.ireturn, 1) := by decide +kernel
theorem dL_fall_0 : decode cL_fall 0 = .ok (.aload 4, 2) := by decide +kernel
theorem dL_fall_2 : decode cL_fall 2 = .ok (.iconst 0, 1) := by decide +kernel
theorem dL_fall_3 : decode cL_fall 3 = .ok (.aload_n 0, 1) := by decide +kernel
theorem dL_fall_4 : decode cL_fall 4 = .ok (.iload_n 1, 1) := by decide +kernel
theorem dL_fall_5 : decode cL_fall 5 = .ok (.iload_n 2, 1) := by decide +kernel
theorem dL_fall_6 : decode cL_fall 6 = .ok (.iload_n 3, 1) := by decide +kernel
theorem dL_fall_7 : decode cL_fall 7 = .ok (.invokevirtual 78, 3) := by decide +kernel
theorem dL_fall_10 : decode cL_fall 10 = .ok (.i2l, 1) := by decide +kernel
theorem dL_fall_11 : decode cL_fall 11 = .ok (.lastore, 1) := by decide +kernel
theorem dL_fall_12 : decode cL_fall 12 = .ok (.goto 15, 3) := by decide +kernel
theorem dL_fall_15 : decode cL_fall 15 = .ok (.astore 5, 2) := by decide +kernel
theorem dL_fall_17 : decode cL_fall 17 = .ok (.iconst 1, 1) := by decide +kernel
theorem dL_fall_18 : decode cL_fall 18 = .ok (.ireturn, 1) := by decide +kernel
theorem dL_fall_19 : decode cL_fall 19 = .ok (.astore 5, 2) := by decide +kernel
theorem dL_fall_21 : decode cL_fall 21 = .ok (.iconst 2, 1) := by decide +kernel
theorem dL_fall_22 : decode cL_fall 22 = .ok (.ireturn, 1) := by decide +kernel
theorem dL_fall_23 : decode cL_fall 23 = .ok (.astore 5, 2) := by decide +kernel
theorem dL_fall_25 : decode cL_fall 25 = .ok (.iconst 3, 1) := by decide +kernel
theorem dL_fall_26 : decode cL_fall 26 = .ok (.ireturn, 1) := by decide +kernel
theorem dL_fall_27 : decode cL_fall 27 = .ok (.iconst 0, 1) := by decide +kernel
theorem dL_fall_28 : decode cL_fall 28 = .ok (.ireturn, 1) := by decide +kernel
theorem dL_needed_0 : decode cL_needed 0 = .ok (.aload_n 2, 1) := by decide +kernel
theorem dL_needed_1 : decode cL_needed 1 = .ok (.iconst 0, 1) := by decide +kernel
theorem dL_needed_2 : decode cL_needed 2 = .ok (.aload_n 0, 1) := by decide +kernel
theorem dL_needed_3 : decode cL_needed 3 = .ok (.iload_n 1, 1) := by decide +kernel
theorem dL_needed_4 : decode cL_needed 4 = .ok (.invokevirtual 81, 3) := by decide +kernel
theorem dL_needed_7 : decode cL_needed 7 = .ok (.i2l, 1) := by decide +kernel
theorem dL_needed_8 : decode cL_needed 8 = .ok (.lastore, 1) := by decide +kernel
theorem dL_needed_9 : decode cL_needed 9 = .ok (.goto 9, 3) := by decide +kernel
theorem dL_needed_12 : decode cL_needed 12 = .ok (.astore_n 3, 1) := by decide +kernel
theorem dL_needed_13 : decode cL_needed 13 = .ok (.iconst 1, 1) := by decide +kernel
theorem dL_needed_14 : decode cL_needed 14 = .ok (.ireturn, 1) := by decide +kernel
theorem dL_needed_15 : decode cL_needed 15 = .ok (.astore_n 3, 1) := by decide +kernel
theorem dL_needed_16 : decode cL_needed 16 = .ok (.iconst 2, 1) := by decide +kernel
theorem dL_needed_17 : decode cL_needed 17 = .ok (.ireturn, 1) := by decide +kernel
theorem dL_needed_18 : decode cL_needed 18 = .ok (.iconst 0, 1) := by decide +kernel
theorem dL_needed_19 : decode cL_needed 19 = .ok (.ireturn, 1) := by decide +kernel
theorem dL_runRate_0 : decode cL_runRate 0 = .ok (.aload_n 2, 1) := by decide +kernel
theorem dL_runRate_1 : decode cL_runRate 1 = .ok (.iconst 0, 1) := by decide +kernel
theorem dL_runRate_2 : decode cL_runRate 2 = .ok (.aload_n 0, 1) := by decide +kernel
theorem dL_runRate_3 : decode cL_runRate 3 = .ok (.iload_n 1, 1) := by decide +kernel
theorem dL_runRate_4 : decode cL_runRate 4 = .ok (.invokevirtual 85, 3) := by decide +kernel
theorem dL_runRate_7 : decode cL_runRate 7 = .ok (.dastore, 1) := by decide +kernel
theorem dL_runRate_8 : decode cL_runRate 8 = .ok (.goto 9, 3) := by decide +kernel
theorem dL_runRate_11 : decode cL_runRate 11 = .ok (.astore_n 3, 1) := by decide +kernel
theorem dL_runRate_12 : decode cL_runRate 12 = .ok (.iconst 1, 1) := by decide +kernel
theorem dL_runRate_13 : decode cL_runRate 13 = .ok (.ireturn, 1) := by decide +kernel
theorem dL_runRate_14 : decode cL_runRate 14 = .ok (.astore_n 3, 1) := by decide +kernel
theorem dL_runRate_15 : decode cL_runRate 15 = .ok (.iconst 2, 1) := by decide +kernel
theorem dL_runRate_16 : decode cL_runRate 16 = .ok (.ireturn, 1) := by decide +kernel
theorem dL_runRate_17 : decode cL_runRate 17 = .ok (.iconst 0, 1) := by decide +kernel
theorem dL_runRate_18 : decode cL_runRate 18 = .ok (.ireturn, 1) := by decide +kernel
theorem dL_strikeRate_0 : decode cL_strikeRate 0 = .ok (.aload_n 3, 1) := by decide +kernel
theorem dL_strikeRate_1 : decode cL_strikeRate 1 = .ok (.iconst 0, 1) := by decide +kernel
theorem dL_strikeRate_2 : decode cL_strikeRate 2 = .ok (.aload_n 0, 1) := by decide +kernel
theorem dL_strikeRate_3 : decode cL_strikeRate 3 = .ok (.iload_n 1, 1) := by decide +kernel
theorem dL_strikeRate_4 : decode cL_strikeRate 4 = .ok (.iload_n 2, 1) := by decide +kernel
theorem dL_strikeRate_5 : decode cL_strikeRate 5 = .ok (.invokevirtual 91, 3) := by decide +kernel
theorem dL_strikeRate_8 : decode cL_strikeRate 8 = .ok (.f2d, 1) := by decide +kernel
theorem dL_strikeRate_9 : decode cL_strikeRate 9 = .ok (.dastore, 1) := by decide +kernel
theorem dL_strikeRate_10 : decode cL_strikeRate 10 = .ok (.goto 11, 3) := by decide +kernel
theorem dL_strikeRate_13 : decode cL_strikeRate 13 = .ok (.astore 4, 2) := by decide +kernel
theorem dL_strikeRate_15 : decode cL_strikeRate 15 = .ok (.iconst 1, 1) := by decide +kernel
theorem dL_strikeRate_16 : decode cL_strikeRate 16 = .ok (.ireturn, 1) := by decide +kernel
theorem dL_strikeRate_17 : decode cL_strikeRate 17 = .ok (.astore 4, 2) := by decide +kernel
theorem dL_strikeRate_19 : decode cL_strikeRate 19 = .ok (.iconst 2, 1) := by decide +kernel
theorem dL_strikeRate_20 : decode cL_strikeRate 20 = .ok (.ireturn, 1) := by decide +kernel
theorem dL_strikeRate_21 : decode cL_strikeRate 21 = .ok (.iconst 0, 1) := by decide +kernel
theorem dL_strikeRate_22 : decode cL_strikeRate 22 = .ok (.ireturn, 1) := by decide +kernel
theorem dL_storeOvers_0 : decode cL_storeOvers 0 = .ok (.aload 4, 2) := by decide +kernel
theorem dL_storeOvers_2 : decode cL_storeOvers 2 = .ok (.iconst 0, 1) := by decide +kernel
theorem dL_storeOvers_3 : decode cL_storeOvers 3 = .ok (.aload_n 0, 1) := by decide +kernel
theorem dL_storeOvers_4 : decode cL_storeOvers 4 = .ok (.iload_n 1, 1) := by decide +kernel
theorem dL_storeOvers_5 : decode cL_storeOvers 5 = .ok (.iload_n 2, 1) := by decide +kernel
theorem dL_storeOvers_6 : decode cL_storeOvers 6 = .ok (.iload_n 3, 1) := by decide +kernel
theorem dL_storeOvers_7 : decode cL_storeOvers 7 = .ok (.invokevirtual 95, 3) := by decide +kernel
theorem dL_storeOvers_10 : decode cL_storeOvers 10 = .ok (.i2l, 1) := by decide +kernel
theorem dL_storeOvers_11 : decode cL_storeOvers 11 = .ok (.lastore, 1) := by decide +kernel
theorem dL_storeOvers_12 : decode cL_storeOvers 12 = .ok (.goto 7, 3) := by decide +kernel
theorem dL_storeOvers_15 : decode cL_storeOvers 15 = .ok (.astore 5, 2) := by decide +kernel
theorem dL_storeOvers_17 : decode cL_storeOvers 17 = .ok (.iconst 1, 1) := by decide +kernel
theorem dL_storeOvers_18 : decode cL_storeOvers 18 = .ok (.ireturn, 1) := by decide +kernel
theorem dL_storeOvers_19 : decode cL_storeOvers 19 = .ok (.iconst 0, 1) := by decide +kernel
theorem dL_storeOvers_20 : decode cL_storeOvers 20 = .ok (.ireturn, 1) := by decide +kernel
theorem dL_copyOvers_0 : decode cL_copyOvers 0 = .ok (.aload_n 3, 1) := by decide +kernel
theorem dL_copyOvers_1 : decode cL_copyOvers 1 = .ok (.iconst 0, 1) := by decide +kernel
theorem dL_copyOvers_2 : decode cL_copyOvers 2 = .ok (.aload_n 0, 1) := by decide +kernel
theorem dL_copyOvers_3 : decode cL_copyOvers 3 = .ok (.iload_n 1, 1) := by decide +kernel
theorem dL_copyOvers_4 : decode cL_copyOvers 4 = .ok (.iload_n 2, 1) := by decide +kernel
theorem dL_copyOvers_5 : decode cL_copyOvers 5 = .ok (.invokevirtual 98, 3) := by decide +kernel
theorem dL_copyOvers_8 : decode cL_copyOvers 8 = .ok (.ifCond .eq 7, 3) := by decide +kernel
theorem dL_copyOvers_11 : decode cL_copyOvers 11 = .ok (.lconst 1, 1) := by decide +kernel
theorem dL_copyOvers_12 : decode cL_copyOvers 12 = .ok (.goto 4, 3) := by decide +kernel
theorem dL_copyOvers_15 : decode cL_copyOvers 15 = .ok (.lconst 0, 1) := by decide +kernel
theorem dL_copyOvers_16 : decode cL_copyOvers 16 = .ok (.lastore, 1) := by decide +kernel
theorem dL_copyOvers_17 : decode cL_copyOvers 17 = .ok (.goto 19, 3) := by decide +kernel
theorem dL_copyOvers_20 : decode cL_copyOvers 20 = .ok (.astore 4, 2) := by decide +kernel
theorem dL_copyOvers_22 : decode cL_copyOvers 22 = .ok (.iconst 1, 1) := by decide +kernel
theorem dL_copyOvers_23 : decode cL_copyOvers 23 = .ok (.ireturn, 1) := by decide +kernel
theorem dL_copyOvers_24 : decode cL_copyOvers 24 = .ok (.astore 4, 2) := by decide +kernel
theorem dL_copyOvers_26 : decode cL_copyOvers 26 = .ok (.iconst 2, 1) := by decide +kernel
theorem dL_copyOvers_27 : decode cL_copyOvers 27 = .ok (.ireturn, 1) := by decide +kernel
theorem dL_copyOvers_28 : decode cL_copyOvers 28 = .ok (.astore 4, 2) := by decide +kernel
theorem dL_copyOvers_30 : decode cL_copyOvers 30 = .ok (.iconst 3, 1) := by decide +kernel
theorem dL_copyOvers_31 : decode cL_copyOvers 31 = .ok (.ireturn, 1) := by decide +kernel
theorem dL_copyOvers_32 : decode cL_copyOvers 32 = .ok (.astore 4, 2) := by decide +kernel
theorem dL_copyOvers_34 : decode cL_copyOvers 34 = .ok (.iconst 4, 1) := by decide +kernel
theorem dL_copyOvers_35 : decode cL_copyOvers 35 = .ok (.ireturn, 1) := by decide +kernel
theorem dL_copyOvers_36 : decode cL_copyOvers 36 = .ok (.iconst 0, 1) := by decide +kernel
theorem dL_copyOvers_37 : decode cL_copyOvers 37 = .ok (.ireturn, 1) := by decide +kernel
theorem dL_storedOvers_0 : decode cL_storedOvers 0 = .ok (.aload_n 3, 1) := by decide +kernel
theorem dL_storedOvers_1 : decode cL_storedOvers 1 = .ok (.iconst 0, 1) := by decide +kernel
theorem dL_storedOvers_2 : decode cL_storedOvers 2 = .ok (.aload_n 0, 1) := by decide +kernel
theorem dL_storedOvers_3 : decode cL_storedOvers 3 = .ok (.iload_n 1, 1) := by decide +kernel
theorem dL_storedOvers_4 : decode cL_storedOvers 4 = .ok (.iload_n 2, 1) := by decide +kernel
theorem dL_storedOvers_5 : decode cL_storedOvers 5 = .ok (.invokevirtual 102, 3) := by decide +kernel
theorem dL_storedOvers_8 : decode cL_storedOvers 8 = .ok (.f2d, 1) := by decide +kernel
theorem dL_storedOvers_9 : decode cL_storedOvers 9 = .ok (.dastore, 1) := by decide +kernel
theorem dL_storedOvers_10 : decode cL_storedOvers 10 = .ok (.goto 11, 3) := by decide +kernel
theorem dL_storedOvers_13 : decode cL_storedOvers 13 = .ok (.astore 4, 2) := by decide +kernel
theorem dL_storedOvers_15 : decode cL_storedOvers 15 = .ok (.iconst 1, 1) := by decide +kernel
theorem dL_storedOvers_16 : decode cL_storedOvers 16 = .ok (.ireturn, 1) := by decide +kernel
theorem dL_storedOvers_17 : decode cL_storedOvers 17 = .ok (.astore 4, 2) := by decide +kernel
theorem dL_storedOvers_19 : decode cL_storedOvers 19 = .ok (.iconst 2, 1) := by decide +kernel
theorem dL_storedOvers_20 : decode cL_storedOvers 20 = .ok (.ireturn, 1) := by decide +kernel
theorem dL_storedOvers_21 : decode cL_storedOvers 21 = .ok (.iconst 0, 1) := by decide +kernel
theorem dL_storedOvers_22 : decode cL_storedOvers 22 = .ok (.ireturn, 1) := by decide +kernel
theorem dL_undo_0 : decode cL_undo 0 = .ok (.aload_n 1, 1) := by decide +kernel
theorem dL_undo_1 : decode cL_undo 1 = .ok (.iconst 0, 1) := by decide +kernel
theorem dL_undo_2 : decode cL_undo 2 = .ok (.aload_n 0, 1) := by decide +kernel
theorem dL_undo_3 : decode cL_undo 3 = .ok (.invokevirtual 105, 3) := by decide +kernel
theorem dL_undo_6 : decode cL_undo 6 = .ok (.i2l, 1) := by decide +kernel
theorem dL_undo_7 : decode cL_undo 7 = .ok (.lastore, 1) := by decide +kernel
theorem dL_undo_8 : decode cL_undo 8 = .ok (.goto 6, 3) := by decide +kernel
theorem dL_undo_11 : decode cL_undo 11 = .ok (.astore_n 2, 1) := by decide +kernel
theorem dL_undo_12 : decode cL_undo 12 = .ok (.iconst 1, 1) := by decide +kernel
theorem dL_undo_13 : decode cL_undo 13 = .ok (.ireturn, 1) := by decide +kernel
theorem dL_undo_14 : decode cL_undo 14 = .ok (.iconst 0, 1) := by decide +kernel
theorem dL_undo_15 : decode cL_undo 15 = .ok (.ireturn, 1) := by decide +kernel
theorem dL_isReplayed_0 : decode cL_isReplayed 0 = .ok (.aload_n 1, 1) := by decide +kernel
theorem dL_isReplayed_1 : decode cL_isReplayed 1 = .ok (.iconst 0, 1) := by decide +kernel
theorem dL_isReplayed_2 : decode cL_isReplayed 2 = .ok (.aload_n 0, 1) := by decide +kernel
theorem dL_isReplayed_3 : decode cL_isReplayed 3 = .ok (.invokevirtual 108, 3) := by decide +kernel
theorem dL_isReplayed_6 : decode cL_isReplayed 6 = .ok (.ifCond .eq 7, 3) := by decide +kernel
theorem dL_isReplayed_9 : decode cL_isReplayed 9 = .ok (.lconst 1, 1) := by decide +kernel
theorem dL_isReplayed_10 : decode cL_isReplayed 10 = .ok (.goto 4, 3) := by decide +kernel
theorem dL_isReplayed_13 : decode cL_isReplayed 13 = .ok (.lconst 0, 1) := by decide +kernel
theorem dL_isReplayed_14 : decode cL_isReplayed 14 = .ok (.lastore, 1) := by decide +kernel
theorem dL_isReplayed_15 : decode cL_isReplayed 15 = .ok (.goto 6, 3) := by decide +kernel
theorem dL_isReplayed_18 : decode cL_isReplayed 18 = .ok (.astore_n 2, 1) := by decide +kernel
theorem dL_isReplayed_19 : decode cL_isReplayed 19 = .ok (.iconst 1, 1) := by decide +kernel
theorem dL_isReplayed_20 : decode cL_isReplayed 20 = .ok (.ireturn, 1) := by decide +kernel
theorem dL_isReplayed_21 : decode cL_isReplayed 21 = .ok (.iconst 0, 1) := by decide +kernel
theorem dL_isReplayed_22 : decode cL_isReplayed 22 = .ok (.ireturn, 1) := by decide +kernel
theorem dL_snapshot_0 : decode cL_snapshot 0 = .ok (.aload_n 1, 1) := by decide +kernel
theorem dL_snapshot_1 : decode cL_snapshot 1 = .ok (.iconst 0, 1) := by decide +kernel
theorem dL_snapshot_2 : decode cL_snapshot 2 = .ok (.aload_n 0, 1) := by decide +kernel
theorem dL_snapshot_3 : decode cL_snapshot 3 = .ok (.invokevirtual 112, 3) := by decide +kernel
theorem dL_snapshot_6 : decode cL_snapshot 6 = .ok (.i2l, 1) := by decide +kernel
theorem dL_snapshot_7 : decode cL_snapshot 7 = .ok (.lastore, 1) := by decide +kernel
theorem dL_snapshot_8 : decode cL_snapshot 8 = .ok (.goto 6, 3) := by decide +kernel
theorem dL_snapshot_11 : decode cL_snapshot 11 = .ok (.astore_n 2, 1) := by decide +kernel
theorem dL_snapshot_12 : decode cL_snapshot 12 = .ok (.iconst 1, 1) := by decide +kernel
theorem dL_snapshot_13 : decode cL_snapshot 13 = .ok (.ireturn, 1) := by decide +kernel
theorem dL_snapshot_14 : decode cL_snapshot 14 = .ok (.iconst 0, 1) := by decide +kernel
theorem dL_snapshot_15 : decode cL_snapshot 15 = .ok (.ireturn, 1) := by decide +kernel
theorem dL_restore_0 : decode cL_restore 0 = .ok (.aload_n 1, 1) := by decide +kernel
theorem dL_restore_1 : decode cL_restore 1 = .ok (.iconst 0, 1) := by decide +kernel
theorem dL_restore_2 : decode cL_restore 2 = .ok (.aload_n 0, 1) := by decide +kernel
theorem dL_restore_3 : decode cL_restore 3 = .ok (.invokevirtual 115, 3) := by decide +kernel
theorem dL_restore_6 : decode cL_restore 6 = .ok (.i2l, 1) := by decide +kernel
theorem dL_restore_7 : decode cL_restore 7 = .ok (.lastore, 1) := by decide +kernel
theorem dL_restore_8 : decode cL_restore 8 = .ok (.goto 6, 3) := by decide +kernel
theorem dL_restore_11 : decode cL_restore 11 = .ok (.astore_n 2, 1) := by decide +kernel
theorem dL_restore_12 : decode cL_restore 12 = .ok (.iconst 1, 1) := by decide +kernel
theorem dL_restore_13 : decode cL_restore 13 = .ok (.ireturn, 1) := by decide +kernel
theorem dL_restore_14 : decode cL_restore 14 = .ok (.iconst 0, 1) := by decide +kernel
theorem dL_restore_15 : decode cL_restore 15 = .ok (.ireturn, 1) := by decide +kernel
