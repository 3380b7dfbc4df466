theorem dX9_commands_3 : decode cX9_commands 3 = .ok (.iload 4, 2) := by decide +kernel
theorem dX9_commands_5 : decode cX9_commands 5 = .ok (.iload 5, 2) := by decide +kernel
theorem dX9_commands_7 : decode cX9_commands 7 = .ok (.iload 6, 2) := by decide +kernel
theorem dX9_commands_9 : decode cX9_commands 9 = .ok (.iload 7, 2) := by decide +kernel
theorem dX9_commands_11 : decode cX9_commands 11 = .ok (.invokevirtual 162, 3) := by decide +kernel
theorem dX9_commands_14 : decode cX9_commands 14 = .ok (.istore 8, 2) := by decide +kernel
theorem dX9_commands_16 : decode cX9_commands 16 = .ok (.iload 8, 2) := by decide +kernel
theorem dX9_commands_18 : decode cX9_commands 18 = .ok (.ifCond .le 15, 3) := by decide +kernel
theorem dX9_commands_21 : decode cX9_commands 21 = .ok (.aload_n 0, 1) := by decide +kernel
theorem dX9_commands_22 : decode cX9_commands 22 = .ok (.iload 8, 2) := by decide +kernel
theorem dX9_commands_24 : decode cX9_commands 24 = .ok (.putfield 166, 3) := by decide +kernel
theorem dX9_commands_27 : decode cX9_commands 27 = .ok (.aload_n 0, 1) := by decide +kernel
theorem dX9_commands_28 : decode cX9_commands 28 = .ok (.iload_n 1, 1) := by decide +kernel
theorem dX9_commands_29 : decode cX9_commands 29 = .ok (.invokevirtual 169, 3) := by decide +kernel
theorem dX9_commands_32 : decode cX9_commands 32 = .ok (.ireturn, 1) := by decide +kernel
theorem dX9_commands_33 : decode cX9_commands 33 = .ok (.aload_n 0, 1) := by decide +kernel
theorem dX9_commands_34 : decode cX9_commands 34 = .ok (.aload_n 0, 1) := by decide +kernel
theorem dX9_commands_35 : decode cX9_commands 35 = .ok (.getfield 9, 3) := by decide +kernel
theorem dX9_commands_38 : decode cX9_commands 38 = .ok (.invokevirtual 172, 3) := by decide +kernel
theorem dX9_commands_41 : decode cX9_commands 41 = .ok (.aload_n 0, 1) := by decide +kernel
theorem dX9_commands_42 : decode cX9_commands 42 = .ok (.iload_n 2, 1) := by decide +kernel
theorem dX9_commands_43 : decode cX9_commands 43 = .ok (.iload_n 3, 1) := by decide +kernel
theorem dX9_commands_44 : decode cX9_commands 44 = .ok (.iload 4, 2) := by decide +kernel
theorem dX9_commands_46 : decode cX9_commands 46 = .ok (.iload 5, 2) := by decide +kernel
theorem dX9_commands_48 : decode cX9_commands 48 = .ok (.iload 6, 2) := by decide +kernel
theorem dX9_commands_50 : decode cX9_commands 50 = .ok (.iload 7, 2) := by decide +kernel
theorem dX9_commands_52 : decode cX9_commands 52 = .ok (.invokevirtual 176, 3) := by decide +kernel
theorem dX9_commands_55 : decode cX9_commands 55 = .ok (.istore 9, 2) := by decide +kernel
theorem dX9_commands_57 : decode cX9_commands 57 = .ok (.aload_n 0, 1) := by decide +kernel
theorem dX9_commands_58 : decode cX9_commands 58 = .ok (.getfield 9, 3) := by decide +kernel
theorem dX9_commands_61 : decode cX9_commands 61 = .ok (.bipush 24, 2) := by decide +kernel
theorem dX9_commands_63 : decode cX9_commands 63 = .ok (.dup2, 1) := by decide +kernel
theorem dX9_commands_64 : decode cX9_commands 64 = .ok (.iaload, 1) := by decide +kernel
theorem dX9_commands_65 : decode cX9_commands 65 = .ok (.iconst 1, 1) := by decide +kernel
theorem dX9_commands_66 : decode cX9_commands 66 = .ok (.iadd, 1) := by decide +kernel
theorem dX9_commands_67 : decode cX9_commands 67 = .ok (.iastore, 1) := by decide +kernel
theorem dX9_commands_68 : decode cX9_commands 68 = .ok (.iload 9, 2) := by decide +kernel
theorem dX9_commands_70 : decode cX9_commands 70 = .ok (.ireturn, 1) := by decide +kernel
theorem dX9_bit_0 : decode cX9_bit 0 = .ok (.iload_n 0, 1) := by decide +kernel
theorem dX9_bit_1 : decode cX9_bit 1 = .ok (.ifCond .eq 7, 3) := by decide +kernel
theorem dX9_bit_4 : decode cX9_bit 4 = .ok (.iconst 1, 1) := by decide +kernel
theorem dX9_bit_5 : decode cX9_bit 5 = .ok (.goto 4, 3) := by decide +kernel
theorem dX9_bit_8 : decode cX9_bit 8 = .ok (.iconst 0, 1) := by decide +kernel
theorem dX9_bit_9 : decode cX9_bit 9 = .ok (.ireturn, 1) := by decide +kernel
theorem dX9_bowl_0 : decode cX9_bowl 0 = .ok (.aload_n 0, 1) := by decide +kernel
theorem dX9_bowl_1 : decode cX9_bowl 1 = .ok (.iload_n 1, 1) := by decide +kernel
theorem dX9_bowl_2 : decode cX9_bowl 2 = .ok (.iconst 0, 1) := by decide +kernel
theorem dX9_bowl_3 : decode cX9_bowl 3 = .ok (.bipush 10, 2) := by decide +kernel
theorem dX9_bowl_5 : decode cX9_bowl 5 = .ok (.invokestatic 76, 3) := by decide +kernel
theorem dX9_bowl_8 : decode cX9_bowl 8 = .ok (.ifCond .eq 7, 3) := by decide +kernel
theorem dX9_bowl_11 : decode cX9_bowl 11 = .ok (.iconst 0, 1) := by decide +kernel
theorem dX9_bowl_12 : decode cX9_bowl 12 = .ok (.goto 4, 3) := by decide +kernel
theorem dX9_bowl_15 : decode cX9_bowl 15 = .ok (.iconst 1, 1) := by decide +kernel
theorem dX9_bowl_16 : decode cX9_bowl 16 = .ok (.putfield 55, 3) := by decide +kernel
theorem dX9_bowl_19 : decode cX9_bowl 19 = .ok (.aload_n 0, 1) := by decide +kernel
theorem dX9_bowl_20 : decode cX9_bowl 20 = .ok (.getfield 55, 3) := by decide +kernel
theorem dX9_bowl_23 : decode cX9_bowl 23 = .ok (.iconst 1, 1) := by decide +kernel
theorem dX9_bowl_24 : decode cX9_bowl 24 = .ok (.if_icmp .ne 7, 3) := by decide +kernel
theorem dX9_bowl_27 : decode cX9_bowl 27 = .ok (.iconst 0, 1) := by decide +kernel
theorem dX9_bowl_28 : decode cX9_bowl 28 = .ok (.goto 14, 3) := by decide +kernel
theorem dX9_bowl_31 : decode cX9_bowl 31 = .ok (.aload_n 0, 1) := by decide +kernel
theorem dX9_bowl_32 : decode cX9_bowl 32 = .ok (.iconst 2, 1) := by decide +kernel
theorem dX9_bowl_33 : decode cX9_bowl 33 = .ok (.iconst 0, 1) := by decide +kernel
theorem dX9_bowl_34 : decode cX9_bowl 34 = .ok (.iload_n 1, 1) := by decide +kernel
theorem dX9_bowl_35 : decode cX9_bowl 35 = .ok (.iconst 0, 1) := by decide +kernel
theorem dX9_bowl_36 : decode cX9_bowl 36 = .ok (.iconst 0, 1) := by decide +kernel
theorem dX9_bowl_37 : decode cX9_bowl 37 = .ok (.iconst 0, 1) := by decide +kernel
theorem dX9_bowl_38 : decode cX9_bowl 38 = .ok (.iconst 0, 1) := by decide +kernel
theorem dX9_bowl_39 : decode cX9_bowl 39 = .ok (.invokevirtual 179, 3) := by decide +kernel
theorem dX9_bowl_42 : decode cX9_bowl 42 = .ok (.ireturn, 1) := by decide +kernel
theorem dX9_isBall_0 : decode cX9_isBall 0 = .ok (.iload_n 0, 1) := by decide +kernel
theorem dX9_isBall_1 : decode cX9_isBall 1 = .ok (.ifCond .eq 8, 3) := by decide +kernel
theorem dX9_isBall_4 : decode cX9_isBall 4 = .ok (.iload_n 0, 1) := by decide +kernel
theorem dX9_isBall_5 : decode cX9_isBall 5 = .ok (.iconst 2, 1) := by decide +kernel
theorem dX9_isBall_6 : decode cX9_isBall 6 = .ok (.if_icmp .ne 13, 3) := by decide +kernel
theorem dX9_isBall_9 : decode cX9_isBall 9 = .ok (.iload_n 1, 1) := by decide +kernel
theorem dX9_isBall_10 : decode cX9_isBall 10 = .ok (.iconst 0, 1) := by decide +kernel
theorem dX9_isBall_11 : decode cX9_isBall 11 = .ok (.bipush 6, 2) := by decide +kernel
theorem dX9_isBall_13 : decode cX9_isBall 13 = .ok (.invokestatic 76, 3) := by decide +kernel
theorem dX9_isBall_16 : decode cX9_isBall 16 = .ok (.goto 40, 3) := by decide +kernel
theorem dX9_isBall_19 : decode cX9_isBall 19 = .ok (.iload_n 0, 1) := by decide +kernel
theorem dX9_isBall_20 : decode cX9_isBall 20 = .ok (.iconst 1, 1) := by decide +kernel
theorem dX9_isBall_21 : decode cX9_isBall 21 = .ok (.if_icmp .ne 12, 3) := by decide +kernel
theorem dX9_isBall_24 : decode cX9_isBall 24 = .ok (.iload_n 1, 1) := by decide +kernel
theorem dX9_isBall_25 : decode cX9_isBall 25 = .ok (.iconst 0, 1) := by decide +kernel
theorem dX9_isBall_26 : decode cX9_isBall 26 = .ok (.iconst 4, 1) := by decide +kernel
theorem dX9_isBall_27 : decode cX9_isBall 27 = .ok (.invokestatic 76, 3) := by decide +kernel
theorem dX9_isBall_30 : decode cX9_isBall 30 = .ok (.goto 26, 3) := by decide +kernel
theorem dX9_isBall_33 : decode cX9_isBall 33 = .ok (.iload_n 0, 1) := by decide +kernel
theorem dX9_isBall_34 : decode cX9_isBall 34 = .ok (.iconst 3, 1) := by decide +kernel
theorem dX9_isBall_35 : decode cX9_isBall 35 = .ok (.iconst 4, 1) := by decide +kernel
theorem dX9_isBall_36 : decode cX9_isBall 36 = .ok (.invokestatic 76, 3) := by decide +kernel
theorem dX9_isBall_39 : decode cX9_isBall 39 = .ok (.ifCond .eq 16, 3) := by decide +kernel
theorem dX9_isBall_42 : decode cX9_isBall 42 = .ok (.iload_n 1, 1) := by decide +kernel
theorem dX9_isBall_43 : decode cX9_isBall 43 = .ok (.iconst 1, 1) := by decide +kernel
theorem dX9_isBall_44 : decode cX9_isBall 44 = .ok (.iconst 4, 1) := by decide +kernel
theorem dX9_isBall_45 : decode cX9_isBall 45 = .ok (.invokestatic 76, 3) := by decide +kernel
theorem dX9_isBall_48 : decode cX9_isBall 48 = .ok (.ifCond .eq 7, 3) := by decide +kernel
theorem dX9_isBall_51 : decode cX9_isBall 51 = .ok (.iconst 1, 1) := by decide +kernel
theorem dX9_isBall_52 : decode cX9_isBall 52 = .ok (.goto 4, 3) := by decide +kernel
theorem dX9_isBall_55 : decode cX9_isBall 55 = .ok (.iconst 0, 1) := by decide +kernel
theorem dX9_isBall_56 : decode cX9_isBall 56 = .ok (.istore_n 3, 1) := by decide +kernel
theorem dX9_isBall_57 : decode cX9_isBall 57 = .ok (.iload_n 3, 1) := by decide +kernel
theorem dX9_isBall_58 : decode cX9_isBall 58 = .ok (.ifCond .eq 31, 3) := by decide +kernel
theorem dX9_isBall_61 : decode cX9_isBall 61 = .ok (.iload_n 2, 1) := by decide +kernel
theorem dX9_isBall_62 : decode cX9_isBall 62 = .ok (.ifCond .eq 23, 3) := by decide +kernel
theorem dX9_isBall_65 : decode cX9_isBall 65 = .ok (.iload_n 0, 1) := by decide +kernel
theorem dX9_isBall_66 : decode cX9_isBall 66 = .ok (.ifCond .eq 8, 3) := by decide +kernel
theorem dX9_isBall_69 : decode cX9_isBall 69 = .ok (.iload_n 0, 1) := by decide +kernel
theorem dX9_isBall_70 : decode cX9_isBall 70 = .ok (.iconst 2, 1) := by decide +kernel
theorem dX9_isBall_71 : decode cX9_isBall 71 = .ok (.if_icmp .ne 18, 3) := by decide +kernel
theorem dX9_isBall_74 : decode cX9_isBall 74 = .ok (.iload_n 1, 1) := by decide +kernel
theorem dX9_isBall_75 : decode cX9_isBall 75 = .ok (.iconst 4, 1) := by decide +kernel
theorem dX9_isBall_76 : decode cX9_isBall 76 = .ok (.if_icmp .eq 9, 3) := by decide +kernel
theorem dX9_isBall_79 : decode cX9_isBall 79 = .ok (.iload_n 1, 1) := by decide +kernel
theorem dX9_isBall_80 : decode cX9_isBall 80 = .ok (.bipush 6, 2) := by decide +kernel
theorem dX9_isBall_82 : decode cX9_isBall 82 = .ok (.if_icmp .ne 7, 3) := by decide +kernel
theorem dX9_isBall_85 : decode cX9_isBall 85 = .ok (.iconst 1, 1) := by decide +kernel
theorem dX9_isBall_86 : decode cX9_isBall 86 = .ok (.goto 4, 3) := by decide +kernel
theorem dX9_isBall_89 : decode cX9_isBall 89 = .ok (.iconst 0, 1) := by decide +kernel
theorem dX9_isBall_90 : decode cX9_isBall 90 = .ok (.ireturn, 1) := by decide +kernel
theorem dX9_ball_0 : decode cX9_ball 0 = .ok (.aload_n 0, 1) := by decide +kernel
theorem dX9_ball_1 : decode cX9_ball 1 = .ok (.iload_n 1, 1) := by decide +kernel
theorem dX9_ball_2 : decode cX9_ball 2 = .ok (.iload_n 2, 1) := by decide +kernel
theorem dX9_ball_3 : decode cX9_ball 3 = .ok (.iload_n 3, 1) := by decide +kernel
theorem dX9_ball_4 : decode cX9_ball 4 = .ok (.invokestatic 183, 3) := by decide +kernel
theorem dX9_ball_7 : decode cX9_ball 7 = .ok (.ifCond .eq 7, 3) := by decide +kernel
theorem dX9_ball_10 : decode cX9_ball 10 = .ok (.iconst 0, 1) := by decide +kernel
theorem dX9_ball_11 : decode cX9_ball 11 = .ok (.goto 4, 3) := by decide +kernel
theorem dX9_ball_14 : decode cX9_ball 14 = .ok (.iconst 1, 1) := by decide +kernel
theorem dX9_ball_15 : decode cX9_ball 15 = .ok (.putfield 55, 3) := by decide +kernel
theorem dX9_ball_18 : decode cX9_ball 18 = .ok (.aload_n 0, 1) := by decide +kernel
theorem dX9_ball_19 : decode cX9_ball 19 = .ok (.getfield 55, 3) := by decide +kernel
theorem dX9_ball_22 : decode cX9_ball 22 = .ok (.iconst 1, 1) := by decide +kernel
theorem dX9_ball_23 : decode cX9_ball 23 = .ok (.if_icmp .ne 7, 3) := by decide +kernel
theorem dX9_ball_26 : decode cX9_ball 26 = .ok (.iconst 0, 1) := by decide +kernel
theorem dX9_ball_27 : decode cX9_ball 27 = .ok (.goto 17, 3) := by decide +kernel
theorem dX9_ball_30 : decode cX9_ball 30 = .ok (.aload_n 0, 1) := by decide +kernel
theorem dX9_ball_31 : decode cX9_ball 31 = .ok (.iconst 2, 1) := by decide +kernel
theorem dX9_ball_32 : decode cX9_ball 32 = .ok (.iconst 1, 1) := by decide +kernel
theorem dX9_ball_33 : decode cX9_ball 33 = .ok (.iload_n 1, 1) := by decide +kernel
theorem dX9_ball_34 : decode cX9_ball 34 = .ok (.iload_n 2, 1) := by decide +kernel
theorem dX9_ball_35 : decode cX9_ball 35 = .ok (.iload_n 3, 1) := by decide +kernel
theorem dX9_ball_36 : decode cX9_ball 36 = .ok (.invokestatic 187, 3) := by decide +kernel
theorem dX9_ball_39 : decode cX9_ball 39 = .ok (.iconst 0, 1) := by decide +kernel
theorem dX9_ball_40 : decode cX9_ball 40 = .ok (.iconst 0, 1) := by decide +kernel
theorem dX9_ball_41 : decode cX9_ball 41 = .ok (.invokevirtual 179, 3) := by decide +kernel
theorem dX9_ball_44 : decode cX9_ball 44 = .ok (.ireturn, 1) := by decide +kernel
theorem dX9_wicket_0 : decode cX9_wicket 0 = .ok (.aload_n 0, 1) := by decide +kernel
theorem dX9_wicket_1 : decode cX9_wicket 1 = .ok (.iload_n 1, 1) := by decide +kernel
theorem dX9_wicket_2 : decode cX9_wicket 2 = .ok (.iconst 0, 1) := by decide +kernel
theorem dX9_wicket_3 : decode cX9_wicket 3 = .ok (.iconst 5, 1) := by decide +kernel
theorem dX9_wicket_4 : decode cX9_wicket 4 = .ok (.invokestatic 76, 3) := by decide +kernel
theorem dX9_wicket_7 : decode cX9_wicket 7 = .ok (.ifCond .eq 26, 3) := by decide +kernel
theorem dX9_wicket_10 : decode cX9_wicket 10 = .ok (.iload_n 2, 1) := by decide +kernel
theorem dX9_wicket_11 : decode cX9_wicket 11 = .ok (.iconst 0, 1) := by decide +kernel
theorem dX9_wicket_12 : decode cX9_wicket 12 = .ok (.iconst 2, 1) := by decide +kernel
theorem dX9_wicket_13 : decode cX9_wicket 13 = .ok (.invokestatic 76, 3) := by decide +kernel
theorem dX9_wicket_16 : decode cX9_wicket 16 = .ok (.ifCond .eq 17, 3) := by decide +kernel
theorem dX9_wicket_19 : decode cX9_wicket 19 = .ok (.iload 4, 2) := by decide +kernel
theorem dX9_wicket_21 : decode cX9_wicket 21 = .ok (.iconst 0, 1) := by decide +kernel
theorem dX9_wicket_22 : decode cX9_wicket 22 = .ok (.iconst 3, 1) := by decide +kernel
theorem dX9_wicket_23 : decode cX9_wicket 23 = .ok (.invokestatic 76, 3) := by decide +kernel
theorem dX9_wicket_26 : decode cX9_wicket 26 = .ok (.ifCond .eq 7, 3) := by decide +kernel
theorem dX9_wicket_29 : decode cX9_wicket 29 = .ok (.iconst 0, 1) := by decide +kernel
theorem dX9_wicket_30 : decode cX9_wicket 30 = .ok (.goto 4, 3) := by decide +kernel
theorem dX9_wicket_33 : decode cX9_wicket 33 = .ok (.iconst 1, 1) := by decide +kernel
theorem dX9_wicket_34 : decode cX9_wicket 34 = .ok (.putfield 55, 3) := by decide +kernel
theorem dX9_wicket_37 : decode cX9_wicket 37 = .ok (.aload_n 0, 1) := by decide +kernel
theorem dX9_wicket_38 : decode cX9_wicket 38 = .ok (.getfield 55, 3) := by decide +kernel
theorem dX9_wicket_41 : decode cX9_wicket 41 = .ok (.iconst 1, 1) := by decide +kernel
theorem dX9_wicket_42 : decode cX9_wicket 42 = .ok (.if_icmp .ne 7, 3) := by decide +kernel
theorem dX9_wicket_45 : decode cX9_wicket 45 = .ok (.iconst 0, 1) := by decide +kernel
theorem dX9_wicket_46 : decode cX9_wicket 46 = .ok (.goto 22, 3) := by decide +kernel
theorem dX9_wicket_49 : decode cX9_wicket 49 = .ok (.aload_n 0, 1) := by decide +kernel
theorem dX9_wicket_50 : decode cX9_wicket 50 = .ok (.iconst 2, 1) := by decide +kernel
theorem dX9_wicket_51 : decode cX9_wicket 51 = .ok (.iconst 2, 1) := by decide +kernel
theorem dX9_wicket_52 : decode cX9_wicket 52 = .ok (.iload_n 1, 1) := by decide +kernel
theorem dX9_wicket_53 : decode cX9_wicket 53 = .ok (.iload_n 2, 1) := by decide +kernel
theorem dX9_wicket_54 : decode cX9_wicket 54 = .ok (.iload_n 3, 1) := by decide +kernel
theorem dX9_wicket_55 : decode cX9_wicket 55 = .ok (.invokestatic 187, 3) := by decide +kernel
theorem dX9_wicket_58 : decode cX9_wicket 58 = .ok (.iload 4, 2) := by decide +kernel
theorem dX9_wicket_60 : decode cX9_wicket 60 = .ok (.iload 5, 2) := by decide +kernel
theorem dX9_wicket_62 : decode cX9_wicket 62 = .ok (.invokestatic 187, 3) := by decide +kernel
theorem dX9_wicket_65 : decode cX9_wicket 65 = .ok (.invokevirtual 179, 3) := by decide +kernel
theorem dX9_wicket_68 : decode cX9_wicket 68 = .ok (.ireturn, 1) := by decide +kernel
theorem dX9_retire_0 : decode cX9_retire 0 = .ok (.aload_n 0, 1) := by decide +kernel
theorem dX9_retire_1 : decode cX9_retire 1 = .ok (.iconst 0, 1) := by decide +kernel
theorem dX9_retire_2 : decode cX9_retire 2 = .ok (.putfield 55, 3) := by decide +kernel
theorem dX9_retire_5 : decode cX9_retire 5 = .ok (.aload_n 0, 1) := by decide +kernel
theorem dX9_retire_6 : decode cX9_retire 6 = .ok (.iconst 1, 1) := by decide +kernel
theorem dX9_retire_7 : decode cX9_retire 7 = .ok (.iconst 3, 1) := by decide +kernel
theorem dX9_retire_8 : decode cX9_retire 8 = .ok (.iload_n 1, 1) := by decide +kernel
theorem dX9_retire_9 : decode cX9_retire 9 = .ok (.invokestatic 187, 3) := by decide +kernel
theorem dX9_retire_12 : decode cX9_retire 12 = .ok (.iload_n 2, 1) := by decide +kernel
theorem dX9_retire_13 : decode cX9_retire 13 = .ok (.invokestatic 187, 3) := by decide +kernel
theorem dX9_retire_16 : decode cX9_retire 16 = .ok (.iconst 0, 1) := by decide +kernel
theorem dX9_retire_17 : decode cX9_retire 17 = .ok (.iconst 0, 1) := by decide +kernel
theorem dX9_retire_18 : decode cX9_retire 18 = .ok (.iconst 0, 1) := by decide +kernel
theorem dX9_retire_19 : decode cX9_retire 19 = .ok (.invokevirtual 179, 3) := by decide +kernel
theorem dX9_retire_22 : decode cX9_retire 22 = .ok (.ireturn, 1) := by decide +kernel
theorem dX9_choose_0 : decode cX9_choose 0 = .ok (.aload_n 0, 1) := by decide +kernel
theorem dX9_choose_1 : decode cX9_choose 1 = .ok (.iload_n 1, 1) := by decide +kernel
theorem dX9_choose_2 : decode cX9_choose 2 = .ok (.iconst 0, 1) := by decide +kernel
theorem dX9_choose_3 : decode cX9_choose 3 = .ok (.bipush 10, 2) := by decide +kernel
theorem dX9_choose_5 : decode cX9_choose 5 = .ok (.invokestatic 76, 3) := by decide +kernel
theorem dX9_choose_8 : decode cX9_choose 8 = .ok (.ifCond .eq 7, 3) := by decide +kernel
theorem dX9_choose_11 : decode cX9_choose 11 = .ok (.iconst 0, 1) := by decide +kernel
theorem dX9_choose_12 : decode cX9_choose 12 = .ok (.goto 4, 3) := by decide +kernel
theorem dX9_choose_15 : decode cX9_choose 15 = .ok (.iconst 1, 1) := by decide +kernel
theorem dX9_choose_16 : decode cX9_choose 16 = .ok (.putfield 55, 3) := by decide +kernel
theorem dX9_choose_19 : decode cX9_choose 19 = .ok (.aload_n 0, 1) := by decide +kernel
theorem dX9_choose_20 : decode cX9_choose 20 = .ok (.getfield 55, 3) := by decide +kernel
theorem dX9_choose_23 : decode cX9_choose 23 = .ok (.iconst 1, 1) := by decide +kernel
theorem dX9_choose_24 : decode cX9_choose 24 = .ok (.if_icmp .ne 7, 3) := by decide +kernel
theorem dX9_choose_27 : decode cX9_choose 27 = .ok (.iconst 0, 1) := by decide +kernel
theorem dX9_choose_28 : decode cX9_choose 28 = .ok (.goto 14, 3) := by decide +kernel
theorem dX9_choose_31 : decode cX9_choose 31 = .ok (.aload_n 0, 1) := by decide +kernel
theorem dX9_choose_32 : decode cX9_choose 32 = .ok (.iconst 2, 1) := by decide +kernel
theorem dX9_choose_33 : decode cX9_choose 33 = .ok (.iconst 4, 1) := by decide +kernel
theorem dX9_choose_34 : decode cX9_choose 34 = .ok (.iload_n 1, 1) := by decide +kernel
theorem dX9_choose_35 : decode cX9_choose 35 = .ok (.iconst 0, 1) := by decide +kernel
theorem dX9_choose_36 : decode cX9_choose 36 = .ok (.iconst 0, 1) := by decide +kernel
theorem dX9_choose_37 : decode cX9_choose 37 = .ok (.iconst 0, 1) := by decide +kernel
theorem dX9_choose_38 : decode cX9_choose 38 = .ok (.iconst 0, 1) := by decide +kernel
theorem dX9_choose_39 : decode cX9_choose 39 = .ok (.invokevirtual 179, 3) := by decide +kernel
theorem dX9_choose_42 : decode cX9_choose 42 = .ok (.ireturn, 1) := by decide +kernel
theorem dX9_declare_0 : decode cX9_declare 0 = .ok (.aload_n 0, 1) := by decide +kernel
theorem dX9_declare_1 : decode cX9_declare 1 = .ok (.iconst 0, 1) := by decide +kernel
theorem dX9_declare_2 : decode cX9_declare 2 = .ok (.putfield 55, 3) := by decide +kernel
theorem dX9_declare_5 : decode cX9_declare 5 = .ok (.aload_n 0, 1) := by decide +kernel
theorem dX9_declare_6 : decode cX9_declare 6 = .ok (.iconst 1, 1) := by decide +kernel
theorem dX9_declare_7 : decode cX9_declare 7 = .ok (.iconst 5, 1) := by decide +kernel
theorem dX9_declare_8 : decode cX9_declare 8 = .ok (.iconst 0, 1) := by decide +kernel
theorem dX9_declare_9 : decode cX9_declare 9 = .ok (.iconst 0, 1) := by decide +kernel
theorem dX9_declare_10 : decode cX9_declare 10 = .ok (.iconst 0, 1) := by decide +kernel
theorem dX9_declare_11 : decode cX9_declare 11 = .ok (.iconst 0, 1) := by decide +kernel
theorem dX9_declare_12 : decode cX9_declare 12 = .ok (.iconst 0, 1) := by decide +kernel
theorem dX9_declare_13 : decode cX9_declare 13 = .ok (.invokevirtual 179, 3) := by decide +kernel
theorem dX9_declare_16 : decode cX9_declare 16 = .ok (.ireturn, 1) := by decide +kernel
theorem dX9_loseOvers_0 : decode cX9_loseOvers 0 = .ok (.aload_n 0, 1) := by decide +kernel
theorem dX9_loseOvers_1 : decode cX9_loseOvers 1 = .ok (.iload_n 1, 1) := by decide +kernel
theorem dX9_loseOvers_2 : decode cX9_loseOvers 2 = .ok (.iconst 1, 1) := by decide +kernel
theorem dX9_loseOvers_3 : decode cX9_loseOvers 3 = .ok (.bipush 19, 2) := by decide +kernel
theorem dX9_loseOvers_5 : decode cX9_loseOvers 5 = .ok (.invokestatic 76, 3) := by decide +kernel
theorem dX9_loseOvers_8 : decode cX9_loseOvers 8 = .ok (.ifCond .eq 7, 3) := by decide +kernel
theorem dX9_loseOvers_11 : decode cX9_loseOvers 11 = .ok (.iconst 0, 1) := by decide +kernel
theorem dX9_loseOvers_12 : decode cX9_loseOvers 12 = .ok (.goto 4, 3) := by decide +kernel
theorem dX9_loseOvers_15 : decode cX9_loseOvers 15 = .ok (.iconst 1, 1) := by decide +kernel
theorem dX9_loseOvers_16 : decode cX9_loseOvers 16 = .ok (.putfield 55, 3) := by decide +kernel
theorem dX9_loseOvers_19 : decode cX9_loseOvers 19 = .ok (.aload_n 0, 1) := by decide +kernel
theorem dX9_loseOvers_20 : decode cX9_loseOvers 20 = .ok (.getfield 55, 3) := by decide +kernel
theorem dX9_loseOvers_23 : decode cX9_loseOvers 23 = .ok (.iconst 1, 1) := by decide +kernel
theorem dX9_loseOvers_24 : decode cX9_loseOvers 24 = .ok (.if_icmp .ne 7, 3) := by decide +kernel
theorem dX9_loseOvers_27 : decode cX9_loseOvers 27 = .ok (.iconst 0, 1) := by decide +kernel
theorem dX9_loseOvers_28 : decode cX9_loseOvers 28 = .ok (.goto 15, 3) := by decide +kernel
theorem dX9_loseOvers_31 : decode cX9_loseOvers 31 = .ok (.aload_n 0, 1) := by decide +kernel
theorem dX9_loseOvers_32 : decode cX9_loseOvers 32 = .ok (.iconst 2, 1) := by decide +kernel
theorem dX9_loseOvers_33 : decode cX9_loseOvers 33 = .ok (.bipush 6, 2) := by decide +kernel
theorem dX9_loseOvers_35 : decode cX9_loseOvers 35 = .ok (.iload_n 1, 1) := by decide +kernel
theorem dX9_loseOvers_36 : decode cX9_loseOvers 36 = .ok (.iconst 0, 1) := by decide +kernel
theorem dX9_loseOvers_37 : decode cX9_loseOvers 37 = .ok (.iconst 0, 1) := by decide +kernel
theorem dX9_loseOvers_38 : decode cX9_loseOvers 38 = .ok (.iconst 0, 1) := by decide +kernel
theorem dX9_loseOvers_39 : decode cX9_loseOvers 39 = .ok (.iconst 0, 1) := by decide +kernel
theorem dX9_loseOvers_40 : decode cX9_loseOvers 40 = .ok (.invokevirtual 179, 3) := by decide +kernel
theorem dX9_loseOvers_43 : decode cX9_loseOvers 43 = .ok (.ireturn, 1) := by decide +kernel
theorem dX9_append_0 : decode cX9_append 0 = .ok (.aload_n 0, 1) := by decide +kernel
theorem dX9_append_1 : decode cX9_append 1 = .ok (.iload_n 1, 1) := by decide +kernel
theorem dX9_append_2 : decode cX9_append 2 = .ok (.bipush 32, 2) := by decide +kernel
theorem dX9_append_4 : decode cX9_append 4 = .ok (.bipush 126, 2) := by decide +kernel
theorem dX9_append_6 : decode cX9_append 6 = .ok (.invokestatic 76, 3) := by decide +kernel
theorem dX9_append_9 : decode cX9_append 9 = .ok (.ifCond .ne 7, 3) := by decide +kernel
theorem dX9_append_12 : decode cX9_append 12 = .ok (.iconst 1, 1) := by decide +kernel
theorem dX9_append_13 : decode cX9_append 13 = .ok (.goto 17, 3) := by decide +kernel
theorem dX9_append_16 : decode cX9_append 16 = .ok (.aload_n 0, 1) := by decide +kernel
theorem dX9_append_17 : decode cX9_append 17 = .ok (.getfield 191, 3) := by decide +kernel
theorem dX9_append_20 : decode cX9_append 20 = .ok (.bipush 60, 2) := by decide +kernel
theorem dX9_append_22 : decode cX9_append 22 = .ok (.if_icmp .ne 7, 3) := by decide +kernel
theorem dX9_append_25 : decode cX9_append 25 = .ok (.iconst 2, 1) := by decide +kernel
theorem dX9_append_26 : decode cX9_append 26 = .ok (.goto 4, 3) := by decide +kernel
theorem dX9_append_29 : decode cX9_append 29 = .ok (.iconst 0, 1) := by decide +kernel
theorem dX9_append_30 : decode cX9_append 30 = .ok (.putfield 55, 3) := by decide +kernel
theorem dX9_append_33 : decode cX9_append 33 = .ok (.aload_n 0, 1) := by decide +kernel
theorem dX9_append_34 : decode cX9_append 34 = .ok (.getfield 55, 3) := by decide +kernel
theorem dX9_append_37 : decode cX9_append 37 = .ok (.ifCond .le 5, 3) := by decide +kernel
theorem dX9_append_40 : decode cX9_append 40 = .ok (.iconst 0, 1) := by decide +kernel
theorem dX9_append_41 : decode cX9_append 41 = .ok (.ireturn, 1) := by decide +kernel
theorem dX9_append_42 : decode cX9_append 42 = .ok (.aload_n 0, 1) := by decide +kernel
theorem dX9_append_43 : decode cX9_append 43 = .ok (.getfield 29, 3) := by decide +kernel
theorem dX9_append_46 : decode cX9_append 46 = .ok (.aload_n 0, 1) := by decide +kernel
theorem dX9_append_47 : decode cX9_append 47 = .ok (.getfield 191, 3) := by decide +kernel
theorem dX9_append_50 : decode cX9_append 50 = .ok (.iload_n 1, 1) := by decide +kernel
theorem dX9_append_51 : decode cX9_append 51 = .ok (.iastore, 1) := by decide +kernel
theorem dX9_append_52 : decode cX9_append 52 = .ok (.aload_n 0, 1) := by decide +kernel
theorem dX9_append_53 : decode cX9_append 53 = .ok (.dup, 1) := by decide +kernel
theorem dX9_append_54 : decode cX9_append 54 = .ok (.getfield 191, 3) := by decide +kernel
theorem dX9_append_57 : decode cX9_append 57 = .ok (.iconst 1, 1) := by decide +kernel
theorem dX9_append_58 : decode cX9_append 58 = .ok (.iadd, 1) := by decide +kernel
theorem dX9_append_59 : decode cX9_append 59 = .ok (.putfield 191, 3) := by decide +kernel
theorem dX9_append_62 : decode cX9_append 62 = .ok (.aload_n 0, 1) := by decide +kernel
theorem dX9_append_63 : decode cX9_append 63 = .ok (.getfield 191, 3) := by decide +kernel
theorem dX9_append_66 : decode cX9_append 66 = .ok (.ireturn, 1) := by decide +kernel
theorem dX9_here_0 : decode cX9_here 0 = .ok (.aload_n 0, 1) := by decide +kernel
theorem dX9_here_1 : decode cX9_here 1 = .ok (.getfield 194, 3) := by decide +kernel
theorem dX9_here_4 : decode cX9_here 4 = .ok (.aload_n 0, 1) := by decide +kernel
theorem dX9_here_5 : decode cX9_here 5 = .ok (.getfield 191, 3) := by decide +kernel
theorem dX9_here_8 : decode cX9_here 8 = .ok (.if_icmp .ge 15, 3) := by decide +kernel
theorem dX9_here_11 : decode cX9_here 11 = .ok (.aload_n 0, 1) := by decide +kernel
theorem dX9_here_12 : decode cX9_here 12 = .ok (.getfield 29, 3) := by decide +kernel
theorem dX9_here_15 : decode cX9_here 15 = .ok (.aload_n 0, 1) := by decide +kernel
theorem dX9_here_16 : decode cX9_here 16 = .ok (.getfield 194, 3) := by decide +kernel
theorem dX9_here_19 : decode cX9_here 19 = .ok (.iaload, 1) := by decide +kernel
theorem dX9_here_20 : decode cX9_here 20 = .ok (.goto 4, 3) := by decide +kernel
theorem dX9_here_23 : decode cX9_here 23 = .ok (.iconst (-1), 1) := by decide +kernel
theorem dX9_here_24 : decode cX9_here 24 = .ok (.ireturn, 1) := by decide +kernel
theorem dX9_element_0 : decode cX9_element 0 = .ok (.aload_n 0, 1) := by decide +kernel
theorem dX9_element_1 : decode cX9_element 1 = .ok (.getfield 39, 3) := by decide +kernel
theorem dX9_element_4 : decode cX9_element 4 = .ok (.iconst 4, 1) := by decide +kernel
theorem dX9_element_5 : decode cX9_element 5 = .ok (.aload_n 0, 1) := by decide +kernel
theorem dX9_element_6 : decode cX9_element 6 = .ok (.getfield 197, 3) := by decide +kernel
theorem dX9_element_9 : decode cX9_element 9 = .ok (.imul, 1) := by decide +kernel
theorem dX9_element_10 : decode cX9_element 10 = .ok (.iload_n 1, 1) := by decide +kernel
theorem dX9_element_11 : decode cX9_element 11 = .ok (.iastore, 1) := by decide +kernel
theorem dX9_element_12 : decode cX9_element 12 = .ok (.aload_n 0, 1) := by decide +kernel
theorem dX9_element_13 : decode cX9_element 13 = .ok (.getfield 39, 3) := by decide +kernel
theorem dX9_element_16 : decode cX9_element 16 = .ok (.iconst 4, 1) := by decide +kernel
theorem dX9_element_17 : decode cX9_element 17 = .ok (.aload_n 0, 1) := by decide +kernel
theorem dX9_element_18 : decode cX9_element 18 = .ok (.getfield 197, 3) := by decide +kernel
theorem dX9_element_21 : decode cX9_element 21 = .ok (.imul, 1) := by decide +kernel
theorem dX9_element_22 : decode cX9_element 22 = .ok (.iconst 1, 1) := by decide +kernel
theorem dX9_element_23 : decode cX9_element 23 = .ok (.iadd, 1) := by decide +kernel
theorem dX9_element_24 : decode cX9_element 24 = .ok (.iload_n 2, 1) := by decide +kernel
theorem dX9_element_25 : decode cX9_element 25 = .ok (.iastore, 1) := by decide +kernel
theorem dX9_element_26 : decode cX9_element 26 = .ok (.aload_n 0, 1) := by decide +kernel
theorem dX9_element_27 : decode cX9_element 27 = .ok (.getfield 39, 3) := by decide +kernel
theorem dX9_element_30 : decode cX9_element 30 = .ok (.iconst 4, 1) := by decide +kernel
theorem dX9_element_31 : decode cX9_element 31 = .ok (.aload_n 0, 1) := by decide +kernel
theorem dX9_element_32 : decode cX9_element 32 = .ok (.getfield 197, 3) := by decide +kernel
theorem dX9_element_35 : decode cX9_element 35 = .ok (.imul, 1) := by decide +kernel
theorem dX9_element_36 : decode cX9_element 36 = .ok (.iconst 2, 1) := by decide +kernel
theorem dX9_element_37 : decode cX9_element 37 = .ok (.iadd, 1) := by decide +kernel
theorem dX9_element_38 : decode cX9_element 38 = .ok (.iload_n 3, 1) := by decide +kernel
theorem dX9_element_39 : decode cX9_element 39 = .ok (.iastore, 1) := by decide +kernel
theorem dX9_element_40 : decode cX9_element 40 = .ok (.aload_n 0, 1) := by decide +kernel
theorem dX9_element_41 : decode cX9_element 41 = .ok (.getfield 39, 3) := by decide +kernel
theorem dX9_element_44 : decode cX9_element 44 = .ok (.iconst 4, 1) := by decide +kernel
theorem dX9_element_45 : decode cX9_element 45 = .ok (.aload_n 0, 1) := by decide +kernel
theorem dX9_element_46 : decode cX9_element 46 = .ok (.getfield 197, 3) := by decide +kernel
theorem dX9_element_49 : decode cX9_element 49 = .ok (.imul, 1) := by decide +kernel
theorem dX9_element_50 : decode cX9_element 50 = .ok (.iconst 3, 1) := by decide +kernel
theorem dX9_element_51 : decode cX9_element 51 = .ok (.iadd, 1) := by decide +kernel
theorem dX9_element_52 : decode cX9_element 52 = .ok (.iload 4, 2) := by decide +kernel
theorem dX9_element_54 : decode cX9_element 54 = .ok (.iastore, 1) := by decide +kernel
theorem dX9_element_55 : decode cX9_element 55 = .ok (.aload_n 0, 1) := by decide +kernel
theorem dX9_element_56 : decode cX9_element 56 = .ok (.dup, 1) := by decide +kernel
theorem dX9_element_57 : decode cX9_element 57 = .ok (.getfield 197, 3) := by decide +kernel
theorem dX9_element_60 : decode cX9_element 60 = .ok (.iconst 1, 1) := by decide +kernel
theorem dX9_element_61 : decode cX9_element 61 = .ok (.iadd, 1) := by decide +kernel
theorem dX9_element_62 : decode cX9_element 62 = .ok (.putfield 197, 3) := by decide +kernel
theorem dX9_element_65 : decode cX9_element 65 = .ok (.return_, 1) := by decide +kernel
theorem dX9_follows_0 : decode cX9_follows 0 = .ok (.aload_n 0, 1) := by decide +kernel
theorem dX9_follows_1 : decode cX9_follows 1 = .ok (.invokevirtual 200, 3) := by decide +kernel
theorem dX9_follows_4 : decode cX9_follows 4 = .ok (.bipush 48, 2) := by decide +kernel
theorem dX9_follows_6 : decode cX9_follows 6 = .ok (.isub, 1) := by decide +kernel
theorem dX9_follows_7 : decode cX9_follows 7 = .ok (.istore_n 2, 1) := by decide +kernel
theorem dX9_follows_8 : decode cX9_follows 8 = .ok (.iload_n 2, 1) := by decide +kernel
theorem dX9_follows_9 : decode cX9_follows 9 = .ok (.iconst 1, 1) := by decide +kernel
theorem dX9_follows_10 : decode cX9_follows 10 = .ok (.iload_n 1, 1) := by decide +kernel
theorem dX9_follows_11 : decode cX9_follows 11 = .ok (.invokestatic 76, 3) := by decide +kernel
theorem dX9_follows_14 : decode cX9_follows 14 = .ok (.ifCond .ne 5, 3) := by decide +kernel
theorem dX9_follows_17 : decode cX9_follows 17 = .ok (.iconst 0, 1) := by decide +kernel
theorem dX9_follows_18 : decode cX9_follows 18 = .ok (.ireturn, 1) := by decide +kernel
theorem dX9_follows_19 : decode cX9_follows 19 = .ok (.aload_n 0, 1) := by decide +kernel
theorem dX9_follows_20 : decode cX9_follows 20 = .ok (.dup, 1) := by decide +kernel
theorem dX9_follows_21 : decode cX9_follows 21 = .ok (.getfield 194, 3) := by decide +kernel
theorem dX9_follows_24 : decode cX9_follows 24 = .ok (.iconst 1, 1) := by decide +kernel
theorem dX9_follows_25 : decode cX9_follows 25 = .ok (.iadd, 1) := by decide +kernel
theorem dX9_follows_26 : decode cX9_follows 26 = .ok (.putfield 194, 3) := by decide +kernel
theorem dX9_follows_29 : decode cX9_follows 29 = .ok (.iload_n 2, 1) := by decide +kernel
theorem dX9_follows_30 : decode cX9_follows 30 = .ok (.ireturn, 1) := by decide +kernel
theorem dX9_isElement_0 : decode cX9_isElement 0 = .ok (.aload_n 0, 1) := by decide +kernel
theorem dX9_isElement_1 : decode cX9_isElement 1 = .ok (.invokevirtual 200, 3) := by decide +kernel
theorem dX9_isElement_4 : decode cX9_isElement 4 = .ok (.istore_n 1, 1) := by decide +kernel
theorem dX9_isElement_5 : decode cX9_isElement 5 = .ok (.aload_n 0, 1) := by decide +kernel
theorem dX9_isElement_6 : decode cX9_isElement 6 = .ok (.dup, 1) := by decide +kernel
theorem dX9_isElement_7 : decode cX9_isElement 7 = .ok (.getfield 194, 3) := by decide +kernel
theorem dX9_isElement_10 : decode cX9_isElement 10 = .ok (.iconst 1, 1) := by decide +kernel
theorem dX9_isElement_11 : decode cX9_isElement 11 = .ok (.iadd, 1) := by decide +kernel
theorem dX9_isElement_12 : decode cX9_isElement 12 = .ok (.putfield 194, 3) := by decide +kernel
theorem dX9_isElement_15 : decode cX9_isElement 15 = .ok (.iload_n 1, 1) := by decide +kernel
theorem dX9_isElement_16 : decode cX9_isElement 16 = .ok (.lookupswitch 273 #[(46, 92), (64, 225), (67, 185), (76, 185), (82, 185), (87, 185), (98, 151), (108, 151), (110, 116), (119, 102)], 92) := by decide +kernel
theorem dX9_isElement_108 : decode cX9_isElement 108 = .ok (.aload_n 0, 1) := by decide +kernel
theorem dX9_isElement_109 : decode cX9_isElement 109 = .ok (.iconst 1, 1) := by decide +kernel
theorem dX9_isElement_110 : decode cX9_isElement 110 = .ok (.iconst 0, 1) := by decide +kernel
theorem dX9_isElement_111 : decode cX9_isElement 111 = .ok (.iconst 0, 1) := by decide +kernel
theorem dX9_isElement_112 : decode cX9_isElement 112 = .ok (.iconst 0, 1) := by decide +kernel
theorem dX9_isElement_113 : decode cX9_isElement 113 = .ok (.invokevirtual 203, 3) := by decide +kernel
theorem dX9_isElement_116 : decode cX9_isElement 116 = .ok (.iconst 1, 1) := by decide +kernel
theorem dX9_isElement_117 : decode cX9_isElement 117 = .ok (.ireturn, 1) := by decide +kernel
theorem dX9_isElement_118 : decode cX9_isElement 118 = .ok (.aload_n 0, 1) := by decide +kernel
theorem dX9_isElement_119 : decode cX9_isElement 119 = .ok (.iconst 1, 1) := by decide +kernel
theorem dX9_isElement_120 : decode cX9_isElement 120 = .ok (.iconst 1, 1) := by decide +kernel
theorem dX9_isElement_121 : decode cX9_isElement 121 = .ok (.aload_n 0, 1) := by decide +kernel
theorem dX9_isElement_122 : decode cX9_isElement 122 = .ok (.iconst 4, 1) := by decide +kernel
theorem dX9_isElement_123 : decode cX9_isElement 123 = .ok (.invokevirtual 207, 3) := by decide +kernel
theorem dX9_isElement_126 : decode cX9_isElement 126 = .ok (.iconst 0, 1) := by decide +kernel
theorem dX9_isElement_127 : decode cX9_isElement 127 = .ok (.invokevirtual 203, 3) := by decide +kernel
theorem dX9_isElement_130 : decode cX9_isElement 130 = .ok (.iconst 1, 1) := by decide +kernel
theorem dX9_isElement_131 : decode cX9_isElement 131 = .ok (.ireturn, 1) := by decide +kernel
theorem dX9_isElement_132 : decode cX9_isElement 132 = .ok (.aload_n 0, 1) := by decide +kernel
theorem dX9_isElement_133 : decode cX9_isElement 133 = .ok (.bipush 6, 2) := by decide +kernel
theorem dX9_isElement_135 : decode cX9_isElement 135 = .ok (.invokevirtual 207, 3) := by decide +kernel
theorem dX9_isElement_138 : decode cX9_isElement 138 = .ok (.istore_n 2, 1) := by decide +kernel
theorem dX9_isElement_139 : decode cX9_isElement 139 = .ok (.aload_n 0, 1) := by decide +kernel
theorem dX9_isElement_140 : decode cX9_isElement 140 = .ok (.iconst 1, 1) := by decide +kernel
theorem dX9_isElement_141 : decode cX9_isElement 141 = .ok (.iconst 2, 1) := by decide +kernel
theorem dX9_isElement_142 : decode cX9_isElement 142 = .ok (.iload_n 2, 1) := by decide +kernel
theorem dX9_isElement_143 : decode cX9_isElement 143 = .ok (.iload_n 2, 1) := by decide +kernel
theorem dX9_isElement_144 : decode cX9_isElement 144 = .ok (.iconst 4, 1) := by decide +kernel
theorem dX9_isElement_145 : decode cX9_isElement 145 = .ok (.if_icmp .eq 9, 3) := by decide +kernel
theorem dX9_isElement_148 : decode cX9_isElement 148 = .ok (.iload_n 2, 1) := by decide +kernel
theorem dX9_isElement_149 : decode cX9_isElement 149 = .ok (.bipush 6, 2) := by decide +kernel
theorem dX9_isElement_151 : decode cX9_isElement 151 = .ok (.if_icmp .ne 7, 3) := by decide +kernel
theorem dX9_isElement_154 : decode cX9_isElement 154 = .ok (.iconst 1, 1) := by decide +kernel
theorem dX9_isElement_155 : decode cX9_isElement 155 = .ok (.goto 4, 3) := by decide +kernel
theorem dX9_isElement_158 : decode cX9_isElement 158 = .ok (.iconst 0, 1) := by decide +kernel
theorem dX9_isElement_159 : decode cX9_isElement 159 = .ok (.invokestatic 187, 3) := by decide +kernel
theorem dX9_isElement_162 : decode cX9_isElement 162 = .ok (.invokevirtual 203, 3) := by decide +kernel
theorem dX9_isElement_165 : decode cX9_isElement 165 = .ok (.iconst 1, 1) := by decide +kernel
theorem dX9_isElement_166 : decode cX9_isElement 166 = .ok (.ireturn, 1) := by decide +kernel
theorem dX9_isElement_167 : decode cX9_isElement 167 = .ok (.aload_n 0, 1) := by decide +kernel
theorem dX9_isElement_168 : decode cX9_isElement 168 = .ok (.iconst 4, 1) := by decide +kernel
theorem dX9_isElement_169 : decode cX9_isElement 169 = .ok (.invokevirtual 207, 3) := by decide +kernel
theorem dX9_isElement_172 : decode cX9_isElement 172 = .ok (.istore_n 2, 1) := by decide +kernel
theorem dX9_isElement_173 : decode cX9_isElement 173 = .ok (.aload_n 0, 1) := by decide +kernel
theorem dX9_isElement_174 : decode cX9_isElement 174 = .ok (.iconst 1, 1) := by decide +kernel
theorem dX9_isElement_175 : decode cX9_isElement 175 = .ok (.iload_n 1, 1) := by decide +kernel
theorem dX9_isElement_176 : decode cX9_isElement 176 = .ok (.bipush 98, 2) := by decide +kernel
theorem dX9_isElement_178 : decode cX9_isElement 178 = .ok (.if_icmp .ne 7, 3) := by decide +kernel
theorem dX9_isElement_181 : decode cX9_isElement 181 = .ok (.iconst 3, 1) := by decide +kernel
theorem dX9_isElement_182 : decode cX9_isElement 182 = .ok (.goto 4, 3) := by decide +kernel
theorem dX9_isElement_185 : decode cX9_isElement 185 = .ok (.iconst 4, 1) := by decide +kernel
theorem dX9_isElement_186 : decode cX9_isElement 186 = .ok (.iload_n 2, 1) := by decide +kernel
theorem dX9_isElement_187 : decode cX9_isElement 187 = .ok (.iconst 0, 1) := by decide +kernel
theorem dX9_isElement_188 : decode cX9_isElement 188 = .ok (.invokevirtual 203, 3) := by decide +kernel
theorem dX9_isElement_191 : decode cX9_isElement 191 = .ok (.iload_n 2, 1) := by decide +kernel
theorem dX9_isElement_192 : decode cX9_isElement 192 = .ok (.ifCond .le 7, 3) := by decide +kernel
theorem dX9_isElement_195 : decode cX9_isElement 195 = .ok (.iconst 1, 1) := by decide +kernel
theorem dX9_isElement_196 : decode cX9_isElement 196 = .ok (.goto 4, 3) := by decide +kernel
theorem dX9_isElement_199 : decode cX9_isElement 199 = .ok (.iconst 0, 1) := by decide +kernel
theorem dX9_isElement_200 : decode cX9_isElement 200 = .ok (.ireturn, 1) := by decide +kernel
theorem dX9_isElement_201 : decode cX9_isElement 201 = .ok (.aload_n 0, 1) := by decide +kernel
theorem dX9_isElement_202 : decode cX9_isElement 202 = .ok (.iconst 2, 1) := by decide +kernel
theorem dX9_isElement_203 : decode cX9_isElement 203 = .ok (.iload_n 1, 1) := by decide +kernel
theorem dX9_isElement_204 : decode cX9_isElement 204 = .ok (.bipush 87, 2) := by decide +kernel
theorem dX9_isElement_206 : decode cX9_isElement 206 = .ok (.if_icmp .ne 7, 3) := by decide +kernel
theorem dX9_isElement_209 : decode cX9_isElement 209 = .ok (.iconst 0, 1) := by decide +kernel
theorem dX9_isElement_210 : decode cX9_isElement 210 = .ok (.goto 24, 3) := by decide +kernel
theorem dX9_isElement_213 : decode cX9_isElement 213 = .ok (.iload_n 1, 1) := by decide +kernel
theorem dX9_isElement_214 : decode cX9_isElement 214 = .ok (.bipush 67, 2) := by decide +kernel
theorem dX9_isElement_216 : decode cX9_isElement 216 = .ok (.if_icmp .ne 7, 3) := by decide +kernel
theorem dX9_isElement_219 : decode cX9_isElement 219 = .ok (.iconst 1, 1) := by decide +kernel
theorem dX9_isElement_220 : decode cX9_isElement 220 = .ok (.goto 14, 3) := by decide +kernel
theorem dX9_isElement_223 : decode cX9_isElement 223 = .ok (.iload_n 1, 1) := by decide +kernel
theorem dX9_isElement_224 : decode cX9_isElement 224 = .ok (.bipush 76, 2) := by decide +kernel
theorem dX9_isElement_226 : decode cX9_isElement 226 = .ok (.if_icmp .ne 7, 3) := by decide +kernel
theorem dX9_isElement_229 : decode cX9_isElement 229 = .ok (.iconst 2, 1) := by decide +kernel
theorem dX9_isElement_230 : decode cX9_isElement 230 = .ok (.goto 4, 3) := by decide +kernel
theorem dX9_isElement_233 : decode cX9_isElement 233 = .ok (.iconst 5, 1) := by decide +kernel
theorem dX9_isElement_234 : decode cX9_isElement 234 = .ok (.iconst 0, 1) := by decide +kernel
theorem dX9_isElement_235 : decode cX9_isElement 235 = .ok (.iconst 0, 1) := by decide +kernel
theorem dX9_isElement_236 : decode cX9_isElement 236 = .ok (.invokevirtual 203, 3) := by decide +kernel
theorem dX9_isElement_239 : decode cX9_isElement 239 = .ok (.iconst 1, 1) := by decide +kernel
theorem dX9_isElement_240 : decode cX9_isElement 240 = .ok (.ireturn, 1) := by decide +kernel
theorem dX9_isElement_241 : decode cX9_isElement 241 = .ok (.aload_n 0, 1) := by decide +kernel
theorem dX9_isElement_242 : decode cX9_isElement 242 = .ok (.invokevirtual 200, 3) := by decide +kernel
theorem dX9_isElement_245 : decode cX9_isElement 245 = .ok (.bipush 97, 2) := by decide +kernel
theorem dX9_isElement_247 : decode cX9_isElement 247 = .ok (.isub, 1) := by decide +kernel
theorem dX9_isElement_248 : decode cX9_isElement 248 = .ok (.istore_n 2, 1) := by decide +kernel
theorem dX9_isElement_249 : decode cX9_isElement 249 = .ok (.aload_n 0, 1) := by decide +kernel
theorem dX9_isElement_250 : decode cX9_isElement 250 = .ok (.iconst 0, 1) := by decide +kernel
theorem dX9_isElement_251 : decode cX9_isElement 251 = .ok (.iload_n 2, 1) := by decide +kernel
theorem dX9_isElement_252 : decode cX9_isElement 252 = .ok (.iconst 0, 1) := by decide +kernel
theorem dX9_isElement_253 : decode cX9_isElement 253 = .ok (.iconst 0, 1) := by decide +kernel
theorem dX9_isElement_254 : decode cX9_isElement 254 = .ok (.invokevirtual 203, 3) := by decide +kernel
theorem dX9_isElement_257 : decode cX9_isElement 257 = .ok (.aload_n 0, 1) := by decide +kernel
theorem dX9_isElement_258 : decode cX9_isElement 258 = .ok (.dup, 1) := by decide +kernel
theorem dX9_isElement_259 : decode cX9_isElement 259 = .ok (.getfield 194, 3) := by decide +kernel
theorem dX9_isElement_262 : decode cX9_isElement 262 = .ok (.iload_n 2, 1) := by decide +kernel
theorem dX9_isElement_263 : decode cX9_isElement 263 = .ok (.iconst 0, 1) := by decide +kernel
theorem dX9_isElement_264 : decode cX9_isElement 264 = .ok (.bipush 10, 2) := by decide +kernel
theorem dX9_isElement_266 : decode cX9_isElement 266 = .ok (.invokestatic 76, 3) := by decide +kernel
theorem dX9_isElement_269 : decode cX9_isElement 269 = .ok (.ifCond .eq 7, 3) := by decide +kernel
theorem dX9_isElement_272 : decode cX9_isElement 272 = .ok (.iconst 1, 1) := by decide +kernel
theorem dX9_isElement_273 : decode cX9_isElement 273 = .ok (.goto 4, 3) := by decide +kernel
theorem dX9_isElement_276 : decode cX9_isElement 276 = .ok (.iconst 0, 1) := by decide +kernel
theorem dX9_isElement_277 : decode cX9_isElement 277 = .ok (.iadd, 1) := by decide +kernel
theorem dX9_isElement_278 : decode cX9_isElement 278 = .ok (.putfield 194, 3) := by decide +kernel
theorem dX9_isElement_281 : decode cX9_isElement 281 = .ok (.iload_n 2, 1) := by decide +kernel
theorem dX9_isElement_282 : decode cX9_isElement 282 = .ok (.iconst 0, 1) := by decide +kernel
theorem dX9_isElement_283 : decode cX9_isElement 283 = .ok (.bipush 10, 2) := by decide +kernel
theorem dX9_isElement_285 : decode cX9_isElement 285 = .ok (.invokestatic 76, 3) := by decide +kernel
theorem dX9_isElement_288 : decode cX9_isElement 288 = .ok (.ireturn, 1) := by decide +kernel
theorem dX9_isElement_289 : decode cX9_isElement 289 = .ok (.iload_n 1, 1) := by decide +kernel
theorem dX9_isElement_290 : decode cX9_isElement 290 = .ok (.bipush 48, 2) := by decide +kernel
theorem dX9_isElement_292 : decode cX9_isElement 292 = .ok (.isub, 1) := by decide +kernel
theorem dX9_isElement_293 : decode cX9_isElement 293 = .ok (.istore_n 2, 1) := by decide +kernel
theorem dX9_isElement_294 : decode cX9_isElement 294 = .ok (.aload_n 0, 1) := by decide +kernel
theorem dX9_isElement_295 : decode cX9_isElement 295 = .ok (.iconst 1, 1) := by decide +kernel
theorem dX9_isElement_296 : decode cX9_isElement 296 = .ok (.iconst 0, 1) := by decide +kernel
theorem dX9_isElement_297 : decode cX9_isElement 297 = .ok (.iload_n 2, 1) := by decide +kernel
theorem dX9_isElement_298 : decode cX9_isElement 298 = .ok (.iload_n 2, 1) := by decide +kernel
theorem dX9_isElement_299 : decode cX9_isElement 299 = .ok (.iconst 4, 1) := by decide +kernel
theorem dX9_isElement_300 : decode cX9_isElement 300 = .ok (.if_icmp .eq 9, 3) := by decide +kernel
theorem dX9_isElement_303 : decode cX9_isElement 303 = .ok (.iload_n 2, 1) := by decide +kernel
theorem dX9_isElement_304 : decode cX9_isElement 304 = .ok (.bipush 6, 2) := by decide +kernel
theorem dX9_isElement_306 : decode cX9_isElement 306 = .ok (.if_icmp .ne 7, 3) := by decide +kernel
theorem dX9_isElement_309 : decode cX9_isElement 309 = .ok (.iconst 1, 1) := by decide +kernel
theorem dX9_isElement_310 : decode cX9_isElement 310 = .ok (.goto 4, 3) := by decide +kernel
theorem dX9_isElement_313 : decode cX9_isElement 313 = .ok (.iconst 0, 1) := by decide +kernel
theorem dX9_isElement_314 : decode cX9_isElement 314 = .ok (.invokestatic 187, 3) := by decide +kernel
theorem dX9_isElement_317 : decode cX9_isElement 317 = .ok (.invokevirtual 203, 3) := by decide +kernel
theorem dX9_isElement_320 : decode cX9_isElement 320 = .ok (.aload_n 0, 1) := by decide +kernel
theorem dX9_isElement_321 : decode cX9_isElement 321 = .ok (.dup, 1) := by decide +kernel
theorem dX9_isElement_322 : decode cX9_isElement 322 = .ok (.getfield 194, 3) := by decide +kernel
theorem dX9_isElement_325 : decode cX9_isElement 325 = .ok (.iload_n 2, 1) := by decide +kernel
theorem dX9_isElement_326 : decode cX9_isElement 326 = .ok (.iconst 1, 1) := by decide +kernel
theorem dX9_isElement_327 : decode cX9_isElement 327 = .ok (.bipush 6, 2) := by decide +kernel
theorem dX9_isElement_329 : decode cX9_isElement 329 = .ok (.invokestatic 76, 3) := by decide +kernel
theorem dX9_isElement_332 : decode cX9_isElement 332 = .ok (.ifCond .eq 7, 3) := by decide +kernel
theorem dX9_isElement_335 : decode cX9_isElement 335 = .ok (.iconst 0, 1) := by decide +kernel
theorem dX9_isElement_336 : decode cX9_isElement 336 = .ok (.goto 4, 3) := by decide +kernel
theorem dX9_isElement_339 : decode cX9_isElement 339 = .ok (.iconst 1, 1) := by decide +kernel
theorem dX9_isElement_340 : decode cX9_isElement 340 = .ok (.isub, 1) := by decide +kernel
theorem dX9_isElement_341 : decode cX9_isElement 341 = .ok (.putfield 194, 3) := by decide +kernel
theorem dX9_isElement_344 : decode cX9_isElement 344 = .ok (.iload_n 2, 1) := by decide +kernel
theorem dX9_isElement_345 : decode cX9_isElement 345 = .ok (.iconst 1, 1) := by decide +kernel
theorem dX9_isElement_346 : decode cX9_isElement 346 = .ok (.bipush 6, 2) := by decide +kernel
theorem dX9_isElement_348 : decode cX9_isElement 348 = .ok (.invokestatic 76, 3) := by decide +kernel
theorem dX9_isElement_351 : decode cX9_isElement 351 = .ok (.ireturn, 1) := by decide +kernel
theorem dX9_play_0 : decode cX9_play 0 = .ok (.aload_n 0, 1) := by decide +kernel
theorem dX9_play_1 : decode cX9_play 1 = .ok (.iconst 0, 1) := by decide +kernel
theorem dX9_play_2 : decode cX9_play 2 = .ok (.putfield 55, 3) := by decide +kernel
theorem dX9_play_5 : decode cX9_play 5 = .ok (.aload_n 0, 1) := by decide +kernel
theorem dX9_play_6 : decode cX9_play 6 = .ok (.iconst 0, 1) := by decide +kernel
theorem dX9_play_7 : decode cX9_play 7 = .ok (.putfield 197, 3) := by decide +kernel
theorem dX9_play_10 : decode cX9_play 10 = .ok (.aload_n 0, 1) := by decide +kernel
theorem dX9_play_11 : decode cX9_play 11 = .ok (.iconst 0, 1) := by decide +kernel
theorem dX9_play_12 : decode cX9_play 12 = .ok (.putfield 194, 3) := by decide +kernel
theorem dX9_play_15 : decode cX9_play 15 = .ok (.aload_n 0, 1) := by decide +kernel
theorem dX9_play_16 : decode cX9_play 16 = .ok (.getfield 191, 3) := by decide +kernel
theorem dX9_play_19 : decode cX9_play 19 = .ok (.ifCond .le 7, 3) := by decide +kernel
theorem dX9_play_22 : decode cX9_play 22 = .ok (.iconst 1, 1) := by decide +kernel
theorem dX9_play_23 : decode cX9_play 23 = .ok (.goto 4, 3) := by decide +kernel
theorem dX9_play_26 : decode cX9_play 26 = .ok (.iconst 0, 1) := by decide +kernel
theorem dX9_play_27 : decode cX9_play 27 = .ok (.istore_n 1, 1) := by decide +kernel
theorem dX9_play_28 : decode cX9_play 28 = .ok (.iload_n 1, 1) := by decide +kernel
theorem dX9_play_29 : decode cX9_play 29 = .ok (.ifCond .eq 22, 3) := by decide +kernel
theorem dX9_play_32 : decode cX9_play 32 = .ok (.aload_n 0, 1) := by decide +kernel
theorem dX9_play_33 : decode cX9_play 33 = .ok (.getfield 194, 3) := by decide +kernel
theorem dX9_play_36 : decode cX9_play 36 = .ok (.aload_n 0, 1) := by decide +kernel
theorem dX9_play_37 : decode cX9_play 37 = .ok (.getfield 191, 3) := by decide +kernel
theorem dX9_play_40 : decode cX9_play 40 = .ok (.if_icmp .ge 11, 3) := by decide +kernel
theorem dX9_play_43 : decode cX9_play 43 = .ok (.aload_n 0, 1) := by decide +kernel
theorem dX9_play_44 : decode cX9_play 44 = .ok (.invokevirtual 210, 3) := by decide +kernel
theorem dX9_play_47 : decode cX9_play 47 = .ok (.istore_n 1, 1) := by decide +kernel
theorem dX9_play_48 : decode cX9_play 48 = .ok (.goto (-20), 3) := by decide +kernel
theorem dX9_play_51 : decode cX9_play 51 = .ok (.aload_n 0, 1) := by decide +kernel
theorem dX9_play_52 : decode cX9_play 52 = .ok (.iconst 0, 1) := by decide +kernel
theorem dX9_play_53 : decode cX9_play 53 = .ok (.putfield 191, 3) := by decide +kernel
theorem dX9_play_56 : decode cX9_play 56 = .ok (.iload_n 1, 1) := by decide +kernel
theorem dX9_play_57 : decode cX9_play 57 = .ok (.ifCond .ne 17, 3) := by decide +kernel
theorem dX9_play_60 : decode cX9_play 60 = .ok (.aload_n 0, 1) := by decide +kernel
theorem dX9_play_61 : decode cX9_play 61 = .ok (.aload_n 0, 1) := by decide +kernel
theorem dX9_play_62 : decode cX9_play 62 = .ok (.getfield 194, 3) := by decide +kernel
theorem dX9_play_65 : decode cX9_play 65 = .ok (.putfield 32, 3) := by decide +kernel
theorem dX9_play_68 : decode cX9_play 68 = .ok (.aload_n 0, 1) := by decide +kernel
theorem dX9_play_69 : decode cX9_play 69 = .ok (.iconst 1, 1) := by decide +kernel
theorem dX9_play_70 : decode cX9_play 70 = .ok (.invokevirtual 169, 3) := by decide +kernel
theorem dX9_play_73 : decode cX9_play 73 = .ok (.ireturn, 1) := by decide +kernel
theorem dX9_play_74 : decode cX9_play 74 = .ok (.aload_n 0, 1) := by decide +kernel
theorem dX9_play_75 : decode cX9_play 75 = .ok (.getfield 9, 3) := by decide +kernel
theorem dX9_play_78 : decode cX9_play 78 = .ok (.aload_n 0, 1) := by decide +kernel
theorem dX9_play_79 : decode cX9_play 79 = .ok (.getfield 16, 3) := by decide +kernel
theorem dX9_play_82 : decode cX9_play 82 = .ok (.sipush 6441, 3) := by decide +kernel
theorem dX9_play_85 : decode cX9_play 85 = .ok (.invokestatic 214, 3) := by decide +kernel
theorem dX9_play_88 : decode cX9_play 88 = .ok (.iconst 0, 1) := by decide +kernel
theorem dX9_play_89 : decode cX9_play 89 = .ok (.istore_n 2, 1) := by decide +kernel
theorem dX9_play_90 : decode cX9_play 90 = .ok (.iload_n 2, 1) := by decide +kernel
theorem dX9_play_91 : decode cX9_play 91 = .ok (.aload_n 0, 1) := by decide +kernel
theorem dX9_play_92 : decode cX9_play 92 = .ok (.getfield 197, 3) := by decide +kernel
theorem dX9_play_95 : decode cX9_play 95 = .ok (.if_icmp .ge 127, 3) := by decide +kernel
theorem dX9_play_98 : decode cX9_play 98 = .ok (.iconst 4, 1) := by decide +kernel
theorem dX9_play_99 : decode cX9_play 99 = .ok (.iload_n 2, 1) := by decide +kernel
theorem dX9_play_100 : decode cX9_play 100 = .ok (.imul, 1) := by decide +kernel
theorem dX9_play_101 : decode cX9_play 101 = .ok (.istore_n 3, 1) := by decide +kernel
theorem dX9_play_102 : decode cX9_play 102 = .ok (.aload_n 0, 1) := by decide +kernel
theorem dX9_play_103 : decode cX9_play 103 = .ok (.aload_n 0, 1) := by decide +kernel
theorem dX9_play_104 : decode cX9_play 104 = .ok (.getfield 39, 3) := by decide +kernel
theorem dX9_play_107 : decode cX9_play 107 = .ok (.iload_n 3, 1) := by decide +kernel
theorem dX9_play_108 : decode cX9_play 108 = .ok (.iaload, 1) := by decide +kernel
theorem dX9_play_109 : decode cX9_play 109 = .ok (.aload_n 0, 1) := by decide +kernel
theorem dX9_play_110 : decode cX9_play 110 = .ok (.getfield 39, 3) := by decide +kernel
theorem dX9_play_113 : decode cX9_play 113 = .ok (.iload_n 3, 1) := by decide +kernel
theorem dX9_play_114 : decode cX9_play 114 = .ok (.iconst 1, 1) := by decide +kernel
theorem dX9_play_115 : decode cX9_play 115 = .ok (.iadd, 1) := by decide +kernel
theorem dX9_play_116 : decode cX9_play 116 = .ok (.iaload, 1) := by decide +kernel
theorem dX9_play_117 : decode cX9_play 117 = .ok (.aload_n 0, 1) := by decide +kernel
theorem dX9_play_118 : decode cX9_play 118 = .ok (.getfield 39, 3) := by decide +kernel
theorem dX9_play_121 : decode cX9_play 121 = .ok (.iload_n 3, 1) := by decide +kernel
theorem dX9_play_122 : decode cX9_play 122 = .ok (.iconst 2, 1) := by decide +kernel
theorem dX9_play_123 : decode cX9_play 123 = .ok (.iadd, 1) := by decide +kernel
theorem dX9_play_124 : decode cX9_play 124 = .ok (.iaload, 1) := by decide +kernel
theorem dX9_play_125 : decode cX9_play 125 = .ok (.aload_n 0, 1) := by decide +kernel
theorem dX9_play_126 : decode cX9_play 126 = .ok (.getfield 39, 3) := by decide +kernel
theorem dX9_play_129 : decode cX9_play 129 = .ok (.iload_n 3, 1) := by decide +kernel
theorem dX9_play_130 : decode cX9_play 130 = .ok (.iconst 3, 1) := by decide +kernel
theorem dX9_play_131 : decode cX9_play 131 = .ok (.iadd, 1) := by decide +kernel
theorem dX9_play_132 : decode cX9_play 132 = .ok (.iaload, 1) := by decide +kernel
theorem dX9_play_133 : decode cX9_play 133 = .ok (.iconst 0, 1) := by decide +kernel
theorem dX9_play_134 : decode cX9_play 134 = .ok (.iconst 0, 1) := by decide +kernel
theorem dX9_play_135 : decode cX9_play 135 = .ok (.invokevirtual 162, 3) := by decide +kernel
theorem dX9_play_138 : decode cX9_play 138 = .ok (.istore 4, 2) := by decide +kernel
theorem dX9_play_140 : decode cX9_play 140 = .ok (.iload 4, 2) := by decide +kernel
theorem dX9_play_142 : decode cX9_play 142 = .ok (.ifCond .le 34, 3) := by decide +kernel
theorem dX9_play_145 : decode cX9_play 145 = .ok (.aload_n 0, 1) := by decide +kernel
theorem dX9_play_146 : decode cX9_play 146 = .ok (.iload 4, 2) := by decide +kernel
theorem dX9_play_148 : decode cX9_play 148 = .ok (.putfield 166, 3) := by decide +kernel
theorem dX9_play_151 : decode cX9_play 151 = .ok (.aload_n 0, 1) := by decide +kernel
theorem dX9_play_152 : decode cX9_play 152 = .ok (.iload_n 2, 1) := by decide +kernel
theorem dX9_play_153 : decode cX9_play 153 = .ok (.putfield 36, 3) := by decide +kernel
theorem dX9_play_156 : decode cX9_play 156 = .ok (.aload_n 0, 1) := by decide +kernel
theorem dX9_play_157 : decode cX9_play 157 = .ok (.getfield 16, 3) := by decide +kernel
theorem dX9_play_160 : decode cX9_play 160 = .ok (.aload_n 0, 1) := by decide +kernel
theorem dX9_play_161 : decode cX9_play 161 = .ok (.getfield 9, 3) := by decide +kernel
theorem dX9_play_164 : decode cX9_play 164 = .ok (.sipush 6441, 3) := by decide +kernel
theorem dX9_play_167 : decode cX9_play 167 = .ok (.invokestatic 214, 3) := by decide +kernel
theorem dX9_play_170 : decode cX9_play 170 = .ok (.aload_n 0, 1) := by decide +kernel
theorem dX9_play_171 : decode cX9_play 171 = .ok (.iconst 2, 1) := by decide +kernel
theorem dX9_play_172 : decode cX9_play 172 = .ok (.invokevirtual 169, 3) := by decide +kernel
theorem dX9_play_175 : decode cX9_play 175 = .ok (.ireturn, 1) := by decide +kernel
theorem dX9_play_176 : decode cX9_play 176 = .ok (.aload_n 0, 1) := by decide +kernel
theorem dX9_play_177 : decode cX9_play 177 = .ok (.aload_n 0, 1) := by decide +kernel
theorem dX9_play_178 : decode cX9_play 178 = .ok (.aload_n 0, 1) := by decide +kernel
theorem dX9_play_179 : decode cX9_play 179 = .ok (.getfield 39, 3) := by decide +kernel
theorem dX9_play_182 : decode cX9_play 182 = .ok (.iload_n 3, 1) := by decide +kernel
theorem dX9_play_183 : decode cX9_play 183 = .ok (.iaload, 1) := by decide +kernel
theorem dX9_play_184 : decode cX9_play 184 = .ok (.aload_n 0, 1) := by decide +kernel
theorem dX9_play_185 : decode cX9_play 185 = .ok (.getfield 39, 3) := by decide +kernel
theorem dX9_play_188 : decode cX9_play 188 = .ok (.iload_n 3, 1) := by decide +kernel
theorem dX9_play_189 : decode cX9_play 189 = .ok (.iconst 1, 1) := by decide +kernel
theorem dX9_play_190 : decode cX9_play 190 = .ok (.iadd, 1) := by decide +kernel
theorem dX9_play_191 : decode cX9_play 191 = .ok (.iaload, 1) := by decide +kernel
theorem dX9_play_192 : decode cX9_play 192 = .ok (.aload_n 0, 1) := by decide +kernel
theorem dX9_play_193 : decode cX9_play 193 = .ok (.getfield 39, 3) := by decide +kernel
theorem dX9_play_196 : decode cX9_play 196 = .ok (.iload_n 3, 1) := by decide +kernel
theorem dX9_play_197 : decode cX9_play 197 = .ok (.iconst 2, 1) := by decide +kernel
theorem dX9_play_198 : decode cX9_play 198 = .ok (.iadd, 1) := by decide +kernel
theorem dX9_play_199 : decode cX9_play 199 = .ok (.iaload, 1) := by decide +kernel
theorem dX9_play_200 : decode cX9_play 200 = .ok (.aload_n 0, 1) := by decide +kernel
theorem dX9_play_201 : decode cX9_play 201 = .ok (.getfield 39, 3) := by decide +kernel
theorem dX9_play_204 : decode cX9_play 204 = .ok (.iload_n 3, 1) := by decide +kernel
theorem dX9_play_205 : decode cX9_play 205 = .ok (.iconst 3, 1) := by decide +kernel
theorem dX9_play_206 : decode cX9_play 206 = .ok (.iadd, 1) := by decide +kernel
theorem dX9_play_207 : decode cX9_play 207 = .ok (.iaload, 1) := by decide +kernel
theorem dX9_play_208 : decode cX9_play 208 = .ok (.iconst 0, 1) := by decide +kernel
theorem dX9_play_209 : decode cX9_play 209 = .ok (.iconst 0, 1) := by decide +kernel
theorem dX9_play_210 : decode cX9_play 210 = .ok (.invokevirtual 176, 3) := by decide +kernel
theorem dX9_play_213 : decode cX9_play 213 = .ok (.putfield 218, 3) := by decide +kernel
theorem dX9_play_216 : decode cX9_play 216 = .ok (.iinc 2 1, 3) := by decide +kernel
theorem dX9_play_219 : decode cX9_play 219 = .ok (.goto (-129), 3) := by decide +kernel
theorem dX9_play_222 : decode cX9_play 222 = .ok (.aload_n 0, 1) := by decide +kernel
theorem dX9_play_223 : decode cX9_play 223 = .ok (.aload_n 0, 1) := by decide +kernel
theorem dX9_play_224 : decode cX9_play 224 = .ok (.getfield 16, 3) := by decide +kernel
theorem dX9_play_227 : decode cX9_play 227 = .ok (.invokevirtual 172, 3) := by decide +kernel
theorem dX9_play_230 : decode cX9_play 230 = .ok (.aload_n 0, 1) := by decide +kernel
theorem dX9_play_231 : decode cX9_play 231 = .ok (.getfield 9, 3) := by decide +kernel
theorem dX9_play_234 : decode cX9_play 234 = .ok (.bipush 24, 2) := by decide +kernel
theorem dX9_play_236 : decode cX9_play 236 = .ok (.dup2, 1) := by decide +kernel
theorem dX9_play_237 : decode cX9_play 237 = .ok (.iaload, 1) := by decide +kernel
theorem dX9_play_238 : decode cX9_play 238 = .ok (.iconst 1, 1) := by decide +kernel
theorem dX9_play_239 : decode cX9_play 239 = .ok (.iadd, 1) := by decide +kernel
theorem dX9_play_240 : decode cX9_play 240 = .ok (.iastore, 1) := by decide +kernel
theorem dX9_play_241 : decode cX9_play 241 = .ok (.aload_n 0, 1) := by decide +kernel
theorem dX9_play_242 : decode cX9_play 242 = .ok (.getfield 197, 3) := by decide +kernel
theorem dX9_play_245 : decode cX9_play 245 = .ok (.ireturn, 1) := by decide +kernel
theorem dX9_errorPosition_0 : decode cX9_errorPosition 0 = .ok (.aload_n 0, 1) := by decide +kernel
theorem dX9_errorPosition_1 : decode cX9_errorPosition 1 = .ok (.aload_n 0, 1) := by decide +kernel
theorem dX9_errorPosition_2 : decode cX9_errorPosition 2 = .ok (.getfield 32, 3) := by decide +kernel
theorem dX9_errorPosition_5 : decode cX9_errorPosition 5 = .ok (.ifCond .ge 7, 3) := by decide +kernel
theorem dX9_errorPosition_8 : decode cX9_errorPosition 8 = .ok (.iconst 1, 1) := by decide +kernel
theorem dX9_errorPosition_9 : decode cX9_errorPosition 9 = .ok (.goto 4, 3) := by decide +kernel
theorem dX9_errorPosition_12 : decode cX9_errorPosition 12 = .ok (.iconst 0, 1) := by decide +kernel
theorem dX9_errorPosition_13 : decode cX9_errorPosition 13 = .ok (.putfield 55, 3) := by decide +kernel
theorem dX9_errorPosition_16 : decode cX9_errorPosition 16 = .ok (.aload_n 0, 1) := by decide +kernel
theorem dX9_errorPosition_17 : decode cX9_errorPosition 17 = .ok (.getfield 32, 3) := by decide +kernel
theorem dX9_errorPosition_20 : decode cX9_errorPosition 20 = .ok (.ifCond .ge 7, 3) := by decide +kernel
theorem dX9_errorPosition_23 : decode cX9_errorPosition 23 = .ok (.iconst 0, 1) := by decide +kernel
theorem dX9_errorPosition_24 : decode cX9_errorPosition 24 = .ok (.goto 7, 3) := by decide +kernel
theorem dX9_errorPosition_27 : decode cX9_errorPosition 27 = .ok (.aload_n 0, 1) := by decide +kernel
theorem dX9_errorPosition_28 : decode cX9_errorPosition 28 = .ok (.getfield 32, 3) := by decide +kernel
theorem dX9_errorPosition_31 : decode cX9_errorPosition 31 = .ok (.ireturn, 1) := by decide +kernel
theorem dX9_refused_0 : decode cX9_refused 0 = .ok (.aload_n 0, 1) := by decide +kernel
theorem dX9_refused_1 : decode cX9_refused 1 = .ok (.aload_n 0, 1) := by decide +kernel
theorem dX9_refused_2 : decode cX9_refused 2 = .ok (.getfield 36, 3) := by decide +kernel
theorem dX9_refused_5 : decode cX9_refused 5 = .ok (.ifCond .ge 7, 3) := by decide +kernel
theorem dX9_refused_8 : decode cX9_refused 8 = .ok (.iconst 1, 1) := by decide +kernel
theorem dX9_refused_9 : decode cX9_refused 9 = .ok (.goto 4, 3) := by decide +kernel
theorem dX9_refused_12 : decode cX9_refused 12 = .ok (.iconst 0, 1) := by decide +kernel
theorem dX9_refused_13 : decode cX9_refused 13 = .ok (.putfield 55, 3) := by decide +kernel
theorem dX9_refused_16 : decode cX9_refused 16 = .ok (.aload_n 0, 1) := by decide +kernel
theorem dX9_refused_17 : decode cX9_refused 17 = .ok (.getfield 36, 3) := by decide +kernel
theorem dX9_refused_20 : decode cX9_refused 20 = .ok (.ifCond .ge 7, 3) := by decide +kernel
theorem dX9_refused_23 : decode cX9_refused 23 = .ok (.iconst 0, 1) := by decide +kernel
theorem dX9_refused_24 : decode cX9_refused 24 = .ok (.goto 7, 3) := by decide +kernel
theorem dX9_refused_27 : decode cX9_refused 27 = .ok (.aload_n 0, 1) := by decide +kernel
theorem dX9_refused_28 : decode cX9_refused 28 = .ok (.getfield 36, 3) := by decide +kernel
theorem dX9_refused_31 : decode cX9_refused 31 = .ok (.ireturn, 1) := by decide +kernel
theorem dX9_hasMatch_0 : decode cX9_hasMatch 0 = .ok (.aload_n 0, 1) := by decide +kernel
theorem dX9_hasMatch_1 : decode cX9_hasMatch 1 = .ok (.getfield 9, 3) := by decide +kernel
theorem dX9_hasMatch_4 : decode cX9_hasMatch 4 = .ok (.iconst 0, 1) := by decide +kernel
theorem dX9_hasMatch_5 : decode cX9_hasMatch 5 = .ok (.iaload, 1) := by decide +kernel
theorem dX9_hasMatch_6 : decode cX9_hasMatch 6 = .ok (.iconst 1, 1) := by decide +kernel
theorem dX9_hasMatch_7 : decode cX9_hasMatch 7 = .ok (.if_icmp .ne 5, 3) := by decide +kernel
theorem dX9_hasMatch_10 : decode cX9_hasMatch 10 = .ok (.iconst 1, 1) := by decide +kernel
theorem dX9_hasMatch_11 : decode cX9_hasMatch 11 = .ok (.ireturn, 1) := by decide +kernel
theorem dX9_hasMatch_12 : decode cX9_hasMatch 12 = .ok (.aload_n 0, 1) := by decide +kernel
theorem dX9_hasMatch_13 : decode cX9_hasMatch 13 = .ok (.iconst 1, 1) := by decide +kernel
theorem dX9_hasMatch_14 : decode cX9_hasMatch 14 = .ok (.putfield 166, 3) := by decide +kernel
theorem dX9_hasMatch_17 : decode cX9_hasMatch 17 = .ok (.aload_n 0, 1) := by decide +kernel
theorem dX9_hasMatch_18 : decode cX9_hasMatch 18 = .ok (.iload_n 1, 1) := by decide +kernel
theorem dX9_hasMatch_19 : decode cX9_hasMatch 19 = .ok (.putfield 55, 3) := by decide +kernel
theorem dX9_hasMatch_22 : decode cX9_hasMatch 22 = .ok (.iconst 0, 1) := by decide +kernel
theorem dX9_hasMatch_23 : decode cX9_hasMatch 23 = .ok (.ireturn, 1) := by decide +kernel
theorem dX9_now_0 : decode cX9_now 0 = .ok (.aload_n 0, 1) := by decide +kernel
theorem dX9_now_1 : decode cX9_now 1 = .ok (.iload_n 1, 1) := by decide +kernel
theorem dX9_now_2 : decode cX9_now 2 = .ok (.iconst 0, 1) := by decide +kernel
theorem dX9_now_3 : decode cX9_now 3 = .ok (.bipush 8, 2) := by decide +kernel
theorem dX9_now_5 : decode cX9_now 5 = .ok (.invokestatic 76, 3) := by decide +kernel
theorem dX9_now_8 : decode cX9_now 8 = .ok (.ifCond .eq 7, 3) := by decide +kernel
theorem dX9_now_11 : decode cX9_now 11 = .ok (.iconst 0, 1) := by decide +kernel
theorem dX9_now_12 : decode cX9_now 12 = .ok (.goto 4, 3) := by decide +kernel
theorem dX9_now_15 : decode cX9_now 15 = .ok (.iconst 1, 1) := by decide +kernel
theorem dX9_now_16 : decode cX9_now 16 = .ok (.putfield 55, 3) := by decide +kernel
theorem dX9_now_19 : decode cX9_now 19 = .ok (.aload_n 0, 1) := by decide +kernel
theorem dX9_now_20 : decode cX9_now 20 = .ok (.getfield 55, 3) := by decide +kernel
theorem dX9_now_23 : decode cX9_now 23 = .ok (.iconst 1, 1) := by decide +kernel
theorem dX9_now_24 : decode cX9_now 24 = .ok (.if_icmp .eq 11, 3) := by decide +kernel
theorem dX9_now_27 : decode cX9_now 27 = .ok (.aload_n 0, 1) := by decide +kernel
theorem dX9_now_28 : decode cX9_now 28 = .ok (.iconst 2, 1) := by decide +kernel
theorem dX9_now_29 : decode cX9_now 29 = .ok (.invokevirtual 221, 3) := by decide +kernel
theorem dX9_now_32 : decode cX9_now 32 = .ok (.ifCond .ne 5, 3) := by decide +kernel
theorem dX9_now_35 : decode cX9_now 35 = .ok (.iconst 0, 1) := by decide +kernel
theorem dX9_now_36 : decode cX9_now 36 = .ok (.ireturn, 1) := by decide +kernel
theorem dX9_now_37 : decode cX9_now 37 = .ok (.aload_n 0, 1) := by decide +kernel
theorem dX9_now_38 : decode cX9_now 38 = .ok (.getfield 9, 3) := by decide +kernel
theorem dX9_now_41 : decode cX9_now 41 = .ok (.iconst 4, 1) := by decide +kernel
theorem dX9_now_42 : decode cX9_now 42 = .ok (.iaload, 1) := by decide +kernel
theorem dX9_now_43 : decode cX9_now 43 = .ok (.istore_n 2, 1) := by decide +kernel
theorem dX9_now_44 : decode cX9_now 44 = .ok (.iload_n 1, 1) := by decide +kernel
theorem dX9_now_45 : decode cX9_now 45 = .ok (.tableswitch 100 0 7 #[47, 49, 55, 63, 71, 79, 87, 92], 47) := by decide +kernel
theorem dX9_now_92 : decode cX9_now 92 = .ok (.iload_n 2, 1) := by decide +kernel
theorem dX9_now_93 : decode cX9_now 93 = .ok (.ireturn, 1) := by decide +kernel
theorem dX9_now_94 : decode cX9_now 94 = .ok (.aload_n 0, 1) := by decide +kernel
theorem dX9_now_95 : decode cX9_now 95 = .ok (.iload_n 2, 1) := by decide +kernel
theorem dX9_now_96 : decode cX9_now 96 = .ok (.invokevirtual 224, 3) := by decide +kernel
theorem dX9_now_99 : decode cX9_now 99 = .ok (.ireturn, 1) := by decide +kernel
theorem dX9_now_100 : decode cX9_now 100 = .ok (.aload_n 0, 1) := by decide +kernel
theorem dX9_now_101 : decode cX9_now 101 = .ok (.getfield 9, 3) := by decide +kernel
theorem dX9_now_104 : decode cX9_now 104 = .ok (.bipush 6, 2) := by decide +kernel
theorem dX9_now_106 : decode cX9_now 106 = .ok (.iaload, 1) := by decide +kernel
theorem dX9_now_107 : decode cX9_now 107 = .ok (.ireturn, 1) := by decide +kernel
theorem dX9_now_108 : decode cX9_now 108 = .ok (.aload_n 0, 1) := by decide +kernel
theorem dX9_now_109 : decode cX9_now 109 = .ok (.getfield 9, 3) := by decide +kernel
theorem dX9_now_112 : decode cX9_now 112 = .ok (.bipush 7, 2) := by decide +kernel
theorem dX9_now_114 : decode cX9_now 114 = .ok (.iaload, 1) := by decide +kernel
theorem dX9_now_115 : decode cX9_now 115 = .ok (.ireturn, 1) := by decide +kernel
theorem dX9_now_116 : decode cX9_now 116 = .ok (.aload_n 0, 1) := by decide +kernel
theorem dX9_now_117 : decode cX9_now 117 = .ok (.getfield 9, 3) := by decide +kernel
theorem dX9_now_120 : decode cX9_now 120 = .ok (.bipush 9, 2) := by decide +kernel
theorem dX9_now_122 : decode cX9_now 122 = .ok (.iaload, 1) := by decide +kernel
theorem dX9_now_123 : decode cX9_now 123 = .ok (.ireturn, 1) := by decide +kernel
theorem dX9_now_124 : decode cX9_now 124 = .ok (.aload_n 0, 1) := by decide +kernel
theorem dX9_now_125 : decode cX9_now 125 = .ok (.getfield 9, 3) := by decide +kernel
theorem dX9_now_128 : decode cX9_now 128 = .ok (.bipush 10, 2) := by decide +kernel
theorem dX9_now_130 : decode cX9_now 130 = .ok (.iaload, 1) := by decide +kernel
theorem dX9_now_131 : decode cX9_now 131 = .ok (.ireturn, 1) := by decide +kernel
theorem dX9_now_132 : decode cX9_now 132 = .ok (.aload_n 0, 1) := by decide +kernel
theorem dX9_now_133 : decode cX9_now 133 = .ok (.invokevirtual 136, 3) := by decide +kernel
theorem dX9_now_136 : decode cX9_now 136 = .ok (.ireturn, 1) := by decide +kernel
theorem dX9_now_137 : decode cX9_now 137 = .ok (.aload_n 0, 1) := by decide +kernel
theorem dX9_now_138 : decode cX9_now 138 = .ok (.getfield 9, 3) := by decide +kernel
theorem dX9_now_141 : decode cX9_now 141 = .ok (.bipush 13, 2) := by decide +kernel
theorem dX9_now_143 : decode cX9_now 143 = .ok (.iaload, 1) := by decide +kernel
theorem dX9_now_144 : decode cX9_now 144 = .ok (.ireturn, 1) := by decide +kernel
theorem dX9_now_145 : decode cX9_now 145 = .ok (.aload_n 0, 1) := by decide +kernel
theorem dX9_now_146 : decode cX9_now 146 = .ok (.getfield 9, 3) := by decide +kernel
theorem dX9_now_149 : decode cX9_now 149 = .ok (.bipush 14, 2) := by decide +kernel
theorem dX9_now_151 : decode cX9_now 151 = .ok (.iload_n 2, 1) := by decide +kernel
theorem dX9_now_152 : decode cX9_now 152 = .ok (.iadd, 1) := by decide +kernel
theorem dX9_now_153 : decode cX9_now 153 = .ok (.iaload, 1) := by decide +kernel
theorem dX9_now_154 : decode cX9_now 154 = .ok (.ireturn, 1) := by decide +kernel
theorem dX9_isInnings_0 : decode cX9_isInnings 0 = .ok (.aload_n 0, 1) := by decide +kernel
theorem dX9_isInnings_1 : decode cX9_isInnings 1 = .ok (.getfield 9, 3) := by decide +kernel
theorem dX9_isInnings_4 : decode cX9_isInnings 4 = .ok (.iconst 0, 1) := by decide +kernel
theorem dX9_isInnings_5 : decode cX9_isInnings 5 = .ok (.iaload, 1) := by decide +kernel
theorem dX9_isInnings_6 : decode cX9_isInnings 6 = .ok (.iconst 1, 1) := by decide +kernel
theorem dX9_isInnings_7 : decode cX9_isInnings 7 = .ok (.if_icmp .ne 21, 3) := by decide +kernel
theorem dX9_isInnings_10 : decode cX9_isInnings 10 = .ok (.iload_n 1, 1) := by decide +kernel
theorem dX9_isInnings_11 : decode cX9_isInnings 11 = .ok (.iconst 0, 1) := by decide +kernel
theorem dX9_isInnings_12 : decode cX9_isInnings 12 = .ok (.aload_n 0, 1) := by decide +kernel
theorem dX9_isInnings_13 : decode cX9_isInnings 13 = .ok (.getfield 9, 3) := by decide +kernel
theorem dX9_isInnings_16 : decode cX9_isInnings 16 = .ok (.iconst 4, 1) := by decide +kernel
theorem dX9_isInnings_17 : decode cX9_isInnings 17 = .ok (.iaload, 1) := by decide +kernel
theorem dX9_isInnings_18 : decode cX9_isInnings 18 = .ok (.invokestatic 76, 3) := by decide +kernel
theorem dX9_isInnings_21 : decode cX9_isInnings 21 = .ok (.ifCond .eq 7, 3) := by decide +kernel
theorem dX9_isInnings_24 : decode cX9_isInnings 24 = .ok (.iconst 1, 1) := by decide +kernel
theorem dX9_isInnings_25 : decode cX9_isInnings 25 = .ok (.goto 4, 3) := by decide +kernel
theorem dX9_isInnings_28 : decode cX9_isInnings 28 = .ok (.iconst 0, 1) := by decide +kernel
theorem dX9_isInnings_29 : decode cX9_isInnings 29 = .ok (.ireturn, 1) := by decide +kernel
theorem dX9_asks_0 : decode cX9_asks 0 = .ok (.aload_n 0, 1) := by decide +kernel
theorem dX9_asks_1 : decode cX9_asks 1 = .ok (.iload_n 1, 1) := by decide +kernel
theorem dX9_asks_2 : decode cX9_asks 2 = .ok (.ifCond .ne 7, 3) := by decide +kernel
theorem dX9_asks_5 : decode cX9_asks 5 = .ok (.iconst 1, 1) := by decide +kernel
theorem dX9_asks_6 : decode cX9_asks 6 = .ok (.goto 17, 3) := by decide +kernel
theorem dX9_asks_9 : decode cX9_asks 9 = .ok (.iload_n 2, 1) := by decide +kernel
theorem dX9_asks_10 : decode cX9_asks 10 = .ok (.iconst 0, 1) := by decide +kernel
theorem dX9_asks_11 : decode cX9_asks 11 = .ok (.iload_n 3, 1) := by decide +kernel
theorem dX9_asks_12 : decode cX9_asks 12 = .ok (.invokestatic 76, 3) := by decide +kernel
theorem dX9_asks_15 : decode cX9_asks 15 = .ok (.ifCond .ne 7, 3) := by decide +kernel
theorem dX9_asks_18 : decode cX9_asks 18 = .ok (.iconst 2, 1) := by decide +kernel
theorem dX9_asks_19 : decode cX9_asks 19 = .ok (.goto 4, 3) := by decide +kernel
theorem dX9_asks_22 : decode cX9_asks 22 = .ok (.iconst 0, 1) := by decide +kernel
theorem dX9_asks_23 : decode cX9_asks 23 = .ok (.putfield 55, 3) := by decide +kernel
theorem dX9_asks_26 : decode cX9_asks 26 = .ok (.aload_n 0, 1) := by decide +kernel
theorem dX9_asks_27 : decode cX9_asks 27 = .ok (.getfield 55, 3) := by decide +kernel
theorem dX9_asks_30 : decode cX9_asks 30 = .ok (.ifCond .ne 13, 3) := by decide +kernel
theorem dX9_asks_33 : decode cX9_asks 33 = .ok (.aload_n 0, 1) := by decide +kernel
theorem dX9_asks_34 : decode cX9_asks 34 = .ok (.getfield 9, 3) := by decide +kernel
theorem dX9_asks_37 : decode cX9_asks 37 = .ok (.iload 4, 2) := by decide +kernel
theorem dX9_asks_39 : decode cX9_asks 39 = .ok (.iaload, 1) := by decide +kernel
theorem dX9_asks_40 : decode cX9_asks 40 = .ok (.goto 4, 3) := by decide +kernel
theorem dX9_asks_43 : decode cX9_asks 43 = .ok (.iconst 0, 1) := by decide +kernel
theorem dX9_asks_44 : decode cX9_asks 44 = .ok (.ireturn, 1) := by decide +kernel
theorem dX9_innings_0 : decode cX9_innings 0 = .ok (.aload_n 0, 1) := by decide +kernel
theorem dX9_innings_1 : decode cX9_innings 1 = .ok (.iload_n 1, 1) := by decide +kernel
theorem dX9_innings_2 : decode cX9_innings 2 = .ok (.invokevirtual 227, 3) := by decide +kernel
theorem dX9_innings_5 : decode cX9_innings 5 = .ok (.istore_n 3, 1) := by decide +kernel
theorem dX9_innings_6 : decode cX9_innings 6 = .ok (.aload_n 0, 1) := by decide +kernel
theorem dX9_innings_7 : decode cX9_innings 7 = .ok (.iload_n 3, 1) := by decide +kernel
theorem dX9_innings_8 : decode cX9_innings 8 = .ok (.iload_n 2, 1) := by decide +kernel
theorem dX9_innings_9 : decode cX9_innings 9 = .ok (.bipush 7, 2) := by decide +kernel
theorem dX9_innings_11 : decode cX9_innings 11 = .ok (.iload_n 3, 1) := by decide +kernel
theorem dX9_innings_12 : decode cX9_innings 12 = .ok (.ifCond .eq 21, 3) := by decide +kernel
theorem dX9_innings_15 : decode cX9_innings 15 = .ok (.iload_n 2, 1) := by decide +kernel
theorem dX9_innings_16 : decode cX9_innings 16 = .ok (.iconst 0, 1) := by decide +kernel
theorem dX9_innings_17 : decode cX9_innings 17 = .ok (.bipush 7, 2) := by decide +kernel
theorem dX9_innings_19 : decode cX9_innings 19 = .ok (.invokestatic 76, 3) := by decide +kernel
theorem dX9_innings_22 : decode cX9_innings 22 = .ok (.ifCond .eq 11, 3) := by decide +kernel
theorem dX9_innings_25 : decode cX9_innings 25 = .ok (.iload_n 1, 1) := by decide +kernel
theorem dX9_innings_26 : decode cX9_innings 26 = .ok (.iload_n 2, 1) := by decide +kernel
theorem dX9_innings_27 : decode cX9_innings 27 = .ok (.invokestatic 62, 3) := by decide +kernel
theorem dX9_innings_30 : decode cX9_innings 30 = .ok (.goto 4, 3) := by decide +kernel
theorem dX9_innings_33 : decode cX9_innings 33 = .ok (.iconst 0, 1) := by decide +kernel
theorem dX9_innings_34 : decode cX9_innings 34 = .ok (.invokevirtual 230, 3) := by decide +kernel
theorem dX9_innings_37 : decode cX9_innings 37 = .ok (.ireturn, 1) := by decide +kernel
theorem dX9_batter_0 : decode cX9_batter 0 = .ok (.aload_n 0, 1) := by decide +kernel
theorem dX9_batter_1 : decode cX9_batter 1 = .ok (.iload_n 1, 1) := by decide +kernel
theorem dX9_batter_2 : decode cX9_batter 2 = .ok (.invokevirtual 227, 3) := by decide +kernel
theorem dX9_batter_5 : decode cX9_batter 5 = .ok (.ifCond .eq 17, 3) := by decide +kernel
theorem dX9_batter_8 : decode cX9_batter 8 = .ok (.iload_n 2, 1) := by decide +kernel
theorem dX9_batter_9 : decode cX9_batter 9 = .ok (.iconst 0, 1) := by decide +kernel
theorem dX9_batter_10 : decode cX9_batter 10 = .ok (.bipush 10, 2) := by decide +kernel
theorem dX9_batter_12 : decode cX9_batter 12 = .ok (.invokestatic 76, 3) := by decide +kernel
theorem dX9_batter_15 : decode cX9_batter 15 = .ok (.ifCond .eq 7, 3) := by decide +kernel
theorem dX9_batter_18 : decode cX9_batter 18 = .ok (.iconst 1, 1) := by decide +kernel
theorem dX9_batter_19 : decode cX9_batter 19 = .ok (.goto 4, 3) := by decide +kernel
theorem dX9_batter_22 : decode cX9_batter 22 = .ok (.iconst 0, 1) := by decide +kernel
theorem dX9_batter_23 : decode cX9_batter 23 = .ok (.istore 4, 2) := by decide +kernel
theorem dX9_batter_25 : decode cX9_batter 25 = .ok (.aload_n 0, 1) := by decide +kernel
theorem dX9_batter_26 : decode cX9_batter 26 = .ok (.iload 4, 2) := by decide +kernel
theorem dX9_batter_28 : decode cX9_batter 28 = .ok (.iload_n 3, 1) := by decide +kernel
theorem dX9_batter_29 : decode cX9_batter 29 = .ok (.iconst 5, 1) := by decide +kernel
theorem dX9_batter_30 : decode cX9_batter 30 = .ok (.iload 4, 2) := by decide +kernel
theorem dX9_batter_32 : decode cX9_batter 32 = .ok (.ifCond .eq 21, 3) := by decide +kernel
theorem dX9_batter_35 : decode cX9_batter 35 = .ok (.iload_n 3, 1) := by decide +kernel
theorem dX9_batter_36 : decode cX9_batter 36 = .ok (.iconst 0, 1) := by decide +kernel
theorem dX9_batter_37 : decode cX9_batter 37 = .ok (.iconst 5, 1) := by decide +kernel
theorem dX9_batter_38 : decode cX9_batter 38 = .ok (.invokestatic 76, 3) := by decide +kernel
theorem dX9_batter_41 : decode cX9_batter 41 = .ok (.ifCond .eq 12, 3) := by decide +kernel
theorem dX9_batter_44 : decode cX9_batter 44 = .ok (.iload_n 1, 1) := by decide +kernel
theorem dX9_batter_45 : decode cX9_batter 45 = .ok (.iload_n 2, 1) := by decide +kernel
theorem dX9_batter_46 : decode cX9_batter 46 = .ok (.iload_n 3, 1) := by decide +kernel
theorem dX9_batter_47 : decode cX9_batter 47 = .ok (.invokestatic 65, 3) := by decide +kernel
theorem dX9_batter_50 : decode cX9_batter 50 = .ok (.goto 4, 3) := by decide +kernel
theorem dX9_batter_53 : decode cX9_batter 53 = .ok (.iconst 0, 1) := by decide +kernel
theorem dX9_batter_54 : decode cX9_batter 54 = .ok (.invokevirtual 230, 3) := by decide +kernel
theorem dX9_batter_57 : decode cX9_batter 57 = .ok (.ireturn, 1) := by decide +kernel
theorem dX9_bowler_0 : decode cX9_bowler 0 = .ok (.aload_n 0, 1) := by decide +kernel
theorem dX9_bowler_1 : decode cX9_bowler 1 = .ok (.iload_n 1, 1) := by decide +kernel
theorem dX9_bowler_2 : decode cX9_bowler 2 = .ok (.invokevirtual 227, 3) := by decide +kernel
