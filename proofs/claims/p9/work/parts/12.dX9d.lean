theorem dX9_bowler_5 : decode cX9_bowler 5 = .ok (.ifCond .eq 17, 3) := by decide +kernel
theorem dX9_bowler_8 : decode cX9_bowler 8 = .ok (.iload_n 2, 1) := by decide +kernel
theorem dX9_bowler_9 : decode cX9_bowler 9 = .ok (.iconst 0, 1) := by decide +kernel
theorem dX9_bowler_10 : decode cX9_bowler 10 = .ok (.bipush 10, 2) := by decide +kernel
theorem dX9_bowler_12 : decode cX9_bowler 12 = .ok (.invokestatic 76, 3) := by decide +kernel
theorem dX9_bowler_15 : decode cX9_bowler 15 = .ok (.ifCond .eq 7, 3) := by decide +kernel
theorem dX9_bowler_18 : decode cX9_bowler 18 = .ok (.iconst 1, 1) := by decide +kernel
theorem dX9_bowler_19 : decode cX9_bowler 19 = .ok (.goto 4, 3) := by decide +kernel
theorem dX9_bowler_22 : decode cX9_bowler 22 = .ok (.iconst 0, 1) := by decide +kernel
theorem dX9_bowler_23 : decode cX9_bowler 23 = .ok (.istore 4, 2) := by decide +kernel
theorem dX9_bowler_25 : decode cX9_bowler 25 = .ok (.aload_n 0, 1) := by decide +kernel
theorem dX9_bowler_26 : decode cX9_bowler 26 = .ok (.iload 4, 2) := by decide +kernel
theorem dX9_bowler_28 : decode cX9_bowler 28 = .ok (.iload_n 3, 1) := by decide +kernel
theorem dX9_bowler_29 : decode cX9_bowler 29 = .ok (.bipush 6, 2) := by decide +kernel
theorem dX9_bowler_31 : decode cX9_bowler 31 = .ok (.iload 4, 2) := by decide +kernel
theorem dX9_bowler_33 : decode cX9_bowler 33 = .ok (.ifCond .eq 22, 3) := by decide +kernel
theorem dX9_bowler_36 : decode cX9_bowler 36 = .ok (.iload_n 3, 1) := by decide +kernel
theorem dX9_bowler_37 : decode cX9_bowler 37 = .ok (.iconst 0, 1) := by decide +kernel
theorem dX9_bowler_38 : decode cX9_bowler 38 = .ok (.bipush 6, 2) := by decide +kernel
theorem dX9_bowler_40 : decode cX9_bowler 40 = .ok (.invokestatic 76, 3) := by decide +kernel
theorem dX9_bowler_43 : decode cX9_bowler 43 = .ok (.ifCond .eq 12, 3) := by decide +kernel
theorem dX9_bowler_46 : decode cX9_bowler 46 = .ok (.iload_n 1, 1) := by decide +kernel
theorem dX9_bowler_47 : decode cX9_bowler 47 = .ok (.iload_n 2, 1) := by decide +kernel
theorem dX9_bowler_48 : decode cX9_bowler 48 = .ok (.iload_n 3, 1) := by decide +kernel
theorem dX9_bowler_49 : decode cX9_bowler 49 = .ok (.invokestatic 105, 3) := by decide +kernel
theorem dX9_bowler_52 : decode cX9_bowler 52 = .ok (.goto 4, 3) := by decide +kernel
theorem dX9_bowler_55 : decode cX9_bowler 55 = .ok (.iconst 0, 1) := by decide +kernel
theorem dX9_bowler_56 : decode cX9_bowler 56 = .ok (.invokevirtual 230, 3) := by decide +kernel
theorem dX9_bowler_59 : decode cX9_bowler 59 = .ok (.ireturn, 1) := by decide +kernel
theorem dX9_shares_0 : decode cX9_shares 0 = .ok (.iload_n 1, 1) := by decide +kernel
theorem dX9_shares_1 : decode cX9_shares 1 = .ok (.aload_n 0, 1) := by decide +kernel
theorem dX9_shares_2 : decode cX9_shares 2 = .ok (.getfield 9, 3) := by decide +kernel
theorem dX9_shares_5 : decode cX9_shares 5 = .ok (.iconst 4, 1) := by decide +kernel
theorem dX9_shares_6 : decode cX9_shares 6 = .ok (.iaload, 1) := by decide +kernel
theorem dX9_shares_7 : decode cX9_shares 7 = .ok (.if_icmp .ne 13, 3) := by decide +kernel
theorem dX9_shares_10 : decode cX9_shares 10 = .ok (.aload_n 0, 1) := by decide +kernel
theorem dX9_shares_11 : decode cX9_shares 11 = .ok (.getfield 9, 3) := by decide +kernel
theorem dX9_shares_14 : decode cX9_shares 14 = .ok (.bipush 22, 2) := by decide +kernel
theorem dX9_shares_16 : decode cX9_shares 16 = .ok (.iaload, 1) := by decide +kernel
theorem dX9_shares_17 : decode cX9_shares 17 = .ok (.goto 16, 3) := by decide +kernel
theorem dX9_shares_20 : decode cX9_shares 20 = .ok (.aload_n 0, 1) := by decide +kernel
theorem dX9_shares_21 : decode cX9_shares 21 = .ok (.getfield 9, 3) := by decide +kernel
theorem dX9_shares_24 : decode cX9_shares 24 = .ok (.iload_n 1, 1) := by decide +kernel
theorem dX9_shares_25 : decode cX9_shares 25 = .ok (.iconst 1, 1) := by decide +kernel
theorem dX9_shares_26 : decode cX9_shares 26 = .ok (.iadd, 1) := by decide +kernel
theorem dX9_shares_27 : decode cX9_shares 27 = .ok (.bipush 9, 2) := by decide +kernel
theorem dX9_shares_29 : decode cX9_shares 29 = .ok (.invokestatic 62, 3) := by decide +kernel
theorem dX9_shares_32 : decode cX9_shares 32 = .ok (.iaload, 1) := by decide +kernel
theorem dX9_shares_33 : decode cX9_shares 33 = .ok (.aload_n 0, 1) := by decide +kernel
theorem dX9_shares_34 : decode cX9_shares 34 = .ok (.getfield 9, 3) := by decide +kernel
theorem dX9_shares_37 : decode cX9_shares 37 = .ok (.iload_n 1, 1) := by decide +kernel
theorem dX9_shares_38 : decode cX9_shares 38 = .ok (.bipush 9, 2) := by decide +kernel
theorem dX9_shares_40 : decode cX9_shares 40 = .ok (.invokestatic 62, 3) := by decide +kernel
theorem dX9_shares_43 : decode cX9_shares 43 = .ok (.iaload, 1) := by decide +kernel
theorem dX9_shares_44 : decode cX9_shares 44 = .ok (.isub, 1) := by decide +kernel
theorem dX9_shares_45 : decode cX9_shares 45 = .ok (.ireturn, 1) := by decide +kernel
theorem dX9_listed_0 : decode cX9_listed 0 = .ok (.aload_n 0, 1) := by decide +kernel
theorem dX9_listed_1 : decode cX9_listed 1 = .ok (.iload_n 2, 1) := by decide +kernel
theorem dX9_listed_2 : decode cX9_listed 2 = .ok (.iconst 0, 1) := by decide +kernel
theorem dX9_listed_3 : decode cX9_listed 3 = .ok (.iload_n 3, 1) := by decide +kernel
theorem dX9_listed_4 : decode cX9_listed 4 = .ok (.iconst 1, 1) := by decide +kernel
theorem dX9_listed_5 : decode cX9_listed 5 = .ok (.isub, 1) := by decide +kernel
theorem dX9_listed_6 : decode cX9_listed 6 = .ok (.invokestatic 76, 3) := by decide +kernel
theorem dX9_listed_9 : decode cX9_listed 9 = .ok (.ifCond .ne 7, 3) := by decide +kernel
theorem dX9_listed_12 : decode cX9_listed 12 = .ok (.iconst 2, 1) := by decide +kernel
theorem dX9_listed_13 : decode cX9_listed 13 = .ok (.goto 19, 3) := by decide +kernel
theorem dX9_listed_16 : decode cX9_listed 16 = .ok (.iload 4, 2) := by decide +kernel
theorem dX9_listed_18 : decode cX9_listed 18 = .ok (.iconst 0, 1) := by decide +kernel
theorem dX9_listed_19 : decode cX9_listed 19 = .ok (.iload 5, 2) := by decide +kernel
theorem dX9_listed_21 : decode cX9_listed 21 = .ok (.invokestatic 76, 3) := by decide +kernel
theorem dX9_listed_24 : decode cX9_listed 24 = .ok (.ifCond .ne 7, 3) := by decide +kernel
theorem dX9_listed_27 : decode cX9_listed 27 = .ok (.iconst 3, 1) := by decide +kernel
theorem dX9_listed_28 : decode cX9_listed 28 = .ok (.goto 4, 3) := by decide +kernel
theorem dX9_listed_31 : decode cX9_listed 31 = .ok (.iconst 0, 1) := by decide +kernel
theorem dX9_listed_32 : decode cX9_listed 32 = .ok (.putfield 55, 3) := by decide +kernel
theorem dX9_listed_35 : decode cX9_listed 35 = .ok (.aload_n 0, 1) := by decide +kernel
theorem dX9_listed_36 : decode cX9_listed 36 = .ok (.getfield 55, 3) := by decide +kernel
theorem dX9_listed_39 : decode cX9_listed 39 = .ok (.ifCond .ne 16, 3) := by decide +kernel
theorem dX9_listed_42 : decode cX9_listed 42 = .ok (.aload_n 0, 1) := by decide +kernel
theorem dX9_listed_43 : decode cX9_listed 43 = .ok (.getfield 9, 3) := by decide +kernel
theorem dX9_listed_46 : decode cX9_listed 46 = .ok (.iload 6, 2) := by decide +kernel
theorem dX9_listed_48 : decode cX9_listed 48 = .ok (.iload 4, 2) := by decide +kernel
theorem dX9_listed_50 : decode cX9_listed 50 = .ok (.iadd, 1) := by decide +kernel
theorem dX9_listed_51 : decode cX9_listed 51 = .ok (.iaload, 1) := by decide +kernel
theorem dX9_listed_52 : decode cX9_listed 52 = .ok (.goto 4, 3) := by decide +kernel
theorem dX9_listed_55 : decode cX9_listed 55 = .ok (.iconst 0, 1) := by decide +kernel
theorem dX9_listed_56 : decode cX9_listed 56 = .ok (.ireturn, 1) := by decide +kernel
theorem dX9_partnership_0 : decode cX9_partnership 0 = .ok (.aload_n 0, 1) := by decide +kernel
theorem dX9_partnership_1 : decode cX9_partnership 1 = .ok (.iload_n 1, 1) := by decide +kernel
theorem dX9_partnership_2 : decode cX9_partnership 2 = .ok (.invokevirtual 227, 3) := by decide +kernel
theorem dX9_partnership_5 : decode cX9_partnership 5 = .ok (.ifCond .ne 9, 3) := by decide +kernel
theorem dX9_partnership_8 : decode cX9_partnership 8 = .ok (.aload_n 0, 1) := by decide +kernel
theorem dX9_partnership_9 : decode cX9_partnership 9 = .ok (.iconst 1, 1) := by decide +kernel
theorem dX9_partnership_10 : decode cX9_partnership 10 = .ok (.invokevirtual 169, 3) := by decide +kernel
theorem dX9_partnership_13 : decode cX9_partnership 13 = .ok (.ireturn, 1) := by decide +kernel
theorem dX9_partnership_14 : decode cX9_partnership 14 = .ok (.aload_n 0, 1) := by decide +kernel
theorem dX9_partnership_15 : decode cX9_partnership 15 = .ok (.iload_n 1, 1) := by decide +kernel
theorem dX9_partnership_16 : decode cX9_partnership 16 = .ok (.iload_n 2, 1) := by decide +kernel
theorem dX9_partnership_17 : decode cX9_partnership 17 = .ok (.aload_n 0, 1) := by decide +kernel
theorem dX9_partnership_18 : decode cX9_partnership 18 = .ok (.iload_n 1, 1) := by decide +kernel
theorem dX9_partnership_19 : decode cX9_partnership 19 = .ok (.invokevirtual 234, 3) := by decide +kernel
theorem dX9_partnership_22 : decode cX9_partnership 22 = .ok (.iload_n 3, 1) := by decide +kernel
theorem dX9_partnership_23 : decode cX9_partnership 23 = .ok (.bipush 7, 2) := by decide +kernel
theorem dX9_partnership_25 : decode cX9_partnership 25 = .ok (.sipush 841, 3) := by decide +kernel
theorem dX9_partnership_28 : decode cX9_partnership 28 = .ok (.bipush 8, 2) := by decide +kernel
theorem dX9_partnership_30 : decode cX9_partnership 30 = .ok (.aload_n 0, 1) := by decide +kernel
theorem dX9_partnership_31 : decode cX9_partnership 31 = .ok (.getfield 9, 3) := by decide +kernel
theorem dX9_partnership_34 : decode cX9_partnership 34 = .ok (.iload_n 1, 1) := by decide +kernel
theorem dX9_partnership_35 : decode cX9_partnership 35 = .ok (.bipush 9, 2) := by decide +kernel
theorem dX9_partnership_37 : decode cX9_partnership 37 = .ok (.invokestatic 62, 3) := by decide +kernel
theorem dX9_partnership_40 : decode cX9_partnership 40 = .ok (.iaload, 1) := by decide +kernel
theorem dX9_partnership_41 : decode cX9_partnership 41 = .ok (.iload_n 2, 1) := by decide +kernel
theorem dX9_partnership_42 : decode cX9_partnership 42 = .ok (.iadd, 1) := by decide +kernel
theorem dX9_partnership_43 : decode cX9_partnership 43 = .ok (.imul, 1) := by decide +kernel
theorem dX9_partnership_44 : decode cX9_partnership 44 = .ok (.iadd, 1) := by decide +kernel
theorem dX9_partnership_45 : decode cX9_partnership 45 = .ok (.invokevirtual 237, 3) := by decide +kernel
theorem dX9_partnership_48 : decode cX9_partnership 48 = .ok (.ireturn, 1) := by decide +kernel
theorem dX9_fall_0 : decode cX9_fall 0 = .ok (.aload_n 0, 1) := by decide +kernel
theorem dX9_fall_1 : decode cX9_fall 1 = .ok (.iload_n 1, 1) := by decide +kernel
theorem dX9_fall_2 : decode cX9_fall 2 = .ok (.invokevirtual 227, 3) := by decide +kernel
theorem dX9_fall_5 : decode cX9_fall 5 = .ok (.ifCond .ne 9, 3) := by decide +kernel
theorem dX9_fall_8 : decode cX9_fall 8 = .ok (.aload_n 0, 1) := by decide +kernel
theorem dX9_fall_9 : decode cX9_fall 9 = .ok (.iconst 1, 1) := by decide +kernel
theorem dX9_fall_10 : decode cX9_fall 10 = .ok (.invokevirtual 169, 3) := by decide +kernel
theorem dX9_fall_13 : decode cX9_fall 13 = .ok (.ireturn, 1) := by decide +kernel
theorem dX9_fall_14 : decode cX9_fall 14 = .ok (.aload_n 0, 1) := by decide +kernel
theorem dX9_fall_15 : decode cX9_fall 15 = .ok (.iload_n 1, 1) := by decide +kernel
theorem dX9_fall_16 : decode cX9_fall 16 = .ok (.iload_n 2, 1) := by decide +kernel
theorem dX9_fall_17 : decode cX9_fall 17 = .ok (.aload_n 0, 1) := by decide +kernel
theorem dX9_fall_18 : decode cX9_fall 18 = .ok (.getfield 9, 3) := by decide +kernel
theorem dX9_fall_21 : decode cX9_fall 21 = .ok (.iload_n 1, 1) := by decide +kernel
theorem dX9_fall_22 : decode cX9_fall 22 = .ok (.iconst 1, 1) := by decide +kernel
theorem dX9_fall_23 : decode cX9_fall 23 = .ok (.invokestatic 62, 3) := by decide +kernel
theorem dX9_fall_26 : decode cX9_fall 26 = .ok (.iaload, 1) := by decide +kernel
theorem dX9_fall_27 : decode cX9_fall 27 = .ok (.iload_n 3, 1) := by decide +kernel
theorem dX9_fall_28 : decode cX9_fall 28 = .ok (.iconst 2, 1) := by decide +kernel
theorem dX9_fall_29 : decode cX9_fall 29 = .ok (.sipush 641, 3) := by decide +kernel
theorem dX9_fall_32 : decode cX9_fall 32 = .ok (.bipush 30, 2) := by decide +kernel
theorem dX9_fall_34 : decode cX9_fall 34 = .ok (.iload_n 1, 1) := by decide +kernel
theorem dX9_fall_35 : decode cX9_fall 35 = .ok (.imul, 1) := by decide +kernel
theorem dX9_fall_36 : decode cX9_fall 36 = .ok (.iadd, 1) := by decide +kernel
theorem dX9_fall_37 : decode cX9_fall 37 = .ok (.iconst 3, 1) := by decide +kernel
theorem dX9_fall_38 : decode cX9_fall 38 = .ok (.iload_n 2, 1) := by decide +kernel
theorem dX9_fall_39 : decode cX9_fall 39 = .ok (.imul, 1) := by decide +kernel
theorem dX9_fall_40 : decode cX9_fall 40 = .ok (.iadd, 1) := by decide +kernel
theorem dX9_fall_41 : decode cX9_fall 41 = .ok (.invokevirtual 237, 3) := by decide +kernel
theorem dX9_fall_44 : decode cX9_fall 44 = .ok (.ireturn, 1) := by decide +kernel
theorem dX9_needed_0 : decode cX9_needed 0 = .ok (.aload_n 0, 1) := by decide +kernel
theorem dX9_needed_1 : decode cX9_needed 1 = .ok (.iconst 0, 1) := by decide +kernel
theorem dX9_needed_2 : decode cX9_needed 2 = .ok (.putfield 55, 3) := by decide +kernel
theorem dX9_needed_5 : decode cX9_needed 5 = .ok (.aload_n 0, 1) := by decide +kernel
theorem dX9_needed_6 : decode cX9_needed 6 = .ok (.iconst 1, 1) := by decide +kernel
theorem dX9_needed_7 : decode cX9_needed 7 = .ok (.invokevirtual 221, 3) := by decide +kernel
theorem dX9_needed_10 : decode cX9_needed 10 = .ok (.ifCond .ne 5, 3) := by decide +kernel
theorem dX9_needed_13 : decode cX9_needed 13 = .ok (.iconst 0, 1) := by decide +kernel
theorem dX9_needed_14 : decode cX9_needed 14 = .ok (.ireturn, 1) := by decide +kernel
theorem dX9_needed_15 : decode cX9_needed 15 = .ok (.aload_n 0, 1) := by decide +kernel
theorem dX9_needed_16 : decode cX9_needed 16 = .ok (.getfield 9, 3) := by decide +kernel
theorem dX9_needed_19 : decode cX9_needed 19 = .ok (.iconst 4, 1) := by decide +kernel
theorem dX9_needed_20 : decode cX9_needed 20 = .ok (.iaload, 1) := by decide +kernel
theorem dX9_needed_21 : decode cX9_needed 21 = .ok (.aload_n 0, 1) := by decide +kernel
theorem dX9_needed_22 : decode cX9_needed 22 = .ok (.invokevirtual 95, 3) := by decide +kernel
theorem dX9_needed_25 : decode cX9_needed 25 = .ok (.if_icmp .ge 9, 3) := by decide +kernel
theorem dX9_needed_28 : decode cX9_needed 28 = .ok (.aload_n 0, 1) := by decide +kernel
theorem dX9_needed_29 : decode cX9_needed 29 = .ok (.iconst 2, 1) := by decide +kernel
theorem dX9_needed_30 : decode cX9_needed 30 = .ok (.invokevirtual 169, 3) := by decide +kernel
theorem dX9_needed_33 : decode cX9_needed 33 = .ok (.ireturn, 1) := by decide +kernel
theorem dX9_needed_34 : decode cX9_needed 34 = .ok (.aload_n 0, 1) := by decide +kernel
theorem dX9_needed_35 : decode cX9_needed 35 = .ok (.invokevirtual 99, 3) := by decide +kernel
theorem dX9_needed_38 : decode cX9_needed 38 = .ok (.aload_n 0, 1) := by decide +kernel
theorem dX9_needed_39 : decode cX9_needed 39 = .ok (.getfield 9, 3) := by decide +kernel
theorem dX9_needed_42 : decode cX9_needed 42 = .ok (.aload_n 0, 1) := by decide +kernel
theorem dX9_needed_43 : decode cX9_needed 43 = .ok (.getfield 9, 3) := by decide +kernel
theorem dX9_needed_46 : decode cX9_needed 46 = .ok (.iconst 4, 1) := by decide +kernel
theorem dX9_needed_47 : decode cX9_needed 47 = .ok (.iaload, 1) := by decide +kernel
theorem dX9_needed_48 : decode cX9_needed 48 = .ok (.iconst 0, 1) := by decide +kernel
theorem dX9_needed_49 : decode cX9_needed 49 = .ok (.invokestatic 62, 3) := by decide +kernel
theorem dX9_needed_52 : decode cX9_needed 52 = .ok (.iaload, 1) := by decide +kernel
theorem dX9_needed_53 : decode cX9_needed 53 = .ok (.isub, 1) := by decide +kernel
theorem dX9_needed_54 : decode cX9_needed 54 = .ok (.istore_n 2, 1) := by decide +kernel
theorem dX9_needed_55 : decode cX9_needed 55 = .ok (.iload_n 1, 1) := by decide +kernel
theorem dX9_needed_56 : decode cX9_needed 56 = .ok (.ifCond .eq 10, 3) := by decide +kernel
theorem dX9_needed_59 : decode cX9_needed 59 = .ok (.aload_n 0, 1) := by decide +kernel
theorem dX9_needed_60 : decode cX9_needed 60 = .ok (.invokevirtual 99, 3) := by decide +kernel
theorem dX9_needed_63 : decode cX9_needed 63 = .ok (.goto 12, 3) := by decide +kernel
theorem dX9_needed_66 : decode cX9_needed 66 = .ok (.iload_n 2, 1) := by decide +kernel
theorem dX9_needed_67 : decode cX9_needed 67 = .ok (.ifCond .ge 7, 3) := by decide +kernel
theorem dX9_needed_70 : decode cX9_needed 70 = .ok (.iconst 0, 1) := by decide +kernel
theorem dX9_needed_71 : decode cX9_needed 71 = .ok (.goto 4, 3) := by decide +kernel
theorem dX9_needed_74 : decode cX9_needed 74 = .ok (.iload_n 2, 1) := by decide +kernel
theorem dX9_needed_75 : decode cX9_needed 75 = .ok (.ireturn, 1) := by decide +kernel
theorem dX9_result_0 : decode cX9_result 0 = .ok (.aload_n 0, 1) := by decide +kernel
theorem dX9_result_1 : decode cX9_result 1 = .ok (.iconst 0, 1) := by decide +kernel
theorem dX9_result_2 : decode cX9_result 2 = .ok (.putfield 55, 3) := by decide +kernel
theorem dX9_result_5 : decode cX9_result 5 = .ok (.aload_n 0, 1) := by decide +kernel
theorem dX9_result_6 : decode cX9_result 6 = .ok (.getfield 9, 3) := by decide +kernel
theorem dX9_result_9 : decode cX9_result 9 = .ok (.iconst 0, 1) := by decide +kernel
theorem dX9_result_10 : decode cX9_result 10 = .ok (.iaload, 1) := by decide +kernel
theorem dX9_result_11 : decode cX9_result 11 = .ok (.ifCond .eq 12, 3) := by decide +kernel
theorem dX9_result_14 : decode cX9_result 14 = .ok (.aload_n 0, 1) := by decide +kernel
theorem dX9_result_15 : decode cX9_result 15 = .ok (.getfield 9, 3) := by decide +kernel
theorem dX9_result_18 : decode cX9_result 18 = .ok (.iconst 5, 1) := by decide +kernel
theorem dX9_result_19 : decode cX9_result 19 = .ok (.iaload, 1) := by decide +kernel
theorem dX9_result_20 : decode cX9_result 20 = .ok (.ifCond .ne 5, 3) := by decide +kernel
theorem dX9_result_23 : decode cX9_result 23 = .ok (.iconst 0, 1) := by decide +kernel
theorem dX9_result_24 : decode cX9_result 24 = .ok (.ireturn, 1) := by decide +kernel
theorem dX9_result_25 : decode cX9_result 25 = .ok (.aload_n 0, 1) := by decide +kernel
theorem dX9_result_26 : decode cX9_result 26 = .ok (.aload_n 0, 1) := by decide +kernel
theorem dX9_result_27 : decode cX9_result 27 = .ok (.invokevirtual 95, 3) := by decide +kernel
theorem dX9_result_30 : decode cX9_result 30 = .ok (.invokevirtual 224, 3) := by decide +kernel
theorem dX9_result_33 : decode cX9_result 33 = .ok (.istore_n 1, 1) := by decide +kernel
theorem dX9_result_34 : decode cX9_result 34 = .ok (.aload_n 0, 1) := by decide +kernel
theorem dX9_result_35 : decode cX9_result 35 = .ok (.getfield 9, 3) := by decide +kernel
theorem dX9_result_38 : decode cX9_result 38 = .ok (.iconst 4, 1) := by decide +kernel
theorem dX9_result_39 : decode cX9_result 39 = .ok (.iaload, 1) := by decide +kernel
theorem dX9_result_40 : decode cX9_result 40 = .ok (.aload_n 0, 1) := by decide +kernel
theorem dX9_result_41 : decode cX9_result 41 = .ok (.invokevirtual 95, 3) := by decide +kernel
theorem dX9_result_44 : decode cX9_result 44 = .ok (.if_icmp .ge 7, 3) := by decide +kernel
theorem dX9_result_47 : decode cX9_result 47 = .ok (.iconst 1, 1) := by decide +kernel
theorem dX9_result_48 : decode cX9_result 48 = .ok (.iload_n 1, 1) := by decide +kernel
theorem dX9_result_49 : decode cX9_result 49 = .ok (.iadd, 1) := by decide +kernel
theorem dX9_result_50 : decode cX9_result 50 = .ok (.ireturn, 1) := by decide +kernel
theorem dX9_result_51 : decode cX9_result 51 = .ok (.aload_n 0, 1) := by decide +kernel
theorem dX9_result_52 : decode cX9_result 52 = .ok (.getfield 9, 3) := by decide +kernel
theorem dX9_result_55 : decode cX9_result 55 = .ok (.aload_n 0, 1) := by decide +kernel
theorem dX9_result_56 : decode cX9_result 56 = .ok (.getfield 9, 3) := by decide +kernel
theorem dX9_result_59 : decode cX9_result 59 = .ok (.iconst 4, 1) := by decide +kernel
theorem dX9_result_60 : decode cX9_result 60 = .ok (.iaload, 1) := by decide +kernel
theorem dX9_result_61 : decode cX9_result 61 = .ok (.iconst 0, 1) := by decide +kernel
theorem dX9_result_62 : decode cX9_result 62 = .ok (.invokestatic 62, 3) := by decide +kernel
theorem dX9_result_65 : decode cX9_result 65 = .ok (.iaload, 1) := by decide +kernel
theorem dX9_result_66 : decode cX9_result 66 = .ok (.istore_n 2, 1) := by decide +kernel
theorem dX9_result_67 : decode cX9_result 67 = .ok (.iload_n 2, 1) := by decide +kernel
theorem dX9_result_68 : decode cX9_result 68 = .ok (.aload_n 0, 1) := by decide +kernel
theorem dX9_result_69 : decode cX9_result 69 = .ok (.invokevirtual 99, 3) := by decide +kernel
theorem dX9_result_72 : decode cX9_result 72 = .ok (.if_icmp .lt 9, 3) := by decide +kernel
theorem dX9_result_75 : decode cX9_result 75 = .ok (.iconst 1, 1) := by decide +kernel
theorem dX9_result_76 : decode cX9_result 76 = .ok (.iload_n 1, 1) := by decide +kernel
theorem dX9_result_77 : decode cX9_result 77 = .ok (.iadd, 1) := by decide +kernel
theorem dX9_result_78 : decode cX9_result 78 = .ok (.goto 20, 3) := by decide +kernel
theorem dX9_result_81 : decode cX9_result 81 = .ok (.iload_n 2, 1) := by decide +kernel
theorem dX9_result_82 : decode cX9_result 82 = .ok (.aload_n 0, 1) := by decide +kernel
theorem dX9_result_83 : decode cX9_result 83 = .ok (.invokevirtual 99, 3) := by decide +kernel
theorem dX9_result_86 : decode cX9_result 86 = .ok (.iconst 1, 1) := by decide +kernel
theorem dX9_result_87 : decode cX9_result 87 = .ok (.isub, 1) := by decide +kernel
theorem dX9_result_88 : decode cX9_result 88 = .ok (.if_icmp .ne 7, 3) := by decide +kernel
theorem dX9_result_91 : decode cX9_result 91 = .ok (.iconst 3, 1) := by decide +kernel
theorem dX9_result_92 : decode cX9_result 92 = .ok (.goto 6, 3) := by decide +kernel
theorem dX9_result_95 : decode cX9_result 95 = .ok (.iconst 2, 1) := by decide +kernel
theorem dX9_result_96 : decode cX9_result 96 = .ok (.iload_n 1, 1) := by decide +kernel
theorem dX9_result_97 : decode cX9_result 97 = .ok (.isub, 1) := by decide +kernel
theorem dX9_result_98 : decode cX9_result 98 = .ok (.ireturn, 1) := by decide +kernel
theorem dX9_runRate_0 : decode cX9_runRate 0 = .ok (.aload_n 0, 1) := by decide +kernel
theorem dX9_runRate_1 : decode cX9_runRate 1 = .ok (.aload_n 0, 1) := by decide +kernel
theorem dX9_runRate_2 : decode cX9_runRate 2 = .ok (.iload_n 1, 1) := by decide +kernel
theorem dX9_runRate_3 : decode cX9_runRate 3 = .ok (.invokevirtual 227, 3) := by decide +kernel
theorem dX9_runRate_6 : decode cX9_runRate 6 = .ok (.ifCond .ne 7, 3) := by decide +kernel
theorem dX9_runRate_9 : decode cX9_runRate 9 = .ok (.iconst 1, 1) := by decide +kernel
theorem dX9_runRate_10 : decode cX9_runRate 10 = .ok (.goto 21, 3) := by decide +kernel
theorem dX9_runRate_13 : decode cX9_runRate 13 = .ok (.aload_n 0, 1) := by decide +kernel
theorem dX9_runRate_14 : decode cX9_runRate 14 = .ok (.getfield 9, 3) := by decide +kernel
theorem dX9_runRate_17 : decode cX9_runRate 17 = .ok (.iload_n 1, 1) := by decide +kernel
theorem dX9_runRate_18 : decode cX9_runRate 18 = .ok (.iconst 2, 1) := by decide +kernel
theorem dX9_runRate_19 : decode cX9_runRate 19 = .ok (.invokestatic 62, 3) := by decide +kernel
theorem dX9_runRate_22 : decode cX9_runRate 22 = .ok (.iaload, 1) := by decide +kernel
theorem dX9_runRate_23 : decode cX9_runRate 23 = .ok (.ifCond .ne 7, 3) := by decide +kernel
theorem dX9_runRate_26 : decode cX9_runRate 26 = .ok (.iconst 2, 1) := by decide +kernel
theorem dX9_runRate_27 : decode cX9_runRate 27 = .ok (.goto 4, 3) := by decide +kernel
theorem dX9_runRate_30 : decode cX9_runRate 30 = .ok (.iconst 0, 1) := by decide +kernel
theorem dX9_runRate_31 : decode cX9_runRate 31 = .ok (.putfield 55, 3) := by decide +kernel
theorem dX9_runRate_34 : decode cX9_runRate 34 = .ok (.aload_n 0, 1) := by decide +kernel
theorem dX9_runRate_35 : decode cX9_runRate 35 = .ok (.getfield 55, 3) := by decide +kernel
theorem dX9_runRate_38 : decode cX9_runRate 38 = .ok (.ifCond .le 7, 3) := by decide +kernel
theorem dX9_runRate_41 : decode cX9_runRate 41 = .ok (.dconst 0, 1) := by decide +kernel
theorem dX9_runRate_42 : decode cX9_runRate 42 = .ok (.goto 29, 3) := by decide +kernel
theorem dX9_runRate_45 : decode cX9_runRate 45 = .ok (.aload_n 0, 1) := by decide +kernel
theorem dX9_runRate_46 : decode cX9_runRate 46 = .ok (.getfield 9, 3) := by decide +kernel
theorem dX9_runRate_49 : decode cX9_runRate 49 = .ok (.iload_n 1, 1) := by decide +kernel
theorem dX9_runRate_50 : decode cX9_runRate 50 = .ok (.iconst 0, 1) := by decide +kernel
theorem dX9_runRate_51 : decode cX9_runRate 51 = .ok (.invokestatic 62, 3) := by decide +kernel
theorem dX9_runRate_54 : decode cX9_runRate 54 = .ok (.iaload, 1) := by decide +kernel
theorem dX9_runRate_55 : decode cX9_runRate 55 = .ok (.bipush 6, 2) := by decide +kernel
theorem dX9_runRate_57 : decode cX9_runRate 57 = .ok (.imul, 1) := by decide +kernel
theorem dX9_runRate_58 : decode cX9_runRate 58 = .ok (.i2d, 1) := by decide +kernel
theorem dX9_runRate_59 : decode cX9_runRate 59 = .ok (.aload_n 0, 1) := by decide +kernel
theorem dX9_runRate_60 : decode cX9_runRate 60 = .ok (.getfield 9, 3) := by decide +kernel
theorem dX9_runRate_63 : decode cX9_runRate 63 = .ok (.iload_n 1, 1) := by decide +kernel
theorem dX9_runRate_64 : decode cX9_runRate 64 = .ok (.iconst 2, 1) := by decide +kernel
theorem dX9_runRate_65 : decode cX9_runRate 65 = .ok (.invokestatic 62, 3) := by decide +kernel
theorem dX9_runRate_68 : decode cX9_runRate 68 = .ok (.iaload, 1) := by decide +kernel
theorem dX9_runRate_69 : decode cX9_runRate 69 = .ok (.i2d, 1) := by decide +kernel
theorem dX9_runRate_70 : decode cX9_runRate 70 = .ok (.ddiv, 1) := by decide +kernel
theorem dX9_runRate_71 : decode cX9_runRate 71 = .ok (.dreturn, 1) := by decide +kernel
theorem dX9_strikeRate_0 : decode cX9_strikeRate 0 = .ok (.aload_n 0, 1) := by decide +kernel
theorem dX9_strikeRate_1 : decode cX9_strikeRate 1 = .ok (.aload_n 0, 1) := by decide +kernel
theorem dX9_strikeRate_2 : decode cX9_strikeRate 2 = .ok (.iload_n 1, 1) := by decide +kernel
theorem dX9_strikeRate_3 : decode cX9_strikeRate 3 = .ok (.invokevirtual 227, 3) := by decide +kernel
theorem dX9_strikeRate_6 : decode cX9_strikeRate 6 = .ok (.ifCond .eq 13, 3) := by decide +kernel
theorem dX9_strikeRate_9 : decode cX9_strikeRate 9 = .ok (.iload_n 2, 1) := by decide +kernel
theorem dX9_strikeRate_10 : decode cX9_strikeRate 10 = .ok (.iconst 0, 1) := by decide +kernel
theorem dX9_strikeRate_11 : decode cX9_strikeRate 11 = .ok (.bipush 10, 2) := by decide +kernel
theorem dX9_strikeRate_13 : decode cX9_strikeRate 13 = .ok (.invokestatic 76, 3) := by decide +kernel
theorem dX9_strikeRate_16 : decode cX9_strikeRate 16 = .ok (.ifCond .ne 7, 3) := by decide +kernel
theorem dX9_strikeRate_19 : decode cX9_strikeRate 19 = .ok (.iconst 1, 1) := by decide +kernel
theorem dX9_strikeRate_20 : decode cX9_strikeRate 20 = .ok (.goto 22, 3) := by decide +kernel
theorem dX9_strikeRate_23 : decode cX9_strikeRate 23 = .ok (.aload_n 0, 1) := by decide +kernel
theorem dX9_strikeRate_24 : decode cX9_strikeRate 24 = .ok (.getfield 9, 3) := by decide +kernel
theorem dX9_strikeRate_27 : decode cX9_strikeRate 27 = .ok (.iload_n 1, 1) := by decide +kernel
theorem dX9_strikeRate_28 : decode cX9_strikeRate 28 = .ok (.iload_n 2, 1) := by decide +kernel
theorem dX9_strikeRate_29 : decode cX9_strikeRate 29 = .ok (.iconst 1, 1) := by decide +kernel
theorem dX9_strikeRate_30 : decode cX9_strikeRate 30 = .ok (.invokestatic 65, 3) := by decide +kernel
theorem dX9_strikeRate_33 : decode cX9_strikeRate 33 = .ok (.iaload, 1) := by decide +kernel
theorem dX9_strikeRate_34 : decode cX9_strikeRate 34 = .ok (.ifCond .ne 7, 3) := by decide +kernel
theorem dX9_strikeRate_37 : decode cX9_strikeRate 37 = .ok (.iconst 2, 1) := by decide +kernel
theorem dX9_strikeRate_38 : decode cX9_strikeRate 38 = .ok (.goto 4, 3) := by decide +kernel
theorem dX9_strikeRate_41 : decode cX9_strikeRate 41 = .ok (.iconst 0, 1) := by decide +kernel
theorem dX9_strikeRate_42 : decode cX9_strikeRate 42 = .ok (.putfield 55, 3) := by decide +kernel
theorem dX9_strikeRate_45 : decode cX9_strikeRate 45 = .ok (.aload_n 0, 1) := by decide +kernel
theorem dX9_strikeRate_46 : decode cX9_strikeRate 46 = .ok (.getfield 55, 3) := by decide +kernel
theorem dX9_strikeRate_49 : decode cX9_strikeRate 49 = .ok (.ifCond .le 7, 3) := by decide +kernel
theorem dX9_strikeRate_52 : decode cX9_strikeRate 52 = .ok (.fconst 0, 1) := by decide +kernel
theorem dX9_strikeRate_53 : decode cX9_strikeRate 53 = .ok (.goto 31, 3) := by decide +kernel
theorem dX9_strikeRate_56 : decode cX9_strikeRate 56 = .ok (.aload_n 0, 1) := by decide +kernel
theorem dX9_strikeRate_57 : decode cX9_strikeRate 57 = .ok (.getfield 9, 3) := by decide +kernel
theorem dX9_strikeRate_60 : decode cX9_strikeRate 60 = .ok (.iload_n 1, 1) := by decide +kernel
theorem dX9_strikeRate_61 : decode cX9_strikeRate 61 = .ok (.iload_n 2, 1) := by decide +kernel
theorem dX9_strikeRate_62 : decode cX9_strikeRate 62 = .ok (.iconst 0, 1) := by decide +kernel
theorem dX9_strikeRate_63 : decode cX9_strikeRate 63 = .ok (.invokestatic 65, 3) := by decide +kernel
theorem dX9_strikeRate_66 : decode cX9_strikeRate 66 = .ok (.iaload, 1) := by decide +kernel
theorem dX9_strikeRate_67 : decode cX9_strikeRate 67 = .ok (.bipush 100, 2) := by decide +kernel
theorem dX9_strikeRate_69 : decode cX9_strikeRate 69 = .ok (.imul, 1) := by decide +kernel
theorem dX9_strikeRate_70 : decode cX9_strikeRate 70 = .ok (.i2f, 1) := by decide +kernel
theorem dX9_strikeRate_71 : decode cX9_strikeRate 71 = .ok (.aload_n 0, 1) := by decide +kernel
theorem dX9_strikeRate_72 : decode cX9_strikeRate 72 = .ok (.getfield 9, 3) := by decide +kernel
theorem dX9_strikeRate_75 : decode cX9_strikeRate 75 = .ok (.iload_n 1, 1) := by decide +kernel
theorem dX9_strikeRate_76 : decode cX9_strikeRate 76 = .ok (.iload_n 2, 1) := by decide +kernel
theorem dX9_strikeRate_77 : decode cX9_strikeRate 77 = .ok (.iconst 1, 1) := by decide +kernel
theorem dX9_strikeRate_78 : decode cX9_strikeRate 78 = .ok (.invokestatic 65, 3) := by decide +kernel
theorem dX9_strikeRate_81 : decode cX9_strikeRate 81 = .ok (.iaload, 1) := by decide +kernel
theorem dX9_strikeRate_82 : decode cX9_strikeRate 82 = .ok (.i2f, 1) := by decide +kernel
theorem dX9_strikeRate_83 : decode cX9_strikeRate 83 = .ok (.fdiv, 1) := by decide +kernel
theorem dX9_strikeRate_84 : decode cX9_strikeRate 84 = .ok (.freturn, 1) := by decide +kernel
theorem dX9_storeOvers_0 : decode cX9_storeOvers 0 = .ok (.aload_n 0, 1) := by decide +kernel
theorem dX9_storeOvers_1 : decode cX9_storeOvers 1 = .ok (.iload_n 1, 1) := by decide +kernel
theorem dX9_storeOvers_2 : decode cX9_storeOvers 2 = .ok (.iconst 0, 1) := by decide +kernel
theorem dX9_storeOvers_3 : decode cX9_storeOvers 3 = .ok (.iconst 1, 1) := by decide +kernel
theorem dX9_storeOvers_4 : decode cX9_storeOvers 4 = .ok (.invokestatic 76, 3) := by decide +kernel
theorem dX9_storeOvers_7 : decode cX9_storeOvers 7 = .ok (.ifCond .eq 15, 3) := by decide +kernel
theorem dX9_storeOvers_10 : decode cX9_storeOvers 10 = .ok (.aload_n 0, 1) := by decide +kernel
theorem dX9_storeOvers_11 : decode cX9_storeOvers 11 = .ok (.iload_n 2, 1) := by decide +kernel
theorem dX9_storeOvers_12 : decode cX9_storeOvers 12 = .ok (.invokevirtual 227, 3) := by decide +kernel
theorem dX9_storeOvers_15 : decode cX9_storeOvers 15 = .ok (.ifCond .eq 7, 3) := by decide +kernel
theorem dX9_storeOvers_18 : decode cX9_storeOvers 18 = .ok (.iconst 0, 1) := by decide +kernel
theorem dX9_storeOvers_19 : decode cX9_storeOvers 19 = .ok (.goto 4, 3) := by decide +kernel
theorem dX9_storeOvers_22 : decode cX9_storeOvers 22 = .ok (.iconst 1, 1) := by decide +kernel
theorem dX9_storeOvers_23 : decode cX9_storeOvers 23 = .ok (.putfield 55, 3) := by decide +kernel
theorem dX9_storeOvers_26 : decode cX9_storeOvers 26 = .ok (.aload_n 0, 1) := by decide +kernel
theorem dX9_storeOvers_27 : decode cX9_storeOvers 27 = .ok (.getfield 55, 3) := by decide +kernel
theorem dX9_storeOvers_30 : decode cX9_storeOvers 30 = .ok (.iconst 1, 1) := by decide +kernel
theorem dX9_storeOvers_31 : decode cX9_storeOvers 31 = .ok (.if_icmp .ne 5, 3) := by decide +kernel
theorem dX9_storeOvers_34 : decode cX9_storeOvers 34 = .ok (.iconst 0, 1) := by decide +kernel
theorem dX9_storeOvers_35 : decode cX9_storeOvers 35 = .ok (.ireturn, 1) := by decide +kernel
theorem dX9_storeOvers_36 : decode cX9_storeOvers 36 = .ok (.aload_n 0, 1) := by decide +kernel
theorem dX9_storeOvers_37 : decode cX9_storeOvers 37 = .ok (.getfield 9, 3) := by decide +kernel
theorem dX9_storeOvers_40 : decode cX9_storeOvers 40 = .ok (.iload_n 2, 1) := by decide +kernel
theorem dX9_storeOvers_41 : decode cX9_storeOvers 41 = .ok (.bipush 8, 2) := by decide +kernel
theorem dX9_storeOvers_43 : decode cX9_storeOvers 43 = .ok (.invokestatic 62, 3) := by decide +kernel
theorem dX9_storeOvers_46 : decode cX9_storeOvers 46 = .ok (.iaload, 1) := by decide +kernel
theorem dX9_storeOvers_47 : decode cX9_storeOvers 47 = .ok (.istore 4, 2) := by decide +kernel
theorem dX9_storeOvers_49 : decode cX9_storeOvers 49 = .ok (.aload_n 0, 1) := by decide +kernel
theorem dX9_storeOvers_50 : decode cX9_storeOvers 50 = .ok (.getfield 42, 3) := by decide +kernel
theorem dX9_storeOvers_53 : decode cX9_storeOvers 53 = .ok (.iload_n 1, 1) := by decide +kernel
theorem dX9_storeOvers_54 : decode cX9_storeOvers 54 = .ok (.iload_n 3, 1) := by decide +kernel
theorem dX9_storeOvers_55 : decode cX9_storeOvers 55 = .ok (.ifCond .eq 7, 3) := by decide +kernel
theorem dX9_storeOvers_58 : decode cX9_storeOvers 58 = .ok (.iconst 1, 1) := by decide +kernel
theorem dX9_storeOvers_59 : decode cX9_storeOvers 59 = .ok (.goto 4, 3) := by decide +kernel
theorem dX9_storeOvers_62 : decode cX9_storeOvers 62 = .ok (.iconst 2, 1) := by decide +kernel
theorem dX9_storeOvers_63 : decode cX9_storeOvers 63 = .ok (.iastore, 1) := by decide +kernel
theorem dX9_storeOvers_64 : decode cX9_storeOvers 64 = .ok (.aload_n 0, 1) := by decide +kernel
theorem dX9_storeOvers_65 : decode cX9_storeOvers 65 = .ok (.getfield 45, 3) := by decide +kernel
theorem dX9_storeOvers_68 : decode cX9_storeOvers 68 = .ok (.iload_n 1, 1) := by decide +kernel
theorem dX9_storeOvers_69 : decode cX9_storeOvers 69 = .ok (.iload 4, 2) := by decide +kernel
theorem dX9_storeOvers_71 : decode cX9_storeOvers 71 = .ok (.aload_n 0, 1) := by decide +kernel
theorem dX9_storeOvers_72 : decode cX9_storeOvers 72 = .ok (.getfield 9, 3) := by decide +kernel
theorem dX9_storeOvers_75 : decode cX9_storeOvers 75 = .ok (.iload_n 2, 1) := by decide +kernel
theorem dX9_storeOvers_76 : decode cX9_storeOvers 76 = .ok (.bipush 10, 2) := by decide +kernel
theorem dX9_storeOvers_78 : decode cX9_storeOvers 78 = .ok (.invokestatic 62, 3) := by decide +kernel
theorem dX9_storeOvers_81 : decode cX9_storeOvers 81 = .ok (.iaload, 1) := by decide +kernel
theorem dX9_storeOvers_82 : decode cX9_storeOvers 82 = .ok (.iadd, 1) := by decide +kernel
theorem dX9_storeOvers_83 : decode cX9_storeOvers 83 = .ok (.iastore, 1) := by decide +kernel
theorem dX9_storeOvers_84 : decode cX9_storeOvers 84 = .ok (.iconst 0, 1) := by decide +kernel
theorem dX9_storeOvers_85 : decode cX9_storeOvers 85 = .ok (.istore 5, 2) := by decide +kernel
theorem dX9_storeOvers_87 : decode cX9_storeOvers 87 = .ok (.iload 5, 2) := by decide +kernel
theorem dX9_storeOvers_89 : decode cX9_storeOvers 89 = .ok (.aload_n 0, 1) := by decide +kernel
theorem dX9_storeOvers_90 : decode cX9_storeOvers 90 = .ok (.getfield 45, 3) := by decide +kernel
theorem dX9_storeOvers_93 : decode cX9_storeOvers 93 = .ok (.iload_n 1, 1) := by decide +kernel
theorem dX9_storeOvers_94 : decode cX9_storeOvers 94 = .ok (.iaload, 1) := by decide +kernel
theorem dX9_storeOvers_95 : decode cX9_storeOvers 95 = .ok (.if_icmp .ge 82, 3) := by decide +kernel
theorem dX9_storeOvers_98 : decode cX9_storeOvers 98 = .ok (.iload 5, 2) := by decide +kernel
theorem dX9_storeOvers_100 : decode cX9_storeOvers 100 = .ok (.iload 4, 2) := by decide +kernel
theorem dX9_storeOvers_102 : decode cX9_storeOvers 102 = .ok (.if_icmp .ge 22, 3) := by decide +kernel
theorem dX9_storeOvers_105 : decode cX9_storeOvers 105 = .ok (.aload_n 0, 1) := by decide +kernel
theorem dX9_storeOvers_106 : decode cX9_storeOvers 106 = .ok (.getfield 9, 3) := by decide +kernel
theorem dX9_storeOvers_109 : decode cX9_storeOvers 109 = .ok (.sipush 761, 3) := by decide +kernel
theorem dX9_storeOvers_112 : decode cX9_storeOvers 112 = .ok (.bipush 20, 2) := by decide +kernel
theorem dX9_storeOvers_114 : decode cX9_storeOvers 114 = .ok (.iload_n 2, 1) := by decide +kernel
theorem dX9_storeOvers_115 : decode cX9_storeOvers 115 = .ok (.imul, 1) := by decide +kernel
theorem dX9_storeOvers_116 : decode cX9_storeOvers 116 = .ok (.iadd, 1) := by decide +kernel
theorem dX9_storeOvers_117 : decode cX9_storeOvers 117 = .ok (.iload 5, 2) := by decide +kernel
theorem dX9_storeOvers_119 : decode cX9_storeOvers 119 = .ok (.iadd, 1) := by decide +kernel
theorem dX9_storeOvers_120 : decode cX9_storeOvers 120 = .ok (.iaload, 1) := by decide +kernel
theorem dX9_storeOvers_121 : decode cX9_storeOvers 121 = .ok (.goto 13, 3) := by decide +kernel
theorem dX9_storeOvers_124 : decode cX9_storeOvers 124 = .ok (.aload_n 0, 1) := by decide +kernel
theorem dX9_storeOvers_125 : decode cX9_storeOvers 125 = .ok (.getfield 9, 3) := by decide +kernel
theorem dX9_storeOvers_128 : decode cX9_storeOvers 128 = .ok (.iload_n 2, 1) := by decide +kernel
theorem dX9_storeOvers_129 : decode cX9_storeOvers 129 = .ok (.iconst 0, 1) := by decide +kernel
theorem dX9_storeOvers_130 : decode cX9_storeOvers 130 = .ok (.invokestatic 62, 3) := by decide +kernel
theorem dX9_storeOvers_133 : decode cX9_storeOvers 133 = .ok (.iaload, 1) := by decide +kernel
theorem dX9_storeOvers_134 : decode cX9_storeOvers 134 = .ok (.istore 6, 2) := by decide +kernel
theorem dX9_storeOvers_136 : decode cX9_storeOvers 136 = .ok (.aload_n 0, 1) := by decide +kernel
theorem dX9_storeOvers_137 : decode cX9_storeOvers 137 = .ok (.getfield 48, 3) := by decide +kernel
theorem dX9_storeOvers_140 : decode cX9_storeOvers 140 = .ok (.bipush 21, 2) := by decide +kernel
theorem dX9_storeOvers_142 : decode cX9_storeOvers 142 = .ok (.iload_n 1, 1) := by decide +kernel
theorem dX9_storeOvers_143 : decode cX9_storeOvers 143 = .ok (.imul, 1) := by decide +kernel
theorem dX9_storeOvers_144 : decode cX9_storeOvers 144 = .ok (.iload 5, 2) := by decide +kernel
theorem dX9_storeOvers_146 : decode cX9_storeOvers 146 = .ok (.iadd, 1) := by decide +kernel
theorem dX9_storeOvers_147 : decode cX9_storeOvers 147 = .ok (.iload 6, 2) := by decide +kernel
theorem dX9_storeOvers_149 : decode cX9_storeOvers 149 = .ok (.iastore, 1) := by decide +kernel
theorem dX9_storeOvers_150 : decode cX9_storeOvers 150 = .ok (.aload_n 0, 1) := by decide +kernel
theorem dX9_storeOvers_151 : decode cX9_storeOvers 151 = .ok (.getfield 51, 3) := by decide +kernel
theorem dX9_storeOvers_154 : decode cX9_storeOvers 154 = .ok (.bipush 21, 2) := by decide +kernel
theorem dX9_storeOvers_156 : decode cX9_storeOvers 156 = .ok (.iload_n 1, 1) := by decide +kernel
theorem dX9_storeOvers_157 : decode cX9_storeOvers 157 = .ok (.imul, 1) := by decide +kernel
theorem dX9_storeOvers_158 : decode cX9_storeOvers 158 = .ok (.iload 5, 2) := by decide +kernel
theorem dX9_storeOvers_160 : decode cX9_storeOvers 160 = .ok (.iadd, 1) := by decide +kernel
theorem dX9_storeOvers_161 : decode cX9_storeOvers 161 = .ok (.iload 6, 2) := by decide +kernel
theorem dX9_storeOvers_163 : decode cX9_storeOvers 163 = .ok (.i2f, 1) := by decide +kernel
theorem dX9_storeOvers_164 : decode cX9_storeOvers 164 = .ok (.iload 5, 2) := by decide +kernel
theorem dX9_storeOvers_166 : decode cX9_storeOvers 166 = .ok (.iconst 1, 1) := by decide +kernel
theorem dX9_storeOvers_167 : decode cX9_storeOvers 167 = .ok (.iadd, 1) := by decide +kernel
theorem dX9_storeOvers_168 : decode cX9_storeOvers 168 = .ok (.i2f, 1) := by decide +kernel
theorem dX9_storeOvers_169 : decode cX9_storeOvers 169 = .ok (.fdiv, 1) := by decide +kernel
theorem dX9_storeOvers_170 : decode cX9_storeOvers 170 = .ok (.fastore, 1) := by decide +kernel
theorem dX9_storeOvers_171 : decode cX9_storeOvers 171 = .ok (.iinc 5 1, 3) := by decide +kernel
theorem dX9_storeOvers_174 : decode cX9_storeOvers 174 = .ok (.goto (-87), 3) := by decide +kernel
theorem dX9_storeOvers_177 : decode cX9_storeOvers 177 = .ok (.aload_n 0, 1) := by decide +kernel
theorem dX9_storeOvers_178 : decode cX9_storeOvers 178 = .ok (.getfield 45, 3) := by decide +kernel
theorem dX9_storeOvers_181 : decode cX9_storeOvers 181 = .ok (.iload_n 1, 1) := by decide +kernel
theorem dX9_storeOvers_182 : decode cX9_storeOvers 182 = .ok (.iaload, 1) := by decide +kernel
theorem dX9_storeOvers_183 : decode cX9_storeOvers 183 = .ok (.ireturn, 1) := by decide +kernel
theorem dX9_copyOvers_0 : decode cX9_copyOvers 0 = .ok (.aload_n 0, 1) := by decide +kernel
theorem dX9_copyOvers_1 : decode cX9_copyOvers 1 = .ok (.iload_n 1, 1) := by decide +kernel
theorem dX9_copyOvers_2 : decode cX9_copyOvers 2 = .ok (.iconst 0, 1) := by decide +kernel
theorem dX9_copyOvers_3 : decode cX9_copyOvers 3 = .ok (.iconst 1, 1) := by decide +kernel
theorem dX9_copyOvers_4 : decode cX9_copyOvers 4 = .ok (.invokestatic 76, 3) := by decide +kernel
theorem dX9_copyOvers_7 : decode cX9_copyOvers 7 = .ok (.ifCond .ne 7, 3) := by decide +kernel
theorem dX9_copyOvers_10 : decode cX9_copyOvers 10 = .ok (.iconst 1, 1) := by decide +kernel
theorem dX9_copyOvers_11 : decode cX9_copyOvers 11 = .ok (.goto 73, 3) := by decide +kernel
theorem dX9_copyOvers_14 : decode cX9_copyOvers 14 = .ok (.aload_n 0, 1) := by decide +kernel
theorem dX9_copyOvers_15 : decode cX9_copyOvers 15 = .ok (.getfield 42, 3) := by decide +kernel
theorem dX9_copyOvers_18 : decode cX9_copyOvers 18 = .ok (.iconst 0, 1) := by decide +kernel
theorem dX9_copyOvers_19 : decode cX9_copyOvers 19 = .ok (.iaload, 1) := by decide +kernel
theorem dX9_copyOvers_20 : decode cX9_copyOvers 20 = .ok (.ifCond .eq 12, 3) := by decide +kernel
theorem dX9_copyOvers_23 : decode cX9_copyOvers 23 = .ok (.aload_n 0, 1) := by decide +kernel
theorem dX9_copyOvers_24 : decode cX9_copyOvers 24 = .ok (.getfield 42, 3) := by decide +kernel
theorem dX9_copyOvers_27 : decode cX9_copyOvers 27 = .ok (.iconst 1, 1) := by decide +kernel
theorem dX9_copyOvers_28 : decode cX9_copyOvers 28 = .ok (.iaload, 1) := by decide +kernel
theorem dX9_copyOvers_29 : decode cX9_copyOvers 29 = .ok (.ifCond .ne 7, 3) := by decide +kernel
theorem dX9_copyOvers_32 : decode cX9_copyOvers 32 = .ok (.iconst 2, 1) := by decide +kernel
theorem dX9_copyOvers_33 : decode cX9_copyOvers 33 = .ok (.goto 51, 3) := by decide +kernel
theorem dX9_copyOvers_36 : decode cX9_copyOvers 36 = .ok (.aload_n 0, 1) := by decide +kernel
theorem dX9_copyOvers_37 : decode cX9_copyOvers 37 = .ok (.getfield 42, 3) := by decide +kernel
theorem dX9_copyOvers_40 : decode cX9_copyOvers 40 = .ok (.iconst 0, 1) := by decide +kernel
theorem dX9_copyOvers_41 : decode cX9_copyOvers 41 = .ok (.iaload, 1) := by decide +kernel
theorem dX9_copyOvers_42 : decode cX9_copyOvers 42 = .ok (.aload_n 0, 1) := by decide +kernel
theorem dX9_copyOvers_43 : decode cX9_copyOvers 43 = .ok (.getfield 42, 3) := by decide +kernel
theorem dX9_copyOvers_46 : decode cX9_copyOvers 46 = .ok (.iconst 1, 1) := by decide +kernel
theorem dX9_copyOvers_47 : decode cX9_copyOvers 47 = .ok (.iaload, 1) := by decide +kernel
theorem dX9_copyOvers_48 : decode cX9_copyOvers 48 = .ok (.if_icmp .eq 7, 3) := by decide +kernel
theorem dX9_copyOvers_51 : decode cX9_copyOvers 51 = .ok (.iconst 3, 1) := by decide +kernel
theorem dX9_copyOvers_52 : decode cX9_copyOvers 52 = .ok (.goto 32, 3) := by decide +kernel
theorem dX9_copyOvers_55 : decode cX9_copyOvers 55 = .ok (.iload_n 2, 1) := by decide +kernel
theorem dX9_copyOvers_56 : decode cX9_copyOvers 56 = .ok (.ifCond .lt 23, 3) := by decide +kernel
theorem dX9_copyOvers_59 : decode cX9_copyOvers 59 = .ok (.iload_n 2, 1) := by decide +kernel
theorem dX9_copyOvers_60 : decode cX9_copyOvers 60 = .ok (.aload_n 0, 1) := by decide +kernel
theorem dX9_copyOvers_61 : decode cX9_copyOvers 61 = .ok (.getfield 45, 3) := by decide +kernel
theorem dX9_copyOvers_64 : decode cX9_copyOvers 64 = .ok (.iconst 0, 1) := by decide +kernel
theorem dX9_copyOvers_65 : decode cX9_copyOvers 65 = .ok (.iaload, 1) := by decide +kernel
theorem dX9_copyOvers_66 : decode cX9_copyOvers 66 = .ok (.if_icmp .gt 13, 3) := by decide +kernel
theorem dX9_copyOvers_69 : decode cX9_copyOvers 69 = .ok (.iload_n 2, 1) := by decide +kernel
theorem dX9_copyOvers_70 : decode cX9_copyOvers 70 = .ok (.aload_n 0, 1) := by decide +kernel
theorem dX9_copyOvers_71 : decode cX9_copyOvers 71 = .ok (.getfield 45, 3) := by decide +kernel
theorem dX9_copyOvers_74 : decode cX9_copyOvers 74 = .ok (.iconst 1, 1) := by decide +kernel
theorem dX9_copyOvers_75 : decode cX9_copyOvers 75 = .ok (.iaload, 1) := by decide +kernel
theorem dX9_copyOvers_76 : decode cX9_copyOvers 76 = .ok (.if_icmp .le 7, 3) := by decide +kernel
theorem dX9_copyOvers_79 : decode cX9_copyOvers 79 = .ok (.iconst 4, 1) := by decide +kernel
theorem dX9_copyOvers_80 : decode cX9_copyOvers 80 = .ok (.goto 4, 3) := by decide +kernel
theorem dX9_copyOvers_83 : decode cX9_copyOvers 83 = .ok (.iconst 0, 1) := by decide +kernel
theorem dX9_copyOvers_84 : decode cX9_copyOvers 84 = .ok (.putfield 55, 3) := by decide +kernel
theorem dX9_copyOvers_87 : decode cX9_copyOvers 87 = .ok (.aload_n 0, 1) := by decide +kernel
theorem dX9_copyOvers_88 : decode cX9_copyOvers 88 = .ok (.getfield 55, 3) := by decide +kernel
theorem dX9_copyOvers_91 : decode cX9_copyOvers 91 = .ok (.ifCond .le 5, 3) := by decide +kernel
theorem dX9_copyOvers_94 : decode cX9_copyOvers 94 = .ok (.iconst 0, 1) := by decide +kernel
theorem dX9_copyOvers_95 : decode cX9_copyOvers 95 = .ok (.ireturn, 1) := by decide +kernel
theorem dX9_copyOvers_96 : decode cX9_copyOvers 96 = .ok (.iconst 0, 1) := by decide +kernel
theorem dX9_copyOvers_97 : decode cX9_copyOvers 97 = .ok (.istore_n 3, 1) := by decide +kernel
theorem dX9_copyOvers_98 : decode cX9_copyOvers 98 = .ok (.iconst 0, 1) := by decide +kernel
theorem dX9_copyOvers_99 : decode cX9_copyOvers 99 = .ok (.istore 4, 2) := by decide +kernel
theorem dX9_copyOvers_101 : decode cX9_copyOvers 101 = .ok (.iload 4, 2) := by decide +kernel
theorem dX9_copyOvers_103 : decode cX9_copyOvers 103 = .ok (.iload_n 2, 1) := by decide +kernel
theorem dX9_copyOvers_104 : decode cX9_copyOvers 104 = .ok (.if_icmp .ge 118, 3) := by decide +kernel
theorem dX9_copyOvers_107 : decode cX9_copyOvers 107 = .ok (.bipush 21, 2) := by decide +kernel
theorem dX9_copyOvers_109 : decode cX9_copyOvers 109 = .ok (.iload_n 1, 1) := by decide +kernel
theorem dX9_copyOvers_110 : decode cX9_copyOvers 110 = .ok (.imul, 1) := by decide +kernel
theorem dX9_copyOvers_111 : decode cX9_copyOvers 111 = .ok (.iload 4, 2) := by decide +kernel
theorem dX9_copyOvers_113 : decode cX9_copyOvers 113 = .ok (.iadd, 1) := by decide +kernel
theorem dX9_copyOvers_114 : decode cX9_copyOvers 114 = .ok (.istore 5, 2) := by decide +kernel
theorem dX9_copyOvers_116 : decode cX9_copyOvers 116 = .ok (.bipush 21, 2) := by decide +kernel
theorem dX9_copyOvers_118 : decode cX9_copyOvers 118 = .ok (.iconst 1, 1) := by decide +kernel
theorem dX9_copyOvers_119 : decode cX9_copyOvers 119 = .ok (.iload_n 1, 1) := by decide +kernel
theorem dX9_copyOvers_120 : decode cX9_copyOvers 120 = .ok (.isub, 1) := by decide +kernel
theorem dX9_copyOvers_121 : decode cX9_copyOvers 121 = .ok (.imul, 1) := by decide +kernel
theorem dX9_copyOvers_122 : decode cX9_copyOvers 122 = .ok (.iload 4, 2) := by decide +kernel
theorem dX9_copyOvers_124 : decode cX9_copyOvers 124 = .ok (.iadd, 1) := by decide +kernel
theorem dX9_copyOvers_125 : decode cX9_copyOvers 125 = .ok (.istore 6, 2) := by decide +kernel
theorem dX9_copyOvers_127 : decode cX9_copyOvers 127 = .ok (.iload_n 3, 1) := by decide +kernel
theorem dX9_copyOvers_128 : decode cX9_copyOvers 128 = .ok (.aload_n 0, 1) := by decide +kernel
theorem dX9_copyOvers_129 : decode cX9_copyOvers 129 = .ok (.getfield 42, 3) := by decide +kernel
theorem dX9_copyOvers_132 : decode cX9_copyOvers 132 = .ok (.iconst 0, 1) := by decide +kernel
theorem dX9_copyOvers_133 : decode cX9_copyOvers 133 = .ok (.iaload, 1) := by decide +kernel
theorem dX9_copyOvers_134 : decode cX9_copyOvers 134 = .ok (.iconst 1, 1) := by decide +kernel
theorem dX9_copyOvers_135 : decode cX9_copyOvers 135 = .ok (.if_icmp .ne 28, 3) := by decide +kernel
theorem dX9_copyOvers_138 : decode cX9_copyOvers 138 = .ok (.aload_n 0, 1) := by decide +kernel
theorem dX9_copyOvers_139 : decode cX9_copyOvers 139 = .ok (.getfield 48, 3) := by decide +kernel
theorem dX9_copyOvers_142 : decode cX9_copyOvers 142 = .ok (.iload 5, 2) := by decide +kernel
theorem dX9_copyOvers_144 : decode cX9_copyOvers 144 = .ok (.iaload, 1) := by decide +kernel
theorem dX9_copyOvers_145 : decode cX9_copyOvers 145 = .ok (.aload_n 0, 1) := by decide +kernel
theorem dX9_copyOvers_146 : decode cX9_copyOvers 146 = .ok (.getfield 48, 3) := by decide +kernel
theorem dX9_copyOvers_149 : decode cX9_copyOvers 149 = .ok (.iload 6, 2) := by decide +kernel
theorem dX9_copyOvers_151 : decode cX9_copyOvers 151 = .ok (.iaload, 1) := by decide +kernel
theorem dX9_copyOvers_152 : decode cX9_copyOvers 152 = .ok (.if_icmp .eq 7, 3) := by decide +kernel
theorem dX9_copyOvers_155 : decode cX9_copyOvers 155 = .ok (.iconst 1, 1) := by decide +kernel
theorem dX9_copyOvers_156 : decode cX9_copyOvers 156 = .ok (.goto 30, 3) := by decide +kernel
theorem dX9_copyOvers_159 : decode cX9_copyOvers 159 = .ok (.iconst 0, 1) := by decide +kernel
theorem dX9_copyOvers_160 : decode cX9_copyOvers 160 = .ok (.goto 26, 3) := by decide +kernel
theorem dX9_copyOvers_163 : decode cX9_copyOvers 163 = .ok (.aload_n 0, 1) := by decide +kernel
theorem dX9_copyOvers_164 : decode cX9_copyOvers 164 = .ok (.getfield 51, 3) := by decide +kernel
theorem dX9_copyOvers_167 : decode cX9_copyOvers 167 = .ok (.iload 5, 2) := by decide +kernel
theorem dX9_copyOvers_169 : decode cX9_copyOvers 169 = .ok (.faload, 1) := by decide +kernel
theorem dX9_copyOvers_170 : decode cX9_copyOvers 170 = .ok (.aload_n 0, 1) := by decide +kernel
theorem dX9_copyOvers_171 : decode cX9_copyOvers 171 = .ok (.getfield 51, 3) := by decide +kernel
theorem dX9_copyOvers_174 : decode cX9_copyOvers 174 = .ok (.iload 6, 2) := by decide +kernel
theorem dX9_copyOvers_176 : decode cX9_copyOvers 176 = .ok (.faload, 1) := by decide +kernel
theorem dX9_copyOvers_177 : decode cX9_copyOvers 177 = .ok (.fcmp .l, 1) := by decide +kernel
theorem dX9_copyOvers_178 : decode cX9_copyOvers 178 = .ok (.ifCond .eq 7, 3) := by decide +kernel
theorem dX9_copyOvers_181 : decode cX9_copyOvers 181 = .ok (.iconst 1, 1) := by decide +kernel
theorem dX9_copyOvers_182 : decode cX9_copyOvers 182 = .ok (.goto 4, 3) := by decide +kernel
theorem dX9_copyOvers_185 : decode cX9_copyOvers 185 = .ok (.iconst 0, 1) := by decide +kernel
theorem dX9_copyOvers_186 : decode cX9_copyOvers 186 = .ok (.ior, 1) := by decide +kernel
theorem dX9_copyOvers_187 : decode cX9_copyOvers 187 = .ok (.istore_n 3, 1) := by decide +kernel
theorem dX9_copyOvers_188 : decode cX9_copyOvers 188 = .ok (.aload_n 0, 1) := by decide +kernel
theorem dX9_copyOvers_189 : decode cX9_copyOvers 189 = .ok (.getfield 48, 3) := by decide +kernel
theorem dX9_copyOvers_192 : decode cX9_copyOvers 192 = .ok (.iload 6, 2) := by decide +kernel
theorem dX9_copyOvers_194 : decode cX9_copyOvers 194 = .ok (.aload_n 0, 1) := by decide +kernel
theorem dX9_copyOvers_195 : decode cX9_copyOvers 195 = .ok (.getfield 48, 3) := by decide +kernel
theorem dX9_copyOvers_198 : decode cX9_copyOvers 198 = .ok (.iload 5, 2) := by decide +kernel
theorem dX9_copyOvers_200 : decode cX9_copyOvers 200 = .ok (.iaload, 1) := by decide +kernel
theorem dX9_copyOvers_201 : decode cX9_copyOvers 201 = .ok (.iastore, 1) := by decide +kernel
theorem dX9_copyOvers_202 : decode cX9_copyOvers 202 = .ok (.aload_n 0, 1) := by decide +kernel
theorem dX9_copyOvers_203 : decode cX9_copyOvers 203 = .ok (.getfield 51, 3) := by decide +kernel
theorem dX9_copyOvers_206 : decode cX9_copyOvers 206 = .ok (.iload 6, 2) := by decide +kernel
theorem dX9_copyOvers_208 : decode cX9_copyOvers 208 = .ok (.aload_n 0, 1) := by decide +kernel
theorem dX9_copyOvers_209 : decode cX9_copyOvers 209 = .ok (.getfield 51, 3) := by decide +kernel
theorem dX9_copyOvers_212 : decode cX9_copyOvers 212 = .ok (.iload 5, 2) := by decide +kernel
theorem dX9_copyOvers_214 : decode cX9_copyOvers 214 = .ok (.faload, 1) := by decide +kernel
theorem dX9_copyOvers_215 : decode cX9_copyOvers 215 = .ok (.fastore, 1) := by decide +kernel
theorem dX9_copyOvers_216 : decode cX9_copyOvers 216 = .ok (.iinc 4 1, 3) := by decide +kernel
theorem dX9_copyOvers_219 : decode cX9_copyOvers 219 = .ok (.goto (-118), 3) := by decide +kernel
theorem dX9_copyOvers_222 : decode cX9_copyOvers 222 = .ok (.iload_n 3, 1) := by decide +kernel
theorem dX9_copyOvers_223 : decode cX9_copyOvers 223 = .ok (.ireturn, 1) := by decide +kernel
theorem dX9_storedOvers_0 : decode cX9_storedOvers 0 = .ok (.aload_n 0, 1) := by decide +kernel
theorem dX9_storedOvers_1 : decode cX9_storedOvers 1 = .ok (.iload_n 1, 1) := by decide +kernel
theorem dX9_storedOvers_2 : decode cX9_storedOvers 2 = .ok (.iconst 0, 1) := by decide +kernel
theorem dX9_storedOvers_3 : decode cX9_storedOvers 3 = .ok (.iconst 1, 1) := by decide +kernel
theorem dX9_storedOvers_4 : decode cX9_storedOvers 4 = .ok (.invokestatic 76, 3) := by decide +kernel
theorem dX9_storedOvers_7 : decode cX9_storedOvers 7 = .ok (.ifCond .ne 7, 3) := by decide +kernel
theorem dX9_storedOvers_10 : decode cX9_storedOvers 10 = .ok (.iconst 1, 1) := by decide +kernel
theorem dX9_storedOvers_11 : decode cX9_storedOvers 11 = .ok (.goto 33, 3) := by decide +kernel
theorem dX9_storedOvers_14 : decode cX9_storedOvers 14 = .ok (.aload_n 0, 1) := by decide +kernel
theorem dX9_storedOvers_15 : decode cX9_storedOvers 15 = .ok (.getfield 42, 3) := by decide +kernel
theorem dX9_storedOvers_18 : decode cX9_storedOvers 18 = .ok (.iload_n 1, 1) := by decide +kernel
theorem dX9_storedOvers_19 : decode cX9_storedOvers 19 = .ok (.iaload, 1) := by decide +kernel
theorem dX9_storedOvers_20 : decode cX9_storedOvers 20 = .ok (.ifCond .eq 19, 3) := by decide +kernel
theorem dX9_storedOvers_23 : decode cX9_storedOvers 23 = .ok (.iload_n 2, 1) := by decide +kernel
theorem dX9_storedOvers_24 : decode cX9_storedOvers 24 = .ok (.iconst 0, 1) := by decide +kernel
theorem dX9_storedOvers_25 : decode cX9_storedOvers 25 = .ok (.aload_n 0, 1) := by decide +kernel
theorem dX9_storedOvers_26 : decode cX9_storedOvers 26 = .ok (.getfield 45, 3) := by decide +kernel
theorem dX9_storedOvers_29 : decode cX9_storedOvers 29 = .ok (.iload_n 1, 1) := by decide +kernel
theorem dX9_storedOvers_30 : decode cX9_storedOvers 30 = .ok (.iaload, 1) := by decide +kernel
theorem dX9_storedOvers_31 : decode cX9_storedOvers 31 = .ok (.iconst 1, 1) := by decide +kernel
theorem dX9_storedOvers_32 : decode cX9_storedOvers 32 = .ok (.isub, 1) := by decide +kernel
theorem dX9_storedOvers_33 : decode cX9_storedOvers 33 = .ok (.invokestatic 76, 3) := by decide +kernel
theorem dX9_storedOvers_36 : decode cX9_storedOvers 36 = .ok (.ifCond .ne 7, 3) := by decide +kernel
theorem dX9_storedOvers_39 : decode cX9_storedOvers 39 = .ok (.iconst 2, 1) := by decide +kernel
theorem dX9_storedOvers_40 : decode cX9_storedOvers 40 = .ok (.goto 4, 3) := by decide +kernel
theorem dX9_storedOvers_43 : decode cX9_storedOvers 43 = .ok (.iconst 0, 1) := by decide +kernel
theorem dX9_storedOvers_44 : decode cX9_storedOvers 44 = .ok (.putfield 55, 3) := by decide +kernel
theorem dX9_storedOvers_47 : decode cX9_storedOvers 47 = .ok (.aload_n 0, 1) := by decide +kernel
theorem dX9_storedOvers_48 : decode cX9_storedOvers 48 = .ok (.getfield 55, 3) := by decide +kernel
theorem dX9_storedOvers_51 : decode cX9_storedOvers 51 = .ok (.ifCond .le 5, 3) := by decide +kernel
theorem dX9_storedOvers_54 : decode cX9_storedOvers 54 = .ok (.fconst 0, 1) := by decide +kernel
theorem dX9_storedOvers_55 : decode cX9_storedOvers 55 = .ok (.freturn, 1) := by decide +kernel
theorem dX9_storedOvers_56 : decode cX9_storedOvers 56 = .ok (.aload_n 0, 1) := by decide +kernel
theorem dX9_storedOvers_57 : decode cX9_storedOvers 57 = .ok (.getfield 42, 3) := by decide +kernel
theorem dX9_storedOvers_60 : decode cX9_storedOvers 60 = .ok (.iload_n 1, 1) := by decide +kernel
theorem dX9_storedOvers_61 : decode cX9_storedOvers 61 = .ok (.iaload, 1) := by decide +kernel
theorem dX9_storedOvers_62 : decode cX9_storedOvers 62 = .ok (.iconst 1, 1) := by decide +kernel
theorem dX9_storedOvers_63 : decode cX9_storedOvers 63 = .ok (.if_icmp .ne 18, 3) := by decide +kernel
theorem dX9_storedOvers_66 : decode cX9_storedOvers 66 = .ok (.aload_n 0, 1) := by decide +kernel
theorem dX9_storedOvers_67 : decode cX9_storedOvers 67 = .ok (.getfield 48, 3) := by decide +kernel
theorem dX9_storedOvers_70 : decode cX9_storedOvers 70 = .ok (.bipush 21, 2) := by decide +kernel
theorem dX9_storedOvers_72 : decode cX9_storedOvers 72 = .ok (.iload_n 1, 1) := by decide +kernel
theorem dX9_storedOvers_73 : decode cX9_storedOvers 73 = .ok (.imul, 1) := by decide +kernel
theorem dX9_storedOvers_74 : decode cX9_storedOvers 74 = .ok (.iload_n 2, 1) := by decide +kernel
theorem dX9_storedOvers_75 : decode cX9_storedOvers 75 = .ok (.iadd, 1) := by decide +kernel
theorem dX9_storedOvers_76 : decode cX9_storedOvers 76 = .ok (.iaload, 1) := by decide +kernel
theorem dX9_storedOvers_77 : decode cX9_storedOvers 77 = .ok (.i2f, 1) := by decide +kernel
theorem dX9_storedOvers_78 : decode cX9_storedOvers 78 = .ok (.goto 14, 3) := by decide +kernel
theorem dX9_storedOvers_81 : decode cX9_storedOvers 81 = .ok (.aload_n 0, 1) := by decide +kernel
theorem dX9_storedOvers_82 : decode cX9_storedOvers 82 = .ok (.getfield 51, 3) := by decide +kernel
theorem dX9_storedOvers_85 : decode cX9_storedOvers 85 = .ok (.bipush 21, 2) := by decide +kernel
theorem dX9_storedOvers_87 : decode cX9_storedOvers 87 = .ok (.iload_n 1, 1) := by decide +kernel
theorem dX9_storedOvers_88 : decode cX9_storedOvers 88 = .ok (.imul, 1) := by decide +kernel
theorem dX9_storedOvers_89 : decode cX9_storedOvers 89 = .ok (.iload_n 2, 1) := by decide +kernel
theorem dX9_storedOvers_90 : decode cX9_storedOvers 90 = .ok (.iadd, 1) := by decide +kernel
theorem dX9_storedOvers_91 : decode cX9_storedOvers 91 = .ok (.faload, 1) := by decide +kernel
theorem dX9_storedOvers_92 : decode cX9_storedOvers 92 = .ok (.freturn, 1) := by decide +kernel
theorem dX9_reason_0 : decode cX9_reason 0 = .ok (.aload_n 0, 1) := by decide +kernel
theorem dX9_reason_1 : decode cX9_reason 1 = .ok (.iconst 0, 1) := by decide +kernel
theorem dX9_reason_2 : decode cX9_reason 2 = .ok (.putfield 55, 3) := by decide +kernel
theorem dX9_reason_5 : decode cX9_reason 5 = .ok (.aload_n 0, 1) := by decide +kernel
theorem dX9_reason_6 : decode cX9_reason 6 = .ok (.getfield 166, 3) := by decide +kernel
theorem dX9_reason_9 : decode cX9_reason 9 = .ok (.ireturn, 1) := by decide +kernel
theorem dX9_commandCount_0 : decode cX9_commandCount 0 = .ok (.aload_n 0, 1) := by decide +kernel
theorem dX9_commandCount_1 : decode cX9_commandCount 1 = .ok (.iconst 0, 1) := by decide +kernel
theorem dX9_commandCount_2 : decode cX9_commandCount 2 = .ok (.putfield 55, 3) := by decide +kernel
theorem dX9_commandCount_5 : decode cX9_commandCount 5 = .ok (.aload_n 0, 1) := by decide +kernel
theorem dX9_commandCount_6 : decode cX9_commandCount 6 = .ok (.getfield 9, 3) := by decide +kernel
theorem dX9_commandCount_9 : decode cX9_commandCount 9 = .ok (.bipush 24, 2) := by decide +kernel
theorem dX9_commandCount_11 : decode cX9_commandCount 11 = .ok (.iaload, 1) := by decide +kernel
theorem dX9_commandCount_12 : decode cX9_commandCount 12 = .ok (.ireturn, 1) := by decide +kernel
theorem dX9_undo_0 : decode cX9_undo 0 = .ok (.aload_n 0, 1) := by decide +kernel
theorem dX9_undo_1 : decode cX9_undo 1 = .ok (.aload_n 0, 1) := by decide +kernel
theorem dX9_undo_2 : decode cX9_undo 2 = .ok (.getfield 84, 3) := by decide +kernel
theorem dX9_undo_5 : decode cX9_undo 5 = .ok (.ifCond .ne 7, 3) := by decide +kernel
theorem dX9_undo_8 : decode cX9_undo 8 = .ok (.iconst 1, 1) := by decide +kernel
theorem dX9_undo_9 : decode cX9_undo 9 = .ok (.goto 4, 3) := by decide +kernel
theorem dX9_undo_12 : decode cX9_undo 12 = .ok (.iconst 0, 1) := by decide +kernel
theorem dX9_undo_13 : decode cX9_undo 13 = .ok (.putfield 55, 3) := by decide +kernel
theorem dX9_undo_16 : decode cX9_undo 16 = .ok (.aload_n 0, 1) := by decide +kernel
theorem dX9_undo_17 : decode cX9_undo 17 = .ok (.getfield 55, 3) := by decide +kernel
theorem dX9_undo_20 : decode cX9_undo 20 = .ok (.iconst 1, 1) := by decide +kernel
theorem dX9_undo_21 : decode cX9_undo 21 = .ok (.if_icmp .ne 11, 3) := by decide +kernel
theorem dX9_undo_24 : decode cX9_undo 24 = .ok (.aload_n 0, 1) := by decide +kernel
theorem dX9_undo_25 : decode cX9_undo 25 = .ok (.bipush 7, 2) := by decide +kernel
theorem dX9_undo_27 : decode cX9_undo 27 = .ok (.putfield 166, 3) := by decide +kernel
theorem dX9_undo_30 : decode cX9_undo 30 = .ok (.iconst 0, 1) := by decide +kernel
theorem dX9_undo_31 : decode cX9_undo 31 = .ok (.ireturn, 1) := by decide +kernel
theorem dX9_undo_32 : decode cX9_undo 32 = .ok (.aload_n 0, 1) := by decide +kernel
theorem dX9_undo_33 : decode cX9_undo 33 = .ok (.dup, 1) := by decide +kernel
theorem dX9_undo_34 : decode cX9_undo 34 = .ok (.getfield 84, 3) := by decide +kernel
theorem dX9_undo_37 : decode cX9_undo 37 = .ok (.iconst 1, 1) := by decide +kernel
theorem dX9_undo_38 : decode cX9_undo 38 = .ok (.isub, 1) := by decide +kernel
theorem dX9_undo_39 : decode cX9_undo 39 = .ok (.putfield 84, 3) := by decide +kernel
theorem dX9_undo_42 : decode cX9_undo 42 = .ok (.iconst 0, 1) := by decide +kernel
theorem dX9_undo_43 : decode cX9_undo 43 = .ok (.istore_n 1, 1) := by decide +kernel
theorem dX9_undo_44 : decode cX9_undo 44 = .ok (.iload_n 1, 1) := by decide +kernel
theorem dX9_undo_45 : decode cX9_undo 45 = .ok (.sipush 6441, 3) := by decide +kernel
theorem dX9_undo_48 : decode cX9_undo 48 = .ok (.if_icmp .ge 30, 3) := by decide +kernel
theorem dX9_undo_51 : decode cX9_undo 51 = .ok (.aload_n 0, 1) := by decide +kernel
theorem dX9_undo_52 : decode cX9_undo 52 = .ok (.getfield 9, 3) := by decide +kernel
theorem dX9_undo_55 : decode cX9_undo 55 = .ok (.iload_n 1, 1) := by decide +kernel
theorem dX9_undo_56 : decode cX9_undo 56 = .ok (.aload_n 0, 1) := by decide +kernel
theorem dX9_undo_57 : decode cX9_undo 57 = .ok (.getfield 20, 3) := by decide +kernel
theorem dX9_undo_60 : decode cX9_undo 60 = .ok (.aload_n 0, 1) := by decide +kernel
theorem dX9_undo_61 : decode cX9_undo 61 = .ok (.getfield 84, 3) := by decide +kernel
theorem dX9_undo_64 : decode cX9_undo 64 = .ok (.sipush 6441, 3) := by decide +kernel
theorem dX9_undo_67 : decode cX9_undo 67 = .ok (.imul, 1) := by decide +kernel
theorem dX9_undo_68 : decode cX9_undo 68 = .ok (.iload_n 1, 1) := by decide +kernel
theorem dX9_undo_69 : decode cX9_undo 69 = .ok (.iadd, 1) := by decide +kernel
theorem dX9_undo_70 : decode cX9_undo 70 = .ok (.iaload, 1) := by decide +kernel
theorem dX9_undo_71 : decode cX9_undo 71 = .ok (.iastore, 1) := by decide +kernel
theorem dX9_undo_72 : decode cX9_undo 72 = .ok (.iinc 1 1, 3) := by decide +kernel
theorem dX9_undo_75 : decode cX9_undo 75 = .ok (.goto (-31), 3) := by decide +kernel
theorem dX9_undo_78 : decode cX9_undo 78 = .ok (.aload_n 0, 1) := by decide +kernel
theorem dX9_undo_79 : decode cX9_undo 79 = .ok (.getfield 84, 3) := by decide +kernel
theorem dX9_undo_82 : decode cX9_undo 82 = .ok (.ireturn, 1) := by decide +kernel
theorem dX9_isReplayed_0 : decode cX9_isReplayed 0 = .ok (.aload_n 0, 1) := by decide +kernel
theorem dX9_isReplayed_1 : decode cX9_isReplayed 1 = .ok (.iconst 0, 1) := by decide +kernel
theorem dX9_isReplayed_2 : decode cX9_isReplayed 2 = .ok (.putfield 55, 3) := by decide +kernel
theorem dX9_isReplayed_5 : decode cX9_isReplayed 5 = .ok (.aload_n 0, 1) := by decide +kernel
theorem dX9_isReplayed_6 : decode cX9_isReplayed 6 = .ok (.iconst 1, 1) := by decide +kernel
theorem dX9_isReplayed_7 : decode cX9_isReplayed 7 = .ok (.invokevirtual 221, 3) := by decide +kernel
theorem dX9_isReplayed_10 : decode cX9_isReplayed 10 = .ok (.ifCond .ne 5, 3) := by decide +kernel
theorem dX9_isReplayed_13 : decode cX9_isReplayed 13 = .ok (.iconst 0, 1) := by decide +kernel
theorem dX9_isReplayed_14 : decode cX9_isReplayed 14 = .ok (.ireturn, 1) := by decide +kernel
theorem dX9_isReplayed_15 : decode cX9_isReplayed 15 = .ok (.aload_n 0, 1) := by decide +kernel
theorem dX9_isReplayed_16 : decode cX9_isReplayed 16 = .ok (.getfield 9, 3) := by decide +kernel
theorem dX9_isReplayed_19 : decode cX9_isReplayed 19 = .ok (.aload_n 0, 1) := by decide +kernel
theorem dX9_isReplayed_20 : decode cX9_isReplayed 20 = .ok (.getfield 16, 3) := by decide +kernel
theorem dX9_isReplayed_23 : decode cX9_isReplayed 23 = .ok (.sipush 6441, 3) := by decide +kernel
theorem dX9_isReplayed_26 : decode cX9_isReplayed 26 = .ok (.invokestatic 214, 3) := by decide +kernel
theorem dX9_isReplayed_29 : decode cX9_isReplayed 29 = .ok (.aload_n 0, 1) := by decide +kernel
theorem dX9_isReplayed_30 : decode cX9_isReplayed 30 = .ok (.aload_n 0, 1) := by decide +kernel
theorem dX9_isReplayed_31 : decode cX9_isReplayed 31 = .ok (.getfield 16, 3) := by decide +kernel
theorem dX9_isReplayed_34 : decode cX9_isReplayed 34 = .ok (.iconst 3, 1) := by decide +kernel
theorem dX9_isReplayed_35 : decode cX9_isReplayed 35 = .ok (.iaload, 1) := by decide +kernel
theorem dX9_isReplayed_36 : decode cX9_isReplayed 36 = .ok (.aload_n 0, 1) := by decide +kernel
theorem dX9_isReplayed_37 : decode cX9_isReplayed 37 = .ok (.getfield 16, 3) := by decide +kernel
theorem dX9_isReplayed_40 : decode cX9_isReplayed 40 = .ok (.iconst 1, 1) := by decide +kernel
theorem dX9_isReplayed_41 : decode cX9_isReplayed 41 = .ok (.iaload, 1) := by decide +kernel
theorem dX9_isReplayed_42 : decode cX9_isReplayed 42 = .ok (.aload_n 0, 1) := by decide +kernel
theorem dX9_isReplayed_43 : decode cX9_isReplayed 43 = .ok (.getfield 16, 3) := by decide +kernel
theorem dX9_isReplayed_46 : decode cX9_isReplayed 46 = .ok (.iconst 2, 1) := by decide +kernel
theorem dX9_isReplayed_47 : decode cX9_isReplayed 47 = .ok (.iaload, 1) := by decide +kernel
theorem dX9_isReplayed_48 : decode cX9_isReplayed 48 = .ok (.invokevirtual 80, 3) := by decide +kernel
theorem dX9_isReplayed_51 : decode cX9_isReplayed 51 = .ok (.iconst 0, 1) := by decide +kernel
theorem dX9_isReplayed_52 : decode cX9_isReplayed 52 = .ok (.istore_n 1, 1) := by decide +kernel
theorem dX9_isReplayed_53 : decode cX9_isReplayed 53 = .ok (.iload_n 1, 1) := by decide +kernel
theorem dX9_isReplayed_54 : decode cX9_isReplayed 54 = .ok (.aload_n 0, 1) := by decide +kernel
theorem dX9_isReplayed_55 : decode cX9_isReplayed 55 = .ok (.getfield 16, 3) := by decide +kernel
theorem dX9_isReplayed_58 : decode cX9_isReplayed 58 = .ok (.bipush 23, 2) := by decide +kernel
theorem dX9_isReplayed_60 : decode cX9_isReplayed 60 = .ok (.iaload, 1) := by decide +kernel
theorem dX9_isReplayed_61 : decode cX9_isReplayed 61 = .ok (.if_icmp .ge 68, 3) := by decide +kernel
theorem dX9_isReplayed_64 : decode cX9_isReplayed 64 = .ok (.bipush 6, 2) := by decide +kernel
theorem dX9_isReplayed_66 : decode cX9_isReplayed 66 = .ok (.iload_n 1, 1) := by decide +kernel
theorem dX9_isReplayed_67 : decode cX9_isReplayed 67 = .ok (.imul, 1) := by decide +kernel
theorem dX9_isReplayed_68 : decode cX9_isReplayed 68 = .ok (.istore_n 2, 1) := by decide +kernel
theorem dX9_isReplayed_69 : decode cX9_isReplayed 69 = .ok (.aload_n 0, 1) := by decide +kernel
theorem dX9_isReplayed_70 : decode cX9_isReplayed 70 = .ok (.aload_n 0, 1) := by decide +kernel
theorem dX9_isReplayed_71 : decode cX9_isReplayed 71 = .ok (.aload_n 0, 1) := by decide +kernel
theorem dX9_isReplayed_72 : decode cX9_isReplayed 72 = .ok (.getfield 23, 3) := by decide +kernel
theorem dX9_isReplayed_75 : decode cX9_isReplayed 75 = .ok (.iload_n 2, 1) := by decide +kernel
theorem dX9_isReplayed_76 : decode cX9_isReplayed 76 = .ok (.iaload, 1) := by decide +kernel
theorem dX9_isReplayed_77 : decode cX9_isReplayed 77 = .ok (.aload_n 0, 1) := by decide +kernel
theorem dX9_isReplayed_78 : decode cX9_isReplayed 78 = .ok (.getfield 23, 3) := by decide +kernel
theorem dX9_isReplayed_81 : decode cX9_isReplayed 81 = .ok (.iload_n 2, 1) := by decide +kernel
theorem dX9_isReplayed_82 : decode cX9_isReplayed 82 = .ok (.iconst 1, 1) := by decide +kernel
theorem dX9_isReplayed_83 : decode cX9_isReplayed 83 = .ok (.iadd, 1) := by decide +kernel
theorem dX9_isReplayed_84 : decode cX9_isReplayed 84 = .ok (.iaload, 1) := by decide +kernel
theorem dX9_isReplayed_85 : decode cX9_isReplayed 85 = .ok (.aload_n 0, 1) := by decide +kernel
theorem dX9_isReplayed_86 : decode cX9_isReplayed 86 = .ok (.getfield 23, 3) := by decide +kernel
theorem dX9_isReplayed_89 : decode cX9_isReplayed 89 = .ok (.iload_n 2, 1) := by decide +kernel
theorem dX9_isReplayed_90 : decode cX9_isReplayed 90 = .ok (.iconst 2, 1) := by decide +kernel
theorem dX9_isReplayed_91 : decode cX9_isReplayed 91 = .ok (.iadd, 1) := by decide +kernel
theorem dX9_isReplayed_92 : decode cX9_isReplayed 92 = .ok (.iaload, 1) := by decide +kernel
theorem dX9_isReplayed_93 : decode cX9_isReplayed 93 = .ok (.aload_n 0, 1) := by decide +kernel
theorem dX9_isReplayed_94 : decode cX9_isReplayed 94 = .ok (.getfield 23, 3) := by decide +kernel
theorem dX9_isReplayed_97 : decode cX9_isReplayed 97 = .ok (.iload_n 2, 1) := by decide +kernel
theorem dX9_isReplayed_98 : decode cX9_isReplayed 98 = .ok (.iconst 3, 1) := by decide +kernel
theorem dX9_isReplayed_99 : decode cX9_isReplayed 99 = .ok (.iadd, 1) := by decide +kernel
theorem dX9_isReplayed_100 : decode cX9_isReplayed 100 = .ok (.iaload, 1) := by decide +kernel
theorem dX9_isReplayed_101 : decode cX9_isReplayed 101 = .ok (.aload_n 0, 1) := by decide +kernel
theorem dX9_isReplayed_102 : decode cX9_isReplayed 102 = .ok (.getfield 23, 3) := by decide +kernel
theorem dX9_isReplayed_105 : decode cX9_isReplayed 105 = .ok (.iload_n 2, 1) := by decide +kernel
theorem dX9_isReplayed_106 : decode cX9_isReplayed 106 = .ok (.iconst 4, 1) := by decide +kernel
theorem dX9_isReplayed_107 : decode cX9_isReplayed 107 = .ok (.iadd, 1) := by decide +kernel
theorem dX9_isReplayed_108 : decode cX9_isReplayed 108 = .ok (.iaload, 1) := by decide +kernel
theorem dX9_isReplayed_109 : decode cX9_isReplayed 109 = .ok (.aload_n 0, 1) := by decide +kernel
theorem dX9_isReplayed_110 : decode cX9_isReplayed 110 = .ok (.getfield 23, 3) := by decide +kernel
theorem dX9_isReplayed_113 : decode cX9_isReplayed 113 = .ok (.iload_n 2, 1) := by decide +kernel
theorem dX9_isReplayed_114 : decode cX9_isReplayed 114 = .ok (.iconst 5, 1) := by decide +kernel
theorem dX9_isReplayed_115 : decode cX9_isReplayed 115 = .ok (.iadd, 1) := by decide +kernel
theorem dX9_isReplayed_116 : decode cX9_isReplayed 116 = .ok (.iaload, 1) := by decide +kernel
theorem dX9_isReplayed_117 : decode cX9_isReplayed 117 = .ok (.invokevirtual 176, 3) := by decide +kernel
theorem dX9_isReplayed_120 : decode cX9_isReplayed 120 = .ok (.putfield 218, 3) := by decide +kernel
theorem dX9_isReplayed_123 : decode cX9_isReplayed 123 = .ok (.iinc 1 1, 3) := by decide +kernel
theorem dX9_isReplayed_126 : decode cX9_isReplayed 126 = .ok (.goto (-73), 3) := by decide +kernel
theorem dX9_isReplayed_129 : decode cX9_isReplayed 129 = .ok (.iconst 1, 1) := by decide +kernel
theorem dX9_isReplayed_130 : decode cX9_isReplayed 130 = .ok (.istore_n 1, 1) := by decide +kernel
theorem dX9_isReplayed_131 : decode cX9_isReplayed 131 = .ok (.iconst 0, 1) := by decide +kernel
theorem dX9_isReplayed_132 : decode cX9_isReplayed 132 = .ok (.istore_n 2, 1) := by decide +kernel
theorem dX9_isReplayed_133 : decode cX9_isReplayed 133 = .ok (.iload_n 2, 1) := by decide +kernel
theorem dX9_isReplayed_134 : decode cX9_isReplayed 134 = .ok (.sipush 6441, 3) := by decide +kernel
theorem dX9_isReplayed_137 : decode cX9_isReplayed 137 = .ok (.if_icmp .ge 56, 3) := by decide +kernel
theorem dX9_isReplayed_140 : decode cX9_isReplayed 140 = .ok (.iload_n 1, 1) := by decide +kernel
theorem dX9_isReplayed_141 : decode cX9_isReplayed 141 = .ok (.aload_n 0, 1) := by decide +kernel
theorem dX9_isReplayed_142 : decode cX9_isReplayed 142 = .ok (.getfield 9, 3) := by decide +kernel
theorem dX9_isReplayed_145 : decode cX9_isReplayed 145 = .ok (.iload_n 2, 1) := by decide +kernel
theorem dX9_isReplayed_146 : decode cX9_isReplayed 146 = .ok (.iaload, 1) := by decide +kernel
theorem dX9_isReplayed_147 : decode cX9_isReplayed 147 = .ok (.aload_n 0, 1) := by decide +kernel
theorem dX9_isReplayed_148 : decode cX9_isReplayed 148 = .ok (.getfield 16, 3) := by decide +kernel
theorem dX9_isReplayed_151 : decode cX9_isReplayed 151 = .ok (.iload_n 2, 1) := by decide +kernel
theorem dX9_isReplayed_152 : decode cX9_isReplayed 152 = .ok (.iaload, 1) := by decide +kernel
theorem dX9_isReplayed_153 : decode cX9_isReplayed 153 = .ok (.if_icmp .eq 27, 3) := by decide +kernel
theorem dX9_isReplayed_156 : decode cX9_isReplayed 156 = .ok (.iload_n 2, 1) := by decide +kernel
theorem dX9_isReplayed_157 : decode cX9_isReplayed 157 = .ok (.bipush 24, 2) := by decide +kernel
theorem dX9_isReplayed_159 : decode cX9_isReplayed 159 = .ok (.if_icmp .eq 21, 3) := by decide +kernel
theorem dX9_isReplayed_162 : decode cX9_isReplayed 162 = .ok (.iload_n 2, 1) := by decide +kernel
theorem dX9_isReplayed_163 : decode cX9_isReplayed 163 = .ok (.sipush 841, 3) := by decide +kernel
theorem dX9_isReplayed_166 : decode cX9_isReplayed 166 = .ok (.bipush 8, 2) := by decide +kernel
theorem dX9_isReplayed_168 : decode cX9_isReplayed 168 = .ok (.aload_n 0, 1) := by decide +kernel
theorem dX9_isReplayed_169 : decode cX9_isReplayed 169 = .ok (.getfield 16, 3) := by decide +kernel
theorem dX9_isReplayed_172 : decode cX9_isReplayed 172 = .ok (.bipush 22, 2) := by decide +kernel
theorem dX9_isReplayed_174 : decode cX9_isReplayed 174 = .ok (.iaload, 1) := by decide +kernel
theorem dX9_isReplayed_175 : decode cX9_isReplayed 175 = .ok (.imul, 1) := by decide +kernel
theorem dX9_isReplayed_176 : decode cX9_isReplayed 176 = .ok (.iadd, 1) := by decide +kernel
theorem dX9_isReplayed_177 : decode cX9_isReplayed 177 = .ok (.if_icmp .lt 7, 3) := by decide +kernel
theorem dX9_isReplayed_180 : decode cX9_isReplayed 180 = .ok (.iconst 1, 1) := by decide +kernel
theorem dX9_isReplayed_181 : decode cX9_isReplayed 181 = .ok (.goto 4, 3) := by decide +kernel
theorem dX9_isReplayed_184 : decode cX9_isReplayed 184 = .ok (.iconst 0, 1) := by decide +kernel
theorem dX9_isReplayed_185 : decode cX9_isReplayed 185 = .ok (.iand, 1) := by decide +kernel
theorem dX9_isReplayed_186 : decode cX9_isReplayed 186 = .ok (.istore_n 1, 1) := by decide +kernel
theorem dX9_isReplayed_187 : decode cX9_isReplayed 187 = .ok (.iinc 2 1, 3) := by decide +kernel
theorem dX9_isReplayed_190 : decode cX9_isReplayed 190 = .ok (.goto (-57), 3) := by decide +kernel
theorem dX9_isReplayed_193 : decode cX9_isReplayed 193 = .ok (.aload_n 0, 1) := by decide +kernel
theorem dX9_isReplayed_194 : decode cX9_isReplayed 194 = .ok (.getfield 16, 3) := by decide +kernel
theorem dX9_isReplayed_197 : decode cX9_isReplayed 197 = .ok (.aload_n 0, 1) := by decide +kernel
theorem dX9_isReplayed_198 : decode cX9_isReplayed 198 = .ok (.getfield 9, 3) := by decide +kernel
theorem dX9_isReplayed_201 : decode cX9_isReplayed 201 = .ok (.sipush 6441, 3) := by decide +kernel
theorem dX9_isReplayed_204 : decode cX9_isReplayed 204 = .ok (.invokestatic 214, 3) := by decide +kernel
theorem dX9_isReplayed_207 : decode cX9_isReplayed 207 = .ok (.iload_n 1, 1) := by decide +kernel
theorem dX9_isReplayed_208 : decode cX9_isReplayed 208 = .ok (.ireturn, 1) := by decide +kernel
theorem dX9_snapshot_0 : decode cX9_snapshot 0 = .ok (.aload_n 0, 1) := by decide +kernel
theorem dX9_snapshot_1 : decode cX9_snapshot 1 = .ok (.iconst 0, 1) := by decide +kernel
theorem dX9_snapshot_2 : decode cX9_snapshot 2 = .ok (.putfield 55, 3) := by decide +kernel
theorem dX9_snapshot_5 : decode cX9_snapshot 5 = .ok (.aload_n 0, 1) := by decide +kernel
theorem dX9_snapshot_6 : decode cX9_snapshot 6 = .ok (.iconst 1, 1) := by decide +kernel
theorem dX9_snapshot_7 : decode cX9_snapshot 7 = .ok (.invokevirtual 221, 3) := by decide +kernel
theorem dX9_snapshot_10 : decode cX9_snapshot 10 = .ok (.ifCond .ne 5, 3) := by decide +kernel
theorem dX9_snapshot_13 : decode cX9_snapshot 13 = .ok (.iconst 0, 1) := by decide +kernel
theorem dX9_snapshot_14 : decode cX9_snapshot 14 = .ok (.ireturn, 1) := by decide +kernel
theorem dX9_snapshot_15 : decode cX9_snapshot 15 = .ok (.aload_n 0, 1) := by decide +kernel
theorem dX9_snapshot_16 : decode cX9_snapshot 16 = .ok (.getfield 9, 3) := by decide +kernel
theorem dX9_snapshot_19 : decode cX9_snapshot 19 = .ok (.aload_n 0, 1) := by decide +kernel
theorem dX9_snapshot_20 : decode cX9_snapshot 20 = .ok (.getfield 13, 3) := by decide +kernel
theorem dX9_snapshot_23 : decode cX9_snapshot 23 = .ok (.sipush 6441, 3) := by decide +kernel
theorem dX9_snapshot_26 : decode cX9_snapshot 26 = .ok (.invokestatic 214, 3) := by decide +kernel
theorem dX9_snapshot_29 : decode cX9_snapshot 29 = .ok (.aload_n 0, 1) := by decide +kernel
theorem dX9_snapshot_30 : decode cX9_snapshot 30 = .ok (.getfield 23, 3) := by decide +kernel
theorem dX9_snapshot_33 : decode cX9_snapshot 33 = .ok (.aload_n 0, 1) := by decide +kernel
theorem dX9_snapshot_34 : decode cX9_snapshot 34 = .ok (.getfield 26, 3) := by decide +kernel
theorem dX9_snapshot_37 : decode cX9_snapshot 37 = .ok (.bipush 6, 2) := by decide +kernel
theorem dX9_snapshot_39 : decode cX9_snapshot 39 = .ok (.aload_n 0, 1) := by decide +kernel
theorem dX9_snapshot_40 : decode cX9_snapshot 40 = .ok (.getfield 9, 3) := by decide +kernel
theorem dX9_snapshot_43 : decode cX9_snapshot 43 = .ok (.bipush 23, 2) := by decide +kernel
theorem dX9_snapshot_45 : decode cX9_snapshot 45 = .ok (.iaload, 1) := by decide +kernel
theorem dX9_snapshot_46 : decode cX9_snapshot 46 = .ok (.imul, 1) := by decide +kernel
theorem dX9_snapshot_47 : decode cX9_snapshot 47 = .ok (.invokestatic 214, 3) := by decide +kernel
theorem dX9_snapshot_50 : decode cX9_snapshot 50 = .ok (.aload_n 0, 1) := by decide +kernel
theorem dX9_snapshot_51 : decode cX9_snapshot 51 = .ok (.iconst 1, 1) := by decide +kernel
theorem dX9_snapshot_52 : decode cX9_snapshot 52 = .ok (.putfield 240, 3) := by decide +kernel
theorem dX9_snapshot_55 : decode cX9_snapshot 55 = .ok (.aload_n 0, 1) := by decide +kernel
theorem dX9_snapshot_56 : decode cX9_snapshot 56 = .ok (.getfield 9, 3) := by decide +kernel
theorem dX9_snapshot_59 : decode cX9_snapshot 59 = .ok (.bipush 24, 2) := by decide +kernel
theorem dX9_snapshot_61 : decode cX9_snapshot 61 = .ok (.iaload, 1) := by decide +kernel
theorem dX9_snapshot_62 : decode cX9_snapshot 62 = .ok (.ireturn, 1) := by decide +kernel
theorem dX9_restore_0 : decode cX9_restore 0 = .ok (.aload_n 0, 1) := by decide +kernel
theorem dX9_restore_1 : decode cX9_restore 1 = .ok (.aload_n 0, 1) := by decide +kernel
theorem dX9_restore_2 : decode cX9_restore 2 = .ok (.getfield 240, 3) := by decide +kernel
theorem dX9_restore_5 : decode cX9_restore 5 = .ok (.ifCond .eq 7, 3) := by decide +kernel
theorem dX9_restore_8 : decode cX9_restore 8 = .ok (.iconst 0, 1) := by decide +kernel
theorem dX9_restore_9 : decode cX9_restore 9 = .ok (.goto 4, 3) := by decide +kernel
theorem dX9_restore_12 : decode cX9_restore 12 = .ok (.iconst 1, 1) := by decide +kernel
theorem dX9_restore_13 : decode cX9_restore 13 = .ok (.putfield 55, 3) := by decide +kernel
theorem dX9_restore_16 : decode cX9_restore 16 = .ok (.aload_n 0, 1) := by decide +kernel
theorem dX9_restore_17 : decode cX9_restore 17 = .ok (.getfield 240, 3) := by decide +kernel
theorem dX9_restore_20 : decode cX9_restore 20 = .ok (.ifCond .ne 11, 3) := by decide +kernel
theorem dX9_restore_23 : decode cX9_restore 23 = .ok (.aload_n 0, 1) := by decide +kernel
theorem dX9_restore_24 : decode cX9_restore 24 = .ok (.bipush 7, 2) := by decide +kernel
theorem dX9_restore_26 : decode cX9_restore 26 = .ok (.putfield 166, 3) := by decide +kernel
theorem dX9_restore_29 : decode cX9_restore 29 = .ok (.iconst 0, 1) := by decide +kernel
theorem dX9_restore_30 : decode cX9_restore 30 = .ok (.ireturn, 1) := by decide +kernel
theorem dX9_restore_31 : decode cX9_restore 31 = .ok (.aload_n 0, 1) := by decide +kernel
theorem dX9_restore_32 : decode cX9_restore 32 = .ok (.getfield 13, 3) := by decide +kernel
theorem dX9_restore_35 : decode cX9_restore 35 = .ok (.aload_n 0, 1) := by decide +kernel
theorem dX9_restore_36 : decode cX9_restore 36 = .ok (.getfield 9, 3) := by decide +kernel
theorem dX9_restore_39 : decode cX9_restore 39 = .ok (.sipush 6441, 3) := by decide +kernel
theorem dX9_restore_42 : decode cX9_restore 42 = .ok (.invokestatic 214, 3) := by decide +kernel
theorem dX9_restore_45 : decode cX9_restore 45 = .ok (.aload_n 0, 1) := by decide +kernel
theorem dX9_restore_46 : decode cX9_restore 46 = .ok (.getfield 26, 3) := by decide +kernel
theorem dX9_restore_49 : decode cX9_restore 49 = .ok (.aload_n 0, 1) := by decide +kernel
theorem dX9_restore_50 : decode cX9_restore 50 = .ok (.getfield 23, 3) := by decide +kernel
theorem dX9_restore_53 : decode cX9_restore 53 = .ok (.bipush 6, 2) := by decide +kernel
theorem dX9_restore_55 : decode cX9_restore 55 = .ok (.aload_n 0, 1) := by decide +kernel
theorem dX9_restore_56 : decode cX9_restore 56 = .ok (.getfield 9, 3) := by decide +kernel
theorem dX9_restore_59 : decode cX9_restore 59 = .ok (.bipush 23, 2) := by decide +kernel
theorem dX9_restore_61 : decode cX9_restore 61 = .ok (.iaload, 1) := by decide +kernel
theorem dX9_restore_62 : decode cX9_restore 62 = .ok (.imul, 1) := by decide +kernel
theorem dX9_restore_63 : decode cX9_restore 63 = .ok (.invokestatic 214, 3) := by decide +kernel
theorem dX9_restore_66 : decode cX9_restore 66 = .ok (.aload_n 0, 1) := by decide +kernel
theorem dX9_restore_67 : decode cX9_restore 67 = .ok (.iconst 0, 1) := by decide +kernel
theorem dX9_restore_68 : decode cX9_restore 68 = .ok (.putfield 84, 3) := by decide +kernel
theorem dX9_restore_71 : decode cX9_restore 71 = .ok (.aload_n 0, 1) := by decide +kernel
theorem dX9_restore_72 : decode cX9_restore 72 = .ok (.getfield 9, 3) := by decide +kernel
theorem dX9_restore_75 : decode cX9_restore 75 = .ok (.bipush 24, 2) := by decide +kernel
theorem dX9_restore_77 : decode cX9_restore 77 = .ok (.iaload, 1) := by decide +kernel
theorem dX9_restore_78 : decode cX9_restore 78 = .ok (.ireturn, 1) := by decide +kernel
