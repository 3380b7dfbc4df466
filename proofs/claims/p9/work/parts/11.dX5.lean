theorem dX5_init_0 : decode cX5_init 0 = .ok (.aload_n 0, 1) := by decide +kernel
theorem dX5_init_1 : decode cX5_init 1 = .ok (.invokespecial 3, 3) := by decide +kernel
theorem dX5_init_4 : decode cX5_init 4 = .ok (.aload_n 0, 1) := by decide +kernel
theorem dX5_init_5 : decode cX5_init 5 = .ok (.iload_n 1, 1) := by decide +kernel
theorem dX5_init_6 : decode cX5_init 6 = .ok (.putfield 9, 3) := by decide +kernel
theorem dX5_init_9 : decode cX5_init 9 = .ok (.return_, 1) := by decide +kernel
theorem dX5_ofNumber_0 : decode cX5_ofNumber 0 = .ok (.new 10, 3) := by decide +kernel
theorem dX5_ofNumber_3 : decode cX5_ofNumber 3 = .ok (.dup, 1) := by decide +kernel
theorem dX5_ofNumber_4 : decode cX5_ofNumber 4 = .ok (.iload_n 0, 1) := by decide +kernel
theorem dX5_ofNumber_5 : decode cX5_ofNumber 5 = .ok (.invokespecial 15, 3) := by decide +kernel
theorem dX5_ofNumber_8 : decode cX5_ofNumber 8 = .ok (.astore_n 2, 1) := by decide +kernel
theorem dX5_ofNumber_9 : decode cX5_ofNumber 9 = .ok (.aload_n 2, 1) := by decide +kernel
theorem dX5_ofNumber_10 : decode cX5_ofNumber 10 = .ok (.iload_n 1, 1) := by decide +kernel
theorem dX5_ofNumber_11 : decode cX5_ofNumber 11 = .ok (.putfield 18, 3) := by decide +kernel
theorem dX5_ofNumber_14 : decode cX5_ofNumber 14 = .ok (.aload_n 2, 1) := by decide +kernel
theorem dX5_ofNumber_15 : decode cX5_ofNumber 15 = .ok (.areturn, 1) := by decide +kernel
theorem dX5_ofBall_0 : decode cX5_ofBall 0 = .ok (.new 10, 3) := by decide +kernel
theorem dX5_ofBall_3 : decode cX5_ofBall 3 = .ok (.dup, 1) := by decide +kernel
theorem dX5_ofBall_4 : decode cX5_ofBall 4 = .ok (.iconst 2, 1) := by decide +kernel
theorem dX5_ofBall_5 : decode cX5_ofBall 5 = .ok (.invokespecial 15, 3) := by decide +kernel
theorem dX5_ofBall_8 : decode cX5_ofBall 8 = .ok (.astore_n 3, 1) := by decide +kernel
theorem dX5_ofBall_9 : decode cX5_ofBall 9 = .ok (.aload_n 3, 1) := by decide +kernel
theorem dX5_ofBall_10 : decode cX5_ofBall 10 = .ok (.iload_n 0, 1) := by decide +kernel
theorem dX5_ofBall_11 : decode cX5_ofBall 11 = .ok (.putfield 21, 3) := by decide +kernel
theorem dX5_ofBall_14 : decode cX5_ofBall 14 = .ok (.aload_n 3, 1) := by decide +kernel
theorem dX5_ofBall_15 : decode cX5_ofBall 15 = .ok (.iload_n 1, 1) := by decide +kernel
theorem dX5_ofBall_16 : decode cX5_ofBall 16 = .ok (.putfield 24, 3) := by decide +kernel
theorem dX5_ofBall_19 : decode cX5_ofBall 19 = .ok (.aload_n 3, 1) := by decide +kernel
theorem dX5_ofBall_20 : decode cX5_ofBall 20 = .ok (.iload_n 2, 1) := by decide +kernel
theorem dX5_ofBall_21 : decode cX5_ofBall 21 = .ok (.putfield 27, 3) := by decide +kernel
theorem dX5_ofBall_24 : decode cX5_ofBall 24 = .ok (.aload_n 3, 1) := by decide +kernel
theorem dX5_ofBall_25 : decode cX5_ofBall 25 = .ok (.areturn, 1) := by decide +kernel
theorem dX5_ofWicket_0 : decode cX5_ofWicket 0 = .ok (.new 10, 3) := by decide +kernel
theorem dX5_ofWicket_3 : decode cX5_ofWicket 3 = .ok (.dup, 1) := by decide +kernel
theorem dX5_ofWicket_4 : decode cX5_ofWicket 4 = .ok (.iconst 3, 1) := by decide +kernel
theorem dX5_ofWicket_5 : decode cX5_ofWicket 5 = .ok (.invokespecial 15, 3) := by decide +kernel
theorem dX5_ofWicket_8 : decode cX5_ofWicket 8 = .ok (.astore 5, 2) := by decide +kernel
theorem dX5_ofWicket_10 : decode cX5_ofWicket 10 = .ok (.aload 5, 2) := by decide +kernel
theorem dX5_ofWicket_12 : decode cX5_ofWicket 12 = .ok (.iload_n 0, 1) := by decide +kernel
theorem dX5_ofWicket_13 : decode cX5_ofWicket 13 = .ok (.putfield 31, 3) := by decide +kernel
theorem dX5_ofWicket_16 : decode cX5_ofWicket 16 = .ok (.aload 5, 2) := by decide +kernel
theorem dX5_ofWicket_18 : decode cX5_ofWicket 18 = .ok (.iload_n 1, 1) := by decide +kernel
theorem dX5_ofWicket_19 : decode cX5_ofWicket 19 = .ok (.putfield 21, 3) := by decide +kernel
theorem dX5_ofWicket_22 : decode cX5_ofWicket 22 = .ok (.aload 5, 2) := by decide +kernel
theorem dX5_ofWicket_24 : decode cX5_ofWicket 24 = .ok (.iload_n 2, 1) := by decide +kernel
theorem dX5_ofWicket_25 : decode cX5_ofWicket 25 = .ok (.putfield 34, 3) := by decide +kernel
theorem dX5_ofWicket_28 : decode cX5_ofWicket 28 = .ok (.aload 5, 2) := by decide +kernel
theorem dX5_ofWicket_30 : decode cX5_ofWicket 30 = .ok (.iload_n 3, 1) := by decide +kernel
theorem dX5_ofWicket_31 : decode cX5_ofWicket 31 = .ok (.putfield 24, 3) := by decide +kernel
theorem dX5_ofWicket_34 : decode cX5_ofWicket 34 = .ok (.aload 5, 2) := by decide +kernel
theorem dX5_ofWicket_36 : decode cX5_ofWicket 36 = .ok (.iload 4, 2) := by decide +kernel
theorem dX5_ofWicket_38 : decode cX5_ofWicket 38 = .ok (.putfield 37, 3) := by decide +kernel
theorem dX5_ofWicket_41 : decode cX5_ofWicket 41 = .ok (.aload 5, 2) := by decide +kernel
theorem dX5_ofWicket_43 : decode cX5_ofWicket 43 = .ok (.areturn, 1) := by decide +kernel
theorem dX5_ofRetirement_0 : decode cX5_ofRetirement 0 = .ok (.new 10, 3) := by decide +kernel
theorem dX5_ofRetirement_3 : decode cX5_ofRetirement 3 = .ok (.dup, 1) := by decide +kernel
theorem dX5_ofRetirement_4 : decode cX5_ofRetirement 4 = .ok (.iconst 4, 1) := by decide +kernel
theorem dX5_ofRetirement_5 : decode cX5_ofRetirement 5 = .ok (.invokespecial 15, 3) := by decide +kernel
theorem dX5_ofRetirement_8 : decode cX5_ofRetirement 8 = .ok (.astore_n 2, 1) := by decide +kernel
theorem dX5_ofRetirement_9 : decode cX5_ofRetirement 9 = .ok (.aload_n 2, 1) := by decide +kernel
theorem dX5_ofRetirement_10 : decode cX5_ofRetirement 10 = .ok (.iload_n 0, 1) := by decide +kernel
theorem dX5_ofRetirement_11 : decode cX5_ofRetirement 11 = .ok (.putfield 34, 3) := by decide +kernel
theorem dX5_ofRetirement_14 : decode cX5_ofRetirement 14 = .ok (.aload_n 2, 1) := by decide +kernel
theorem dX5_ofRetirement_15 : decode cX5_ofRetirement 15 = .ok (.iload_n 1, 1) := by decide +kernel
theorem dX5_ofRetirement_16 : decode cX5_ofRetirement 16 = .ok (.putfield 40, 3) := by decide +kernel
theorem dX5_ofRetirement_19 : decode cX5_ofRetirement 19 = .ok (.aload_n 2, 1) := by decide +kernel
theorem dX5_ofRetirement_20 : decode cX5_ofRetirement 20 = .ok (.areturn, 1) := by decide +kernel
theorem dX5_isLegal_0 : decode cX5_isLegal 0 = .ok (.aload_n 0, 1) := by decide +kernel
theorem dX5_isLegal_1 : decode cX5_isLegal 1 = .ok (.getfield 21, 3) := by decide +kernel
theorem dX5_isLegal_4 : decode cX5_isLegal 4 = .ok (.iconst 1, 1) := by decide +kernel
theorem dX5_isLegal_5 : decode cX5_isLegal 5 = .ok (.if_icmp .eq 15, 3) := by decide +kernel
theorem dX5_isLegal_8 : decode cX5_isLegal 8 = .ok (.aload_n 0, 1) := by decide +kernel
theorem dX5_isLegal_9 : decode cX5_isLegal 9 = .ok (.getfield 21, 3) := by decide +kernel
theorem dX5_isLegal_12 : decode cX5_isLegal 12 = .ok (.iconst 2, 1) := by decide +kernel
theorem dX5_isLegal_13 : decode cX5_isLegal 13 = .ok (.if_icmp .eq 7, 3) := by decide +kernel
theorem dX5_isLegal_16 : decode cX5_isLegal 16 = .ok (.iconst 1, 1) := by decide +kernel
theorem dX5_isLegal_17 : decode cX5_isLegal 17 = .ok (.goto 4, 3) := by decide +kernel
theorem dX5_isLegal_20 : decode cX5_isLegal 20 = .ok (.iconst 0, 1) := by decide +kernel
theorem dX5_isLegal_21 : decode cX5_isLegal 21 = .ok (.ireturn, 1) := by decide +kernel
theorem dX5_teamRuns_0 : decode cX5_teamRuns 0 = .ok (.aload_n 0, 1) := by decide +kernel
theorem dX5_teamRuns_1 : decode cX5_teamRuns 1 = .ok (.getfield 21, 3) := by decide +kernel
theorem dX5_teamRuns_4 : decode cX5_teamRuns 4 = .ok (.iconst 1, 1) := by decide +kernel
theorem dX5_teamRuns_5 : decode cX5_teamRuns 5 = .ok (.if_icmp .eq 11, 3) := by decide +kernel
theorem dX5_teamRuns_8 : decode cX5_teamRuns 8 = .ok (.aload_n 0, 1) := by decide +kernel
theorem dX5_teamRuns_9 : decode cX5_teamRuns 9 = .ok (.getfield 21, 3) := by decide +kernel
theorem dX5_teamRuns_12 : decode cX5_teamRuns 12 = .ok (.iconst 2, 1) := by decide +kernel
theorem dX5_teamRuns_13 : decode cX5_teamRuns 13 = .ok (.if_icmp .ne 12, 3) := by decide +kernel
theorem dX5_teamRuns_16 : decode cX5_teamRuns 16 = .ok (.aload_n 0, 1) := by decide +kernel
theorem dX5_teamRuns_17 : decode cX5_teamRuns 17 = .ok (.getfield 24, 3) := by decide +kernel
theorem dX5_teamRuns_20 : decode cX5_teamRuns 20 = .ok (.iconst 1, 1) := by decide +kernel
theorem dX5_teamRuns_21 : decode cX5_teamRuns 21 = .ok (.iadd, 1) := by decide +kernel
theorem dX5_teamRuns_22 : decode cX5_teamRuns 22 = .ok (.goto 7, 3) := by decide +kernel
theorem dX5_teamRuns_25 : decode cX5_teamRuns 25 = .ok (.aload_n 0, 1) := by decide +kernel
theorem dX5_teamRuns_26 : decode cX5_teamRuns 26 = .ok (.getfield 24, 3) := by decide +kernel
theorem dX5_teamRuns_29 : decode cX5_teamRuns 29 = .ok (.ireturn, 1) := by decide +kernel
theorem dX5_strikerRuns_0 : decode cX5_strikerRuns 0 = .ok (.aload_n 0, 1) := by decide +kernel
theorem dX5_strikerRuns_1 : decode cX5_strikerRuns 1 = .ok (.getfield 21, 3) := by decide +kernel
theorem dX5_strikerRuns_4 : decode cX5_strikerRuns 4 = .ok (.ifCond .eq 11, 3) := by decide +kernel
theorem dX5_strikerRuns_7 : decode cX5_strikerRuns 7 = .ok (.aload_n 0, 1) := by decide +kernel
theorem dX5_strikerRuns_8 : decode cX5_strikerRuns 8 = .ok (.getfield 21, 3) := by decide +kernel
theorem dX5_strikerRuns_11 : decode cX5_strikerRuns 11 = .ok (.iconst 2, 1) := by decide +kernel
theorem dX5_strikerRuns_12 : decode cX5_strikerRuns 12 = .ok (.if_icmp .ne 10, 3) := by decide +kernel
theorem dX5_strikerRuns_15 : decode cX5_strikerRuns 15 = .ok (.aload_n 0, 1) := by decide +kernel
theorem dX5_strikerRuns_16 : decode cX5_strikerRuns 16 = .ok (.getfield 24, 3) := by decide +kernel
theorem dX5_strikerRuns_19 : decode cX5_strikerRuns 19 = .ok (.goto 4, 3) := by decide +kernel
theorem dX5_strikerRuns_22 : decode cX5_strikerRuns 22 = .ok (.iconst 0, 1) := by decide +kernel
theorem dX5_strikerRuns_23 : decode cX5_strikerRuns 23 = .ok (.ireturn, 1) := by decide +kernel
theorem dX5_bowlerRuns_0 : decode cX5_bowlerRuns 0 = .ok (.aload_n 0, 1) := by decide +kernel
theorem dX5_bowlerRuns_1 : decode cX5_bowlerRuns 1 = .ok (.getfield 21, 3) := by decide +kernel
theorem dX5_bowlerRuns_4 : decode cX5_bowlerRuns 4 = .ok (.iconst 3, 1) := by decide +kernel
theorem dX5_bowlerRuns_5 : decode cX5_bowlerRuns 5 = .ok (.if_icmp .eq 11, 3) := by decide +kernel
theorem dX5_bowlerRuns_8 : decode cX5_bowlerRuns 8 = .ok (.aload_n 0, 1) := by decide +kernel
theorem dX5_bowlerRuns_9 : decode cX5_bowlerRuns 9 = .ok (.getfield 21, 3) := by decide +kernel
theorem dX5_bowlerRuns_12 : decode cX5_bowlerRuns 12 = .ok (.iconst 4, 1) := by decide +kernel
theorem dX5_bowlerRuns_13 : decode cX5_bowlerRuns 13 = .ok (.if_icmp .ne 5, 3) := by decide +kernel
theorem dX5_bowlerRuns_16 : decode cX5_bowlerRuns 16 = .ok (.iconst 0, 1) := by decide +kernel
theorem dX5_bowlerRuns_17 : decode cX5_bowlerRuns 17 = .ok (.ireturn, 1) := by decide +kernel
theorem dX5_bowlerRuns_18 : decode cX5_bowlerRuns 18 = .ok (.aload_n 0, 1) := by decide +kernel
theorem dX5_bowlerRuns_19 : decode cX5_bowlerRuns 19 = .ok (.getfield 21, 3) := by decide +kernel
theorem dX5_bowlerRuns_22 : decode cX5_bowlerRuns 22 = .ok (.ifCond .ne 10, 3) := by decide +kernel
theorem dX5_bowlerRuns_25 : decode cX5_bowlerRuns 25 = .ok (.aload_n 0, 1) := by decide +kernel
theorem dX5_bowlerRuns_26 : decode cX5_bowlerRuns 26 = .ok (.getfield 24, 3) := by decide +kernel
theorem dX5_bowlerRuns_29 : decode cX5_bowlerRuns 29 = .ok (.goto 9, 3) := by decide +kernel
theorem dX5_bowlerRuns_32 : decode cX5_bowlerRuns 32 = .ok (.aload_n 0, 1) := by decide +kernel
theorem dX5_bowlerRuns_33 : decode cX5_bowlerRuns 33 = .ok (.getfield 24, 3) := by decide +kernel
theorem dX5_bowlerRuns_36 : decode cX5_bowlerRuns 36 = .ok (.iconst 1, 1) := by decide +kernel
theorem dX5_bowlerRuns_37 : decode cX5_bowlerRuns 37 = .ok (.iadd, 1) := by decide +kernel
theorem dX5_bowlerRuns_38 : decode cX5_bowlerRuns 38 = .ok (.ireturn, 1) := by decide +kernel
theorem dX5_changesEnds_0 : decode cX5_changesEnds 0 = .ok (.aload_n 0, 1) := by decide +kernel
theorem dX5_changesEnds_1 : decode cX5_changesEnds 1 = .ok (.getfield 27, 3) := by decide +kernel
theorem dX5_changesEnds_4 : decode cX5_changesEnds 4 = .ok (.ifCond .ne 17, 3) := by decide +kernel
theorem dX5_changesEnds_7 : decode cX5_changesEnds 7 = .ok (.aload_n 0, 1) := by decide +kernel
theorem dX5_changesEnds_8 : decode cX5_changesEnds 8 = .ok (.getfield 24, 3) := by decide +kernel
theorem dX5_changesEnds_11 : decode cX5_changesEnds 11 = .ok (.iconst 1, 1) := by decide +kernel
theorem dX5_changesEnds_12 : decode cX5_changesEnds 12 = .ok (.iand, 1) := by decide +kernel
theorem dX5_changesEnds_13 : decode cX5_changesEnds 13 = .ok (.iconst 1, 1) := by decide +kernel
theorem dX5_changesEnds_14 : decode cX5_changesEnds 14 = .ok (.if_icmp .ne 7, 3) := by decide +kernel
theorem dX5_changesEnds_17 : decode cX5_changesEnds 17 = .ok (.iconst 1, 1) := by decide +kernel
theorem dX5_changesEnds_18 : decode cX5_changesEnds 18 = .ok (.goto 4, 3) := by decide +kernel
theorem dX5_changesEnds_21 : decode cX5_changesEnds 21 = .ok (.iconst 0, 1) := by decide +kernel
theorem dX5_changesEnds_22 : decode cX5_changesEnds 22 = .ok (.ireturn, 1) := by decide +kernel
theorem dX5_isPossibleWicket_0 : decode cX5_isPossibleWicket 0 = .ok (.aload_n 0, 1) := by decide +kernel
theorem dX5_isPossibleWicket_1 : decode cX5_isPossibleWicket 1 = .ok (.getfield 31, 3) := by decide +kernel
theorem dX5_isPossibleWicket_4 : decode cX5_isPossibleWicket 4 = .ok (.iconst 5, 1) := by decide +kernel
theorem dX5_isPossibleWicket_5 : decode cX5_isPossibleWicket 5 = .ok (.if_icmp .ne 5, 3) := by decide +kernel
theorem dX5_isPossibleWicket_8 : decode cX5_isPossibleWicket 8 = .ok (.iconst 1, 1) := by decide +kernel
theorem dX5_isPossibleWicket_9 : decode cX5_isPossibleWicket 9 = .ok (.ireturn, 1) := by decide +kernel
theorem dX5_isPossibleWicket_10 : decode cX5_isPossibleWicket 10 = .ok (.aload_n 0, 1) := by decide +kernel
theorem dX5_isPossibleWicket_11 : decode cX5_isPossibleWicket 11 = .ok (.getfield 21, 3) := by decide +kernel
theorem dX5_isPossibleWicket_14 : decode cX5_isPossibleWicket 14 = .ok (.ifCond .eq 19, 3) := by decide +kernel
theorem dX5_isPossibleWicket_17 : decode cX5_isPossibleWicket 17 = .ok (.aload_n 0, 1) := by decide +kernel
theorem dX5_isPossibleWicket_18 : decode cX5_isPossibleWicket 18 = .ok (.getfield 21, 3) := by decide +kernel
theorem dX5_isPossibleWicket_21 : decode cX5_isPossibleWicket 21 = .ok (.iconst 1, 1) := by decide +kernel
theorem dX5_isPossibleWicket_22 : decode cX5_isPossibleWicket 22 = .ok (.if_icmp .ne 15, 3) := by decide +kernel
theorem dX5_isPossibleWicket_25 : decode cX5_isPossibleWicket 25 = .ok (.aload_n 0, 1) := by decide +kernel
theorem dX5_isPossibleWicket_26 : decode cX5_isPossibleWicket 26 = .ok (.getfield 31, 3) := by decide +kernel
theorem dX5_isPossibleWicket_29 : decode cX5_isPossibleWicket 29 = .ok (.iconst 3, 1) := by decide +kernel
theorem dX5_isPossibleWicket_30 : decode cX5_isPossibleWicket 30 = .ok (.if_icmp .ne 7, 3) := by decide +kernel
theorem dX5_isPossibleWicket_33 : decode cX5_isPossibleWicket 33 = .ok (.iconst 1, 1) := by decide +kernel
theorem dX5_isPossibleWicket_34 : decode cX5_isPossibleWicket 34 = .ok (.goto 4, 3) := by decide +kernel
theorem dX5_isPossibleWicket_37 : decode cX5_isPossibleWicket 37 = .ok (.iconst 0, 1) := by decide +kernel
theorem dX5_isPossibleWicket_38 : decode cX5_isPossibleWicket 38 = .ok (.istore_n 1, 1) := by decide +kernel
theorem dX5_isPossibleWicket_39 : decode cX5_isPossibleWicket 39 = .ok (.iload_n 1, 1) := by decide +kernel
theorem dX5_isPossibleWicket_40 : decode cX5_isPossibleWicket 40 = .ok (.ifCond .eq 36, 3) := by decide +kernel
theorem dX5_isPossibleWicket_43 : decode cX5_isPossibleWicket 43 = .ok (.aload_n 0, 1) := by decide +kernel
theorem dX5_isPossibleWicket_44 : decode cX5_isPossibleWicket 44 = .ok (.getfield 34, 3) := by decide +kernel
theorem dX5_isPossibleWicket_47 : decode cX5_isPossibleWicket 47 = .ok (.ifCond .ne 29, 3) := by decide +kernel
theorem dX5_isPossibleWicket_50 : decode cX5_isPossibleWicket 50 = .ok (.aload_n 0, 1) := by decide +kernel
theorem dX5_isPossibleWicket_51 : decode cX5_isPossibleWicket 51 = .ok (.getfield 24, 3) := by decide +kernel
theorem dX5_isPossibleWicket_54 : decode cX5_isPossibleWicket 54 = .ok (.ifCond .ne 22, 3) := by decide +kernel
theorem dX5_isPossibleWicket_57 : decode cX5_isPossibleWicket 57 = .ok (.aload_n 0, 1) := by decide +kernel
theorem dX5_isPossibleWicket_58 : decode cX5_isPossibleWicket 58 = .ok (.getfield 37, 3) := by decide +kernel
theorem dX5_isPossibleWicket_61 : decode cX5_isPossibleWicket 61 = .ok (.ifCond .eq 11, 3) := by decide +kernel
theorem dX5_isPossibleWicket_64 : decode cX5_isPossibleWicket 64 = .ok (.aload_n 0, 1) := by decide +kernel
theorem dX5_isPossibleWicket_65 : decode cX5_isPossibleWicket 65 = .ok (.getfield 31, 3) := by decide +kernel
theorem dX5_isPossibleWicket_68 : decode cX5_isPossibleWicket 68 = .ok (.iconst 1, 1) := by decide +kernel
theorem dX5_isPossibleWicket_69 : decode cX5_isPossibleWicket 69 = .ok (.if_icmp .ne 7, 3) := by decide +kernel
theorem dX5_isPossibleWicket_72 : decode cX5_isPossibleWicket 72 = .ok (.iconst 1, 1) := by decide +kernel
theorem dX5_isPossibleWicket_73 : decode cX5_isPossibleWicket 73 = .ok (.goto 4, 3) := by decide +kernel
theorem dX5_isPossibleWicket_76 : decode cX5_isPossibleWicket 76 = .ok (.iconst 0, 1) := by decide +kernel
theorem dX5_isPossibleWicket_77 : decode cX5_isPossibleWicket 77 = .ok (.ireturn, 1) := by decide +kernel
