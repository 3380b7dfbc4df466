theorem dX2_init_0 : decode cX2_init 0 = .ok (.aload_n 0, 1) := by decide +kernel
theorem dX2_init_1 : decode cX2_init 1 = .ok (.invokespecial 3, 3) := by decide +kernel
theorem dX2_init_4 : decode cX2_init 4 = .ok (.aload_n 0, 1) := by decide +kernel
theorem dX2_init_5 : decode cX2_init 5 = .ok (.iconst 4, 1) := by decide +kernel
theorem dX2_init_6 : decode cX2_init 6 = .ok (.anewarray 9, 3) := by decide +kernel
theorem dX2_init_9 : decode cX2_init 9 = .ok (.putfield 11, 3) := by decide +kernel
theorem dX2_init_12 : decode cX2_init 12 = .ok (.aload_n 0, 1) := by decide +kernel
theorem dX2_init_13 : decode cX2_init 13 = .ok (.iconst 0, 1) := by decide +kernel
theorem dX2_init_14 : decode cX2_init 14 = .ok (.putfield 17, 3) := by decide +kernel
theorem dX2_init_17 : decode cX2_init 17 = .ok (.aload_n 0, 1) := by decide +kernel
theorem dX2_init_18 : decode cX2_init 18 = .ok (.iconst 0, 1) := by decide +kernel
theorem dX2_init_19 : decode cX2_init 19 = .ok (.putfield 21, 3) := by decide +kernel
theorem dX2_init_22 : decode cX2_init 22 = .ok (.aload_n 0, 1) := by decide +kernel
theorem dX2_init_23 : decode cX2_init 23 = .ok (.iconst 0, 1) := by decide +kernel
theorem dX2_init_24 : decode cX2_init 24 = .ok (.putfield 24, 3) := by decide +kernel
theorem dX2_init_27 : decode cX2_init 27 = .ok (.aload_n 0, 1) := by decide +kernel
theorem dX2_init_28 : decode cX2_init 28 = .ok (.iconst 0, 1) := by decide +kernel
theorem dX2_init_29 : decode cX2_init 29 = .ok (.putfield 28, 3) := by decide +kernel
theorem dX2_init_32 : decode cX2_init 32 = .ok (.aload_n 0, 1) := by decide +kernel
theorem dX2_init_33 : decode cX2_init 33 = .ok (.iconst 0, 1) := by decide +kernel
theorem dX2_init_34 : decode cX2_init 34 = .ok (.putfield 31, 3) := by decide +kernel
theorem dX2_init_37 : decode cX2_init 37 = .ok (.iconst 0, 1) := by decide +kernel
theorem dX2_init_38 : decode cX2_init 38 = .ok (.istore_n 1, 1) := by decide +kernel
theorem dX2_init_39 : decode cX2_init 39 = .ok (.iload_n 1, 1) := by decide +kernel
theorem dX2_init_40 : decode cX2_init 40 = .ok (.aload_n 0, 1) := by decide +kernel
theorem dX2_init_41 : decode cX2_init 41 = .ok (.getfield 11, 3) := by decide +kernel
theorem dX2_init_44 : decode cX2_init 44 = .ok (.arraylength, 1) := by decide +kernel
theorem dX2_init_45 : decode cX2_init 45 = .ok (.if_icmp .ge 22, 3) := by decide +kernel
theorem dX2_init_48 : decode cX2_init 48 = .ok (.aload_n 0, 1) := by decide +kernel
theorem dX2_init_49 : decode cX2_init 49 = .ok (.getfield 11, 3) := by decide +kernel
theorem dX2_init_52 : decode cX2_init 52 = .ok (.iload_n 1, 1) := by decide +kernel
theorem dX2_init_53 : decode cX2_init 53 = .ok (.new 9, 3) := by decide +kernel
theorem dX2_init_56 : decode cX2_init 56 = .ok (.dup, 1) := by decide +kernel
theorem dX2_init_57 : decode cX2_init 57 = .ok (.invokespecial 34, 3) := by decide +kernel
theorem dX2_init_60 : decode cX2_init 60 = .ok (.aastore, 1) := by decide +kernel
theorem dX2_init_61 : decode cX2_init 61 = .ok (.iinc 1 1, 3) := by decide +kernel
theorem dX2_init_64 : decode cX2_init 64 = .ok (.goto (-25), 3) := by decide +kernel
theorem dX2_init_67 : decode cX2_init 67 = .ok (.return_, 1) := by decide +kernel
theorem dX2_follow_0 : decode cX2_follow 0 = .ok (.aload_n 0, 1) := by decide +kernel
theorem dX2_follow_1 : decode cX2_follow 1 = .ok (.aload_n 1, 1) := by decide +kernel
theorem dX2_follow_2 : decode cX2_follow 2 = .ok (.invokevirtual 35, 3) := by decide +kernel
theorem dX2_follow_5 : decode cX2_follow 5 = .ok (.putfield 17, 3) := by decide +kernel
theorem dX2_follow_8 : decode cX2_follow 8 = .ok (.aload_n 0, 1) := by decide +kernel
theorem dX2_follow_9 : decode cX2_follow 9 = .ok (.getfield 17, 3) := by decide +kernel
theorem dX2_follow_12 : decode cX2_follow 12 = .ok (.ifCond .ne 4, 3) := by decide +kernel
theorem dX2_follow_15 : decode cX2_follow 15 = .ok (.return_, 1) := by decide +kernel
theorem dX2_follow_16 : decode cX2_follow 16 = .ok (.aload_n 0, 1) := by decide +kernel
theorem dX2_follow_17 : decode cX2_follow 17 = .ok (.iconst 0, 1) := by decide +kernel
theorem dX2_follow_18 : decode cX2_follow 18 = .ok (.putfield 21, 3) := by decide +kernel
theorem dX2_follow_21 : decode cX2_follow 21 = .ok (.aload_n 0, 1) := by decide +kernel
theorem dX2_follow_22 : decode cX2_follow 22 = .ok (.aload_n 1, 1) := by decide +kernel
theorem dX2_follow_23 : decode cX2_follow 23 = .ok (.getfield 41, 3) := by decide +kernel
theorem dX2_follow_26 : decode cX2_follow 26 = .ok (.putfield 24, 3) := by decide +kernel
theorem dX2_follow_29 : decode cX2_follow 29 = .ok (.aload_n 0, 1) := by decide +kernel
theorem dX2_follow_30 : decode cX2_follow 30 = .ok (.aload_n 1, 1) := by decide +kernel
theorem dX2_follow_31 : decode cX2_follow 31 = .ok (.getfield 42, 3) := by decide +kernel
theorem dX2_follow_34 : decode cX2_follow 34 = .ok (.putfield 28, 3) := by decide +kernel
theorem dX2_follow_37 : decode cX2_follow 37 = .ok (.aload_n 0, 1) := by decide +kernel
theorem dX2_follow_38 : decode cX2_follow 38 = .ok (.iconst 0, 1) := by decide +kernel
theorem dX2_follow_39 : decode cX2_follow 39 = .ok (.putfield 31, 3) := by decide +kernel
theorem dX2_follow_42 : decode cX2_follow 42 = .ok (.aload_n 0, 1) := by decide +kernel
theorem dX2_follow_43 : decode cX2_follow 43 = .ok (.invokevirtual 43, 3) := by decide +kernel
theorem dX2_follow_46 : decode cX2_follow 46 = .ok (.aload_n 1, 1) := by decide +kernel
theorem dX2_follow_47 : decode cX2_follow 47 = .ok (.getfield 47, 3) := by decide +kernel
theorem dX2_follow_50 : decode cX2_follow 50 = .ok (.aload_n 0, 1) := by decide +kernel
theorem dX2_follow_51 : decode cX2_follow 51 = .ok (.invokevirtual 50, 3) := by decide +kernel
theorem dX2_follow_54 : decode cX2_follow 54 = .ok (.invokevirtual 53, 3) := by decide +kernel
theorem dX2_follow_57 : decode cX2_follow 57 = .ok (.iconst 0, 1) := by decide +kernel
theorem dX2_follow_58 : decode cX2_follow 58 = .ok (.istore_n 2, 1) := by decide +kernel
theorem dX2_follow_59 : decode cX2_follow 59 = .ok (.iload_n 2, 1) := by decide +kernel
theorem dX2_follow_60 : decode cX2_follow 60 = .ok (.aload_n 1, 1) := by decide +kernel
theorem dX2_follow_61 : decode cX2_follow 61 = .ok (.getfield 57, 3) := by decide +kernel
theorem dX2_follow_64 : decode cX2_follow 64 = .ok (.if_icmp .ge 19, 3) := by decide +kernel
theorem dX2_follow_67 : decode cX2_follow 67 = .ok (.aload_n 0, 1) := by decide +kernel
theorem dX2_follow_68 : decode cX2_follow 68 = .ok (.aload_n 1, 1) := by decide +kernel
theorem dX2_follow_69 : decode cX2_follow 69 = .ok (.iload_n 2, 1) := by decide +kernel
theorem dX2_follow_70 : decode cX2_follow 70 = .ok (.invokevirtual 60, 3) := by decide +kernel
theorem dX2_follow_73 : decode cX2_follow 73 = .ok (.invokevirtual 64, 3) := by decide +kernel
theorem dX2_follow_76 : decode cX2_follow 76 = .ok (.pop, 1) := by decide +kernel
theorem dX2_follow_77 : decode cX2_follow 77 = .ok (.iinc 2 1, 3) := by decide +kernel
theorem dX2_follow_80 : decode cX2_follow 80 = .ok (.goto (-21), 3) := by decide +kernel
theorem dX2_follow_83 : decode cX2_follow 83 = .ok (.return_, 1) := by decide +kernel
theorem dX2_hasBegun_0 : decode cX2_hasBegun 0 = .ok (.aload_n 0, 1) := by decide +kernel
theorem dX2_hasBegun_1 : decode cX2_hasBegun 1 = .ok (.getfield 17, 3) := by decide +kernel
theorem dX2_hasBegun_4 : decode cX2_hasBegun 4 = .ok (.ifCond .eq 19, 3) := by decide +kernel
theorem dX2_hasBegun_7 : decode cX2_hasBegun 7 = .ok (.iload_n 1, 1) := by decide +kernel
theorem dX2_hasBegun_8 : decode cX2_hasBegun 8 = .ok (.ifCond .lt 15, 3) := by decide +kernel
theorem dX2_hasBegun_11 : decode cX2_hasBegun 11 = .ok (.iload_n 1, 1) := by decide +kernel
theorem dX2_hasBegun_12 : decode cX2_hasBegun 12 = .ok (.aload_n 0, 1) := by decide +kernel
theorem dX2_hasBegun_13 : decode cX2_hasBegun 13 = .ok (.getfield 31, 3) := by decide +kernel
theorem dX2_hasBegun_16 : decode cX2_hasBegun 16 = .ok (.if_icmp .gt 7, 3) := by decide +kernel
theorem dX2_hasBegun_19 : decode cX2_hasBegun 19 = .ok (.iconst 1, 1) := by decide +kernel
theorem dX2_hasBegun_20 : decode cX2_hasBegun 20 = .ok (.goto 4, 3) := by decide +kernel
theorem dX2_hasBegun_23 : decode cX2_hasBegun 23 = .ok (.iconst 0, 1) := by decide +kernel
theorem dX2_hasBegun_24 : decode cX2_hasBegun 24 = .ok (.ireturn, 1) := by decide +kernel
theorem dX2_at_0 : decode cX2_at 0 = .ok (.iconst 0, 1) := by decide +kernel
theorem dX2_at_1 : decode cX2_at 1 = .ok (.iload_n 1, 1) := by decide +kernel
theorem dX2_at_2 : decode cX2_at 2 = .ok (.iconst 3, 1) := by decide +kernel
theorem dX2_at_3 : decode cX2_at 3 = .ok (.invokestatic 68, 3) := by decide +kernel
theorem dX2_at_6 : decode cX2_at 6 = .ok (.invokestatic 74, 3) := by decide +kernel
theorem dX2_at_9 : decode cX2_at 9 = .ok (.istore_n 2, 1) := by decide +kernel
theorem dX2_at_10 : decode cX2_at 10 = .ok (.aload_n 0, 1) := by decide +kernel
theorem dX2_at_11 : decode cX2_at 11 = .ok (.getfield 11, 3) := by decide +kernel
theorem dX2_at_14 : decode cX2_at 14 = .ok (.iload_n 2, 1) := by decide +kernel
theorem dX2_at_15 : decode cX2_at 15 = .ok (.aaload, 1) := by decide +kernel
theorem dX2_at_16 : decode cX2_at 16 = .ok (.areturn, 1) := by decide +kernel
theorem dX2_present_0 : decode cX2_present 0 = .ok (.aload_n 0, 1) := by decide +kernel
theorem dX2_present_1 : decode cX2_present 1 = .ok (.aload_n 0, 1) := by decide +kernel
theorem dX2_present_2 : decode cX2_present 2 = .ok (.getfield 31, 3) := by decide +kernel
theorem dX2_present_5 : decode cX2_present 5 = .ok (.invokevirtual 77, 3) := by decide +kernel
theorem dX2_present_8 : decode cX2_present 8 = .ok (.areturn, 1) := by decide +kernel
theorem dX2_hasResources_0 : decode cX2_hasResources 0 = .ok (.aload_n 0, 1) := by decide +kernel
theorem dX2_hasResources_1 : decode cX2_hasResources 1 = .ok (.getfield 24, 3) := by decide +kernel
theorem dX2_hasResources_4 : decode cX2_hasResources 4 = .ok (.iconst 1, 1) := by decide +kernel
theorem dX2_hasResources_5 : decode cX2_hasResources 5 = .ok (.if_icmp .ne 7, 3) := by decide +kernel
theorem dX2_hasResources_8 : decode cX2_hasResources 8 = .ok (.iconst 1, 1) := by decide +kernel
theorem dX2_hasResources_9 : decode cX2_hasResources 9 = .ok (.goto 4, 3) := by decide +kernel
theorem dX2_hasResources_12 : decode cX2_hasResources 12 = .ok (.iconst 0, 1) := by decide +kernel
theorem dX2_hasResources_13 : decode cX2_hasResources 13 = .ok (.ireturn, 1) := by decide +kernel
theorem dX2_lastNumber_0 : decode cX2_lastNumber 0 = .ok (.iconst 2, 1) := by decide +kernel
theorem dX2_lastNumber_1 : decode cX2_lastNumber 1 = .ok (.aload_n 0, 1) := by decide +kernel
theorem dX2_lastNumber_2 : decode cX2_lastNumber 2 = .ok (.getfield 24, 3) := by decide +kernel
theorem dX2_lastNumber_5 : decode cX2_lastNumber 5 = .ok (.imul, 1) := by decide +kernel
theorem dX2_lastNumber_6 : decode cX2_lastNumber 6 = .ok (.iconst 1, 1) := by decide +kernel
theorem dX2_lastNumber_7 : decode cX2_lastNumber 7 = .ok (.isub, 1) := by decide +kernel
theorem dX2_lastNumber_8 : decode cX2_lastNumber 8 = .ok (.ireturn, 1) := by decide +kernel
theorem dX2_isLastPlayed_0 : decode cX2_isLastPlayed 0 = .ok (.aload_n 0, 1) := by decide +kernel
theorem dX2_isLastPlayed_1 : decode cX2_isLastPlayed 1 = .ok (.getfield 31, 3) := by decide +kernel
theorem dX2_isLastPlayed_4 : decode cX2_isLastPlayed 4 = .ok (.aload_n 0, 1) := by decide +kernel
theorem dX2_isLastPlayed_5 : decode cX2_isLastPlayed 5 = .ok (.invokevirtual 81, 3) := by decide +kernel
theorem dX2_isLastPlayed_8 : decode cX2_isLastPlayed 8 = .ok (.if_icmp .ne 7, 3) := by decide +kernel
theorem dX2_isLastPlayed_11 : decode cX2_isLastPlayed 11 = .ok (.iconst 1, 1) := by decide +kernel
theorem dX2_isLastPlayed_12 : decode cX2_isLastPlayed 12 = .ok (.goto 4, 3) := by decide +kernel
theorem dX2_isLastPlayed_15 : decode cX2_isLastPlayed 15 = .ok (.iconst 0, 1) := by decide +kernel
theorem dX2_isLastPlayed_16 : decode cX2_isLastPlayed 16 = .ok (.ireturn, 1) := by decide +kernel
theorem dX2_battingTeam_0 : decode cX2_battingTeam 0 = .ok (.iload_n 1, 1) := by decide +kernel
theorem dX2_battingTeam_1 : decode cX2_battingTeam 1 = .ok (.iconst 1, 1) := by decide +kernel
theorem dX2_battingTeam_2 : decode cX2_battingTeam 2 = .ok (.iand, 1) := by decide +kernel
theorem dX2_battingTeam_3 : decode cX2_battingTeam 3 = .ok (.ifCond .ne 10, 3) := by decide +kernel
theorem dX2_battingTeam_6 : decode cX2_battingTeam 6 = .ok (.aload_n 0, 1) := by decide +kernel
theorem dX2_battingTeam_7 : decode cX2_battingTeam 7 = .ok (.getfield 28, 3) := by decide +kernel
theorem dX2_battingTeam_10 : decode cX2_battingTeam 10 = .ok (.goto 9, 3) := by decide +kernel
theorem dX2_battingTeam_13 : decode cX2_battingTeam 13 = .ok (.iconst 1, 1) := by decide +kernel
theorem dX2_battingTeam_14 : decode cX2_battingTeam 14 = .ok (.aload_n 0, 1) := by decide +kernel
theorem dX2_battingTeam_15 : decode cX2_battingTeam 15 = .ok (.getfield 28, 3) := by decide +kernel
theorem dX2_battingTeam_18 : decode cX2_battingTeam 18 = .ok (.isub, 1) := by decide +kernel
theorem dX2_battingTeam_19 : decode cX2_battingTeam 19 = .ok (.ireturn, 1) := by decide +kernel
theorem dX2_refusal_0 : decode cX2_refusal 0 = .ok (.aload_n 0, 1) := by decide +kernel
theorem dX2_refusal_1 : decode cX2_refusal 1 = .ok (.getfield 17, 3) := by decide +kernel
theorem dX2_refusal_4 : decode cX2_refusal 4 = .ok (.ifCond .eq 10, 3) := by decide +kernel
theorem dX2_refusal_7 : decode cX2_refusal 7 = .ok (.aload_n 0, 1) := by decide +kernel
theorem dX2_refusal_8 : decode cX2_refusal 8 = .ok (.getfield 21, 3) := by decide +kernel
theorem dX2_refusal_11 : decode cX2_refusal 11 = .ok (.ifCond .eq 5, 3) := by decide +kernel
theorem dX2_refusal_14 : decode cX2_refusal 14 = .ok (.iconst 1, 1) := by decide +kernel
theorem dX2_refusal_15 : decode cX2_refusal 15 = .ok (.ireturn, 1) := by decide +kernel
theorem dX2_refusal_16 : decode cX2_refusal 16 = .ok (.aload_n 0, 1) := by decide +kernel
theorem dX2_refusal_17 : decode cX2_refusal 17 = .ok (.invokevirtual 43, 3) := by decide +kernel
theorem dX2_refusal_20 : decode cX2_refusal 20 = .ok (.astore_n 2, 1) := by decide +kernel
theorem dX2_refusal_21 : decode cX2_refusal 21 = .ok (.aload_n 1, 1) := by decide +kernel
theorem dX2_refusal_22 : decode cX2_refusal 22 = .ok (.getfield 85, 3) := by decide +kernel
theorem dX2_refusal_25 : decode cX2_refusal 25 = .ok (.tableswitch 138 1 7 #[43, 52, 69, 138, 96, 138, 113], 43) := by decide +kernel
theorem dX2_refusal_68 : decode cX2_refusal 68 = .ok (.aload_n 2, 1) := by decide +kernel
theorem dX2_refusal_69 : decode cX2_refusal 69 = .ok (.aload_n 1, 1) := by decide +kernel
theorem dX2_refusal_70 : decode cX2_refusal 70 = .ok (.getfield 90, 3) := by decide +kernel
theorem dX2_refusal_73 : decode cX2_refusal 73 = .ok (.invokevirtual 91, 3) := by decide +kernel
theorem dX2_refusal_76 : decode cX2_refusal 76 = .ok (.ireturn, 1) := by decide +kernel
theorem dX2_refusal_77 : decode cX2_refusal 77 = .ok (.aload_n 2, 1) := by decide +kernel
theorem dX2_refusal_78 : decode cX2_refusal 78 = .ok (.getfield 95, 3) := by decide +kernel
theorem dX2_refusal_81 : decode cX2_refusal 81 = .ok (.getfield 98, 3) := by decide +kernel
theorem dX2_refusal_84 : decode cX2_refusal 84 = .ok (.iconst (-1), 1) := by decide +kernel
theorem dX2_refusal_85 : decode cX2_refusal 85 = .ok (.if_icmp .ne 7, 3) := by decide +kernel
theorem dX2_refusal_88 : decode cX2_refusal 88 = .ok (.iconst 3, 1) := by decide +kernel
theorem dX2_refusal_89 : decode cX2_refusal 89 = .ok (.goto 4, 3) := by decide +kernel
theorem dX2_refusal_92 : decode cX2_refusal 92 = .ok (.iconst 0, 1) := by decide +kernel
theorem dX2_refusal_93 : decode cX2_refusal 93 = .ok (.ireturn, 1) := by decide +kernel
theorem dX2_refusal_94 : decode cX2_refusal 94 = .ok (.aload_n 2, 1) := by decide +kernel
theorem dX2_refusal_95 : decode cX2_refusal 95 = .ok (.getfield 95, 3) := by decide +kernel
theorem dX2_refusal_98 : decode cX2_refusal 98 = .ok (.getfield 98, 3) := by decide +kernel
theorem dX2_refusal_101 : decode cX2_refusal 101 = .ok (.iconst (-1), 1) := by decide +kernel
theorem dX2_refusal_102 : decode cX2_refusal 102 = .ok (.if_icmp .ne 5, 3) := by decide +kernel
theorem dX2_refusal_105 : decode cX2_refusal 105 = .ok (.iconst 3, 1) := by decide +kernel
theorem dX2_refusal_106 : decode cX2_refusal 106 = .ok (.ireturn, 1) := by decide +kernel
theorem dX2_refusal_107 : decode cX2_refusal 107 = .ok (.aload_n 1, 1) := by decide +kernel
theorem dX2_refusal_108 : decode cX2_refusal 108 = .ok (.invokevirtual 103, 3) := by decide +kernel
theorem dX2_refusal_111 : decode cX2_refusal 111 = .ok (.ifCond .eq 7, 3) := by decide +kernel
theorem dX2_refusal_114 : decode cX2_refusal 114 = .ok (.iconst 0, 1) := by decide +kernel
theorem dX2_refusal_115 : decode cX2_refusal 115 = .ok (.goto 5, 3) := by decide +kernel
theorem dX2_refusal_118 : decode cX2_refusal 118 = .ok (.bipush 6, 2) := by decide +kernel
theorem dX2_refusal_120 : decode cX2_refusal 120 = .ok (.ireturn, 1) := by decide +kernel
theorem dX2_refusal_121 : decode cX2_refusal 121 = .ok (.aload_n 2, 1) := by decide +kernel
theorem dX2_refusal_122 : decode cX2_refusal 122 = .ok (.aload_n 1, 1) := by decide +kernel
theorem dX2_refusal_123 : decode cX2_refusal 123 = .ok (.getfield 90, 3) := by decide +kernel
theorem dX2_refusal_126 : decode cX2_refusal 126 = .ok (.invokevirtual 106, 3) := by decide +kernel
theorem dX2_refusal_129 : decode cX2_refusal 129 = .ok (.ifCond .eq 7, 3) := by decide +kernel
theorem dX2_refusal_132 : decode cX2_refusal 132 = .ok (.iconst 0, 1) := by decide +kernel
theorem dX2_refusal_133 : decode cX2_refusal 133 = .ok (.goto 4, 3) := by decide +kernel
theorem dX2_refusal_136 : decode cX2_refusal 136 = .ok (.iconst 5, 1) := by decide +kernel
theorem dX2_refusal_137 : decode cX2_refusal 137 = .ok (.ireturn, 1) := by decide +kernel
theorem dX2_refusal_138 : decode cX2_refusal 138 = .ok (.aload_n 0, 1) := by decide +kernel
theorem dX2_refusal_139 : decode cX2_refusal 139 = .ok (.invokevirtual 50, 3) := by decide +kernel
theorem dX2_refusal_142 : decode cX2_refusal 142 = .ok (.ifCond .eq 18, 3) := by decide +kernel
theorem dX2_refusal_145 : decode cX2_refusal 145 = .ok (.aload_n 2, 1) := by decide +kernel
theorem dX2_refusal_146 : decode cX2_refusal 146 = .ok (.aload_n 1, 1) := by decide +kernel
theorem dX2_refusal_147 : decode cX2_refusal 147 = .ok (.getfield 90, 3) := by decide +kernel
theorem dX2_refusal_150 : decode cX2_refusal 150 = .ok (.invokevirtual 110, 3) := by decide +kernel
theorem dX2_refusal_153 : decode cX2_refusal 153 = .ok (.ifCond .eq 7, 3) := by decide +kernel
theorem dX2_refusal_156 : decode cX2_refusal 156 = .ok (.iconst 0, 1) := by decide +kernel
theorem dX2_refusal_157 : decode cX2_refusal 157 = .ok (.goto 5, 3) := by decide +kernel
theorem dX2_refusal_160 : decode cX2_refusal 160 = .ok (.bipush 8, 2) := by decide +kernel
theorem dX2_refusal_162 : decode cX2_refusal 162 = .ok (.ireturn, 1) := by decide +kernel
theorem dX2_refusal_163 : decode cX2_refusal 163 = .ok (.iconst 0, 1) := by decide +kernel
theorem dX2_refusal_164 : decode cX2_refusal 164 = .ok (.ireturn, 1) := by decide +kernel
theorem dX2_perform_0 : decode cX2_perform 0 = .ok (.aload_n 0, 1) := by decide +kernel
theorem dX2_perform_1 : decode cX2_perform 1 = .ok (.invokevirtual 43, 3) := by decide +kernel
theorem dX2_perform_4 : decode cX2_perform 4 = .ok (.astore_n 2, 1) := by decide +kernel
theorem dX2_perform_5 : decode cX2_perform 5 = .ok (.iconst 0, 1) := by decide +kernel
theorem dX2_perform_6 : decode cX2_perform 6 = .ok (.istore_n 3, 1) := by decide +kernel
theorem dX2_perform_7 : decode cX2_perform 7 = .ok (.aload_n 1, 1) := by decide +kernel
theorem dX2_perform_8 : decode cX2_perform 8 = .ok (.getfield 85, 3) := by decide +kernel
theorem dX2_perform_11 : decode cX2_perform 11 = .ok (.tableswitch 113 1 7 #[41, 53, 62, 71, 80, 92, 101], 41) := by decide +kernel
theorem dX2_perform_52 : decode cX2_perform 52 = .ok (.aload_n 2, 1) := by decide +kernel
theorem dX2_perform_53 : decode cX2_perform 53 = .ok (.aload_n 1, 1) := by decide +kernel
theorem dX2_perform_54 : decode cX2_perform 54 = .ok (.getfield 90, 3) := by decide +kernel
theorem dX2_perform_57 : decode cX2_perform 57 = .ok (.invokevirtual 113, 3) := by decide +kernel
theorem dX2_perform_60 : decode cX2_perform 60 = .ok (.istore_n 3, 1) := by decide +kernel
theorem dX2_perform_61 : decode cX2_perform 61 = .ok (.goto 63, 3) := by decide +kernel
theorem dX2_perform_64 : decode cX2_perform 64 = .ok (.aload_n 2, 1) := by decide +kernel
theorem dX2_perform_65 : decode cX2_perform 65 = .ok (.aload_n 1, 1) := by decide +kernel
theorem dX2_perform_66 : decode cX2_perform 66 = .ok (.invokevirtual 116, 3) := by decide +kernel
theorem dX2_perform_69 : decode cX2_perform 69 = .ok (.istore_n 3, 1) := by decide +kernel
theorem dX2_perform_70 : decode cX2_perform 70 = .ok (.goto 54, 3) := by decide +kernel
theorem dX2_perform_73 : decode cX2_perform 73 = .ok (.aload_n 2, 1) := by decide +kernel
theorem dX2_perform_74 : decode cX2_perform 74 = .ok (.aload_n 1, 1) := by decide +kernel
theorem dX2_perform_75 : decode cX2_perform 75 = .ok (.invokevirtual 119, 3) := by decide +kernel
theorem dX2_perform_78 : decode cX2_perform 78 = .ok (.istore_n 3, 1) := by decide +kernel
theorem dX2_perform_79 : decode cX2_perform 79 = .ok (.goto 45, 3) := by decide +kernel
theorem dX2_perform_82 : decode cX2_perform 82 = .ok (.aload_n 2, 1) := by decide +kernel
theorem dX2_perform_83 : decode cX2_perform 83 = .ok (.aload_n 1, 1) := by decide +kernel
theorem dX2_perform_84 : decode cX2_perform 84 = .ok (.invokevirtual 122, 3) := by decide +kernel
theorem dX2_perform_87 : decode cX2_perform 87 = .ok (.istore_n 3, 1) := by decide +kernel
theorem dX2_perform_88 : decode cX2_perform 88 = .ok (.goto 36, 3) := by decide +kernel
theorem dX2_perform_91 : decode cX2_perform 91 = .ok (.aload_n 2, 1) := by decide +kernel
theorem dX2_perform_92 : decode cX2_perform 92 = .ok (.aload_n 1, 1) := by decide +kernel
theorem dX2_perform_93 : decode cX2_perform 93 = .ok (.getfield 90, 3) := by decide +kernel
theorem dX2_perform_96 : decode cX2_perform 96 = .ok (.invokevirtual 125, 3) := by decide +kernel
theorem dX2_perform_99 : decode cX2_perform 99 = .ok (.istore_n 3, 1) := by decide +kernel
theorem dX2_perform_100 : decode cX2_perform 100 = .ok (.goto 24, 3) := by decide +kernel
theorem dX2_perform_103 : decode cX2_perform 103 = .ok (.aload_n 2, 1) := by decide +kernel
theorem dX2_perform_104 : decode cX2_perform 104 = .ok (.iconst 0, 1) := by decide +kernel
theorem dX2_perform_105 : decode cX2_perform 105 = .ok (.invokevirtual 128, 3) := by decide +kernel
theorem dX2_perform_108 : decode cX2_perform 108 = .ok (.istore_n 3, 1) := by decide +kernel
theorem dX2_perform_109 : decode cX2_perform 109 = .ok (.goto 15, 3) := by decide +kernel
theorem dX2_perform_112 : decode cX2_perform 112 = .ok (.aload_n 2, 1) := by decide +kernel
theorem dX2_perform_113 : decode cX2_perform 113 = .ok (.aload_n 1, 1) := by decide +kernel
theorem dX2_perform_114 : decode cX2_perform 114 = .ok (.getfield 90, 3) := by decide +kernel
theorem dX2_perform_117 : decode cX2_perform 117 = .ok (.invokevirtual 131, 3) := by decide +kernel
theorem dX2_perform_120 : decode cX2_perform 120 = .ok (.istore_n 3, 1) := by decide +kernel
theorem dX2_perform_121 : decode cX2_perform 121 = .ok (.goto 3, 3) := by decide +kernel
theorem dX2_perform_124 : decode cX2_perform 124 = .ok (.aload_n 0, 1) := by decide +kernel
theorem dX2_perform_125 : decode cX2_perform 125 = .ok (.aload_n 1, 1) := by decide +kernel
theorem dX2_perform_126 : decode cX2_perform 126 = .ok (.getfield 85, 3) := by decide +kernel
theorem dX2_perform_129 : decode cX2_perform 129 = .ok (.bipush 6, 2) := by decide +kernel
theorem dX2_perform_131 : decode cX2_perform 131 = .ok (.if_icmp .ne 7, 3) := by decide +kernel
theorem dX2_perform_134 : decode cX2_perform 134 = .ok (.iconst 1, 1) := by decide +kernel
theorem dX2_perform_135 : decode cX2_perform 135 = .ok (.goto 4, 3) := by decide +kernel
theorem dX2_perform_138 : decode cX2_perform 138 = .ok (.iconst 0, 1) := by decide +kernel
theorem dX2_perform_139 : decode cX2_perform 139 = .ok (.invokevirtual 134, 3) := by decide +kernel
theorem dX2_perform_142 : decode cX2_perform 142 = .ok (.istore 4, 2) := by decide +kernel
theorem dX2_perform_144 : decode cX2_perform 144 = .ok (.iload 4, 2) := by decide +kernel
theorem dX2_perform_146 : decode cX2_perform 146 = .ok (.ifCond .eq 13, 3) := by decide +kernel
theorem dX2_perform_149 : decode cX2_perform 149 = .ok (.aload_n 2, 1) := by decide +kernel
theorem dX2_perform_150 : decode cX2_perform 150 = .ok (.iload 4, 2) := by decide +kernel
theorem dX2_perform_152 : decode cX2_perform 152 = .ok (.invokevirtual 138, 3) := by decide +kernel
theorem dX2_perform_155 : decode cX2_perform 155 = .ok (.aload_n 0, 1) := by decide +kernel
theorem dX2_perform_156 : decode cX2_perform 156 = .ok (.invokevirtual 142, 3) := by decide +kernel
theorem dX2_perform_159 : decode cX2_perform 159 = .ok (.iload_n 3, 1) := by decide +kernel
theorem dX2_perform_160 : decode cX2_perform 160 = .ok (.ireturn, 1) := by decide +kernel
theorem dX2_dueEnd_0 : decode cX2_dueEnd 0 = .ok (.aload_n 0, 1) := by decide +kernel
theorem dX2_dueEnd_1 : decode cX2_dueEnd 1 = .ok (.invokevirtual 43, 3) := by decide +kernel
theorem dX2_dueEnd_4 : decode cX2_dueEnd 4 = .ok (.astore_n 2, 1) := by decide +kernel
theorem dX2_dueEnd_5 : decode cX2_dueEnd 5 = .ok (.aload_n 0, 1) := by decide +kernel
theorem dX2_dueEnd_6 : decode cX2_dueEnd 6 = .ok (.invokevirtual 145, 3) := by decide +kernel
theorem dX2_dueEnd_9 : decode cX2_dueEnd 9 = .ok (.ifCond .eq 17, 3) := by decide +kernel
theorem dX2_dueEnd_12 : decode cX2_dueEnd 12 = .ok (.aload_n 2, 1) := by decide +kernel
theorem dX2_dueEnd_13 : decode cX2_dueEnd 13 = .ok (.iconst 0, 1) := by decide +kernel
theorem dX2_dueEnd_14 : decode cX2_dueEnd 14 = .ok (.invokevirtual 128, 3) := by decide +kernel
theorem dX2_dueEnd_17 : decode cX2_dueEnd 17 = .ok (.aload_n 0, 1) := by decide +kernel
theorem dX2_dueEnd_18 : decode cX2_dueEnd 18 = .ok (.invokevirtual 148, 3) := by decide +kernel
theorem dX2_dueEnd_21 : decode cX2_dueEnd 21 = .ok (.if_icmp .lt 5, 3) := by decide +kernel
theorem dX2_dueEnd_24 : decode cX2_dueEnd 24 = .ok (.iconst 4, 1) := by decide +kernel
theorem dX2_dueEnd_25 : decode cX2_dueEnd 25 = .ok (.ireturn, 1) := by decide +kernel
theorem dX2_dueEnd_26 : decode cX2_dueEnd 26 = .ok (.iload_n 1, 1) := by decide +kernel
theorem dX2_dueEnd_27 : decode cX2_dueEnd 27 = .ok (.ifCond .eq 7, 3) := by decide +kernel
theorem dX2_dueEnd_30 : decode cX2_dueEnd 30 = .ok (.iconst 3, 1) := by decide +kernel
theorem dX2_dueEnd_31 : decode cX2_dueEnd 31 = .ok (.goto 7, 3) := by decide +kernel
theorem dX2_dueEnd_34 : decode cX2_dueEnd 34 = .ok (.aload_n 2, 1) := by decide +kernel
theorem dX2_dueEnd_35 : decode cX2_dueEnd 35 = .ok (.invokevirtual 151, 3) := by decide +kernel
theorem dX2_dueEnd_38 : decode cX2_dueEnd 38 = .ok (.ireturn, 1) := by decide +kernel
theorem dX2_goOn_0 : decode cX2_goOn 0 = .ok (.aload_n 0, 1) := by decide +kernel
theorem dX2_goOn_1 : decode cX2_goOn 1 = .ok (.getfield 31, 3) := by decide +kernel
theorem dX2_goOn_4 : decode cX2_goOn 4 = .ok (.iconst 1, 1) := by decide +kernel
theorem dX2_goOn_5 : decode cX2_goOn 5 = .ok (.iadd, 1) := by decide +kernel
theorem dX2_goOn_6 : decode cX2_goOn 6 = .ok (.aload_n 0, 1) := by decide +kernel
theorem dX2_goOn_7 : decode cX2_goOn 7 = .ok (.invokevirtual 81, 3) := by decide +kernel
theorem dX2_goOn_10 : decode cX2_goOn 10 = .ok (.if_icmp .ne 7, 3) := by decide +kernel
theorem dX2_goOn_13 : decode cX2_goOn 13 = .ok (.iconst 1, 1) := by decide +kernel
theorem dX2_goOn_14 : decode cX2_goOn 14 = .ok (.goto 4, 3) := by decide +kernel
theorem dX2_goOn_17 : decode cX2_goOn 17 = .ok (.iconst 0, 1) := by decide +kernel
theorem dX2_goOn_18 : decode cX2_goOn 18 = .ok (.istore_n 1, 1) := by decide +kernel
theorem dX2_goOn_19 : decode cX2_goOn 19 = .ok (.aload_n 0, 1) := by decide +kernel
theorem dX2_goOn_20 : decode cX2_goOn 20 = .ok (.invokevirtual 145, 3) := by decide +kernel
theorem dX2_goOn_23 : decode cX2_goOn 23 = .ok (.ifCond .ne 21, 3) := by decide +kernel
theorem dX2_goOn_26 : decode cX2_goOn 26 = .ok (.iload_n 1, 1) := by decide +kernel
theorem dX2_goOn_27 : decode cX2_goOn 27 = .ok (.ifCond .eq 23, 3) := by decide +kernel
theorem dX2_goOn_30 : decode cX2_goOn 30 = .ok (.aload_n 0, 1) := by decide +kernel
theorem dX2_goOn_31 : decode cX2_goOn 31 = .ok (.invokevirtual 50, 3) := by decide +kernel
theorem dX2_goOn_34 : decode cX2_goOn 34 = .ok (.ifCond .ne 16, 3) := by decide +kernel
theorem dX2_goOn_37 : decode cX2_goOn 37 = .ok (.aload_n 0, 1) := by decide +kernel
theorem dX2_goOn_38 : decode cX2_goOn 38 = .ok (.invokevirtual 148, 3) := by decide +kernel
theorem dX2_goOn_41 : decode cX2_goOn 41 = .ok (.ifCond .gt 9, 3) := by decide +kernel
theorem dX2_goOn_44 : decode cX2_goOn 44 = .ok (.aload_n 0, 1) := by decide +kernel
theorem dX2_goOn_45 : decode cX2_goOn 45 = .ok (.iconst 1, 1) := by decide +kernel
theorem dX2_goOn_46 : decode cX2_goOn 46 = .ok (.putfield 21, 3) := by decide +kernel
theorem dX2_goOn_49 : decode cX2_goOn 49 = .ok (.return_, 1) := by decide +kernel
theorem dX2_goOn_50 : decode cX2_goOn 50 = .ok (.aload_n 0, 1) := by decide +kernel
theorem dX2_goOn_51 : decode cX2_goOn 51 = .ok (.invokevirtual 43, 3) := by decide +kernel
theorem dX2_goOn_54 : decode cX2_goOn 54 = .ok (.getfield 95, 3) := by decide +kernel
theorem dX2_goOn_57 : decode cX2_goOn 57 = .ok (.getfield 154, 3) := by decide +kernel
theorem dX2_goOn_60 : decode cX2_goOn 60 = .ok (.istore_n 2, 1) := by decide +kernel
theorem dX2_goOn_61 : decode cX2_goOn 61 = .ok (.aload_n 0, 1) := by decide +kernel
theorem dX2_goOn_62 : decode cX2_goOn 62 = .ok (.dup, 1) := by decide +kernel
theorem dX2_goOn_63 : decode cX2_goOn 63 = .ok (.getfield 31, 3) := by decide +kernel
theorem dX2_goOn_66 : decode cX2_goOn 66 = .ok (.iconst 1, 1) := by decide +kernel
theorem dX2_goOn_67 : decode cX2_goOn 67 = .ok (.iadd, 1) := by decide +kernel
theorem dX2_goOn_68 : decode cX2_goOn 68 = .ok (.putfield 31, 3) := by decide +kernel
theorem dX2_goOn_71 : decode cX2_goOn 71 = .ok (.aload_n 0, 1) := by decide +kernel
theorem dX2_goOn_72 : decode cX2_goOn 72 = .ok (.invokevirtual 43, 3) := by decide +kernel
theorem dX2_goOn_75 : decode cX2_goOn 75 = .ok (.iload_n 2, 1) := by decide +kernel
theorem dX2_goOn_76 : decode cX2_goOn 76 = .ok (.aload_n 0, 1) := by decide +kernel
theorem dX2_goOn_77 : decode cX2_goOn 77 = .ok (.invokevirtual 50, 3) := by decide +kernel
theorem dX2_goOn_80 : decode cX2_goOn 80 = .ok (.invokevirtual 53, 3) := by decide +kernel
theorem dX2_goOn_83 : decode cX2_goOn 83 = .ok (.return_, 1) := by decide +kernel
theorem dX2_target_0 : decode cX2_target 0 = .ok (.aload_n 0, 1) := by decide +kernel
theorem dX2_target_1 : decode cX2_target 1 = .ok (.iconst 0, 1) := by decide +kernel
theorem dX2_target_2 : decode cX2_target 2 = .ok (.invokevirtual 77, 3) := by decide +kernel
theorem dX2_target_5 : decode cX2_target 5 = .ok (.iconst 0, 1) := by decide +kernel
theorem dX2_target_6 : decode cX2_target 6 = .ok (.invokevirtual 128, 3) := by decide +kernel
theorem dX2_target_9 : decode cX2_target 9 = .ok (.istore_n 1, 1) := by decide +kernel
theorem dX2_target_10 : decode cX2_target 10 = .ok (.aload_n 0, 1) := by decide +kernel
theorem dX2_target_11 : decode cX2_target 11 = .ok (.invokevirtual 50, 3) := by decide +kernel
theorem dX2_target_14 : decode cX2_target 14 = .ok (.ifCond .eq 27, 3) := by decide +kernel
theorem dX2_target_17 : decode cX2_target 17 = .ok (.iload_n 1, 1) := by decide +kernel
theorem dX2_target_18 : decode cX2_target 18 = .ok (.i2l, 1) := by decide +kernel
theorem dX2_target_19 : decode cX2_target 19 = .ok (.aload_n 0, 1) := by decide +kernel
theorem dX2_target_20 : decode cX2_target 20 = .ok (.iconst 0, 1) := by decide +kernel
theorem dX2_target_21 : decode cX2_target 21 = .ok (.invokevirtual 77, 3) := by decide +kernel
theorem dX2_target_24 : decode cX2_target 24 = .ok (.getfield 157, 3) := by decide +kernel
theorem dX2_target_27 : decode cX2_target 27 = .ok (.i2l, 1) := by decide +kernel
theorem dX2_target_28 : decode cX2_target 28 = .ok (.aload_n 0, 1) := by decide +kernel
theorem dX2_target_29 : decode cX2_target 29 = .ok (.iconst 1, 1) := by decide +kernel
theorem dX2_target_30 : decode cX2_target 30 = .ok (.invokevirtual 77, 3) := by decide +kernel
theorem dX2_target_33 : decode cX2_target 33 = .ok (.getfield 157, 3) := by decide +kernel
theorem dX2_target_36 : decode cX2_target 36 = .ok (.i2l, 1) := by decide +kernel
theorem dX2_target_37 : decode cX2_target 37 = .ok (.invokestatic 160, 3) := by decide +kernel
theorem dX2_target_40 : decode cX2_target 40 = .ok (.ireturn, 1) := by decide +kernel
theorem dX2_target_41 : decode cX2_target 41 = .ok (.iload_n 1, 1) := by decide +kernel
theorem dX2_target_42 : decode cX2_target 42 = .ok (.aload_n 0, 1) := by decide +kernel
theorem dX2_target_43 : decode cX2_target 43 = .ok (.iconst 2, 1) := by decide +kernel
theorem dX2_target_44 : decode cX2_target 44 = .ok (.invokevirtual 77, 3) := by decide +kernel
theorem dX2_target_47 : decode cX2_target 47 = .ok (.iconst 0, 1) := by decide +kernel
theorem dX2_target_48 : decode cX2_target 48 = .ok (.invokevirtual 128, 3) := by decide +kernel
theorem dX2_target_51 : decode cX2_target 51 = .ok (.iadd, 1) := by decide +kernel
theorem dX2_target_52 : decode cX2_target 52 = .ok (.aload_n 0, 1) := by decide +kernel
theorem dX2_target_53 : decode cX2_target 53 = .ok (.iconst 1, 1) := by decide +kernel
theorem dX2_target_54 : decode cX2_target 54 = .ok (.invokevirtual 77, 3) := by decide +kernel
theorem dX2_target_57 : decode cX2_target 57 = .ok (.iconst 0, 1) := by decide +kernel
theorem dX2_target_58 : decode cX2_target 58 = .ok (.invokevirtual 128, 3) := by decide +kernel
theorem dX2_target_61 : decode cX2_target 61 = .ok (.isub, 1) := by decide +kernel
theorem dX2_target_62 : decode cX2_target 62 = .ok (.iconst 1, 1) := by decide +kernel
theorem dX2_target_63 : decode cX2_target 63 = .ok (.iadd, 1) := by decide +kernel
theorem dX2_target_64 : decode cX2_target 64 = .ok (.ireturn, 1) := by decide +kernel
theorem dX2_revisedTarget_0 : decode cX2_revisedTarget 0 = .ok (.lload 4, 2) := by decide +kernel
theorem dX2_revisedTarget_2 : decode cX2_revisedTarget 2 = .ok (.lload_n 2, 1) := by decide +kernel
theorem dX2_revisedTarget_3 : decode cX2_revisedTarget 3 = .ok (.lcmp, 1) := by decide +kernel
theorem dX2_revisedTarget_4 : decode cX2_revisedTarget 4 = .ok (.ifCond .le 21, 3) := by decide +kernel
theorem dX2_revisedTarget_7 : decode cX2_revisedTarget 7 = .ok (.lload_n 0, 1) := by decide +kernel
theorem dX2_revisedTarget_8 : decode cX2_revisedTarget 8 = .ok (.ldc2_w 164, 3) := by decide +kernel
theorem dX2_revisedTarget_11 : decode cX2_revisedTarget 11 = .ok (.lload 4, 2) := by decide +kernel
theorem dX2_revisedTarget_13 : decode cX2_revisedTarget 13 = .ok (.lload_n 2, 1) := by decide +kernel
theorem dX2_revisedTarget_14 : decode cX2_revisedTarget 14 = .ok (.lsub, 1) := by decide +kernel
theorem dX2_revisedTarget_15 : decode cX2_revisedTarget 15 = .ok (.lmul, 1) := by decide +kernel
theorem dX2_revisedTarget_16 : decode cX2_revisedTarget 16 = .ok (.ldc2_w 166, 3) := by decide +kernel
theorem dX2_revisedTarget_19 : decode cX2_revisedTarget 19 = .ok (.ldiv, 1) := by decide +kernel
theorem dX2_revisedTarget_20 : decode cX2_revisedTarget 20 = .ok (.ladd, 1) := by decide +kernel
theorem dX2_revisedTarget_21 : decode cX2_revisedTarget 21 = .ok (.l2i, 1) := by decide +kernel
theorem dX2_revisedTarget_22 : decode cX2_revisedTarget 22 = .ok (.iconst 1, 1) := by decide +kernel
theorem dX2_revisedTarget_23 : decode cX2_revisedTarget 23 = .ok (.iadd, 1) := by decide +kernel
theorem dX2_revisedTarget_24 : decode cX2_revisedTarget 24 = .ok (.ireturn, 1) := by decide +kernel
theorem dX2_revisedTarget_25 : decode cX2_revisedTarget 25 = .ok (.lload_n 2, 1) := by decide +kernel
theorem dX2_revisedTarget_26 : decode cX2_revisedTarget 26 = .ok (.lconst 0, 1) := by decide +kernel
theorem dX2_revisedTarget_27 : decode cX2_revisedTarget 27 = .ok (.lcmp, 1) := by decide +kernel
theorem dX2_revisedTarget_28 : decode cX2_revisedTarget 28 = .ok (.ifCond .le 15, 3) := by decide +kernel
theorem dX2_revisedTarget_31 : decode cX2_revisedTarget 31 = .ok (.lload_n 0, 1) := by decide +kernel
theorem dX2_revisedTarget_32 : decode cX2_revisedTarget 32 = .ok (.lload 4, 2) := by decide +kernel
theorem dX2_revisedTarget_34 : decode cX2_revisedTarget 34 = .ok (.lmul, 1) := by decide +kernel
theorem dX2_revisedTarget_35 : decode cX2_revisedTarget 35 = .ok (.lload_n 2, 1) := by decide +kernel
theorem dX2_revisedTarget_36 : decode cX2_revisedTarget 36 = .ok (.ldiv, 1) := by decide +kernel
theorem dX2_revisedTarget_37 : decode cX2_revisedTarget 37 = .ok (.l2i, 1) := by decide +kernel
theorem dX2_revisedTarget_38 : decode cX2_revisedTarget 38 = .ok (.iconst 1, 1) := by decide +kernel
theorem dX2_revisedTarget_39 : decode cX2_revisedTarget 39 = .ok (.iadd, 1) := by decide +kernel
theorem dX2_revisedTarget_40 : decode cX2_revisedTarget 40 = .ok (.goto 4, 3) := by decide +kernel
theorem dX2_revisedTarget_43 : decode cX2_revisedTarget 43 = .ok (.iconst 1, 1) := by decide +kernel
theorem dX2_revisedTarget_44 : decode cX2_revisedTarget 44 = .ok (.ireturn, 1) := by decide +kernel
theorem dX2_outcome_0 : decode cX2_outcome 0 = .ok (.aload_n 0, 1) := by decide +kernel
theorem dX2_outcome_1 : decode cX2_outcome 1 = .ok (.getfield 17, 3) := by decide +kernel
theorem dX2_outcome_4 : decode cX2_outcome 4 = .ok (.ifCond .eq 10, 3) := by decide +kernel
theorem dX2_outcome_7 : decode cX2_outcome 7 = .ok (.aload_n 0, 1) := by decide +kernel
theorem dX2_outcome_8 : decode cX2_outcome 8 = .ok (.getfield 21, 3) := by decide +kernel
theorem dX2_outcome_11 : decode cX2_outcome 11 = .ok (.ifCond .ne 5, 3) := by decide +kernel
theorem dX2_outcome_14 : decode cX2_outcome 14 = .ok (.iconst 0, 1) := by decide +kernel
theorem dX2_outcome_15 : decode cX2_outcome 15 = .ok (.ireturn, 1) := by decide +kernel
theorem dX2_outcome_16 : decode cX2_outcome 16 = .ok (.aload_n 0, 1) := by decide +kernel
theorem dX2_outcome_17 : decode cX2_outcome 17 = .ok (.aload_n 0, 1) := by decide +kernel
theorem dX2_outcome_18 : decode cX2_outcome 18 = .ok (.invokevirtual 81, 3) := by decide +kernel
theorem dX2_outcome_21 : decode cX2_outcome 21 = .ok (.invokevirtual 168, 3) := by decide +kernel
theorem dX2_outcome_24 : decode cX2_outcome 24 = .ok (.istore_n 1, 1) := by decide +kernel
theorem dX2_outcome_25 : decode cX2_outcome 25 = .ok (.aload_n 0, 1) := by decide +kernel
theorem dX2_outcome_26 : decode cX2_outcome 26 = .ok (.invokevirtual 145, 3) := by decide +kernel
theorem dX2_outcome_29 : decode cX2_outcome 29 = .ok (.ifCond .eq 18, 3) := by decide +kernel
theorem dX2_outcome_32 : decode cX2_outcome 32 = .ok (.aload_n 0, 1) := by decide +kernel
theorem dX2_outcome_33 : decode cX2_outcome 33 = .ok (.invokevirtual 43, 3) := by decide +kernel
theorem dX2_outcome_36 : decode cX2_outcome 36 = .ok (.iconst 0, 1) := by decide +kernel
theorem dX2_outcome_37 : decode cX2_outcome 37 = .ok (.invokevirtual 128, 3) := by decide +kernel
theorem dX2_outcome_40 : decode cX2_outcome 40 = .ok (.aload_n 0, 1) := by decide +kernel
theorem dX2_outcome_41 : decode cX2_outcome 41 = .ok (.invokevirtual 148, 3) := by decide +kernel
theorem dX2_outcome_44 : decode cX2_outcome 44 = .ok (.if_icmp .lt 7, 3) := by decide +kernel
theorem dX2_outcome_47 : decode cX2_outcome 47 = .ok (.iconst 1, 1) := by decide +kernel
theorem dX2_outcome_48 : decode cX2_outcome 48 = .ok (.iload_n 1, 1) := by decide +kernel
theorem dX2_outcome_49 : decode cX2_outcome 49 = .ok (.iadd, 1) := by decide +kernel
theorem dX2_outcome_50 : decode cX2_outcome 50 = .ok (.ireturn, 1) := by decide +kernel
theorem dX2_outcome_51 : decode cX2_outcome 51 = .ok (.aload_n 0, 1) := by decide +kernel
theorem dX2_outcome_52 : decode cX2_outcome 52 = .ok (.invokevirtual 43, 3) := by decide +kernel
theorem dX2_outcome_55 : decode cX2_outcome 55 = .ok (.iconst 0, 1) := by decide +kernel
theorem dX2_outcome_56 : decode cX2_outcome 56 = .ok (.invokevirtual 128, 3) := by decide +kernel
theorem dX2_outcome_59 : decode cX2_outcome 59 = .ok (.aload_n 0, 1) := by decide +kernel
theorem dX2_outcome_60 : decode cX2_outcome 60 = .ok (.invokevirtual 148, 3) := by decide +kernel
theorem dX2_outcome_63 : decode cX2_outcome 63 = .ok (.iconst 1, 1) := by decide +kernel
theorem dX2_outcome_64 : decode cX2_outcome 64 = .ok (.isub, 1) := by decide +kernel
theorem dX2_outcome_65 : decode cX2_outcome 65 = .ok (.if_icmp .ne 7, 3) := by decide +kernel
theorem dX2_outcome_68 : decode cX2_outcome 68 = .ok (.iconst 3, 1) := by decide +kernel
theorem dX2_outcome_69 : decode cX2_outcome 69 = .ok (.goto 6, 3) := by decide +kernel
theorem dX2_outcome_72 : decode cX2_outcome 72 = .ok (.iconst 2, 1) := by decide +kernel
theorem dX2_outcome_73 : decode cX2_outcome 73 = .ok (.iload_n 1, 1) := by decide +kernel
theorem dX2_outcome_74 : decode cX2_outcome 74 = .ok (.isub, 1) := by decide +kernel
theorem dX2_outcome_75 : decode cX2_outcome 75 = .ok (.ireturn, 1) := by decide +kernel
theorem dX2_numberOfPresent_0 : decode cX2_numberOfPresent 0 = .ok (.aload_n 0, 1) := by decide +kernel
theorem dX2_numberOfPresent_1 : decode cX2_numberOfPresent 1 = .ok (.invokevirtual 43, 3) := by decide +kernel
theorem dX2_numberOfPresent_4 : decode cX2_numberOfPresent 4 = .ok (.astore_n 2, 1) := by decide +kernel
theorem dX2_numberOfPresent_5 : decode cX2_numberOfPresent 5 = .ok (.iload_n 1, 1) := by decide +kernel
theorem dX2_numberOfPresent_6 : decode cX2_numberOfPresent 6 = .ok (.tableswitch 120 0 7 #[46, 51, 60, 65, 70, 99, 107, 112], 46) := by decide +kernel
theorem dX2_numberOfPresent_52 : decode cX2_numberOfPresent 52 = .ok (.aload_n 0, 1) := by decide +kernel
theorem dX2_numberOfPresent_53 : decode cX2_numberOfPresent 53 = .ok (.getfield 31, 3) := by decide +kernel
theorem dX2_numberOfPresent_56 : decode cX2_numberOfPresent 56 = .ok (.ireturn, 1) := by decide +kernel
theorem dX2_numberOfPresent_57 : decode cX2_numberOfPresent 57 = .ok (.aload_n 0, 1) := by decide +kernel
theorem dX2_numberOfPresent_58 : decode cX2_numberOfPresent 58 = .ok (.aload_n 0, 1) := by decide +kernel
theorem dX2_numberOfPresent_59 : decode cX2_numberOfPresent 59 = .ok (.getfield 31, 3) := by decide +kernel
theorem dX2_numberOfPresent_62 : decode cX2_numberOfPresent 62 = .ok (.invokevirtual 168, 3) := by decide +kernel
theorem dX2_numberOfPresent_65 : decode cX2_numberOfPresent 65 = .ok (.ireturn, 1) := by decide +kernel
theorem dX2_numberOfPresent_66 : decode cX2_numberOfPresent 66 = .ok (.aload_n 2, 1) := by decide +kernel
theorem dX2_numberOfPresent_67 : decode cX2_numberOfPresent 67 = .ok (.getfield 171, 3) := by decide +kernel
theorem dX2_numberOfPresent_70 : decode cX2_numberOfPresent 70 = .ok (.ireturn, 1) := by decide +kernel
theorem dX2_numberOfPresent_71 : decode cX2_numberOfPresent 71 = .ok (.aload_n 2, 1) := by decide +kernel
theorem dX2_numberOfPresent_72 : decode cX2_numberOfPresent 72 = .ok (.getfield 174, 3) := by decide +kernel
theorem dX2_numberOfPresent_75 : decode cX2_numberOfPresent 75 = .ok (.ireturn, 1) := by decide +kernel
theorem dX2_numberOfPresent_76 : decode cX2_numberOfPresent 76 = .ok (.aload_n 0, 1) := by decide +kernel
theorem dX2_numberOfPresent_77 : decode cX2_numberOfPresent 77 = .ok (.getfield 21, 3) := by decide +kernel
theorem dX2_numberOfPresent_80 : decode cX2_numberOfPresent 80 = .ok (.ifCond .eq 17, 3) := by decide +kernel
theorem dX2_numberOfPresent_83 : decode cX2_numberOfPresent 83 = .ok (.aload_n 2, 1) := by decide +kernel
theorem dX2_numberOfPresent_84 : decode cX2_numberOfPresent 84 = .ok (.getfield 95, 3) := by decide +kernel
theorem dX2_numberOfPresent_87 : decode cX2_numberOfPresent 87 = .ok (.getfield 177, 3) := by decide +kernel
theorem dX2_numberOfPresent_90 : decode cX2_numberOfPresent 90 = .ok (.ifCond .ne 7, 3) := by decide +kernel
theorem dX2_numberOfPresent_93 : decode cX2_numberOfPresent 93 = .ok (.iconst (-1), 1) := by decide +kernel
theorem dX2_numberOfPresent_94 : decode cX2_numberOfPresent 94 = .ok (.goto 10, 3) := by decide +kernel
theorem dX2_numberOfPresent_97 : decode cX2_numberOfPresent 97 = .ok (.aload_n 2, 1) := by decide +kernel
theorem dX2_numberOfPresent_98 : decode cX2_numberOfPresent 98 = .ok (.getfield 95, 3) := by decide +kernel
theorem dX2_numberOfPresent_101 : decode cX2_numberOfPresent 101 = .ok (.getfield 98, 3) := by decide +kernel
theorem dX2_numberOfPresent_104 : decode cX2_numberOfPresent 104 = .ok (.ireturn, 1) := by decide +kernel
theorem dX2_numberOfPresent_105 : decode cX2_numberOfPresent 105 = .ok (.aload_n 2, 1) := by decide +kernel
theorem dX2_numberOfPresent_106 : decode cX2_numberOfPresent 106 = .ok (.getfield 95, 3) := by decide +kernel
theorem dX2_numberOfPresent_109 : decode cX2_numberOfPresent 109 = .ok (.getfield 180, 3) := by decide +kernel
theorem dX2_numberOfPresent_112 : decode cX2_numberOfPresent 112 = .ok (.ireturn, 1) := by decide +kernel
theorem dX2_numberOfPresent_113 : decode cX2_numberOfPresent 113 = .ok (.aload_n 2, 1) := by decide +kernel
theorem dX2_numberOfPresent_114 : decode cX2_numberOfPresent 114 = .ok (.invokevirtual 183, 3) := by decide +kernel
theorem dX2_numberOfPresent_117 : decode cX2_numberOfPresent 117 = .ok (.ireturn, 1) := by decide +kernel
theorem dX2_numberOfPresent_118 : decode cX2_numberOfPresent 118 = .ok (.aload_n 2, 1) := by decide +kernel
theorem dX2_numberOfPresent_119 : decode cX2_numberOfPresent 119 = .ok (.getfield 95, 3) := by decide +kernel
theorem dX2_numberOfPresent_122 : decode cX2_numberOfPresent 122 = .ok (.getfield 154, 3) := by decide +kernel
theorem dX2_numberOfPresent_125 : decode cX2_numberOfPresent 125 = .ok (.ireturn, 1) := by decide +kernel
theorem dX2_numberOfPresent_126 : decode cX2_numberOfPresent 126 = .ok (.aload_n 2, 1) := by decide +kernel
theorem dX2_numberOfPresent_127 : decode cX2_numberOfPresent 127 = .ok (.getfield 157, 3) := by decide +kernel
theorem dX2_numberOfPresent_130 : decode cX2_numberOfPresent 130 = .ok (.ireturn, 1) := by decide +kernel
theorem dX2_isLike_0 : decode cX2_isLike 0 = .ok (.aload_n 0, 1) := by decide +kernel
theorem dX2_isLike_1 : decode cX2_isLike 1 = .ok (.getfield 17, 3) := by decide +kernel
theorem dX2_isLike_4 : decode cX2_isLike 4 = .ok (.aload_n 1, 1) := by decide +kernel
theorem dX2_isLike_5 : decode cX2_isLike 5 = .ok (.getfield 17, 3) := by decide +kernel
theorem dX2_isLike_8 : decode cX2_isLike 8 = .ok (.if_icmp .ne 47, 3) := by decide +kernel
theorem dX2_isLike_11 : decode cX2_isLike 11 = .ok (.aload_n 0, 1) := by decide +kernel
theorem dX2_isLike_12 : decode cX2_isLike 12 = .ok (.getfield 21, 3) := by decide +kernel
theorem dX2_isLike_15 : decode cX2_isLike 15 = .ok (.aload_n 1, 1) := by decide +kernel
theorem dX2_isLike_16 : decode cX2_isLike 16 = .ok (.getfield 21, 3) := by decide +kernel
theorem dX2_isLike_19 : decode cX2_isLike 19 = .ok (.if_icmp .ne 36, 3) := by decide +kernel
theorem dX2_isLike_22 : decode cX2_isLike 22 = .ok (.aload_n 0, 1) := by decide +kernel
theorem dX2_isLike_23 : decode cX2_isLike 23 = .ok (.getfield 24, 3) := by decide +kernel
theorem dX2_isLike_26 : decode cX2_isLike 26 = .ok (.aload_n 1, 1) := by decide +kernel
theorem dX2_isLike_27 : decode cX2_isLike 27 = .ok (.getfield 24, 3) := by decide +kernel
theorem dX2_isLike_30 : decode cX2_isLike 30 = .ok (.if_icmp .ne 25, 3) := by decide +kernel
theorem dX2_isLike_33 : decode cX2_isLike 33 = .ok (.aload_n 0, 1) := by decide +kernel
theorem dX2_isLike_34 : decode cX2_isLike 34 = .ok (.getfield 28, 3) := by decide +kernel
theorem dX2_isLike_37 : decode cX2_isLike 37 = .ok (.aload_n 1, 1) := by decide +kernel
theorem dX2_isLike_38 : decode cX2_isLike 38 = .ok (.getfield 28, 3) := by decide +kernel
theorem dX2_isLike_41 : decode cX2_isLike 41 = .ok (.if_icmp .ne 14, 3) := by decide +kernel
theorem dX2_isLike_44 : decode cX2_isLike 44 = .ok (.aload_n 0, 1) := by decide +kernel
theorem dX2_isLike_45 : decode cX2_isLike 45 = .ok (.getfield 31, 3) := by decide +kernel
theorem dX2_isLike_48 : decode cX2_isLike 48 = .ok (.aload_n 1, 1) := by decide +kernel
theorem dX2_isLike_49 : decode cX2_isLike 49 = .ok (.getfield 31, 3) := by decide +kernel
theorem dX2_isLike_52 : decode cX2_isLike 52 = .ok (.if_icmp .eq 5, 3) := by decide +kernel
theorem dX2_isLike_55 : decode cX2_isLike 55 = .ok (.iconst 0, 1) := by decide +kernel
theorem dX2_isLike_56 : decode cX2_isLike 56 = .ok (.ireturn, 1) := by decide +kernel
theorem dX2_isLike_57 : decode cX2_isLike 57 = .ok (.iconst 0, 1) := by decide +kernel
theorem dX2_isLike_58 : decode cX2_isLike 58 = .ok (.istore_n 2, 1) := by decide +kernel
theorem dX2_isLike_59 : decode cX2_isLike 59 = .ok (.iload_n 2, 1) := by decide +kernel
theorem dX2_isLike_60 : decode cX2_isLike 60 = .ok (.aload_n 0, 1) := by decide +kernel
theorem dX2_isLike_61 : decode cX2_isLike 61 = .ok (.getfield 31, 3) := by decide +kernel
theorem dX2_isLike_64 : decode cX2_isLike 64 = .ok (.if_icmp .gt 27, 3) := by decide +kernel
theorem dX2_isLike_67 : decode cX2_isLike 67 = .ok (.aload_n 0, 1) := by decide +kernel
theorem dX2_isLike_68 : decode cX2_isLike 68 = .ok (.iload_n 2, 1) := by decide +kernel
theorem dX2_isLike_69 : decode cX2_isLike 69 = .ok (.invokevirtual 77, 3) := by decide +kernel
theorem dX2_isLike_72 : decode cX2_isLike 72 = .ok (.aload_n 1, 1) := by decide +kernel
theorem dX2_isLike_73 : decode cX2_isLike 73 = .ok (.iload_n 2, 1) := by decide +kernel
theorem dX2_isLike_74 : decode cX2_isLike 74 = .ok (.invokevirtual 77, 3) := by decide +kernel
theorem dX2_isLike_77 : decode cX2_isLike 77 = .ok (.invokevirtual 186, 3) := by decide +kernel
theorem dX2_isLike_80 : decode cX2_isLike 80 = .ok (.ifCond .ne 5, 3) := by decide +kernel
theorem dX2_isLike_83 : decode cX2_isLike 83 = .ok (.iconst 0, 1) := by decide +kernel
theorem dX2_isLike_84 : decode cX2_isLike 84 = .ok (.ireturn, 1) := by decide +kernel
theorem dX2_isLike_85 : decode cX2_isLike 85 = .ok (.iinc 2 1, 3) := by decide +kernel
theorem dX2_isLike_88 : decode cX2_isLike 88 = .ok (.goto (-29), 3) := by decide +kernel
theorem dX2_isLike_91 : decode cX2_isLike 91 = .ok (.iconst 1, 1) := by decide +kernel
theorem dX2_isLike_92 : decode cX2_isLike 92 = .ok (.ireturn, 1) := by decide +kernel
