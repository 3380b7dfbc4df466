theorem dX6_init_0 : decode cX6_init 0 = .ok (.aload_n 0, 1) := by decide +kernel
theorem dX6_init_1 : decode cX6_init 1 = .ok (.invokespecial 1, 3) := by decide +kernel
theorem dX6_init_4 : decode cX6_init 4 = .ok (.aload_n 0, 1) := by decide +kernel
theorem dX6_init_5 : decode cX6_init 5 = .ok (.iconst 0, 1) := by decide +kernel
theorem dX6_init_6 : decode cX6_init 6 = .ok (.putfield 7, 3) := by decide +kernel
theorem dX6_init_9 : decode cX6_init 9 = .ok (.aload_n 0, 1) := by decide +kernel
theorem dX6_init_10 : decode cX6_init 10 = .ok (.iload_n 2, 1) := by decide +kernel
theorem dX6_init_11 : decode cX6_init 11 = .ok (.putfield 13, 3) := by decide +kernel
theorem dX6_init_14 : decode cX6_init 14 = .ok (.aload_n 0, 1) := by decide +kernel
theorem dX6_init_15 : decode cX6_init 15 = .ok (.iconst 0, 1) := by decide +kernel
theorem dX6_init_16 : decode cX6_init 16 = .ok (.iload_n 1, 1) := by decide +kernel
theorem dX6_init_17 : decode cX6_init 17 = .ok (.iload_n 2, 1) := by decide +kernel
theorem dX6_init_18 : decode cX6_init 18 = .ok (.imul, 1) := by decide +kernel
theorem dX6_init_19 : decode cX6_init 19 = .ok (.invokestatic 16, 3) := by decide +kernel
theorem dX6_init_22 : decode cX6_init 22 = .ok (.newarray .int, 2) := by decide +kernel
theorem dX6_init_24 : decode cX6_init 24 = .ok (.putfield 22, 3) := by decide +kernel
theorem dX6_init_27 : decode cX6_init 27 = .ok (.return_, 1) := by decide +kernel
theorem dX6_restart_0 : decode cX6_restart 0 = .ok (.aload_n 0, 1) := by decide +kernel
theorem dX6_restart_1 : decode cX6_restart 1 = .ok (.iconst 0, 1) := by decide +kernel
theorem dX6_restart_2 : decode cX6_restart 2 = .ok (.putfield 7, 3) := by decide +kernel
theorem dX6_restart_5 : decode cX6_restart 5 = .ok (.iconst 0, 1) := by decide +kernel
theorem dX6_restart_6 : decode cX6_restart 6 = .ok (.istore_n 2, 1) := by decide +kernel
theorem dX6_restart_7 : decode cX6_restart 7 = .ok (.iload_n 2, 1) := by decide +kernel
theorem dX6_restart_8 : decode cX6_restart 8 = .ok (.iload_n 1, 1) := by decide +kernel
theorem dX6_restart_9 : decode cX6_restart 9 = .ok (.if_icmp .ge 13, 3) := by decide +kernel
theorem dX6_restart_12 : decode cX6_restart 12 = .ok (.aload_n 0, 1) := by decide +kernel
theorem dX6_restart_13 : decode cX6_restart 13 = .ok (.invokevirtual 26, 3) := by decide +kernel
theorem dX6_restart_16 : decode cX6_restart 16 = .ok (.iinc 2 1, 3) := by decide +kernel
theorem dX6_restart_19 : decode cX6_restart 19 = .ok (.goto (-12), 3) := by decide +kernel
theorem dX6_restart_22 : decode cX6_restart 22 = .ok (.return_, 1) := by decide +kernel
theorem dX6_addRow_0 : decode cX6_addRow 0 = .ok (.aload_n 0, 1) := by decide +kernel
theorem dX6_addRow_1 : decode cX6_addRow 1 = .ok (.getfield 7, 3) := by decide +kernel
theorem dX6_addRow_4 : decode cX6_addRow 4 = .ok (.aload_n 0, 1) := by decide +kernel
theorem dX6_addRow_5 : decode cX6_addRow 5 = .ok (.getfield 13, 3) := by decide +kernel
theorem dX6_addRow_8 : decode cX6_addRow 8 = .ok (.imul, 1) := by decide +kernel
theorem dX6_addRow_9 : decode cX6_addRow 9 = .ok (.istore_n 1, 1) := by decide +kernel
theorem dX6_addRow_10 : decode cX6_addRow 10 = .ok (.iload_n 1, 1) := by decide +kernel
theorem dX6_addRow_11 : decode cX6_addRow 11 = .ok (.ifCond .lt 17, 3) := by decide +kernel
theorem dX6_addRow_14 : decode cX6_addRow 14 = .ok (.iload_n 1, 1) := by decide +kernel
theorem dX6_addRow_15 : decode cX6_addRow 15 = .ok (.aload_n 0, 1) := by decide +kernel
theorem dX6_addRow_16 : decode cX6_addRow 16 = .ok (.getfield 13, 3) := by decide +kernel
theorem dX6_addRow_19 : decode cX6_addRow 19 = .ok (.iadd, 1) := by decide +kernel
theorem dX6_addRow_20 : decode cX6_addRow 20 = .ok (.aload_n 0, 1) := by decide +kernel
theorem dX6_addRow_21 : decode cX6_addRow 21 = .ok (.getfield 22, 3) := by decide +kernel
theorem dX6_addRow_24 : decode cX6_addRow 24 = .ok (.arraylength, 1) := by decide +kernel
theorem dX6_addRow_25 : decode cX6_addRow 25 = .ok (.if_icmp .le 4, 3) := by decide +kernel
theorem dX6_addRow_28 : decode cX6_addRow 28 = .ok (.return_, 1) := by decide +kernel
theorem dX6_addRow_29 : decode cX6_addRow 29 = .ok (.aload_n 0, 1) := by decide +kernel
theorem dX6_addRow_30 : decode cX6_addRow 30 = .ok (.dup, 1) := by decide +kernel
theorem dX6_addRow_31 : decode cX6_addRow 31 = .ok (.getfield 7, 3) := by decide +kernel
theorem dX6_addRow_34 : decode cX6_addRow 34 = .ok (.iconst 1, 1) := by decide +kernel
theorem dX6_addRow_35 : decode cX6_addRow 35 = .ok (.iadd, 1) := by decide +kernel
theorem dX6_addRow_36 : decode cX6_addRow 36 = .ok (.putfield 7, 3) := by decide +kernel
theorem dX6_addRow_39 : decode cX6_addRow 39 = .ok (.iload_n 1, 1) := by decide +kernel
theorem dX6_addRow_40 : decode cX6_addRow 40 = .ok (.istore_n 2, 1) := by decide +kernel
theorem dX6_addRow_41 : decode cX6_addRow 41 = .ok (.iload_n 2, 1) := by decide +kernel
theorem dX6_addRow_42 : decode cX6_addRow 42 = .ok (.iload_n 1, 1) := by decide +kernel
theorem dX6_addRow_43 : decode cX6_addRow 43 = .ok (.aload_n 0, 1) := by decide +kernel
theorem dX6_addRow_44 : decode cX6_addRow 44 = .ok (.getfield 13, 3) := by decide +kernel
theorem dX6_addRow_47 : decode cX6_addRow 47 = .ok (.iadd, 1) := by decide +kernel
theorem dX6_addRow_48 : decode cX6_addRow 48 = .ok (.if_icmp .ge 16, 3) := by decide +kernel
theorem dX6_addRow_51 : decode cX6_addRow 51 = .ok (.aload_n 0, 1) := by decide +kernel
theorem dX6_addRow_52 : decode cX6_addRow 52 = .ok (.getfield 22, 3) := by decide +kernel
theorem dX6_addRow_55 : decode cX6_addRow 55 = .ok (.iload_n 2, 1) := by decide +kernel
theorem dX6_addRow_56 : decode cX6_addRow 56 = .ok (.iconst 0, 1) := by decide +kernel
theorem dX6_addRow_57 : decode cX6_addRow 57 = .ok (.iastore, 1) := by decide +kernel
theorem dX6_addRow_58 : decode cX6_addRow 58 = .ok (.iinc 2 1, 3) := by decide +kernel
theorem dX6_addRow_61 : decode cX6_addRow 61 = .ok (.goto (-20), 3) := by decide +kernel
theorem dX6_addRow_64 : decode cX6_addRow 64 = .ok (.return_, 1) := by decide +kernel
theorem dX6_lastRow_0 : decode cX6_lastRow 0 = .ok (.aload_n 0, 1) := by decide +kernel
theorem dX6_lastRow_1 : decode cX6_lastRow 1 = .ok (.getfield 7, 3) := by decide +kernel
theorem dX6_lastRow_4 : decode cX6_lastRow 4 = .ok (.iconst 1, 1) := by decide +kernel
theorem dX6_lastRow_5 : decode cX6_lastRow 5 = .ok (.isub, 1) := by decide +kernel
theorem dX6_lastRow_6 : decode cX6_lastRow 6 = .ok (.ireturn, 1) := by decide +kernel
theorem dX6_hasRow_0 : decode cX6_hasRow 0 = .ok (.iload_n 1, 1) := by decide +kernel
theorem dX6_hasRow_1 : decode cX6_hasRow 1 = .ok (.ifCond .lt 15, 3) := by decide +kernel
theorem dX6_hasRow_4 : decode cX6_hasRow 4 = .ok (.iload_n 1, 1) := by decide +kernel
theorem dX6_hasRow_5 : decode cX6_hasRow 5 = .ok (.aload_n 0, 1) := by decide +kernel
theorem dX6_hasRow_6 : decode cX6_hasRow 6 = .ok (.getfield 7, 3) := by decide +kernel
theorem dX6_hasRow_9 : decode cX6_hasRow 9 = .ok (.if_icmp .ge 7, 3) := by decide +kernel
theorem dX6_hasRow_12 : decode cX6_hasRow 12 = .ok (.iconst 1, 1) := by decide +kernel
theorem dX6_hasRow_13 : decode cX6_hasRow 13 = .ok (.goto 4, 3) := by decide +kernel
theorem dX6_hasRow_16 : decode cX6_hasRow 16 = .ok (.iconst 0, 1) := by decide +kernel
theorem dX6_hasRow_17 : decode cX6_hasRow 17 = .ok (.ireturn, 1) := by decide +kernel
theorem dX6_hasColumn_0 : decode cX6_hasColumn 0 = .ok (.iload_n 1, 1) := by decide +kernel
theorem dX6_hasColumn_1 : decode cX6_hasColumn 1 = .ok (.ifCond .lt 15, 3) := by decide +kernel
theorem dX6_hasColumn_4 : decode cX6_hasColumn 4 = .ok (.iload_n 1, 1) := by decide +kernel
theorem dX6_hasColumn_5 : decode cX6_hasColumn 5 = .ok (.aload_n 0, 1) := by decide +kernel
theorem dX6_hasColumn_6 : decode cX6_hasColumn 6 = .ok (.getfield 13, 3) := by decide +kernel
theorem dX6_hasColumn_9 : decode cX6_hasColumn 9 = .ok (.if_icmp .ge 7, 3) := by decide +kernel
theorem dX6_hasColumn_12 : decode cX6_hasColumn 12 = .ok (.iconst 1, 1) := by decide +kernel
theorem dX6_hasColumn_13 : decode cX6_hasColumn 13 = .ok (.goto 4, 3) := by decide +kernel
theorem dX6_hasColumn_16 : decode cX6_hasColumn 16 = .ok (.iconst 0, 1) := by decide +kernel
theorem dX6_hasColumn_17 : decode cX6_hasColumn 17 = .ok (.ireturn, 1) := by decide +kernel
theorem dX6_get_0 : decode cX6_get 0 = .ok (.iload_n 1, 1) := by decide +kernel
theorem dX6_get_1 : decode cX6_get 1 = .ok (.aload_n 0, 1) := by decide +kernel
theorem dX6_get_2 : decode cX6_get 2 = .ok (.getfield 13, 3) := by decide +kernel
theorem dX6_get_5 : decode cX6_get 5 = .ok (.imul, 1) := by decide +kernel
theorem dX6_get_6 : decode cX6_get 6 = .ok (.iload_n 2, 1) := by decide +kernel
theorem dX6_get_7 : decode cX6_get 7 = .ok (.iadd, 1) := by decide +kernel
theorem dX6_get_8 : decode cX6_get 8 = .ok (.istore_n 3, 1) := by decide +kernel
theorem dX6_get_9 : decode cX6_get 9 = .ok (.iload_n 1, 1) := by decide +kernel
theorem dX6_get_10 : decode cX6_get 10 = .ok (.ifCond .lt 27, 3) := by decide +kernel
theorem dX6_get_13 : decode cX6_get 13 = .ok (.iload_n 1, 1) := by decide +kernel
theorem dX6_get_14 : decode cX6_get 14 = .ok (.aload_n 0, 1) := by decide +kernel
theorem dX6_get_15 : decode cX6_get 15 = .ok (.getfield 7, 3) := by decide +kernel
theorem dX6_get_18 : decode cX6_get 18 = .ok (.if_icmp .ge 19, 3) := by decide +kernel
theorem dX6_get_21 : decode cX6_get 21 = .ok (.iload_n 2, 1) := by decide +kernel
theorem dX6_get_22 : decode cX6_get 22 = .ok (.ifCond .lt 15, 3) := by decide +kernel
theorem dX6_get_25 : decode cX6_get 25 = .ok (.iload_n 2, 1) := by decide +kernel
theorem dX6_get_26 : decode cX6_get 26 = .ok (.aload_n 0, 1) := by decide +kernel
theorem dX6_get_27 : decode cX6_get 27 = .ok (.getfield 13, 3) := by decide +kernel
theorem dX6_get_30 : decode cX6_get 30 = .ok (.if_icmp .ge 7, 3) := by decide +kernel
theorem dX6_get_33 : decode cX6_get 33 = .ok (.iconst 1, 1) := by decide +kernel
theorem dX6_get_34 : decode cX6_get 34 = .ok (.goto 4, 3) := by decide +kernel
theorem dX6_get_37 : decode cX6_get 37 = .ok (.iconst 0, 1) := by decide +kernel
theorem dX6_get_38 : decode cX6_get 38 = .ok (.istore 4, 2) := by decide +kernel
theorem dX6_get_40 : decode cX6_get 40 = .ok (.iload 4, 2) := by decide +kernel
theorem dX6_get_42 : decode cX6_get 42 = .ok (.ifCond .eq 25, 3) := by decide +kernel
theorem dX6_get_45 : decode cX6_get 45 = .ok (.iload_n 3, 1) := by decide +kernel
theorem dX6_get_46 : decode cX6_get 46 = .ok (.ifCond .lt 21, 3) := by decide +kernel
theorem dX6_get_49 : decode cX6_get 49 = .ok (.iload_n 3, 1) := by decide +kernel
theorem dX6_get_50 : decode cX6_get 50 = .ok (.aload_n 0, 1) := by decide +kernel
theorem dX6_get_51 : decode cX6_get 51 = .ok (.getfield 22, 3) := by decide +kernel
theorem dX6_get_54 : decode cX6_get 54 = .ok (.arraylength, 1) := by decide +kernel
theorem dX6_get_55 : decode cX6_get 55 = .ok (.if_icmp .ge 12, 3) := by decide +kernel
theorem dX6_get_58 : decode cX6_get 58 = .ok (.aload_n 0, 1) := by decide +kernel
theorem dX6_get_59 : decode cX6_get 59 = .ok (.getfield 22, 3) := by decide +kernel
theorem dX6_get_62 : decode cX6_get 62 = .ok (.iload_n 3, 1) := by decide +kernel
theorem dX6_get_63 : decode cX6_get 63 = .ok (.iaload, 1) := by decide +kernel
theorem dX6_get_64 : decode cX6_get 64 = .ok (.goto 4, 3) := by decide +kernel
theorem dX6_get_67 : decode cX6_get 67 = .ok (.iconst 0, 1) := by decide +kernel
theorem dX6_get_68 : decode cX6_get 68 = .ok (.ireturn, 1) := by decide +kernel
theorem dX6_set_0 : decode cX6_set 0 = .ok (.iload_n 1, 1) := by decide +kernel
theorem dX6_set_1 : decode cX6_set 1 = .ok (.aload_n 0, 1) := by decide +kernel
theorem dX6_set_2 : decode cX6_set 2 = .ok (.getfield 13, 3) := by decide +kernel
theorem dX6_set_5 : decode cX6_set 5 = .ok (.imul, 1) := by decide +kernel
theorem dX6_set_6 : decode cX6_set 6 = .ok (.iload_n 2, 1) := by decide +kernel
theorem dX6_set_7 : decode cX6_set 7 = .ok (.iadd, 1) := by decide +kernel
theorem dX6_set_8 : decode cX6_set 8 = .ok (.istore 4, 2) := by decide +kernel
theorem dX6_set_10 : decode cX6_set 10 = .ok (.iload_n 1, 1) := by decide +kernel
theorem dX6_set_11 : decode cX6_set 11 = .ok (.ifCond .lt 27, 3) := by decide +kernel
theorem dX6_set_14 : decode cX6_set 14 = .ok (.iload_n 1, 1) := by decide +kernel
theorem dX6_set_15 : decode cX6_set 15 = .ok (.aload_n 0, 1) := by decide +kernel
theorem dX6_set_16 : decode cX6_set 16 = .ok (.getfield 7, 3) := by decide +kernel
theorem dX6_set_19 : decode cX6_set 19 = .ok (.if_icmp .ge 19, 3) := by decide +kernel
theorem dX6_set_22 : decode cX6_set 22 = .ok (.iload_n 2, 1) := by decide +kernel
theorem dX6_set_23 : decode cX6_set 23 = .ok (.ifCond .lt 15, 3) := by decide +kernel
theorem dX6_set_26 : decode cX6_set 26 = .ok (.iload_n 2, 1) := by decide +kernel
theorem dX6_set_27 : decode cX6_set 27 = .ok (.aload_n 0, 1) := by decide +kernel
theorem dX6_set_28 : decode cX6_set 28 = .ok (.getfield 13, 3) := by decide +kernel
theorem dX6_set_31 : decode cX6_set 31 = .ok (.if_icmp .ge 7, 3) := by decide +kernel
theorem dX6_set_34 : decode cX6_set 34 = .ok (.iconst 1, 1) := by decide +kernel
theorem dX6_set_35 : decode cX6_set 35 = .ok (.goto 4, 3) := by decide +kernel
theorem dX6_set_38 : decode cX6_set 38 = .ok (.iconst 0, 1) := by decide +kernel
theorem dX6_set_39 : decode cX6_set 39 = .ok (.istore 5, 2) := by decide +kernel
theorem dX6_set_41 : decode cX6_set 41 = .ok (.iload 5, 2) := by decide +kernel
theorem dX6_set_43 : decode cX6_set 43 = .ok (.ifCond .eq 26, 3) := by decide +kernel
theorem dX6_set_46 : decode cX6_set 46 = .ok (.iload 4, 2) := by decide +kernel
theorem dX6_set_48 : decode cX6_set 48 = .ok (.ifCond .lt 21, 3) := by decide +kernel
theorem dX6_set_51 : decode cX6_set 51 = .ok (.iload 4, 2) := by decide +kernel
theorem dX6_set_53 : decode cX6_set 53 = .ok (.aload_n 0, 1) := by decide +kernel
theorem dX6_set_54 : decode cX6_set 54 = .ok (.getfield 22, 3) := by decide +kernel
theorem dX6_set_57 : decode cX6_set 57 = .ok (.arraylength, 1) := by decide +kernel
theorem dX6_set_58 : decode cX6_set 58 = .ok (.if_icmp .ge 11, 3) := by decide +kernel
theorem dX6_set_61 : decode cX6_set 61 = .ok (.aload_n 0, 1) := by decide +kernel
theorem dX6_set_62 : decode cX6_set 62 = .ok (.getfield 22, 3) := by decide +kernel
theorem dX6_set_65 : decode cX6_set 65 = .ok (.iload 4, 2) := by decide +kernel
theorem dX6_set_67 : decode cX6_set 67 = .ok (.iload_n 3, 1) := by decide +kernel
theorem dX6_set_68 : decode cX6_set 68 = .ok (.iastore, 1) := by decide +kernel
theorem dX6_set_69 : decode cX6_set 69 = .ok (.return_, 1) := by decide +kernel
theorem dX6_increase_0 : decode cX6_increase 0 = .ok (.iload_n 1, 1) := by decide +kernel
theorem dX6_increase_1 : decode cX6_increase 1 = .ok (.aload_n 0, 1) := by decide +kernel
theorem dX6_increase_2 : decode cX6_increase 2 = .ok (.getfield 13, 3) := by decide +kernel
theorem dX6_increase_5 : decode cX6_increase 5 = .ok (.imul, 1) := by decide +kernel
theorem dX6_increase_6 : decode cX6_increase 6 = .ok (.iload_n 2, 1) := by decide +kernel
theorem dX6_increase_7 : decode cX6_increase 7 = .ok (.iadd, 1) := by decide +kernel
theorem dX6_increase_8 : decode cX6_increase 8 = .ok (.istore 4, 2) := by decide +kernel
theorem dX6_increase_10 : decode cX6_increase 10 = .ok (.iload_n 1, 1) := by decide +kernel
theorem dX6_increase_11 : decode cX6_increase 11 = .ok (.ifCond .lt 27, 3) := by decide +kernel
theorem dX6_increase_14 : decode cX6_increase 14 = .ok (.iload_n 1, 1) := by decide +kernel
theorem dX6_increase_15 : decode cX6_increase 15 = .ok (.aload_n 0, 1) := by decide +kernel
theorem dX6_increase_16 : decode cX6_increase 16 = .ok (.getfield 7, 3) := by decide +kernel
theorem dX6_increase_19 : decode cX6_increase 19 = .ok (.if_icmp .ge 19, 3) := by decide +kernel
theorem dX6_increase_22 : decode cX6_increase 22 = .ok (.iload_n 2, 1) := by decide +kernel
theorem dX6_increase_23 : decode cX6_increase 23 = .ok (.ifCond .lt 15, 3) := by decide +kernel
theorem dX6_increase_26 : decode cX6_increase 26 = .ok (.iload_n 2, 1) := by decide +kernel
theorem dX6_increase_27 : decode cX6_increase 27 = .ok (.aload_n 0, 1) := by decide +kernel
theorem dX6_increase_28 : decode cX6_increase 28 = .ok (.getfield 13, 3) := by decide +kernel
theorem dX6_increase_31 : decode cX6_increase 31 = .ok (.if_icmp .ge 7, 3) := by decide +kernel
theorem dX6_increase_34 : decode cX6_increase 34 = .ok (.iconst 1, 1) := by decide +kernel
theorem dX6_increase_35 : decode cX6_increase 35 = .ok (.goto 4, 3) := by decide +kernel
theorem dX6_increase_38 : decode cX6_increase 38 = .ok (.iconst 0, 1) := by decide +kernel
theorem dX6_increase_39 : decode cX6_increase 39 = .ok (.istore 5, 2) := by decide +kernel
theorem dX6_increase_41 : decode cX6_increase 41 = .ok (.iload 5, 2) := by decide +kernel
theorem dX6_increase_43 : decode cX6_increase 43 = .ok (.ifCond .eq 29, 3) := by decide +kernel
theorem dX6_increase_46 : decode cX6_increase 46 = .ok (.iload 4, 2) := by decide +kernel
theorem dX6_increase_48 : decode cX6_increase 48 = .ok (.ifCond .lt 24, 3) := by decide +kernel
theorem dX6_increase_51 : decode cX6_increase 51 = .ok (.iload 4, 2) := by decide +kernel
theorem dX6_increase_53 : decode cX6_increase 53 = .ok (.aload_n 0, 1) := by decide +kernel
theorem dX6_increase_54 : decode cX6_increase 54 = .ok (.getfield 22, 3) := by decide +kernel
theorem dX6_increase_57 : decode cX6_increase 57 = .ok (.arraylength, 1) := by decide +kernel
theorem dX6_increase_58 : decode cX6_increase 58 = .ok (.if_icmp .ge 14, 3) := by decide +kernel
theorem dX6_increase_61 : decode cX6_increase 61 = .ok (.aload_n 0, 1) := by decide +kernel
theorem dX6_increase_62 : decode cX6_increase 62 = .ok (.getfield 22, 3) := by decide +kernel
theorem dX6_increase_65 : decode cX6_increase 65 = .ok (.iload 4, 2) := by decide +kernel
theorem dX6_increase_67 : decode cX6_increase 67 = .ok (.dup2, 1) := by decide +kernel
theorem dX6_increase_68 : decode cX6_increase 68 = .ok (.iaload, 1) := by decide +kernel
theorem dX6_increase_69 : decode cX6_increase 69 = .ok (.iload_n 3, 1) := by decide +kernel
theorem dX6_increase_70 : decode cX6_increase 70 = .ok (.iadd, 1) := by decide +kernel
theorem dX6_increase_71 : decode cX6_increase 71 = .ok (.iastore, 1) := by decide +kernel
theorem dX6_increase_72 : decode cX6_increase 72 = .ok (.return_, 1) := by decide +kernel
theorem dX6_isLike_0 : decode cX6_isLike 0 = .ok (.aload_n 0, 1) := by decide +kernel
theorem dX6_isLike_1 : decode cX6_isLike 1 = .ok (.getfield 7, 3) := by decide +kernel
theorem dX6_isLike_4 : decode cX6_isLike 4 = .ok (.aload_n 1, 1) := by decide +kernel
theorem dX6_isLike_5 : decode cX6_isLike 5 = .ok (.getfield 7, 3) := by decide +kernel
theorem dX6_isLike_8 : decode cX6_isLike 8 = .ok (.if_icmp .ne 14, 3) := by decide +kernel
theorem dX6_isLike_11 : decode cX6_isLike 11 = .ok (.aload_n 0, 1) := by decide +kernel
theorem dX6_isLike_12 : decode cX6_isLike 12 = .ok (.getfield 13, 3) := by decide +kernel
theorem dX6_isLike_15 : decode cX6_isLike 15 = .ok (.aload_n 1, 1) := by decide +kernel
theorem dX6_isLike_16 : decode cX6_isLike 16 = .ok (.getfield 13, 3) := by decide +kernel
theorem dX6_isLike_19 : decode cX6_isLike 19 = .ok (.if_icmp .eq 5, 3) := by decide +kernel
theorem dX6_isLike_22 : decode cX6_isLike 22 = .ok (.iconst 0, 1) := by decide +kernel
theorem dX6_isLike_23 : decode cX6_isLike 23 = .ok (.ireturn, 1) := by decide +kernel
theorem dX6_isLike_24 : decode cX6_isLike 24 = .ok (.iconst 0, 1) := by decide +kernel
theorem dX6_isLike_25 : decode cX6_isLike 25 = .ok (.istore_n 2, 1) := by decide +kernel
theorem dX6_isLike_26 : decode cX6_isLike 26 = .ok (.iload_n 2, 1) := by decide +kernel
theorem dX6_isLike_27 : decode cX6_isLike 27 = .ok (.aload_n 0, 1) := by decide +kernel
theorem dX6_isLike_28 : decode cX6_isLike 28 = .ok (.getfield 7, 3) := by decide +kernel
theorem dX6_isLike_31 : decode cX6_isLike 31 = .ok (.if_icmp .ge 42, 3) := by decide +kernel
theorem dX6_isLike_34 : decode cX6_isLike 34 = .ok (.iconst 0, 1) := by decide +kernel
theorem dX6_isLike_35 : decode cX6_isLike 35 = .ok (.istore_n 3, 1) := by decide +kernel
theorem dX6_isLike_36 : decode cX6_isLike 36 = .ok (.iload_n 3, 1) := by decide +kernel
theorem dX6_isLike_37 : decode cX6_isLike 37 = .ok (.aload_n 0, 1) := by decide +kernel
theorem dX6_isLike_38 : decode cX6_isLike 38 = .ok (.getfield 13, 3) := by decide +kernel
theorem dX6_isLike_41 : decode cX6_isLike 41 = .ok (.if_icmp .ge 26, 3) := by decide +kernel
theorem dX6_isLike_44 : decode cX6_isLike 44 = .ok (.aload_n 0, 1) := by decide +kernel
theorem dX6_isLike_45 : decode cX6_isLike 45 = .ok (.iload_n 2, 1) := by decide +kernel
theorem dX6_isLike_46 : decode cX6_isLike 46 = .ok (.iload_n 3, 1) := by decide +kernel
theorem dX6_isLike_47 : decode cX6_isLike 47 = .ok (.invokevirtual 29, 3) := by decide +kernel
theorem dX6_isLike_50 : decode cX6_isLike 50 = .ok (.aload_n 1, 1) := by decide +kernel
theorem dX6_isLike_51 : decode cX6_isLike 51 = .ok (.iload_n 2, 1) := by decide +kernel
theorem dX6_isLike_52 : decode cX6_isLike 52 = .ok (.iload_n 3, 1) := by decide +kernel
theorem dX6_isLike_53 : decode cX6_isLike 53 = .ok (.invokevirtual 29, 3) := by decide +kernel
theorem dX6_isLike_56 : decode cX6_isLike 56 = .ok (.if_icmp .eq 5, 3) := by decide +kernel
theorem dX6_isLike_59 : decode cX6_isLike 59 = .ok (.iconst 0, 1) := by decide +kernel
theorem dX6_isLike_60 : decode cX6_isLike 60 = .ok (.ireturn, 1) := by decide +kernel
theorem dX6_isLike_61 : decode cX6_isLike 61 = .ok (.iinc 3 1, 3) := by decide +kernel
theorem dX6_isLike_64 : decode cX6_isLike 64 = .ok (.goto (-28), 3) := by decide +kernel
theorem dX6_isLike_67 : decode cX6_isLike 67 = .ok (.iinc 2 1, 3) := by decide +kernel
theorem dX6_isLike_70 : decode cX6_isLike 70 = .ok (.goto (-44), 3) := by decide +kernel
theorem dX6_isLike_73 : decode cX6_isLike 73 = .ok (.iconst 1, 1) := by decide +kernel
theorem dX6_isLike_74 : decode cX6_isLike 74 = .ok (.ireturn, 1) := by decide +kernel
