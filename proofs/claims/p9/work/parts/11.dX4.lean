theorem dX4_init_0 : decode cX4_init 0 = .ok (.aload_n 0, 1) := by decide +kernel
theorem dX4_init_1 : decode cX4_init 1 = .ok (.invokespecial 3, 3) := by decide +kernel
theorem dX4_init_4 : decode cX4_init 4 = .ok (.aload_n 0, 1) := by decide +kernel
theorem dX4_init_5 : decode cX4_init 5 = .ok (.bipush 20, 2) := by decide +kernel
theorem dX4_init_7 : decode cX4_init 7 = .ok (.newarray .float, 2) := by decide +kernel
theorem dX4_init_9 : decode cX4_init 9 = .ok (.putfield 9, 3) := by decide +kernel
theorem dX4_init_12 : decode cX4_init 12 = .ok (.aload_n 0, 1) := by decide +kernel
theorem dX4_init_13 : decode cX4_init 13 = .ok (.iconst 0, 1) := by decide +kernel
theorem dX4_init_14 : decode cX4_init 14 = .ok (.putfield 15, 3) := by decide +kernel
theorem dX4_init_17 : decode cX4_init 17 = .ok (.aload_n 0, 1) := by decide +kernel
theorem dX4_init_18 : decode cX4_init 18 = .ok (.iconst 0, 1) := by decide +kernel
theorem dX4_init_19 : decode cX4_init 19 = .ok (.putfield 19, 3) := by decide +kernel
theorem dX4_init_22 : decode cX4_init 22 = .ok (.aload_n 0, 1) := by decide +kernel
theorem dX4_init_23 : decode cX4_init 23 = .ok (.iconst 0, 1) := by decide +kernel
theorem dX4_init_24 : decode cX4_init 24 = .ok (.putfield 22, 3) := by decide +kernel
theorem dX4_init_27 : decode cX4_init 27 = .ok (.return_, 1) := by decide +kernel
theorem dX4_store_0 : decode cX4_store 0 = .ok (.aload_n 0, 1) := by decide +kernel
theorem dX4_store_1 : decode cX4_store 1 = .ok (.iconst 1, 1) := by decide +kernel
theorem dX4_store_2 : decode cX4_store 2 = .ok (.putfield 15, 3) := by decide +kernel
theorem dX4_store_5 : decode cX4_store 5 = .ok (.aload_n 0, 1) := by decide +kernel
theorem dX4_store_6 : decode cX4_store 6 = .ok (.iload_n 2, 1) := by decide +kernel
theorem dX4_store_7 : decode cX4_store 7 = .ok (.putfield 19, 3) := by decide +kernel
theorem dX4_store_10 : decode cX4_store 10 = .ok (.aload_n 0, 1) := by decide +kernel
theorem dX4_store_11 : decode cX4_store 11 = .ok (.aload_n 1, 1) := by decide +kernel
theorem dX4_store_12 : decode cX4_store 12 = .ok (.getfield 26, 3) := by decide +kernel
theorem dX4_store_15 : decode cX4_store 15 = .ok (.invokevirtual 32, 3) := by decide +kernel
theorem dX4_store_18 : decode cX4_store 18 = .ok (.putfield 22, 3) := by decide +kernel
theorem dX4_store_21 : decode cX4_store 21 = .ok (.iconst 0, 1) := by decide +kernel
theorem dX4_store_22 : decode cX4_store 22 = .ok (.istore_n 3, 1) := by decide +kernel
theorem dX4_store_23 : decode cX4_store 23 = .ok (.iload_n 3, 1) := by decide +kernel
theorem dX4_store_24 : decode cX4_store 24 = .ok (.aload_n 0, 1) := by decide +kernel
theorem dX4_store_25 : decode cX4_store 25 = .ok (.getfield 22, 3) := by decide +kernel
theorem dX4_store_28 : decode cX4_store 28 = .ok (.if_icmp .ge 57, 3) := by decide +kernel
theorem dX4_store_31 : decode cX4_store 31 = .ok (.iload_n 3, 1) := by decide +kernel
theorem dX4_store_32 : decode cX4_store 32 = .ok (.aload_n 0, 1) := by decide +kernel
theorem dX4_store_33 : decode cX4_store 33 = .ok (.getfield 9, 3) := by decide +kernel
theorem dX4_store_36 : decode cX4_store 36 = .ok (.arraylength, 1) := by decide +kernel
theorem dX4_store_37 : decode cX4_store 37 = .ok (.if_icmp .ge 48, 3) := by decide +kernel
theorem dX4_store_40 : decode cX4_store 40 = .ok (.aload_n 1, 1) := by decide +kernel
theorem dX4_store_41 : decode cX4_store 41 = .ok (.getfield 26, 3) := by decide +kernel
theorem dX4_store_44 : decode cX4_store 44 = .ok (.iload_n 3, 1) := by decide +kernel
theorem dX4_store_45 : decode cX4_store 45 = .ok (.aload_n 1, 1) := by decide +kernel
theorem dX4_store_46 : decode cX4_store 46 = .ok (.iconst 0, 1) := by decide +kernel
theorem dX4_store_47 : decode cX4_store 47 = .ok (.invokevirtual 38, 3) := by decide +kernel
theorem dX4_store_50 : decode cX4_store 50 = .ok (.invokevirtual 42, 3) := by decide +kernel
theorem dX4_store_53 : decode cX4_store 53 = .ok (.istore 4, 2) := by decide +kernel
theorem dX4_store_55 : decode cX4_store 55 = .ok (.aload_n 0, 1) := by decide +kernel
theorem dX4_store_56 : decode cX4_store 56 = .ok (.getfield 9, 3) := by decide +kernel
theorem dX4_store_59 : decode cX4_store 59 = .ok (.iload_n 3, 1) := by decide +kernel
theorem dX4_store_60 : decode cX4_store 60 = .ok (.iload_n 2, 1) := by decide +kernel
theorem dX4_store_61 : decode cX4_store 61 = .ok (.ifCond .eq 9, 3) := by decide +kernel
theorem dX4_store_64 : decode cX4_store 64 = .ok (.iload 4, 2) := by decide +kernel
theorem dX4_store_66 : decode cX4_store 66 = .ok (.i2f, 1) := by decide +kernel
theorem dX4_store_67 : decode cX4_store 67 = .ok (.goto 11, 3) := by decide +kernel
theorem dX4_store_70 : decode cX4_store 70 = .ok (.iload 4, 2) := by decide +kernel
theorem dX4_store_72 : decode cX4_store 72 = .ok (.i2f, 1) := by decide +kernel
theorem dX4_store_73 : decode cX4_store 73 = .ok (.iload_n 3, 1) := by decide +kernel
theorem dX4_store_74 : decode cX4_store 74 = .ok (.iconst 1, 1) := by decide +kernel
theorem dX4_store_75 : decode cX4_store 75 = .ok (.iadd, 1) := by decide +kernel
theorem dX4_store_76 : decode cX4_store 76 = .ok (.i2f, 1) := by decide +kernel
theorem dX4_store_77 : decode cX4_store 77 = .ok (.fdiv, 1) := by decide +kernel
theorem dX4_store_78 : decode cX4_store 78 = .ok (.fastore, 1) := by decide +kernel
theorem dX4_store_79 : decode cX4_store 79 = .ok (.iinc 3 1, 3) := by decide +kernel
theorem dX4_store_82 : decode cX4_store 82 = .ok (.goto (-59), 3) := by decide +kernel
theorem dX4_store_85 : decode cX4_store 85 = .ok (.aload_n 0, 1) := by decide +kernel
theorem dX4_store_86 : decode cX4_store 86 = .ok (.getfield 22, 3) := by decide +kernel
theorem dX4_store_89 : decode cX4_store 89 = .ok (.ireturn, 1) := by decide +kernel
theorem dX4_has_0 : decode cX4_has 0 = .ok (.aload_n 0, 1) := by decide +kernel
theorem dX4_has_1 : decode cX4_has 1 = .ok (.getfield 15, 3) := by decide +kernel
theorem dX4_has_4 : decode cX4_has 4 = .ok (.ifCond .eq 19, 3) := by decide +kernel
theorem dX4_has_7 : decode cX4_has 7 = .ok (.iload_n 1, 1) := by decide +kernel
theorem dX4_has_8 : decode cX4_has 8 = .ok (.ifCond .lt 15, 3) := by decide +kernel
theorem dX4_has_11 : decode cX4_has 11 = .ok (.iload_n 1, 1) := by decide +kernel
theorem dX4_has_12 : decode cX4_has 12 = .ok (.aload_n 0, 1) := by decide +kernel
theorem dX4_has_13 : decode cX4_has 13 = .ok (.getfield 22, 3) := by decide +kernel
theorem dX4_has_16 : decode cX4_has 16 = .ok (.if_icmp .ge 7, 3) := by decide +kernel
theorem dX4_has_19 : decode cX4_has 19 = .ok (.iconst 1, 1) := by decide +kernel
theorem dX4_has_20 : decode cX4_has 20 = .ok (.goto 4, 3) := by decide +kernel
theorem dX4_has_23 : decode cX4_has 23 = .ok (.iconst 0, 1) := by decide +kernel
theorem dX4_has_24 : decode cX4_has 24 = .ok (.ireturn, 1) := by decide +kernel
theorem dX4_get_0 : decode cX4_get 0 = .ok (.iload_n 1, 1) := by decide +kernel
theorem dX4_get_1 : decode cX4_get 1 = .ok (.ifCond .lt 21, 3) := by decide +kernel
theorem dX4_get_4 : decode cX4_get 4 = .ok (.iload_n 1, 1) := by decide +kernel
theorem dX4_get_5 : decode cX4_get 5 = .ok (.aload_n 0, 1) := by decide +kernel
theorem dX4_get_6 : decode cX4_get 6 = .ok (.getfield 9, 3) := by decide +kernel
theorem dX4_get_9 : decode cX4_get 9 = .ok (.arraylength, 1) := by decide +kernel
theorem dX4_get_10 : decode cX4_get 10 = .ok (.if_icmp .ge 12, 3) := by decide +kernel
theorem dX4_get_13 : decode cX4_get 13 = .ok (.aload_n 0, 1) := by decide +kernel
theorem dX4_get_14 : decode cX4_get 14 = .ok (.getfield 9, 3) := by decide +kernel
theorem dX4_get_17 : decode cX4_get 17 = .ok (.iload_n 1, 1) := by decide +kernel
theorem dX4_get_18 : decode cX4_get 18 = .ok (.faload, 1) := by decide +kernel
theorem dX4_get_19 : decode cX4_get 19 = .ok (.goto 4, 3) := by decide +kernel
theorem dX4_get_22 : decode cX4_get 22 = .ok (.fconst 0, 1) := by decide +kernel
theorem dX4_get_23 : decode cX4_get 23 = .ok (.freturn, 1) := by decide +kernel
theorem dX4_take_0 : decode cX4_take 0 = .ok (.iconst 0, 1) := by decide +kernel
theorem dX4_take_1 : decode cX4_take 1 = .ok (.istore_n 3, 1) := by decide +kernel
theorem dX4_take_2 : decode cX4_take 2 = .ok (.iconst 0, 1) := by decide +kernel
theorem dX4_take_3 : decode cX4_take 3 = .ok (.istore 4, 2) := by decide +kernel
theorem dX4_take_5 : decode cX4_take 5 = .ok (.iload 4, 2) := by decide +kernel
theorem dX4_take_7 : decode cX4_take 7 = .ok (.iload_n 2, 1) := by decide +kernel
theorem dX4_take_8 : decode cX4_take 8 = .ok (.if_icmp .ge 59, 3) := by decide +kernel
theorem dX4_take_11 : decode cX4_take 11 = .ok (.iload 4, 2) := by decide +kernel
theorem dX4_take_13 : decode cX4_take 13 = .ok (.aload_n 0, 1) := by decide +kernel
theorem dX4_take_14 : decode cX4_take 14 = .ok (.getfield 9, 3) := by decide +kernel
theorem dX4_take_17 : decode cX4_take 17 = .ok (.arraylength, 1) := by decide +kernel
theorem dX4_take_18 : decode cX4_take 18 = .ok (.if_icmp .ge 49, 3) := by decide +kernel
theorem dX4_take_21 : decode cX4_take 21 = .ok (.aload_n 1, 1) := by decide +kernel
theorem dX4_take_22 : decode cX4_take 22 = .ok (.iload 4, 2) := by decide +kernel
theorem dX4_take_24 : decode cX4_take 24 = .ok (.invokevirtual 46, 3) := by decide +kernel
theorem dX4_take_27 : decode cX4_take 27 = .ok (.fstore 5, 2) := by decide +kernel
theorem dX4_take_29 : decode cX4_take 29 = .ok (.iload_n 3, 1) := by decide +kernel
theorem dX4_take_30 : decode cX4_take 30 = .ok (.ifCond .ne 16, 3) := by decide +kernel
theorem dX4_take_33 : decode cX4_take 33 = .ok (.aload_n 0, 1) := by decide +kernel
theorem dX4_take_34 : decode cX4_take 34 = .ok (.getfield 9, 3) := by decide +kernel
theorem dX4_take_37 : decode cX4_take 37 = .ok (.iload 4, 2) := by decide +kernel
theorem dX4_take_39 : decode cX4_take 39 = .ok (.faload, 1) := by decide +kernel
theorem dX4_take_40 : decode cX4_take 40 = .ok (.fload 5, 2) := by decide +kernel
theorem dX4_take_42 : decode cX4_take 42 = .ok (.fcmp .l, 1) := by decide +kernel
theorem dX4_take_43 : decode cX4_take 43 = .ok (.ifCond .eq 7, 3) := by decide +kernel
theorem dX4_take_46 : decode cX4_take 46 = .ok (.iconst 1, 1) := by decide +kernel
theorem dX4_take_47 : decode cX4_take 47 = .ok (.goto 4, 3) := by decide +kernel
theorem dX4_take_50 : decode cX4_take 50 = .ok (.iconst 0, 1) := by decide +kernel
theorem dX4_take_51 : decode cX4_take 51 = .ok (.istore_n 3, 1) := by decide +kernel
theorem dX4_take_52 : decode cX4_take 52 = .ok (.aload_n 0, 1) := by decide +kernel
theorem dX4_take_53 : decode cX4_take 53 = .ok (.getfield 9, 3) := by decide +kernel
theorem dX4_take_56 : decode cX4_take 56 = .ok (.iload 4, 2) := by decide +kernel
theorem dX4_take_58 : decode cX4_take 58 = .ok (.fload 5, 2) := by decide +kernel
theorem dX4_take_60 : decode cX4_take 60 = .ok (.fastore, 1) := by decide +kernel
theorem dX4_take_61 : decode cX4_take 61 = .ok (.iinc 4 1, 3) := by decide +kernel
theorem dX4_take_64 : decode cX4_take 64 = .ok (.goto (-59), 3) := by decide +kernel
theorem dX4_take_67 : decode cX4_take 67 = .ok (.iload_n 3, 1) := by decide +kernel
theorem dX4_take_68 : decode cX4_take 68 = .ok (.ireturn, 1) := by decide +kernel
