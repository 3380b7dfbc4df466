theorem dX7_init_0 : decode cX7_init 0 = .ok (.aload_n 0, 1) := by decide +kernel
theorem dX7_init_1 : decode cX7_init 1 = .ok (.invokespecial 3, 3) := by decide +kernel
theorem dX7_init_4 : decode cX7_init 4 = .ok (.aload_n 0, 1) := by decide +kernel
theorem dX7_init_5 : decode cX7_init 5 = .ok (.bipush 60, 2) := by decide +kernel
theorem dX7_init_7 : decode cX7_init 7 = .ok (.newarray .char, 2) := by decide +kernel
theorem dX7_init_9 : decode cX7_init 9 = .ok (.putfield 9, 3) := by decide +kernel
theorem dX7_init_12 : decode cX7_init 12 = .ok (.aload_n 0, 1) := by decide +kernel
theorem dX7_init_13 : decode cX7_init 13 = .ok (.new 15, 3) := by decide +kernel
theorem dX7_init_16 : decode cX7_init 16 = .ok (.dup, 1) := by decide +kernel
theorem dX7_init_17 : decode cX7_init 17 = .ok (.iconst 0, 1) := by decide +kernel
theorem dX7_init_18 : decode cX7_init 18 = .ok (.invokespecial 17, 3) := by decide +kernel
theorem dX7_init_21 : decode cX7_init 21 = .ok (.putfield 20, 3) := by decide +kernel
theorem dX7_init_24 : decode cX7_init 24 = .ok (.aload_n 0, 1) := by decide +kernel
theorem dX7_init_25 : decode cX7_init 25 = .ok (.bipush 60, 2) := by decide +kernel
theorem dX7_init_27 : decode cX7_init 27 = .ok (.anewarray 15, 3) := by decide +kernel
theorem dX7_init_30 : decode cX7_init 30 = .ok (.putfield 24, 3) := by decide +kernel
theorem dX7_init_33 : decode cX7_init 33 = .ok (.aload_n 0, 1) := by decide +kernel
theorem dX7_init_34 : decode cX7_init 34 = .ok (.iconst 0, 1) := by decide +kernel
theorem dX7_init_35 : decode cX7_init 35 = .ok (.putfield 28, 3) := by decide +kernel
theorem dX7_init_38 : decode cX7_init 38 = .ok (.aload_n 0, 1) := by decide +kernel
theorem dX7_init_39 : decode cX7_init 39 = .ok (.iconst 0, 1) := by decide +kernel
theorem dX7_init_40 : decode cX7_init 40 = .ok (.putfield 32, 3) := by decide +kernel
theorem dX7_init_43 : decode cX7_init 43 = .ok (.iconst 0, 1) := by decide +kernel
theorem dX7_init_44 : decode cX7_init 44 = .ok (.istore_n 1, 1) := by decide +kernel
theorem dX7_init_45 : decode cX7_init 45 = .ok (.iload_n 1, 1) := by decide +kernel
theorem dX7_init_46 : decode cX7_init 46 = .ok (.aload_n 0, 1) := by decide +kernel
theorem dX7_init_47 : decode cX7_init 47 = .ok (.getfield 24, 3) := by decide +kernel
theorem dX7_init_50 : decode cX7_init 50 = .ok (.arraylength, 1) := by decide +kernel
theorem dX7_init_51 : decode cX7_init 51 = .ok (.if_icmp .ge 19, 3) := by decide +kernel
theorem dX7_init_54 : decode cX7_init 54 = .ok (.aload_n 0, 1) := by decide +kernel
theorem dX7_init_55 : decode cX7_init 55 = .ok (.getfield 24, 3) := by decide +kernel
theorem dX7_init_58 : decode cX7_init 58 = .ok (.iload_n 1, 1) := by decide +kernel
theorem dX7_init_59 : decode cX7_init 59 = .ok (.aload_n 0, 1) := by decide +kernel
theorem dX7_init_60 : decode cX7_init 60 = .ok (.getfield 20, 3) := by decide +kernel
theorem dX7_init_63 : decode cX7_init 63 = .ok (.aastore, 1) := by decide +kernel
theorem dX7_init_64 : decode cX7_init 64 = .ok (.iinc 1 1, 3) := by decide +kernel
theorem dX7_init_67 : decode cX7_init 67 = .ok (.goto (-22), 3) := by decide +kernel
theorem dX7_init_70 : decode cX7_init 70 = .ok (.return_, 1) := by decide +kernel
theorem dX7_isFull_0 : decode cX7_isFull 0 = .ok (.aload_n 0, 1) := by decide +kernel
theorem dX7_isFull_1 : decode cX7_isFull 1 = .ok (.getfield 28, 3) := by decide +kernel
theorem dX7_isFull_4 : decode cX7_isFull 4 = .ok (.aload_n 0, 1) := by decide +kernel
theorem dX7_isFull_5 : decode cX7_isFull 5 = .ok (.getfield 9, 3) := by decide +kernel
theorem dX7_isFull_8 : decode cX7_isFull 8 = .ok (.arraylength, 1) := by decide +kernel
theorem dX7_isFull_9 : decode cX7_isFull 9 = .ok (.if_icmp .lt 7, 3) := by decide +kernel
theorem dX7_isFull_12 : decode cX7_isFull 12 = .ok (.iconst 1, 1) := by decide +kernel
theorem dX7_isFull_13 : decode cX7_isFull 13 = .ok (.goto 4, 3) := by decide +kernel
theorem dX7_isFull_16 : decode cX7_isFull 16 = .ok (.iconst 0, 1) := by decide +kernel
theorem dX7_isFull_17 : decode cX7_isFull 17 = .ok (.ireturn, 1) := by decide +kernel
theorem dX7_put_0 : decode cX7_put 0 = .ok (.aload_n 0, 1) := by decide +kernel
theorem dX7_put_1 : decode cX7_put 1 = .ok (.getfield 28, 3) := by decide +kernel
theorem dX7_put_4 : decode cX7_put 4 = .ok (.ifCond .lt 35, 3) := by decide +kernel
theorem dX7_put_7 : decode cX7_put 7 = .ok (.aload_n 0, 1) := by decide +kernel
theorem dX7_put_8 : decode cX7_put 8 = .ok (.getfield 28, 3) := by decide +kernel
theorem dX7_put_11 : decode cX7_put 11 = .ok (.aload_n 0, 1) := by decide +kernel
theorem dX7_put_12 : decode cX7_put 12 = .ok (.getfield 9, 3) := by decide +kernel
theorem dX7_put_15 : decode cX7_put 15 = .ok (.arraylength, 1) := by decide +kernel
theorem dX7_put_16 : decode cX7_put 16 = .ok (.if_icmp .ge 23, 3) := by decide +kernel
theorem dX7_put_19 : decode cX7_put 19 = .ok (.aload_n 0, 1) := by decide +kernel
theorem dX7_put_20 : decode cX7_put 20 = .ok (.getfield 9, 3) := by decide +kernel
theorem dX7_put_23 : decode cX7_put 23 = .ok (.aload_n 0, 1) := by decide +kernel
theorem dX7_put_24 : decode cX7_put 24 = .ok (.getfield 28, 3) := by decide +kernel
theorem dX7_put_27 : decode cX7_put 27 = .ok (.iload_n 1, 1) := by decide +kernel
theorem dX7_put_28 : decode cX7_put 28 = .ok (.castore, 1) := by decide +kernel
theorem dX7_put_29 : decode cX7_put 29 = .ok (.aload_n 0, 1) := by decide +kernel
theorem dX7_put_30 : decode cX7_put 30 = .ok (.dup, 1) := by decide +kernel
theorem dX7_put_31 : decode cX7_put 31 = .ok (.getfield 28, 3) := by decide +kernel
theorem dX7_put_34 : decode cX7_put 34 = .ok (.iconst 1, 1) := by decide +kernel
theorem dX7_put_35 : decode cX7_put 35 = .ok (.iadd, 1) := by decide +kernel
theorem dX7_put_36 : decode cX7_put 36 = .ok (.putfield 28, 3) := by decide +kernel
theorem dX7_put_39 : decode cX7_put 39 = .ok (.aload_n 0, 1) := by decide +kernel
theorem dX7_put_40 : decode cX7_put 40 = .ok (.getfield 28, 3) := by decide +kernel
theorem dX7_put_43 : decode cX7_put 43 = .ok (.ireturn, 1) := by decide +kernel
theorem dX7_clear_0 : decode cX7_clear 0 = .ok (.aload_n 0, 1) := by decide +kernel
theorem dX7_clear_1 : decode cX7_clear 1 = .ok (.iconst 0, 1) := by decide +kernel
theorem dX7_clear_2 : decode cX7_clear 2 = .ok (.putfield 28, 3) := by decide +kernel
theorem dX7_clear_5 : decode cX7_clear 5 = .ok (.return_, 1) := by decide +kernel
theorem dX7_elements_0 : decode cX7_elements 0 = .ok (.aload_n 0, 1) := by decide +kernel
theorem dX7_elements_1 : decode cX7_elements 1 = .ok (.getfield 32, 3) := by decide +kernel
theorem dX7_elements_4 : decode cX7_elements 4 = .ok (.ireturn, 1) := by decide +kernel
theorem dX7_element_0 : decode cX7_element 0 = .ok (.iload_n 1, 1) := by decide +kernel
theorem dX7_element_1 : decode cX7_element 1 = .ok (.ifCond .lt 21, 3) := by decide +kernel
theorem dX7_element_4 : decode cX7_element 4 = .ok (.iload_n 1, 1) := by decide +kernel
theorem dX7_element_5 : decode cX7_element 5 = .ok (.aload_n 0, 1) := by decide +kernel
theorem dX7_element_6 : decode cX7_element 6 = .ok (.getfield 24, 3) := by decide +kernel
theorem dX7_element_9 : decode cX7_element 9 = .ok (.arraylength, 1) := by decide +kernel
theorem dX7_element_10 : decode cX7_element 10 = .ok (.if_icmp .ge 12, 3) := by decide +kernel
theorem dX7_element_13 : decode cX7_element 13 = .ok (.aload_n 0, 1) := by decide +kernel
theorem dX7_element_14 : decode cX7_element 14 = .ok (.getfield 24, 3) := by decide +kernel
theorem dX7_element_17 : decode cX7_element 17 = .ok (.iload_n 1, 1) := by decide +kernel
theorem dX7_element_18 : decode cX7_element 18 = .ok (.aaload, 1) := by decide +kernel
theorem dX7_element_19 : decode cX7_element 19 = .ok (.goto 7, 3) := by decide +kernel
theorem dX7_element_22 : decode cX7_element 22 = .ok (.aload_n 0, 1) := by decide +kernel
theorem dX7_element_23 : decode cX7_element 23 = .ok (.getfield 20, 3) := by decide +kernel
theorem dX7_element_26 : decode cX7_element 26 = .ok (.areturn, 1) := by decide +kernel
theorem dX7_sign_0 : decode cX7_sign 0 = .ok (.iload_n 1, 1) := by decide +kernel
theorem dX7_sign_1 : decode cX7_sign 1 = .ok (.ifCond .lt 29, 3) := by decide +kernel
theorem dX7_sign_4 : decode cX7_sign 4 = .ok (.iload_n 1, 1) := by decide +kernel
theorem dX7_sign_5 : decode cX7_sign 5 = .ok (.aload_n 0, 1) := by decide +kernel
theorem dX7_sign_6 : decode cX7_sign 6 = .ok (.getfield 28, 3) := by decide +kernel
theorem dX7_sign_9 : decode cX7_sign 9 = .ok (.if_icmp .ge 21, 3) := by decide +kernel
theorem dX7_sign_12 : decode cX7_sign 12 = .ok (.iload_n 1, 1) := by decide +kernel
theorem dX7_sign_13 : decode cX7_sign 13 = .ok (.aload_n 0, 1) := by decide +kernel
theorem dX7_sign_14 : decode cX7_sign 14 = .ok (.getfield 9, 3) := by decide +kernel
theorem dX7_sign_17 : decode cX7_sign 17 = .ok (.arraylength, 1) := by decide +kernel
theorem dX7_sign_18 : decode cX7_sign 18 = .ok (.if_icmp .ge 12, 3) := by decide +kernel
theorem dX7_sign_21 : decode cX7_sign 21 = .ok (.aload_n 0, 1) := by decide +kernel
theorem dX7_sign_22 : decode cX7_sign 22 = .ok (.getfield 9, 3) := by decide +kernel
theorem dX7_sign_25 : decode cX7_sign 25 = .ok (.iload_n 1, 1) := by decide +kernel
theorem dX7_sign_26 : decode cX7_sign 26 = .ok (.caload, 1) := by decide +kernel
theorem dX7_sign_27 : decode cX7_sign 27 = .ok (.goto 4, 3) := by decide +kernel
theorem dX7_sign_30 : decode cX7_sign 30 = .ok (.iconst 0, 1) := by decide +kernel
theorem dX7_sign_31 : decode cX7_sign 31 = .ok (.ireturn, 1) := by decide +kernel
theorem dX7_parse_0 : decode cX7_parse 0 = .ok (.aload_n 0, 1) := by decide +kernel
theorem dX7_parse_1 : decode cX7_parse 1 = .ok (.iconst 0, 1) := by decide +kernel
theorem dX7_parse_2 : decode cX7_parse 2 = .ok (.putfield 32, 3) := by decide +kernel
theorem dX7_parse_5 : decode cX7_parse 5 = .ok (.iconst 0, 1) := by decide +kernel
theorem dX7_parse_6 : decode cX7_parse 6 = .ok (.istore_n 1, 1) := by decide +kernel
theorem dX7_parse_7 : decode cX7_parse 7 = .ok (.iload_n 1, 1) := by decide +kernel
theorem dX7_parse_8 : decode cX7_parse 8 = .ok (.aload_n 0, 1) := by decide +kernel
theorem dX7_parse_9 : decode cX7_parse 9 = .ok (.getfield 28, 3) := by decide +kernel
theorem dX7_parse_12 : decode cX7_parse 12 = .ok (.if_icmp .ge 93, 3) := by decide +kernel
theorem dX7_parse_15 : decode cX7_parse 15 = .ok (.aload_n 0, 1) := by decide +kernel
theorem dX7_parse_16 : decode cX7_parse 16 = .ok (.iload_n 1, 1) := by decide +kernel
theorem dX7_parse_17 : decode cX7_parse 17 = .ok (.invokevirtual 35, 3) := by decide +kernel
theorem dX7_parse_20 : decode cX7_parse 20 = .ok (.istore_n 2, 1) := by decide +kernel
theorem dX7_parse_21 : decode cX7_parse 21 = .ok (.aload_n 0, 1) := by decide +kernel
theorem dX7_parse_22 : decode cX7_parse 22 = .ok (.iload_n 1, 1) := by decide +kernel
theorem dX7_parse_23 : decode cX7_parse 23 = .ok (.iconst 1, 1) := by decide +kernel
theorem dX7_parse_24 : decode cX7_parse 24 = .ok (.iadd, 1) := by decide +kernel
theorem dX7_parse_25 : decode cX7_parse 25 = .ok (.invokevirtual 35, 3) := by decide +kernel
theorem dX7_parse_28 : decode cX7_parse 28 = .ok (.istore_n 3, 1) := by decide +kernel
theorem dX7_parse_29 : decode cX7_parse 29 = .ok (.iload_n 2, 1) := by decide +kernel
theorem dX7_parse_30 : decode cX7_parse 30 = .ok (.invokestatic 39, 3) := by decide +kernel
theorem dX7_parse_33 : decode cX7_parse 33 = .ok (.ifCond .ne 5, 3) := by decide +kernel
theorem dX7_parse_36 : decode cX7_parse 36 = .ok (.iload_n 1, 1) := by decide +kernel
theorem dX7_parse_37 : decode cX7_parse 37 = .ok (.ireturn, 1) := by decide +kernel
theorem dX7_parse_38 : decode cX7_parse 38 = .ok (.iload_n 3, 1) := by decide +kernel
theorem dX7_parse_39 : decode cX7_parse 39 = .ok (.iload_n 2, 1) := by decide +kernel
theorem dX7_parse_40 : decode cX7_parse 40 = .ok (.invokestatic 43, 3) := by decide +kernel
theorem dX7_parse_43 : decode cX7_parse 43 = .ok (.iload_n 2, 1) := by decide +kernel
theorem dX7_parse_44 : decode cX7_parse 44 = .ok (.invokestatic 47, 3) := by decide +kernel
theorem dX7_parse_47 : decode cX7_parse 47 = .ok (.invokestatic 50, 3) := by decide +kernel
theorem dX7_parse_50 : decode cX7_parse 50 = .ok (.istore 4, 2) := by decide +kernel
theorem dX7_parse_52 : decode cX7_parse 52 = .ok (.iload 4, 2) := by decide +kernel
theorem dX7_parse_54 : decode cX7_parse 54 = .ok (.ifCond .ne 14, 3) := by decide +kernel
theorem dX7_parse_57 : decode cX7_parse 57 = .ok (.iload_n 2, 1) := by decide +kernel
theorem dX7_parse_58 : decode cX7_parse 58 = .ok (.invokestatic 54, 3) := by decide +kernel
theorem dX7_parse_61 : decode cX7_parse 61 = .ok (.ifCond .eq 7, 3) := by decide +kernel
theorem dX7_parse_64 : decode cX7_parse 64 = .ok (.iload_n 1, 1) := by decide +kernel
theorem dX7_parse_65 : decode cX7_parse 65 = .ok (.iconst 1, 1) := by decide +kernel
theorem dX7_parse_66 : decode cX7_parse 66 = .ok (.iadd, 1) := by decide +kernel
theorem dX7_parse_67 : decode cX7_parse 67 = .ok (.ireturn, 1) := by decide +kernel
theorem dX7_parse_68 : decode cX7_parse 68 = .ok (.aload_n 0, 1) := by decide +kernel
theorem dX7_parse_69 : decode cX7_parse 69 = .ok (.iload 4, 2) := by decide +kernel
theorem dX7_parse_71 : decode cX7_parse 71 = .ok (.ifCond .eq 11, 3) := by decide +kernel
theorem dX7_parse_74 : decode cX7_parse 74 = .ok (.iload_n 2, 1) := by decide +kernel
theorem dX7_parse_75 : decode cX7_parse 75 = .ok (.iload_n 3, 1) := by decide +kernel
theorem dX7_parse_76 : decode cX7_parse 76 = .ok (.invokestatic 57, 3) := by decide +kernel
theorem dX7_parse_79 : decode cX7_parse 79 = .ok (.goto 7, 3) := by decide +kernel
theorem dX7_parse_82 : decode cX7_parse 82 = .ok (.iload_n 2, 1) := by decide +kernel
theorem dX7_parse_83 : decode cX7_parse 83 = .ok (.invokestatic 61, 3) := by decide +kernel
theorem dX7_parse_86 : decode cX7_parse 86 = .ok (.invokevirtual 65, 3) := by decide +kernel
theorem dX7_parse_89 : decode cX7_parse 89 = .ok (.iload_n 1, 1) := by decide +kernel
theorem dX7_parse_90 : decode cX7_parse 90 = .ok (.iload 4, 2) := by decide +kernel
theorem dX7_parse_92 : decode cX7_parse 92 = .ok (.ifCond .eq 7, 3) := by decide +kernel
theorem dX7_parse_95 : decode cX7_parse 95 = .ok (.iconst 2, 1) := by decide +kernel
theorem dX7_parse_96 : decode cX7_parse 96 = .ok (.goto 4, 3) := by decide +kernel
theorem dX7_parse_99 : decode cX7_parse 99 = .ok (.iconst 1, 1) := by decide +kernel
theorem dX7_parse_100 : decode cX7_parse 100 = .ok (.iadd, 1) := by decide +kernel
theorem dX7_parse_101 : decode cX7_parse 101 = .ok (.istore_n 1, 1) := by decide +kernel
theorem dX7_parse_102 : decode cX7_parse 102 = .ok (.goto (-95), 3) := by decide +kernel
theorem dX7_parse_105 : decode cX7_parse 105 = .ok (.aload_n 0, 1) := by decide +kernel
theorem dX7_parse_106 : decode cX7_parse 106 = .ok (.getfield 28, 3) := by decide +kernel
theorem dX7_parse_109 : decode cX7_parse 109 = .ok (.ifCond .ne 7, 3) := by decide +kernel
theorem dX7_parse_112 : decode cX7_parse 112 = .ok (.iconst 0, 1) := by decide +kernel
theorem dX7_parse_113 : decode cX7_parse 113 = .ok (.goto 4, 3) := by decide +kernel
theorem dX7_parse_116 : decode cX7_parse 116 = .ok (.iconst (-1), 1) := by decide +kernel
theorem dX7_parse_117 : decode cX7_parse 117 = .ok (.ireturn, 1) := by decide +kernel
theorem dX7_keep_0 : decode cX7_keep 0 = .ok (.aload_n 0, 1) := by decide +kernel
theorem dX7_keep_1 : decode cX7_keep 1 = .ok (.getfield 32, 3) := by decide +kernel
theorem dX7_keep_4 : decode cX7_keep 4 = .ok (.ifCond .lt 35, 3) := by decide +kernel
theorem dX7_keep_7 : decode cX7_keep 7 = .ok (.aload_n 0, 1) := by decide +kernel
theorem dX7_keep_8 : decode cX7_keep 8 = .ok (.getfield 32, 3) := by decide +kernel
theorem dX7_keep_11 : decode cX7_keep 11 = .ok (.aload_n 0, 1) := by decide +kernel
theorem dX7_keep_12 : decode cX7_keep 12 = .ok (.getfield 24, 3) := by decide +kernel
theorem dX7_keep_15 : decode cX7_keep 15 = .ok (.arraylength, 1) := by decide +kernel
theorem dX7_keep_16 : decode cX7_keep 16 = .ok (.if_icmp .ge 23, 3) := by decide +kernel
theorem dX7_keep_19 : decode cX7_keep 19 = .ok (.aload_n 0, 1) := by decide +kernel
theorem dX7_keep_20 : decode cX7_keep 20 = .ok (.getfield 24, 3) := by decide +kernel
theorem dX7_keep_23 : decode cX7_keep 23 = .ok (.aload_n 0, 1) := by decide +kernel
theorem dX7_keep_24 : decode cX7_keep 24 = .ok (.getfield 32, 3) := by decide +kernel
theorem dX7_keep_27 : decode cX7_keep 27 = .ok (.aload_n 1, 1) := by decide +kernel
theorem dX7_keep_28 : decode cX7_keep 28 = .ok (.aastore, 1) := by decide +kernel
theorem dX7_keep_29 : decode cX7_keep 29 = .ok (.aload_n 0, 1) := by decide +kernel
theorem dX7_keep_30 : decode cX7_keep 30 = .ok (.dup, 1) := by decide +kernel
theorem dX7_keep_31 : decode cX7_keep 31 = .ok (.getfield 32, 3) := by decide +kernel
theorem dX7_keep_34 : decode cX7_keep 34 = .ok (.iconst 1, 1) := by decide +kernel
theorem dX7_keep_35 : decode cX7_keep 35 = .ok (.iadd, 1) := by decide +kernel
theorem dX7_keep_36 : decode cX7_keep 36 = .ok (.putfield 32, 3) := by decide +kernel
theorem dX7_keep_39 : decode cX7_keep 39 = .ok (.return_, 1) := by decide +kernel
theorem dX7_isFirst_0 : decode cX7_isFirst 0 = .ok (.iload_n 0, 1) := by decide +kernel
theorem dX7_isFirst_1 : decode cX7_isFirst 1 = .ok (.lookupswitch 69 #[(46, 67), (67, 67), (76, 67), (82, 67), (87, 67), (110, 67), (119, 67)], 67) := by decide +kernel
theorem dX7_isFirst_68 : decode cX7_isFirst 68 = .ok (.iconst 1, 1) := by decide +kernel
theorem dX7_isFirst_69 : decode cX7_isFirst 69 = .ok (.ireturn, 1) := by decide +kernel
theorem dX7_isFirst_70 : decode cX7_isFirst 70 = .ok (.iload_n 0, 1) := by decide +kernel
theorem dX7_isFirst_71 : decode cX7_isFirst 71 = .ok (.bipush 49, 2) := by decide +kernel
theorem dX7_isFirst_73 : decode cX7_isFirst 73 = .ok (.bipush 54, 2) := by decide +kernel
theorem dX7_isFirst_75 : decode cX7_isFirst 75 = .ok (.invokestatic 50, 3) := by decide +kernel
theorem dX7_isFirst_78 : decode cX7_isFirst 78 = .ok (.ifCond .ne 10, 3) := by decide +kernel
theorem dX7_isFirst_81 : decode cX7_isFirst 81 = .ok (.iload_n 0, 1) := by decide +kernel
theorem dX7_isFirst_82 : decode cX7_isFirst 82 = .ok (.invokestatic 54, 3) := by decide +kernel
theorem dX7_isFirst_85 : decode cX7_isFirst 85 = .ok (.ifCond .eq 7, 3) := by decide +kernel
theorem dX7_isFirst_88 : decode cX7_isFirst 88 = .ok (.iconst 1, 1) := by decide +kernel
theorem dX7_isFirst_89 : decode cX7_isFirst 89 = .ok (.goto 4, 3) := by decide +kernel
theorem dX7_isFirst_92 : decode cX7_isFirst 92 = .ok (.iconst 0, 1) := by decide +kernel
theorem dX7_isFirst_93 : decode cX7_isFirst 93 = .ok (.ireturn, 1) := by decide +kernel
theorem dX7_needsSecond_0 : decode cX7_needsSecond 0 = .ok (.iload_n 0, 1) := by decide +kernel
theorem dX7_needsSecond_1 : decode cX7_needsSecond 1 = .ok (.bipush 98, 2) := by decide +kernel
theorem dX7_needsSecond_3 : decode cX7_needsSecond 3 = .ok (.if_icmp .eq 15, 3) := by decide +kernel
theorem dX7_needsSecond_6 : decode cX7_needsSecond 6 = .ok (.iload_n 0, 1) := by decide +kernel
theorem dX7_needsSecond_7 : decode cX7_needsSecond 7 = .ok (.bipush 108, 2) := by decide +kernel
theorem dX7_needsSecond_9 : decode cX7_needsSecond 9 = .ok (.if_icmp .eq 9, 3) := by decide +kernel
theorem dX7_needsSecond_12 : decode cX7_needsSecond 12 = .ok (.iload_n 0, 1) := by decide +kernel
theorem dX7_needsSecond_13 : decode cX7_needsSecond 13 = .ok (.bipush 64, 2) := by decide +kernel
theorem dX7_needsSecond_15 : decode cX7_needsSecond 15 = .ok (.if_icmp .ne 7, 3) := by decide +kernel
theorem dX7_needsSecond_18 : decode cX7_needsSecond 18 = .ok (.iconst 1, 1) := by decide +kernel
theorem dX7_needsSecond_19 : decode cX7_needsSecond 19 = .ok (.goto 4, 3) := by decide +kernel
theorem dX7_needsSecond_22 : decode cX7_needsSecond 22 = .ok (.iconst 0, 1) := by decide +kernel
theorem dX7_needsSecond_23 : decode cX7_needsSecond 23 = .ok (.ireturn, 1) := by decide +kernel
theorem dX7_leastSecond_0 : decode cX7_leastSecond 0 = .ok (.iload_n 0, 1) := by decide +kernel
theorem dX7_leastSecond_1 : decode cX7_leastSecond 1 = .ok (.bipush 64, 2) := by decide +kernel
theorem dX7_leastSecond_3 : decode cX7_leastSecond 3 = .ok (.if_icmp .ne 8, 3) := by decide +kernel
theorem dX7_leastSecond_6 : decode cX7_leastSecond 6 = .ok (.bipush 97, 2) := by decide +kernel
theorem dX7_leastSecond_8 : decode cX7_leastSecond 8 = .ok (.goto 5, 3) := by decide +kernel
theorem dX7_leastSecond_11 : decode cX7_leastSecond 11 = .ok (.bipush 49, 2) := by decide +kernel
theorem dX7_leastSecond_13 : decode cX7_leastSecond 13 = .ok (.ireturn, 1) := by decide +kernel
theorem dX7_mostSecond_0 : decode cX7_mostSecond 0 = .ok (.iload_n 0, 1) := by decide +kernel
theorem dX7_mostSecond_1 : decode cX7_mostSecond 1 = .ok (.lookupswitch 60 #[(64, 57), (98, 51), (108, 51), (110, 54), (119, 51)], 51) := by decide +kernel
theorem dX7_mostSecond_52 : decode cX7_mostSecond 52 = .ok (.bipush 52, 2) := by decide +kernel
theorem dX7_mostSecond_54 : decode cX7_mostSecond 54 = .ok (.ireturn, 1) := by decide +kernel
theorem dX7_mostSecond_55 : decode cX7_mostSecond 55 = .ok (.bipush 54, 2) := by decide +kernel
theorem dX7_mostSecond_57 : decode cX7_mostSecond 57 = .ok (.ireturn, 1) := by decide +kernel
theorem dX7_mostSecond_58 : decode cX7_mostSecond 58 = .ok (.bipush 107, 2) := by decide +kernel
theorem dX7_mostSecond_60 : decode cX7_mostSecond 60 = .ok (.ireturn, 1) := by decide +kernel
theorem dX7_mostSecond_61 : decode cX7_mostSecond 61 = .ok (.iconst 0, 1) := by decide +kernel
theorem dX7_mostSecond_62 : decode cX7_mostSecond 62 = .ok (.ireturn, 1) := by decide +kernel
theorem dX7_pair_0 : decode cX7_pair 0 = .ok (.iload_n 1, 1) := by decide +kernel
theorem dX7_pair_1 : decode cX7_pair 1 = .ok (.bipush 48, 2) := by decide +kernel
theorem dX7_pair_3 : decode cX7_pair 3 = .ok (.isub, 1) := by decide +kernel
theorem dX7_pair_4 : decode cX7_pair 4 = .ok (.istore_n 2, 1) := by decide +kernel
theorem dX7_pair_5 : decode cX7_pair 5 = .ok (.iload_n 0, 1) := by decide +kernel
theorem dX7_pair_6 : decode cX7_pair 6 = .ok (.lookupswitch 76 #[(64, 42), (98, 69), (110, 58), (119, 51)], 42) := by decide +kernel
theorem dX7_pair_48 : decode cX7_pair 48 = .ok (.iconst 1, 1) := by decide +kernel
theorem dX7_pair_49 : decode cX7_pair 49 = .ok (.iload_n 1, 1) := by decide +kernel
theorem dX7_pair_50 : decode cX7_pair 50 = .ok (.bipush 97, 2) := by decide +kernel
theorem dX7_pair_52 : decode cX7_pair 52 = .ok (.isub, 1) := by decide +kernel
theorem dX7_pair_53 : decode cX7_pair 53 = .ok (.invokestatic 69, 3) := by decide +kernel
theorem dX7_pair_56 : decode cX7_pair 56 = .ok (.areturn, 1) := by decide +kernel
theorem dX7_pair_57 : decode cX7_pair 57 = .ok (.iconst 1, 1) := by decide +kernel
theorem dX7_pair_58 : decode cX7_pair 58 = .ok (.iload_n 2, 1) := by decide +kernel
theorem dX7_pair_59 : decode cX7_pair 59 = .ok (.iconst 0, 1) := by decide +kernel
theorem dX7_pair_60 : decode cX7_pair 60 = .ok (.invokestatic 73, 3) := by decide +kernel
theorem dX7_pair_63 : decode cX7_pair 63 = .ok (.areturn, 1) := by decide +kernel
theorem dX7_pair_64 : decode cX7_pair 64 = .ok (.iconst 2, 1) := by decide +kernel
theorem dX7_pair_65 : decode cX7_pair 65 = .ok (.iload_n 2, 1) := by decide +kernel
theorem dX7_pair_66 : decode cX7_pair 66 = .ok (.iconst 2, 1) := by decide +kernel
theorem dX7_pair_67 : decode cX7_pair 67 = .ok (.iload_n 2, 1) := by decide +kernel
theorem dX7_pair_68 : decode cX7_pair 68 = .ok (.invokestatic 77, 3) := by decide +kernel
theorem dX7_pair_71 : decode cX7_pair 71 = .ok (.invokestatic 73, 3) := by decide +kernel
theorem dX7_pair_74 : decode cX7_pair 74 = .ok (.areturn, 1) := by decide +kernel
theorem dX7_pair_75 : decode cX7_pair 75 = .ok (.iconst 3, 1) := by decide +kernel
theorem dX7_pair_76 : decode cX7_pair 76 = .ok (.iload_n 2, 1) := by decide +kernel
theorem dX7_pair_77 : decode cX7_pair 77 = .ok (.iconst 0, 1) := by decide +kernel
theorem dX7_pair_78 : decode cX7_pair 78 = .ok (.invokestatic 73, 3) := by decide +kernel
theorem dX7_pair_81 : decode cX7_pair 81 = .ok (.areturn, 1) := by decide +kernel
theorem dX7_pair_82 : decode cX7_pair 82 = .ok (.iconst 4, 1) := by decide +kernel
theorem dX7_pair_83 : decode cX7_pair 83 = .ok (.iload_n 2, 1) := by decide +kernel
theorem dX7_pair_84 : decode cX7_pair 84 = .ok (.iconst 0, 1) := by decide +kernel
theorem dX7_pair_85 : decode cX7_pair 85 = .ok (.invokestatic 73, 3) := by decide +kernel
theorem dX7_pair_88 : decode cX7_pair 88 = .ok (.areturn, 1) := by decide +kernel
theorem dX7_single_0 : decode cX7_single 0 = .ok (.iload_n 0, 1) := by decide +kernel
theorem dX7_single_1 : decode cX7_single 1 = .ok (.lookupswitch 124 #[(46, 67), (67, 97), (76, 106), (82, 115), (87, 88), (110, 81), (119, 74)], 67) := by decide +kernel
theorem dX7_single_68 : decode cX7_single 68 = .ok (.iconst 0, 1) := by decide +kernel
theorem dX7_single_69 : decode cX7_single 69 = .ok (.iconst 0, 1) := by decide +kernel
theorem dX7_single_70 : decode cX7_single 70 = .ok (.iconst 0, 1) := by decide +kernel
theorem dX7_single_71 : decode cX7_single 71 = .ok (.invokestatic 73, 3) := by decide +kernel
theorem dX7_single_74 : decode cX7_single 74 = .ok (.areturn, 1) := by decide +kernel
theorem dX7_single_75 : decode cX7_single 75 = .ok (.iconst 1, 1) := by decide +kernel
theorem dX7_single_76 : decode cX7_single 76 = .ok (.iconst 0, 1) := by decide +kernel
theorem dX7_single_77 : decode cX7_single 77 = .ok (.iconst 0, 1) := by decide +kernel
theorem dX7_single_78 : decode cX7_single 78 = .ok (.invokestatic 73, 3) := by decide +kernel
theorem dX7_single_81 : decode cX7_single 81 = .ok (.areturn, 1) := by decide +kernel
theorem dX7_single_82 : decode cX7_single 82 = .ok (.iconst 2, 1) := by decide +kernel
theorem dX7_single_83 : decode cX7_single 83 = .ok (.iconst 0, 1) := by decide +kernel
theorem dX7_single_84 : decode cX7_single 84 = .ok (.iconst 0, 1) := by decide +kernel
theorem dX7_single_85 : decode cX7_single 85 = .ok (.invokestatic 73, 3) := by decide +kernel
theorem dX7_single_88 : decode cX7_single 88 = .ok (.areturn, 1) := by decide +kernel
theorem dX7_single_89 : decode cX7_single 89 = .ok (.iconst 0, 1) := by decide +kernel
theorem dX7_single_90 : decode cX7_single 90 = .ok (.iconst 0, 1) := by decide +kernel
theorem dX7_single_91 : decode cX7_single 91 = .ok (.iconst 0, 1) := by decide +kernel
theorem dX7_single_92 : decode cX7_single 92 = .ok (.iconst 0, 1) := by decide +kernel
theorem dX7_single_93 : decode cX7_single 93 = .ok (.iconst 0, 1) := by decide +kernel
theorem dX7_single_94 : decode cX7_single 94 = .ok (.invokestatic 81, 3) := by decide +kernel
theorem dX7_single_97 : decode cX7_single 97 = .ok (.areturn, 1) := by decide +kernel
theorem dX7_single_98 : decode cX7_single 98 = .ok (.iconst 1, 1) := by decide +kernel
theorem dX7_single_99 : decode cX7_single 99 = .ok (.iconst 0, 1) := by decide +kernel
theorem dX7_single_100 : decode cX7_single 100 = .ok (.iconst 0, 1) := by decide +kernel
theorem dX7_single_101 : decode cX7_single 101 = .ok (.iconst 0, 1) := by decide +kernel
theorem dX7_single_102 : decode cX7_single 102 = .ok (.iconst 0, 1) := by decide +kernel
theorem dX7_single_103 : decode cX7_single 103 = .ok (.invokestatic 81, 3) := by decide +kernel
theorem dX7_single_106 : decode cX7_single 106 = .ok (.areturn, 1) := by decide +kernel
theorem dX7_single_107 : decode cX7_single 107 = .ok (.iconst 2, 1) := by decide +kernel
theorem dX7_single_108 : decode cX7_single 108 = .ok (.iconst 0, 1) := by decide +kernel
theorem dX7_single_109 : decode cX7_single 109 = .ok (.iconst 0, 1) := by decide +kernel
theorem dX7_single_110 : decode cX7_single 110 = .ok (.iconst 0, 1) := by decide +kernel
theorem dX7_single_111 : decode cX7_single 111 = .ok (.iconst 0, 1) := by decide +kernel
theorem dX7_single_112 : decode cX7_single 112 = .ok (.invokestatic 81, 3) := by decide +kernel
theorem dX7_single_115 : decode cX7_single 115 = .ok (.areturn, 1) := by decide +kernel
theorem dX7_single_116 : decode cX7_single 116 = .ok (.iconst 5, 1) := by decide +kernel
theorem dX7_single_117 : decode cX7_single 117 = .ok (.iconst 0, 1) := by decide +kernel
theorem dX7_single_118 : decode cX7_single 118 = .ok (.iconst 0, 1) := by decide +kernel
theorem dX7_single_119 : decode cX7_single 119 = .ok (.iconst 0, 1) := by decide +kernel
theorem dX7_single_120 : decode cX7_single 120 = .ok (.iconst 0, 1) := by decide +kernel
theorem dX7_single_121 : decode cX7_single 121 = .ok (.invokestatic 81, 3) := by decide +kernel
theorem dX7_single_124 : decode cX7_single 124 = .ok (.areturn, 1) := by decide +kernel
theorem dX7_single_125 : decode cX7_single 125 = .ok (.iconst 0, 1) := by decide +kernel
theorem dX7_single_126 : decode cX7_single 126 = .ok (.iload_n 0, 1) := by decide +kernel
theorem dX7_single_127 : decode cX7_single 127 = .ok (.bipush 48, 2) := by decide +kernel
theorem dX7_single_129 : decode cX7_single 129 = .ok (.isub, 1) := by decide +kernel
theorem dX7_single_130 : decode cX7_single 130 = .ok (.iconst 0, 1) := by decide +kernel
theorem dX7_single_131 : decode cX7_single 131 = .ok (.iload_n 0, 1) := by decide +kernel
theorem dX7_single_132 : decode cX7_single 132 = .ok (.bipush 48, 2) := by decide +kernel
theorem dX7_single_134 : decode cX7_single 134 = .ok (.isub, 1) := by decide +kernel
theorem dX7_single_135 : decode cX7_single 135 = .ok (.invokestatic 77, 3) := by decide +kernel
theorem dX7_single_138 : decode cX7_single 138 = .ok (.invokestatic 73, 3) := by decide +kernel
theorem dX7_single_141 : decode cX7_single 141 = .ok (.areturn, 1) := by decide +kernel
