theorem dX1_init_0 : decode cX1_init 0 = .ok (.aload_n 0, 1) := by decide +kernel
theorem dX1_init_1 : decode cX1_init 1 = .ok (.invokespecial 3, 3) := by decide +kernel
theorem dX1_init_4 : decode cX1_init 4 = .ok (.aload_n 0, 1) := by decide +kernel
theorem dX1_init_5 : decode cX1_init 5 = .ok (.new 9, 3) := by decide +kernel
theorem dX1_init_8 : decode cX1_init 8 = .ok (.dup, 1) := by decide +kernel
theorem dX1_init_9 : decode cX1_init 9 = .ok (.iconst 0, 1) := by decide +kernel
theorem dX1_init_10 : decode cX1_init 10 = .ok (.invokespecial 11, 3) := by decide +kernel
theorem dX1_init_13 : decode cX1_init 13 = .ok (.putfield 14, 3) := by decide +kernel
theorem dX1_init_16 : decode cX1_init 16 = .ok (.aload_n 0, 1) := by decide +kernel
theorem dX1_init_17 : decode cX1_init 17 = .ok (.sipush 512, 3) := by decide +kernel
theorem dX1_init_20 : decode cX1_init 20 = .ok (.anewarray 9, 3) := by decide +kernel
theorem dX1_init_23 : decode cX1_init 23 = .ok (.putfield 20, 3) := by decide +kernel
theorem dX1_init_26 : decode cX1_init 26 = .ok (.aload_n 0, 1) := by decide +kernel
theorem dX1_init_27 : decode cX1_init 27 = .ok (.sipush 512, 3) := by decide +kernel
theorem dX1_init_30 : decode cX1_init 30 = .ok (.newarray .int, 2) := by decide +kernel
theorem dX1_init_32 : decode cX1_init 32 = .ok (.putfield 24, 3) := by decide +kernel
theorem dX1_init_35 : decode cX1_init 35 = .ok (.aload_n 0, 1) := by decide +kernel
theorem dX1_init_36 : decode cX1_init 36 = .ok (.iconst 0, 1) := by decide +kernel
theorem dX1_init_37 : decode cX1_init 37 = .ok (.putfield 28, 3) := by decide +kernel
theorem dX1_init_40 : decode cX1_init 40 = .ok (.aload_n 0, 1) := by decide +kernel
theorem dX1_init_41 : decode cX1_init 41 = .ok (.iconst 0, 1) := by decide +kernel
theorem dX1_init_42 : decode cX1_init 42 = .ok (.putfield 32, 3) := by decide +kernel
theorem dX1_init_45 : decode cX1_init 45 = .ok (.aload_n 0, 1) := by decide +kernel
theorem dX1_init_46 : decode cX1_init 46 = .ok (.iconst 0, 1) := by decide +kernel
theorem dX1_init_47 : decode cX1_init 47 = .ok (.putfield 35, 3) := by decide +kernel
theorem dX1_init_50 : decode cX1_init 50 = .ok (.aload_n 0, 1) := by decide +kernel
theorem dX1_init_51 : decode cX1_init 51 = .ok (.iconst 0, 1) := by decide +kernel
theorem dX1_init_52 : decode cX1_init 52 = .ok (.putfield 38, 3) := by decide +kernel
theorem dX1_init_55 : decode cX1_init 55 = .ok (.aload_n 0, 1) := by decide +kernel
theorem dX1_init_56 : decode cX1_init 56 = .ok (.iconst 0, 1) := by decide +kernel
theorem dX1_init_57 : decode cX1_init 57 = .ok (.putfield 41, 3) := by decide +kernel
theorem dX1_init_60 : decode cX1_init 60 = .ok (.aload_n 0, 1) := by decide +kernel
theorem dX1_init_61 : decode cX1_init 61 = .ok (.iconst 0, 1) := by decide +kernel
theorem dX1_init_62 : decode cX1_init 62 = .ok (.putfield 44, 3) := by decide +kernel
theorem dX1_init_65 : decode cX1_init 65 = .ok (.iconst 0, 1) := by decide +kernel
theorem dX1_init_66 : decode cX1_init 66 = .ok (.istore_n 1, 1) := by decide +kernel
theorem dX1_init_67 : decode cX1_init 67 = .ok (.iload_n 1, 1) := by decide +kernel
theorem dX1_init_68 : decode cX1_init 68 = .ok (.aload_n 0, 1) := by decide +kernel
theorem dX1_init_69 : decode cX1_init 69 = .ok (.getfield 20, 3) := by decide +kernel
theorem dX1_init_72 : decode cX1_init 72 = .ok (.arraylength, 1) := by decide +kernel
theorem dX1_init_73 : decode cX1_init 73 = .ok (.if_icmp .ge 19, 3) := by decide +kernel
theorem dX1_init_76 : decode cX1_init 76 = .ok (.aload_n 0, 1) := by decide +kernel
theorem dX1_init_77 : decode cX1_init 77 = .ok (.getfield 20, 3) := by decide +kernel
theorem dX1_init_80 : decode cX1_init 80 = .ok (.iload_n 1, 1) := by decide +kernel
theorem dX1_init_81 : decode cX1_init 81 = .ok (.aload_n 0, 1) := by decide +kernel
theorem dX1_init_82 : decode cX1_init 82 = .ok (.getfield 14, 3) := by decide +kernel
theorem dX1_init_85 : decode cX1_init 85 = .ok (.aastore, 1) := by decide +kernel
theorem dX1_init_86 : decode cX1_init 86 = .ok (.iinc 1 1, 3) := by decide +kernel
theorem dX1_init_89 : decode cX1_init 89 = .ok (.goto (-22), 3) := by decide +kernel
theorem dX1_init_92 : decode cX1_init 92 = .ok (.return_, 1) := by decide +kernel
theorem dX1_start_0 : decode cX1_start 0 = .ok (.aload_n 0, 1) := by decide +kernel
theorem dX1_start_1 : decode cX1_start 1 = .ok (.iload_n 1, 1) := by decide +kernel
theorem dX1_start_2 : decode cX1_start 2 = .ok (.putfield 28, 3) := by decide +kernel
theorem dX1_start_5 : decode cX1_start 5 = .ok (.aload_n 0, 1) := by decide +kernel
theorem dX1_start_6 : decode cX1_start 6 = .ok (.iload_n 2, 1) := by decide +kernel
theorem dX1_start_7 : decode cX1_start 7 = .ok (.putfield 32, 3) := by decide +kernel
theorem dX1_start_10 : decode cX1_start 10 = .ok (.aload_n 0, 1) := by decide +kernel
theorem dX1_start_11 : decode cX1_start 11 = .ok (.iload_n 3, 1) := by decide +kernel
theorem dX1_start_12 : decode cX1_start 12 = .ok (.putfield 35, 3) := by decide +kernel
theorem dX1_start_15 : decode cX1_start 15 = .ok (.aload_n 0, 1) := by decide +kernel
theorem dX1_start_16 : decode cX1_start 16 = .ok (.iconst 0, 1) := by decide +kernel
theorem dX1_start_17 : decode cX1_start 17 = .ok (.putfield 38, 3) := by decide +kernel
theorem dX1_start_20 : decode cX1_start 20 = .ok (.aload_n 0, 1) := by decide +kernel
theorem dX1_start_21 : decode cX1_start 21 = .ok (.iconst 0, 1) := by decide +kernel
theorem dX1_start_22 : decode cX1_start 22 = .ok (.putfield 41, 3) := by decide +kernel
theorem dX1_start_25 : decode cX1_start 25 = .ok (.aload_n 0, 1) := by decide +kernel
theorem dX1_start_26 : decode cX1_start 26 = .ok (.iconst 0, 1) := by decide +kernel
theorem dX1_start_27 : decode cX1_start 27 = .ok (.putfield 44, 3) := by decide +kernel
theorem dX1_start_30 : decode cX1_start 30 = .ok (.return_, 1) := by decide +kernel
theorem dX1_hasMatch_0 : decode cX1_hasMatch 0 = .ok (.aload_n 0, 1) := by decide +kernel
theorem dX1_hasMatch_1 : decode cX1_hasMatch 1 = .ok (.getfield 32, 3) := by decide +kernel
theorem dX1_hasMatch_4 : decode cX1_hasMatch 4 = .ok (.ifCond .le 7, 3) := by decide +kernel
theorem dX1_hasMatch_7 : decode cX1_hasMatch 7 = .ok (.iconst 1, 1) := by decide +kernel
theorem dX1_hasMatch_8 : decode cX1_hasMatch 8 = .ok (.goto 4, 3) := by decide +kernel
theorem dX1_hasMatch_11 : decode cX1_hasMatch 11 = .ok (.iconst 0, 1) := by decide +kernel
theorem dX1_hasMatch_12 : decode cX1_hasMatch 12 = .ok (.ireturn, 1) := by decide +kernel
theorem dX1_hasRoom_0 : decode cX1_hasRoom 0 = .ok (.aload_n 0, 1) := by decide +kernel
theorem dX1_hasRoom_1 : decode cX1_hasRoom 1 = .ok (.getfield 38, 3) := by decide +kernel
theorem dX1_hasRoom_4 : decode cX1_hasRoom 4 = .ok (.iload_n 1, 1) := by decide +kernel
theorem dX1_hasRoom_5 : decode cX1_hasRoom 5 = .ok (.iadd, 1) := by decide +kernel
theorem dX1_hasRoom_6 : decode cX1_hasRoom 6 = .ok (.aload_n 0, 1) := by decide +kernel
theorem dX1_hasRoom_7 : decode cX1_hasRoom 7 = .ok (.getfield 20, 3) := by decide +kernel
theorem dX1_hasRoom_10 : decode cX1_hasRoom 10 = .ok (.arraylength, 1) := by decide +kernel
theorem dX1_hasRoom_11 : decode cX1_hasRoom 11 = .ok (.if_icmp .gt 19, 3) := by decide +kernel
theorem dX1_hasRoom_14 : decode cX1_hasRoom 14 = .ok (.aload_n 0, 1) := by decide +kernel
theorem dX1_hasRoom_15 : decode cX1_hasRoom 15 = .ok (.getfield 41, 3) := by decide +kernel
theorem dX1_hasRoom_18 : decode cX1_hasRoom 18 = .ok (.aload_n 0, 1) := by decide +kernel
theorem dX1_hasRoom_19 : decode cX1_hasRoom 19 = .ok (.getfield 24, 3) := by decide +kernel
theorem dX1_hasRoom_22 : decode cX1_hasRoom 22 = .ok (.arraylength, 1) := by decide +kernel
theorem dX1_hasRoom_23 : decode cX1_hasRoom 23 = .ok (.if_icmp .ge 7, 3) := by decide +kernel
theorem dX1_hasRoom_26 : decode cX1_hasRoom 26 = .ok (.iconst 1, 1) := by decide +kernel
theorem dX1_hasRoom_27 : decode cX1_hasRoom 27 = .ok (.goto 4, 3) := by decide +kernel
theorem dX1_hasRoom_30 : decode cX1_hasRoom 30 = .ok (.iconst 0, 1) := by decide +kernel
theorem dX1_hasRoom_31 : decode cX1_hasRoom 31 = .ok (.ireturn, 1) := by decide +kernel
theorem dX1_step_0 : decode cX1_step 0 = .ok (.iload_n 1, 1) := by decide +kernel
theorem dX1_step_1 : decode cX1_step 1 = .ok (.ifCond .lt 29, 3) := by decide +kernel
theorem dX1_step_4 : decode cX1_step 4 = .ok (.iload_n 1, 1) := by decide +kernel
theorem dX1_step_5 : decode cX1_step 5 = .ok (.aload_n 0, 1) := by decide +kernel
theorem dX1_step_6 : decode cX1_step 6 = .ok (.getfield 38, 3) := by decide +kernel
theorem dX1_step_9 : decode cX1_step 9 = .ok (.if_icmp .ge 21, 3) := by decide +kernel
theorem dX1_step_12 : decode cX1_step 12 = .ok (.iload_n 1, 1) := by decide +kernel
theorem dX1_step_13 : decode cX1_step 13 = .ok (.aload_n 0, 1) := by decide +kernel
theorem dX1_step_14 : decode cX1_step 14 = .ok (.getfield 20, 3) := by decide +kernel
theorem dX1_step_17 : decode cX1_step 17 = .ok (.arraylength, 1) := by decide +kernel
theorem dX1_step_18 : decode cX1_step 18 = .ok (.if_icmp .ge 12, 3) := by decide +kernel
theorem dX1_step_21 : decode cX1_step 21 = .ok (.aload_n 0, 1) := by decide +kernel
theorem dX1_step_22 : decode cX1_step 22 = .ok (.getfield 20, 3) := by decide +kernel
theorem dX1_step_25 : decode cX1_step 25 = .ok (.iload_n 1, 1) := by decide +kernel
theorem dX1_step_26 : decode cX1_step 26 = .ok (.aaload, 1) := by decide +kernel
theorem dX1_step_27 : decode cX1_step 27 = .ok (.goto 7, 3) := by decide +kernel
theorem dX1_step_30 : decode cX1_step 30 = .ok (.aload_n 0, 1) := by decide +kernel
theorem dX1_step_31 : decode cX1_step 31 = .ok (.getfield 14, 3) := by decide +kernel
theorem dX1_step_34 : decode cX1_step 34 = .ok (.areturn, 1) := by decide +kernel
theorem dX1_add_0 : decode cX1_add 0 = .ok (.aload_n 0, 1) := by decide +kernel
theorem dX1_add_1 : decode cX1_add 1 = .ok (.getfield 38, 3) := by decide +kernel
theorem dX1_add_4 : decode cX1_add 4 = .ok (.ifCond .lt 35, 3) := by decide +kernel
theorem dX1_add_7 : decode cX1_add 7 = .ok (.aload_n 0, 1) := by decide +kernel
theorem dX1_add_8 : decode cX1_add 8 = .ok (.getfield 38, 3) := by decide +kernel
theorem dX1_add_11 : decode cX1_add 11 = .ok (.aload_n 0, 1) := by decide +kernel
theorem dX1_add_12 : decode cX1_add 12 = .ok (.getfield 20, 3) := by decide +kernel
theorem dX1_add_15 : decode cX1_add 15 = .ok (.arraylength, 1) := by decide +kernel
theorem dX1_add_16 : decode cX1_add 16 = .ok (.if_icmp .ge 23, 3) := by decide +kernel
theorem dX1_add_19 : decode cX1_add 19 = .ok (.aload_n 0, 1) := by decide +kernel
theorem dX1_add_20 : decode cX1_add 20 = .ok (.getfield 20, 3) := by decide +kernel
theorem dX1_add_23 : decode cX1_add 23 = .ok (.aload_n 0, 1) := by decide +kernel
theorem dX1_add_24 : decode cX1_add 24 = .ok (.getfield 38, 3) := by decide +kernel
theorem dX1_add_27 : decode cX1_add 27 = .ok (.aload_n 1, 1) := by decide +kernel
theorem dX1_add_28 : decode cX1_add 28 = .ok (.aastore, 1) := by decide +kernel
theorem dX1_add_29 : decode cX1_add 29 = .ok (.aload_n 0, 1) := by decide +kernel
theorem dX1_add_30 : decode cX1_add 30 = .ok (.dup, 1) := by decide +kernel
theorem dX1_add_31 : decode cX1_add 31 = .ok (.getfield 38, 3) := by decide +kernel
theorem dX1_add_34 : decode cX1_add 34 = .ok (.iconst 1, 1) := by decide +kernel
theorem dX1_add_35 : decode cX1_add 35 = .ok (.iadd, 1) := by decide +kernel
theorem dX1_add_36 : decode cX1_add 36 = .ok (.putfield 38, 3) := by decide +kernel
theorem dX1_add_39 : decode cX1_add 39 = .ok (.return_, 1) := by decide +kernel
theorem dX1_endCommand_0 : decode cX1_endCommand 0 = .ok (.aload_n 0, 1) := by decide +kernel
theorem dX1_endCommand_1 : decode cX1_endCommand 1 = .ok (.getfield 41, 3) := by decide +kernel
theorem dX1_endCommand_4 : decode cX1_endCommand 4 = .ok (.ifCond .lt 53, 3) := by decide +kernel
theorem dX1_endCommand_7 : decode cX1_endCommand 7 = .ok (.aload_n 0, 1) := by decide +kernel
theorem dX1_endCommand_8 : decode cX1_endCommand 8 = .ok (.getfield 41, 3) := by decide +kernel
theorem dX1_endCommand_11 : decode cX1_endCommand 11 = .ok (.aload_n 0, 1) := by decide +kernel
theorem dX1_endCommand_12 : decode cX1_endCommand 12 = .ok (.getfield 24, 3) := by decide +kernel
theorem dX1_endCommand_15 : decode cX1_endCommand 15 = .ok (.arraylength, 1) := by decide +kernel
theorem dX1_endCommand_16 : decode cX1_endCommand 16 = .ok (.if_icmp .ge 41, 3) := by decide +kernel
theorem dX1_endCommand_19 : decode cX1_endCommand 19 = .ok (.aload_n 0, 1) := by decide +kernel
theorem dX1_endCommand_20 : decode cX1_endCommand 20 = .ok (.getfield 24, 3) := by decide +kernel
theorem dX1_endCommand_23 : decode cX1_endCommand 23 = .ok (.aload_n 0, 1) := by decide +kernel
theorem dX1_endCommand_24 : decode cX1_endCommand 24 = .ok (.getfield 41, 3) := by decide +kernel
theorem dX1_endCommand_27 : decode cX1_endCommand 27 = .ok (.aload_n 0, 1) := by decide +kernel
theorem dX1_endCommand_28 : decode cX1_endCommand 28 = .ok (.getfield 38, 3) := by decide +kernel
theorem dX1_endCommand_31 : decode cX1_endCommand 31 = .ok (.iastore, 1) := by decide +kernel
theorem dX1_endCommand_32 : decode cX1_endCommand 32 = .ok (.aload_n 0, 1) := by decide +kernel
theorem dX1_endCommand_33 : decode cX1_endCommand 33 = .ok (.dup, 1) := by decide +kernel
theorem dX1_endCommand_34 : decode cX1_endCommand 34 = .ok (.getfield 41, 3) := by decide +kernel
theorem dX1_endCommand_37 : decode cX1_endCommand 37 = .ok (.iconst 1, 1) := by decide +kernel
theorem dX1_endCommand_38 : decode cX1_endCommand 38 = .ok (.iadd, 1) := by decide +kernel
theorem dX1_endCommand_39 : decode cX1_endCommand 39 = .ok (.putfield 41, 3) := by decide +kernel
theorem dX1_endCommand_42 : decode cX1_endCommand 42 = .ok (.aload_n 0, 1) := by decide +kernel
theorem dX1_endCommand_43 : decode cX1_endCommand 43 = .ok (.aload_n 0, 1) := by decide +kernel
theorem dX1_endCommand_44 : decode cX1_endCommand 44 = .ok (.getfield 44, 3) := by decide +kernel
theorem dX1_endCommand_47 : decode cX1_endCommand 47 = .ok (.bipush 7, 2) := by decide +kernel
theorem dX1_endCommand_49 : decode cX1_endCommand 49 = .ok (.invokestatic 47, 3) := by decide +kernel
theorem dX1_endCommand_52 : decode cX1_endCommand 52 = .ok (.iconst 1, 1) := by decide +kernel
theorem dX1_endCommand_53 : decode cX1_endCommand 53 = .ok (.iadd, 1) := by decide +kernel
theorem dX1_endCommand_54 : decode cX1_endCommand 54 = .ok (.putfield 44, 3) := by decide +kernel
theorem dX1_endCommand_57 : decode cX1_endCommand 57 = .ok (.return_, 1) := by decide +kernel
theorem dX1_dropCommand_0 : decode cX1_dropCommand 0 = .ok (.aload_n 0, 1) := by decide +kernel
theorem dX1_dropCommand_1 : decode cX1_dropCommand 1 = .ok (.dup, 1) := by decide +kernel
theorem dX1_dropCommand_2 : decode cX1_dropCommand 2 = .ok (.getfield 41, 3) := by decide +kernel
theorem dX1_dropCommand_5 : decode cX1_dropCommand 5 = .ok (.iconst 1, 1) := by decide +kernel
theorem dX1_dropCommand_6 : decode cX1_dropCommand 6 = .ok (.isub, 1) := by decide +kernel
theorem dX1_dropCommand_7 : decode cX1_dropCommand 7 = .ok (.putfield 41, 3) := by decide +kernel
theorem dX1_dropCommand_10 : decode cX1_dropCommand 10 = .ok (.aload_n 0, 1) := by decide +kernel
theorem dX1_dropCommand_11 : decode cX1_dropCommand 11 = .ok (.dup, 1) := by decide +kernel
theorem dX1_dropCommand_12 : decode cX1_dropCommand 12 = .ok (.getfield 44, 3) := by decide +kernel
theorem dX1_dropCommand_15 : decode cX1_dropCommand 15 = .ok (.iconst 1, 1) := by decide +kernel
theorem dX1_dropCommand_16 : decode cX1_dropCommand 16 = .ok (.isub, 1) := by decide +kernel
theorem dX1_dropCommand_17 : decode cX1_dropCommand 17 = .ok (.putfield 44, 3) := by decide +kernel
theorem dX1_dropCommand_20 : decode cX1_dropCommand 20 = .ok (.aload_n 0, 1) := by decide +kernel
theorem dX1_dropCommand_21 : decode cX1_dropCommand 21 = .ok (.getfield 41, 3) := by decide +kernel
theorem dX1_dropCommand_24 : decode cX1_dropCommand 24 = .ok (.iconst 1, 1) := by decide +kernel
theorem dX1_dropCommand_25 : decode cX1_dropCommand 25 = .ok (.isub, 1) := by decide +kernel
theorem dX1_dropCommand_26 : decode cX1_dropCommand 26 = .ok (.istore_n 1, 1) := by decide +kernel
theorem dX1_dropCommand_27 : decode cX1_dropCommand 27 = .ok (.aload_n 0, 1) := by decide +kernel
theorem dX1_dropCommand_28 : decode cX1_dropCommand 28 = .ok (.iload_n 1, 1) := by decide +kernel
theorem dX1_dropCommand_29 : decode cX1_dropCommand 29 = .ok (.ifCond .lt 21, 3) := by decide +kernel
theorem dX1_dropCommand_32 : decode cX1_dropCommand 32 = .ok (.iload_n 1, 1) := by decide +kernel
theorem dX1_dropCommand_33 : decode cX1_dropCommand 33 = .ok (.aload_n 0, 1) := by decide +kernel
theorem dX1_dropCommand_34 : decode cX1_dropCommand 34 = .ok (.getfield 24, 3) := by decide +kernel
theorem dX1_dropCommand_37 : decode cX1_dropCommand 37 = .ok (.arraylength, 1) := by decide +kernel
theorem dX1_dropCommand_38 : decode cX1_dropCommand 38 = .ok (.if_icmp .ge 12, 3) := by decide +kernel
theorem dX1_dropCommand_41 : decode cX1_dropCommand 41 = .ok (.aload_n 0, 1) := by decide +kernel
theorem dX1_dropCommand_42 : decode cX1_dropCommand 42 = .ok (.getfield 24, 3) := by decide +kernel
theorem dX1_dropCommand_45 : decode cX1_dropCommand 45 = .ok (.iload_n 1, 1) := by decide +kernel
theorem dX1_dropCommand_46 : decode cX1_dropCommand 46 = .ok (.iaload, 1) := by decide +kernel
theorem dX1_dropCommand_47 : decode cX1_dropCommand 47 = .ok (.goto 4, 3) := by decide +kernel
theorem dX1_dropCommand_50 : decode cX1_dropCommand 50 = .ok (.iconst 0, 1) := by decide +kernel
theorem dX1_dropCommand_51 : decode cX1_dropCommand 51 = .ok (.putfield 38, 3) := by decide +kernel
theorem dX1_dropCommand_54 : decode cX1_dropCommand 54 = .ok (.return_, 1) := by decide +kernel
theorem dX1_copy_0 : decode cX1_copy 0 = .ok (.aload_n 0, 1) := by decide +kernel
theorem dX1_copy_1 : decode cX1_copy 1 = .ok (.aload_n 1, 1) := by decide +kernel
theorem dX1_copy_2 : decode cX1_copy 2 = .ok (.getfield 28, 3) := by decide +kernel
theorem dX1_copy_5 : decode cX1_copy 5 = .ok (.aload_n 1, 1) := by decide +kernel
theorem dX1_copy_6 : decode cX1_copy 6 = .ok (.getfield 32, 3) := by decide +kernel
theorem dX1_copy_9 : decode cX1_copy 9 = .ok (.aload_n 1, 1) := by decide +kernel
theorem dX1_copy_10 : decode cX1_copy 10 = .ok (.getfield 35, 3) := by decide +kernel
theorem dX1_copy_13 : decode cX1_copy 13 = .ok (.invokevirtual 53, 3) := by decide +kernel
theorem dX1_copy_16 : decode cX1_copy 16 = .ok (.iconst 0, 1) := by decide +kernel
theorem dX1_copy_17 : decode cX1_copy 17 = .ok (.istore_n 2, 1) := by decide +kernel
theorem dX1_copy_18 : decode cX1_copy 18 = .ok (.iload_n 2, 1) := by decide +kernel
theorem dX1_copy_19 : decode cX1_copy 19 = .ok (.aload_n 1, 1) := by decide +kernel
theorem dX1_copy_20 : decode cX1_copy 20 = .ok (.getfield 38, 3) := by decide +kernel
theorem dX1_copy_23 : decode cX1_copy 23 = .ok (.if_icmp .ge 18, 3) := by decide +kernel
theorem dX1_copy_26 : decode cX1_copy 26 = .ok (.aload_n 0, 1) := by decide +kernel
theorem dX1_copy_27 : decode cX1_copy 27 = .ok (.aload_n 1, 1) := by decide +kernel
theorem dX1_copy_28 : decode cX1_copy 28 = .ok (.iload_n 2, 1) := by decide +kernel
theorem dX1_copy_29 : decode cX1_copy 29 = .ok (.invokevirtual 57, 3) := by decide +kernel
theorem dX1_copy_32 : decode cX1_copy 32 = .ok (.invokevirtual 61, 3) := by decide +kernel
theorem dX1_copy_35 : decode cX1_copy 35 = .ok (.iinc 2 1, 3) := by decide +kernel
theorem dX1_copy_38 : decode cX1_copy 38 = .ok (.goto (-20), 3) := by decide +kernel
theorem dX1_copy_41 : decode cX1_copy 41 = .ok (.aload_n 1, 1) := by decide +kernel
theorem dX1_copy_42 : decode cX1_copy 42 = .ok (.getfield 24, 3) := by decide +kernel
theorem dX1_copy_45 : decode cX1_copy 45 = .ok (.iconst 0, 1) := by decide +kernel
theorem dX1_copy_46 : decode cX1_copy 46 = .ok (.aload_n 0, 1) := by decide +kernel
theorem dX1_copy_47 : decode cX1_copy 47 = .ok (.getfield 24, 3) := by decide +kernel
theorem dX1_copy_50 : decode cX1_copy 50 = .ok (.iconst 0, 1) := by decide +kernel
theorem dX1_copy_51 : decode cX1_copy 51 = .ok (.aload_n 0, 1) := by decide +kernel
theorem dX1_copy_52 : decode cX1_copy 52 = .ok (.getfield 24, 3) := by decide +kernel
theorem dX1_copy_55 : decode cX1_copy 55 = .ok (.arraylength, 1) := by decide +kernel
theorem dX1_copy_56 : decode cX1_copy 56 = .ok (.invokestatic 65, 3) := by decide +kernel
theorem dX1_copy_59 : decode cX1_copy 59 = .ok (.aload_n 0, 1) := by decide +kernel
theorem dX1_copy_60 : decode cX1_copy 60 = .ok (.aload_n 1, 1) := by decide +kernel
theorem dX1_copy_61 : decode cX1_copy 61 = .ok (.getfield 41, 3) := by decide +kernel
theorem dX1_copy_64 : decode cX1_copy 64 = .ok (.putfield 41, 3) := by decide +kernel
theorem dX1_copy_67 : decode cX1_copy 67 = .ok (.return_, 1) := by decide +kernel
