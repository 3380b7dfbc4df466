set_option maxRecDepth 20000 in
theorem ggX0_init_X6_init : GoodIn wsX0_init wsX6_init := goodIn_r _ [23, 24, 2, 3, 25, 26, 27, 28, 29, 30, 31, 32, 45, 46, 47] (by decide +kernel) (by decide +kernel)
set_option maxRecDepth 20000 in
theorem gX0_init_X6_init : GoodIn wsX0_init (wsX6_init) := ggX0_init_X6_init
set_option maxRecDepth 20000 in
theorem ggX0_init_X3_init : GoodIn wsX0_init wsX3_init := goodIn_r _ [34, 35, 2, 3, 31, 36, 37, 38, 39, 40, 41, 42, 43, 44, 59, 60, 61, 62, 63, 64, 65, 66, 67] (by decide +kernel) (by decide +kernel)
set_option maxRecDepth 20000 in
theorem gX0_init_X3_init_n34 : GoodIn wsX0_init (wsX3_init) := ggX0_init_X3_init
theorem dX0_init_0 : decode cX0_init 0 = .ok (.aload_n 0, 1) := by decide +kernel
theorem dX0_init_1 : decode cX0_init 1 = .ok (.invokespecial 3, 3) := by decide +kernel
theorem dX0_init_4 : decode cX0_init 4 = .ok (.aload_n 0, 1) := by decide +kernel
theorem dX0_init_5 : decode cX0_init 5 = .ok (.new 9, 3) := by decide +kernel
theorem dX0_init_8 : decode cX0_init 8 = .ok (.dup, 1) := by decide +kernel
theorem dX0_init_9 : decode cX0_init 9 = .ok (.iconst 1, 1) := by decide +kernel
theorem dX0_init_10 : decode cX0_init 10 = .ok (.bipush 8, 2) := by decide +kernel
theorem dX0_init_12 : decode cX0_init 12 = .ok (.invokespecial 13, 3) := by decide +kernel
theorem dX0_init_15 : decode cX0_init 15 = .ok (.putfield 16, 3) := by decide +kernel
theorem dX0_init_18 : decode cX0_init 18 = .ok (.aload_n 0, 1) := by decide +kernel
theorem dX0_init_19 : decode cX0_init 19 = .ok (.new 9, 3) := by decide +kernel
theorem dX0_init_22 : decode cX0_init 22 = .ok (.dup, 1) := by decide +kernel
theorem dX0_init_23 : decode cX0_init 23 = .ok (.bipush 11, 2) := by decide +kernel
theorem dX0_init_25 : decode cX0_init 25 = .ok (.bipush 6, 2) := by decide +kernel
theorem dX0_init_27 : decode cX0_init 27 = .ok (.invokespecial 13, 3) := by decide +kernel
theorem dX0_init_30 : decode cX0_init 30 = .ok (.putfield 20, 3) := by decide +kernel
theorem dX0_init_33 : decode cX0_init 33 = .ok (.aload_n 0, 1) := by decide +kernel
theorem dX0_init_34 : decode cX0_init 34 = .ok (.new 9, 3) := by decide +kernel
theorem dX0_init_37 : decode cX0_init 37 = .ok (.dup, 1) := by decide +kernel
theorem dX0_init_38 : decode cX0_init 38 = .ok (.bipush 11, 2) := by decide +kernel
theorem dX0_init_40 : decode cX0_init 40 = .ok (.bipush 7, 2) := by decide +kernel
theorem dX0_init_42 : decode cX0_init 42 = .ok (.invokespecial 13, 3) := by decide +kernel
theorem dX0_init_45 : decode cX0_init 45 = .ok (.putfield 23, 3) := by decide +kernel
theorem dX0_init_48 : decode cX0_init 48 = .ok (.aload_n 0, 1) := by decide +kernel
theorem dX0_init_49 : decode cX0_init 49 = .ok (.new 9, 3) := by decide +kernel
theorem dX0_init_52 : decode cX0_init 52 = .ok (.dup, 1) := by decide +kernel
theorem dX0_init_53 : decode cX0_init 53 = .ok (.sipush 513, 3) := by decide +kernel
theorem dX0_init_56 : decode cX0_init 56 = .ok (.bipush 8, 2) := by decide +kernel
theorem dX0_init_58 : decode cX0_init 58 = .ok (.invokespecial 13, 3) := by decide +kernel
theorem dX0_init_61 : decode cX0_init 61 = .ok (.putfield 26, 3) := by decide +kernel
theorem dX0_init_64 : decode cX0_init 64 = .ok (.aload_n 0, 1) := by decide +kernel
theorem dX0_init_65 : decode cX0_init 65 = .ok (.new 9, 3) := by decide +kernel
theorem dX0_init_68 : decode cX0_init 68 = .ok (.dup, 1) := by decide +kernel
theorem dX0_init_69 : decode cX0_init 69 = .ok (.bipush 11, 2) := by decide +kernel
theorem dX0_init_71 : decode cX0_init 71 = .ok (.iconst 3, 1) := by decide +kernel
theorem dX0_init_72 : decode cX0_init 72 = .ok (.invokespecial 13, 3) := by decide +kernel
theorem dX0_init_75 : decode cX0_init 75 = .ok (.putfield 29, 3) := by decide +kernel
theorem dX0_init_78 : decode cX0_init 78 = .ok (.aload_n 0, 1) := by decide +kernel
theorem dX0_init_79 : decode cX0_init 79 = .ok (.new 32, 3) := by decide +kernel
theorem dX0_init_82 : decode cX0_init 82 = .ok (.dup, 1) := by decide +kernel
theorem dX0_init_83 : decode cX0_init 83 = .ok (.invokespecial 34, 3) := by decide +kernel
theorem dX0_init_86 : decode cX0_init 86 = .ok (.putfield 35, 3) := by decide +kernel
theorem dX0_init_89 : decode cX0_init 89 = .ok (.aload_n 0, 1) := by decide +kernel
theorem dX0_init_90 : decode cX0_init 90 = .ok (.iconst 0, 1) := by decide +kernel
theorem dX0_init_91 : decode cX0_init 91 = .ok (.putfield 39, 3) := by decide +kernel
theorem dX0_init_94 : decode cX0_init 94 = .ok (.aload_n 0, 1) := by decide +kernel
theorem dX0_init_95 : decode cX0_init 95 = .ok (.iconst 0, 1) := by decide +kernel
theorem dX0_init_96 : decode cX0_init 96 = .ok (.putfield 43, 3) := by decide +kernel
theorem dX0_init_99 : decode cX0_init 99 = .ok (.aload_n 0, 1) := by decide +kernel
theorem dX0_init_100 : decode cX0_init 100 = .ok (.iconst 1, 1) := by decide +kernel
theorem dX0_init_101 : decode cX0_init 101 = .ok (.putfield 46, 3) := by decide +kernel
theorem dX0_init_104 : decode cX0_init 104 = .ok (.aload_n 0, 1) := by decide +kernel
theorem dX0_init_105 : decode cX0_init 105 = .ok (.iconst (-1), 1) := by decide +kernel
theorem dX0_init_106 : decode cX0_init 106 = .ok (.putfield 49, 3) := by decide +kernel
theorem dX0_init_109 : decode cX0_init 109 = .ok (.aload_n 0, 1) := by decide +kernel
theorem dX0_init_110 : decode cX0_init 110 = .ok (.iconst 0, 1) := by decide +kernel
theorem dX0_init_111 : decode cX0_init 111 = .ok (.putfield 52, 3) := by decide +kernel
theorem dX0_init_114 : decode cX0_init 114 = .ok (.return_, 1) := by decide +kernel
set_option maxRecDepth 20000 in
theorem ggX0_start_X6_restart : GoodIn wsX0_start wsX6_restart := goodIn_ca (goodIn_r _ [16, 17, 18, 19, 20, 15, 21, 22, 23, 82, 83, 84] (by decide +kernel) (by decide +kernel)) (goodIn_sub (fun _ h => List.mem_cons_of_mem _ (List.mem_append_right _ h)) (by decide +kernel))
set_option maxRecDepth 20000 in
theorem gX0_start_X6_restart : GoodIn wsX0_start (wsV RX0 56 RX6 yX6_restart wsX6_restart) := goodIn_app (goodIn_of _ (by decide +kernel)) ggX0_start_X6_restart
set_option maxRecDepth 20000 in
theorem ggX0_start_X3_start : GoodIn wsX0_start wsX3_start := goodIn_r _ [28, 29, 30, 31, 32, 33, 34, 35, 27, 36, 37, 38, 39, 40, 85, 86, 87, 88, 89, 90, 91, 92, 93] (by decide +kernel) (by decide +kernel)
set_option maxRecDepth 20000 in
theorem gX0_start_X3_start : GoodIn wsX0_start (wsV RX0 60 RX3 yX3_start wsX3_start) := goodIn_app (goodIn_of _ (by decide +kernel)) ggX0_start_X3_start
set_option maxRecDepth 20000 in
theorem ggX0_start_X6_set : GoodIn wsX0_start wsX6_set := goodIn_ca (goodIn_r _ [44, 22, 17, 23, 82, 83, 84] (by decide +kernel) (by decide +kernel)) (goodIn_sub (fun _ h => List.mem_cons_of_mem _ (List.mem_append_right _ h)) (by decide +kernel))
set_option maxRecDepth 20000 in
theorem gX0_start_X6_set : GoodIn wsX0_start (wsV RX0 63 RX6 yX6_set wsX6_set) := goodIn_app (goodIn_of _ (by decide +kernel)) ggX0_start_X6_set
set_option maxRecDepth 20000 in
theorem ggX0_start_X0_value : GoodIn wsX0_start wsX0_value := goodIn_ca (goodIn_r _ [49, 6, 50, 1, 51, 52, 53, 15, 54, 22, 17, 23, 71, 72, 73, 74, 75, 76, 77, 78, 79, 80, 81, 85, 86, 87, 88, 89, 90, 91, 92, 93, 82, 83, 84] (by decide +kernel) (by decide +kernel)) (goodIn_sub (fun _ h => List.mem_cons_of_mem _ (List.mem_append_right _ h)) (by decide +kernel))
set_option maxRecDepth 20000 in
theorem gX0_start_X0_value : GoodIn wsX0_start (wsV RX0 67 RX0 yX0_value wsX0_value) := goodIn_app (goodIn_of _ (by decide +kernel)) ggX0_start_X0_value
set_option maxRecDepth 20000 in
theorem ggX0_start_X0_beginPartnership : GoodIn wsX0_start wsX0_beginPartnership := goodIn_ca (goodIn_r _ [58, 4, 8, 9, 59, 60, 61, 62, 63, 64, 65, 66, 19, 20, 15, 21, 17, 22, 23, 67, 68, 69, 70, 41, 42, 43, 44, 71, 72, 73, 74, 75, 76, 77, 78, 79, 80, 81, 82, 83, 84] (by decide +kernel) (by decide +kernel)) (goodIn_sub (fun _ h => List.mem_cons_of_mem _ (List.mem_append_right _ h)) (by decide +kernel))
set_option maxRecDepth 20000 in
theorem gX0_start_X0_beginPartnership : GoodIn wsX0_start (wsV RX0 71 RX0 yX0_beginPartnership wsX0_beginPartnership) := goodIn_app (goodIn_of _ (by decide +kernel)) ggX0_start_X0_beginPartnership
theorem dX0_start_0 : decode cX0_start 0 = .ok (.aload_n 0, 1) := by decide +kernel
theorem dX0_start_1 : decode cX0_start 1 = .ok (.getfield 16, 3) := by decide +kernel
theorem dX0_start_4 : decode cX0_start 4 = .ok (.iconst 1, 1) := by decide +kernel
theorem dX0_start_5 : decode cX0_start 5 = .ok (.invokevirtual 56, 3) := by decide +kernel
theorem dX0_start_8 : decode cX0_start 8 = .ok (.aload_n 0, 1) := by decide +kernel
theorem dX0_start_9 : decode cX0_start 9 = .ok (.getfield 20, 3) := by decide +kernel
theorem dX0_start_12 : decode cX0_start 12 = .ok (.bipush 11, 2) := by decide +kernel
theorem dX0_start_14 : decode cX0_start 14 = .ok (.invokevirtual 56, 3) := by decide +kernel
theorem dX0_start_17 : decode cX0_start 17 = .ok (.aload_n 0, 1) := by decide +kernel
theorem dX0_start_18 : decode cX0_start 18 = .ok (.getfield 23, 3) := by decide +kernel
theorem dX0_start_21 : decode cX0_start 21 = .ok (.bipush 11, 2) := by decide +kernel
theorem dX0_start_23 : decode cX0_start 23 = .ok (.invokevirtual 56, 3) := by decide +kernel
theorem dX0_start_26 : decode cX0_start 26 = .ok (.aload_n 0, 1) := by decide +kernel
theorem dX0_start_27 : decode cX0_start 27 = .ok (.getfield 26, 3) := by decide +kernel
theorem dX0_start_30 : decode cX0_start 30 = .ok (.iconst 0, 1) := by decide +kernel
theorem dX0_start_31 : decode cX0_start 31 = .ok (.invokevirtual 56, 3) := by decide +kernel
theorem dX0_start_34 : decode cX0_start 34 = .ok (.aload_n 0, 1) := by decide +kernel
theorem dX0_start_35 : decode cX0_start 35 = .ok (.getfield 29, 3) := by decide +kernel
theorem dX0_start_38 : decode cX0_start 38 = .ok (.iconst 0, 1) := by decide +kernel
theorem dX0_start_39 : decode cX0_start 39 = .ok (.invokevirtual 56, 3) := by decide +kernel
theorem dX0_start_42 : decode cX0_start 42 = .ok (.aload_n 0, 1) := by decide +kernel
theorem dX0_start_43 : decode cX0_start 43 = .ok (.getfield 35, 3) := by decide +kernel
theorem dX0_start_46 : decode cX0_start 46 = .ok (.iload_n 1, 1) := by decide +kernel
theorem dX0_start_47 : decode cX0_start 47 = .ok (.invokevirtual 60, 3) := by decide +kernel
theorem dX0_start_50 : decode cX0_start 50 = .ok (.iconst 0, 1) := by decide +kernel
theorem dX0_start_51 : decode cX0_start 51 = .ok (.istore_n 3, 1) := by decide +kernel
theorem dX0_start_52 : decode cX0_start 52 = .ok (.iload_n 3, 1) := by decide +kernel
theorem dX0_start_53 : decode cX0_start 53 = .ok (.bipush 11, 2) := by decide +kernel
theorem dX0_start_55 : decode cX0_start 55 = .ok (.if_icmp .ge 39, 3) := by decide +kernel
theorem dX0_start_58 : decode cX0_start 58 = .ok (.aload_n 0, 1) := by decide +kernel
theorem dX0_start_59 : decode cX0_start 59 = .ok (.getfield 20, 3) := by decide +kernel
theorem dX0_start_62 : decode cX0_start 62 = .ok (.iload_n 3, 1) := by decide +kernel
theorem dX0_start_63 : decode cX0_start 63 = .ok (.iconst 4, 1) := by decide +kernel
theorem dX0_start_64 : decode cX0_start 64 = .ok (.iload_n 3, 1) := by decide +kernel
theorem dX0_start_65 : decode cX0_start 65 = .ok (.iconst 2, 1) := by decide +kernel
theorem dX0_start_66 : decode cX0_start 66 = .ok (.if_icmp .ge 7, 3) := by decide +kernel
theorem dX0_start_69 : decode cX0_start 69 = .ok (.iconst (-1), 1) := by decide +kernel
theorem dX0_start_70 : decode cX0_start 70 = .ok (.goto 5, 3) := by decide +kernel
theorem dX0_start_73 : decode cX0_start 73 = .ok (.bipush (-2), 2) := by decide +kernel
theorem dX0_start_75 : decode cX0_start 75 = .ok (.invokevirtual 63, 3) := by decide +kernel
theorem dX0_start_78 : decode cX0_start 78 = .ok (.aload_n 0, 1) := by decide +kernel
theorem dX0_start_79 : decode cX0_start 79 = .ok (.getfield 20, 3) := by decide +kernel
theorem dX0_start_82 : decode cX0_start 82 = .ok (.iload_n 3, 1) := by decide +kernel
theorem dX0_start_83 : decode cX0_start 83 = .ok (.iconst 5, 1) := by decide +kernel
theorem dX0_start_84 : decode cX0_start 84 = .ok (.iconst (-1), 1) := by decide +kernel
theorem dX0_start_85 : decode cX0_start 85 = .ok (.invokevirtual 63, 3) := by decide +kernel
theorem dX0_start_88 : decode cX0_start 88 = .ok (.iinc 3 1, 3) := by decide +kernel
theorem dX0_start_91 : decode cX0_start 91 = .ok (.goto (-39), 3) := by decide +kernel
theorem dX0_start_94 : decode cX0_start 94 = .ok (.aload_n 0, 1) := by decide +kernel
theorem dX0_start_95 : decode cX0_start 95 = .ok (.iload_n 2, 1) := by decide +kernel
theorem dX0_start_96 : decode cX0_start 96 = .ok (.ifCond .eq 10, 3) := by decide +kernel
theorem dX0_start_99 : decode cX0_start 99 = .ok (.aload_n 0, 1) := by decide +kernel
theorem dX0_start_100 : decode cX0_start 100 = .ok (.invokevirtual 67, 3) := by decide +kernel
theorem dX0_start_103 : decode cX0_start 103 = .ok (.goto 4, 3) := by decide +kernel
theorem dX0_start_106 : decode cX0_start 106 = .ok (.iconst 0, 1) := by decide +kernel
theorem dX0_start_107 : decode cX0_start 107 = .ok (.putfield 39, 3) := by decide +kernel
theorem dX0_start_110 : decode cX0_start 110 = .ok (.aload_n 0, 1) := by decide +kernel
theorem dX0_start_111 : decode cX0_start 111 = .ok (.iconst 0, 1) := by decide +kernel
theorem dX0_start_112 : decode cX0_start 112 = .ok (.putfield 43, 3) := by decide +kernel
theorem dX0_start_115 : decode cX0_start 115 = .ok (.aload_n 0, 1) := by decide +kernel
theorem dX0_start_116 : decode cX0_start 116 = .ok (.iconst 1, 1) := by decide +kernel
theorem dX0_start_117 : decode cX0_start 117 = .ok (.putfield 46, 3) := by decide +kernel
theorem dX0_start_120 : decode cX0_start 120 = .ok (.aload_n 0, 1) := by decide +kernel
theorem dX0_start_121 : decode cX0_start 121 = .ok (.iconst (-1), 1) := by decide +kernel
theorem dX0_start_122 : decode cX0_start 122 = .ok (.putfield 49, 3) := by decide +kernel
theorem dX0_start_125 : decode cX0_start 125 = .ok (.aload_n 0, 1) := by decide +kernel
theorem dX0_start_126 : decode cX0_start 126 = .ok (.iconst 0, 1) := by decide +kernel
theorem dX0_start_127 : decode cX0_start 127 = .ok (.putfield 52, 3) := by decide +kernel
theorem dX0_start_130 : decode cX0_start 130 = .ok (.aload_n 0, 1) := by decide +kernel
theorem dX0_start_131 : decode cX0_start 131 = .ok (.invokevirtual 71, 3) := by decide +kernel
theorem dX0_start_134 : decode cX0_start 134 = .ok (.return_, 1) := by decide +kernel
set_option maxRecDepth 20000 in
theorem ggX0_total_X6_get : GoodIn wsX0_total wsX6_get := goodIn_ca (goodIn_r _ [6, 7, 8, 9, 21, 22, 23] (by decide +kernel) (by decide +kernel)) (goodIn_sub (fun _ h => List.mem_cons_of_mem _ (List.mem_append_right _ h)) (by decide +kernel))
set_option maxRecDepth 20000 in
theorem gX0_total_X6_get : GoodIn wsX0_total (wsV RX0 74 RX6 yX6_get wsX6_get) := goodIn_app (goodIn_of _ (by decide +kernel)) ggX0_total_X6_get
theorem dX0_total_0 : decode cX0_total 0 = .ok (.aload_n 0, 1) := by decide +kernel
theorem dX0_total_1 : decode cX0_total 1 = .ok (.getfield 16, 3) := by decide +kernel
theorem dX0_total_4 : decode cX0_total 4 = .ok (.iconst 0, 1) := by decide +kernel
theorem dX0_total_5 : decode cX0_total 5 = .ok (.iload_n 1, 1) := by decide +kernel
theorem dX0_total_6 : decode cX0_total 6 = .ok (.invokevirtual 74, 3) := by decide +kernel
theorem dX0_total_9 : decode cX0_total 9 = .ok (.ireturn, 1) := by decide +kernel
set_option maxRecDepth 20000 in
theorem ggX0_value_X6_get : GoodIn wsX0_value wsX6_get := goodIn_ca (goodIn_r _ [8, 9, 10, 11, 32, 33, 34] (by decide +kernel) (by decide +kernel)) (goodIn_sub (fun _ h => List.mem_cons_of_mem _ (List.mem_append_right _ h)) (by decide +kernel))
set_option maxRecDepth 20000 in
theorem gX0_value_X6_get : GoodIn wsX0_value (wsV RX0 74 RX6 yX6_get wsX6_get) := goodIn_app (goodIn_of _ (by decide +kernel)) ggX0_value_X6_get
theorem dX0_value_0 : decode cX0_value 0 = .ok (.bipush 6, 2) := by decide +kernel
theorem dX0_value_2 : decode cX0_value 2 = .ok (.aload_n 0, 1) := by decide +kernel
theorem dX0_value_3 : decode cX0_value 3 = .ok (.getfield 35, 3) := by decide +kernel
theorem dX0_value_6 : decode cX0_value 6 = .ok (.getfield 78, 3) := by decide +kernel
theorem dX0_value_9 : decode cX0_value 9 = .ok (.imul, 1) := by decide +kernel
theorem dX0_value_10 : decode cX0_value 10 = .ok (.aload_n 0, 1) := by decide +kernel
theorem dX0_value_11 : decode cX0_value 11 = .ok (.getfield 16, 3) := by decide +kernel
theorem dX0_value_14 : decode cX0_value 14 = .ok (.iconst 0, 1) := by decide +kernel
theorem dX0_value_15 : decode cX0_value 15 = .ok (.iconst 2, 1) := by decide +kernel
theorem dX0_value_16 : decode cX0_value 16 = .ok (.invokevirtual 74, 3) := by decide +kernel
theorem dX0_value_19 : decode cX0_value 19 = .ok (.isub, 1) := by decide +kernel
theorem dX0_value_20 : decode cX0_value 20 = .ok (.istore_n 1, 1) := by decide +kernel
theorem dX0_value_21 : decode cX0_value 21 = .ok (.bipush 10, 2) := by decide +kernel
theorem dX0_value_23 : decode cX0_value 23 = .ok (.aload_n 0, 1) := by decide +kernel
theorem dX0_value_24 : decode cX0_value 24 = .ok (.getfield 16, 3) := by decide +kernel
theorem dX0_value_27 : decode cX0_value 27 = .ok (.iconst 0, 1) := by decide +kernel
theorem dX0_value_28 : decode cX0_value 28 = .ok (.iconst 1, 1) := by decide +kernel
theorem dX0_value_29 : decode cX0_value 29 = .ok (.invokevirtual 74, 3) := by decide +kernel
theorem dX0_value_32 : decode cX0_value 32 = .ok (.isub, 1) := by decide +kernel
theorem dX0_value_33 : decode cX0_value 33 = .ok (.sipush 240, 3) := by decide +kernel
theorem dX0_value_36 : decode cX0_value 36 = .ok (.iload_n 1, 1) := by decide +kernel
theorem dX0_value_37 : decode cX0_value 37 = .ok (.imul, 1) := by decide +kernel
theorem dX0_value_38 : decode cX0_value 38 = .ok (.iload_n 1, 1) := by decide +kernel
theorem dX0_value_39 : decode cX0_value 39 = .ok (.iload_n 1, 1) := by decide +kernel
theorem dX0_value_40 : decode cX0_value 40 = .ok (.imul, 1) := by decide +kernel
theorem dX0_value_41 : decode cX0_value 41 = .ok (.isub, 1) := by decide +kernel
theorem dX0_value_42 : decode cX0_value 42 = .ok (.imul, 1) := by decide +kernel
theorem dX0_value_43 : decode cX0_value 43 = .ok (.ireturn, 1) := by decide +kernel
set_option maxRecDepth 20000 in
theorem ggX0_bowlRefusal_X0_completeOvers : GoodIn wsX0_bowlRefusal wsX0_completeOvers := goodIn_ca (goodIn_r _ [9, 10, 11, 12, 13, 14, 15, 16, 17, 18, 23, 24, 25, 26, 27, 28, 29, 30, 31, 32, 33, 43, 44, 45] (by decide +kernel) (by decide +kernel)) (goodIn_sub (fun _ h => List.mem_cons_of_mem _ (List.mem_append_right _ h)) (by decide +kernel))
set_option maxRecDepth 20000 in
theorem gX0_bowlRefusal_X0_completeOvers : GoodIn wsX0_bowlRefusal (wsV RX0 84 RX0 yX0_completeOvers wsX0_completeOvers) := goodIn_app (goodIn_of _ (by decide +kernel)) ggX0_bowlRefusal_X0_completeOvers
set_option maxRecDepth 20000 in
theorem ggX0_bowlRefusal_X3_quota : GoodIn wsX0_bowlRefusal wsX3_quota := goodIn_r _ [22] (by decide +kernel) (by decide +kernel)
set_option maxRecDepth 20000 in
theorem gX0_bowlRefusal_X3_quota : GoodIn wsX0_bowlRefusal (va_wsS RX0 91 yX3_quota wsX3_quota) := goodIn_app (goodIn_of _ (by decide +kernel)) ggX0_bowlRefusal_X3_quota
theorem dX0_bowlRefusal_0 : decode cX0_bowlRefusal 0 = .ok (.aload_n 0, 1) := by decide +kernel
theorem dX0_bowlRefusal_1 : decode cX0_bowlRefusal 1 = .ok (.getfield 35, 3) := by decide +kernel
theorem dX0_bowlRefusal_4 : decode cX0_bowlRefusal 4 = .ok (.getfield 81, 3) := by decide +kernel
theorem dX0_bowlRefusal_7 : decode cX0_bowlRefusal 7 = .ok (.iconst (-1), 1) := by decide +kernel
theorem dX0_bowlRefusal_8 : decode cX0_bowlRefusal 8 = .ok (.if_icmp .eq 5, 3) := by decide +kernel
theorem dX0_bowlRefusal_11 : decode cX0_bowlRefusal 11 = .ok (.iconst 2, 1) := by decide +kernel
theorem dX0_bowlRefusal_12 : decode cX0_bowlRefusal 12 = .ok (.ireturn, 1) := by decide +kernel
theorem dX0_bowlRefusal_13 : decode cX0_bowlRefusal 13 = .ok (.aload_n 0, 1) := by decide +kernel
theorem dX0_bowlRefusal_14 : decode cX0_bowlRefusal 14 = .ok (.iload_n 1, 1) := by decide +kernel
theorem dX0_bowlRefusal_15 : decode cX0_bowlRefusal 15 = .ok (.invokevirtual 84, 3) := by decide +kernel
theorem dX0_bowlRefusal_18 : decode cX0_bowlRefusal 18 = .ok (.aload_n 0, 1) := by decide +kernel
theorem dX0_bowlRefusal_19 : decode cX0_bowlRefusal 19 = .ok (.getfield 35, 3) := by decide +kernel
theorem dX0_bowlRefusal_22 : decode cX0_bowlRefusal 22 = .ok (.getfield 88, 3) := by decide +kernel
theorem dX0_bowlRefusal_25 : decode cX0_bowlRefusal 25 = .ok (.invokestatic 91, 3) := by decide +kernel
theorem dX0_bowlRefusal_28 : decode cX0_bowlRefusal 28 = .ok (.if_icmp .lt 7, 3) := by decide +kernel
theorem dX0_bowlRefusal_31 : decode cX0_bowlRefusal 31 = .ok (.iconst 1, 1) := by decide +kernel
theorem dX0_bowlRefusal_32 : decode cX0_bowlRefusal 32 = .ok (.goto 4, 3) := by decide +kernel
theorem dX0_bowlRefusal_35 : decode cX0_bowlRefusal 35 = .ok (.iconst 0, 1) := by decide +kernel
theorem dX0_bowlRefusal_36 : decode cX0_bowlRefusal 36 = .ok (.istore_n 2, 1) := by decide +kernel
theorem dX0_bowlRefusal_37 : decode cX0_bowlRefusal 37 = .ok (.iload_n 1, 1) := by decide +kernel
theorem dX0_bowlRefusal_38 : decode cX0_bowlRefusal 38 = .ok (.aload_n 0, 1) := by decide +kernel
theorem dX0_bowlRefusal_39 : decode cX0_bowlRefusal 39 = .ok (.getfield 35, 3) := by decide +kernel
theorem dX0_bowlRefusal_42 : decode cX0_bowlRefusal 42 = .ok (.getfield 94, 3) := by decide +kernel
theorem dX0_bowlRefusal_45 : decode cX0_bowlRefusal 45 = .ok (.if_icmp .eq 7, 3) := by decide +kernel
theorem dX0_bowlRefusal_48 : decode cX0_bowlRefusal 48 = .ok (.iload_n 2, 1) := by decide +kernel
theorem dX0_bowlRefusal_49 : decode cX0_bowlRefusal 49 = .ok (.ifCond .eq 7, 3) := by decide +kernel
theorem dX0_bowlRefusal_52 : decode cX0_bowlRefusal 52 = .ok (.iconst 4, 1) := by decide +kernel
theorem dX0_bowlRefusal_53 : decode cX0_bowlRefusal 53 = .ok (.goto 4, 3) := by decide +kernel
theorem dX0_bowlRefusal_56 : decode cX0_bowlRefusal 56 = .ok (.iconst 0, 1) := by decide +kernel
theorem dX0_bowlRefusal_57 : decode cX0_bowlRefusal 57 = .ok (.ireturn, 1) := by decide +kernel
set_option maxRecDepth 20000 in
theorem ggX0_completeOvers_X6_get : GoodIn wsX0_completeOvers wsX6_get := goodIn_ca (goodIn_r _ [6, 7, 8, 9, 21, 22, 23] (by decide +kernel) (by decide +kernel)) (goodIn_sub (fun _ h => List.mem_cons_of_mem _ (List.mem_append_right _ h)) (by decide +kernel))
set_option maxRecDepth 20000 in
theorem gX0_completeOvers_X6_get : GoodIn wsX0_completeOvers (wsV RX0 74 RX6 yX6_get wsX6_get) := goodIn_app (goodIn_of _ (by decide +kernel)) ggX0_completeOvers_X6_get
theorem dX0_completeOvers_0 : decode cX0_completeOvers 0 = .ok (.aload_n 0, 1) := by decide +kernel
theorem dX0_completeOvers_1 : decode cX0_completeOvers 1 = .ok (.getfield 23, 3) := by decide +kernel
theorem dX0_completeOvers_4 : decode cX0_completeOvers 4 = .ok (.iload_n 1, 1) := by decide +kernel
theorem dX0_completeOvers_5 : decode cX0_completeOvers 5 = .ok (.bipush 6, 2) := by decide +kernel
theorem dX0_completeOvers_7 : decode cX0_completeOvers 7 = .ok (.invokevirtual 74, 3) := by decide +kernel
theorem dX0_completeOvers_10 : decode cX0_completeOvers 10 = .ok (.ireturn, 1) := by decide +kernel
set_option maxRecDepth 20000 in
theorem ggX0_startOver_X0_completeOvers : GoodIn wsX0_startOver wsX0_completeOvers := goodIn_ca (goodIn_r _ [7, 8, 9, 10, 11, 12, 13, 14, 15, 16, 17, 18, 19, 20, 21, 22, 23, 24, 25, 26, 27, 37, 38, 39] (by decide +kernel) (by decide +kernel)) (goodIn_sub (fun _ h => List.mem_cons_of_mem _ (List.mem_append_right _ h)) (by decide +kernel))
set_option maxRecDepth 20000 in
theorem gX0_startOver_X0_completeOvers : GoodIn wsX0_startOver (wsV RX0 84 RX0 yX0_completeOvers wsX0_completeOvers) := goodIn_app (goodIn_of _ (by decide +kernel)) ggX0_startOver_X0_completeOvers
theorem dX0_startOver_0 : decode cX0_startOver 0 = .ok (.aload_n 0, 1) := by decide +kernel
theorem dX0_startOver_1 : decode cX0_startOver 1 = .ok (.getfield 35, 3) := by decide +kernel
theorem dX0_startOver_4 : decode cX0_startOver 4 = .ok (.iload_n 1, 1) := by decide +kernel
theorem dX0_startOver_5 : decode cX0_startOver 5 = .ok (.putfield 81, 3) := by decide +kernel
theorem dX0_startOver_8 : decode cX0_startOver 8 = .ok (.aload_n 0, 1) := by decide +kernel
theorem dX0_startOver_9 : decode cX0_startOver 9 = .ok (.iload_n 1, 1) := by decide +kernel
theorem dX0_startOver_10 : decode cX0_startOver 10 = .ok (.invokevirtual 84, 3) := by decide +kernel
theorem dX0_startOver_13 : decode cX0_startOver 13 = .ok (.ireturn, 1) := by decide +kernel
set_option maxRecDepth 20000 in
theorem ggX0_finishOver_X0_changeEnds : GoodIn wsX0_finishOver wsX0_changeEnds := goodIn_r _ [10, 11, 12, 46, 47, 48, 49, 50, 51, 52, 53, 54, 55, 56] (by decide +kernel) (by decide +kernel)
set_option maxRecDepth 20000 in
theorem gX0_finishOver_X0_changeEnds : GoodIn wsX0_finishOver (wsV RX0 100 RX0 yX0_changeEnds wsX0_changeEnds) := goodIn_app (goodIn_of _ (by decide +kernel)) ggX0_finishOver_X0_changeEnds
set_option maxRecDepth 20000 in
theorem ggX0_finishOver_X6_increase : GoodIn wsX0_finishOver wsX6_increase := goodIn_ca (goodIn_r _ [17, 18, 19, 20, 66, 67, 68] (by decide +kernel) (by decide +kernel)) (goodIn_sub (fun _ h => List.mem_cons_of_mem _ (List.mem_append_right _ h)) (by decide +kernel))
set_option maxRecDepth 20000 in
theorem gX0_finishOver_X6_increase : GoodIn wsX0_finishOver (wsV RX0 103 RX6 yX6_increase wsX6_increase) := goodIn_app (goodIn_of _ (by decide +kernel)) ggX0_finishOver_X6_increase
set_option maxRecDepth 20000 in
theorem ggX0_finishOver_X0_total : GoodIn wsX0_finishOver wsX0_total := goodIn_ca (goodIn_r _ [24, 25, 26, 27, 28, 16, 29, 18, 19, 20, 46, 47, 48, 49, 50, 51, 52, 53, 54, 55, 56, 66, 67, 68] (by decide +kernel) (by decide +kernel)) (goodIn_sub (fun _ h => List.mem_cons_of_mem _ (List.mem_append_right _ h)) (by decide +kernel))
set_option maxRecDepth 20000 in
theorem gX0_finishOver_X0_total : GoodIn wsX0_finishOver (wsV RX0 109 RX0 yX0_total wsX0_total) := goodIn_app (goodIn_of _ (by decide +kernel)) ggX0_finishOver_X0_total
set_option maxRecDepth 20000 in
theorem ggX0_finishOver_X3_finishOver : GoodIn wsX0_finishOver wsX3_finishOver := goodIn_ca (goodIn_r _ [34, 35, 36, 37, 38, 39, 40, 41, 33, 42, 43, 44, 45, 57, 58, 59, 60, 61, 62, 63, 64, 65] (by decide +kernel) (by decide +kernel)) (goodIn_sub (fun _ h => List.mem_cons_of_mem _ (List.mem_append_right _ h)) (by decide +kernel))
set_option maxRecDepth 20000 in
theorem gX0_finishOver_X3_finishOver : GoodIn wsX0_finishOver (wsV RX0 112 RX3 yX3_finishOver wsX3_finishOver) := goodIn_app (goodIn_of _ (by decide +kernel)) ggX0_finishOver_X3_finishOver
theorem dX0_finishOver_0 : decode cX0_finishOver 0 = .ok (.aload_n 0, 1) := by decide +kernel
theorem dX0_finishOver_1 : decode cX0_finishOver 1 = .ok (.getfield 35, 3) := by decide +kernel
theorem dX0_finishOver_4 : decode cX0_finishOver 4 = .ok (.getfield 97, 3) := by decide +kernel
theorem dX0_finishOver_7 : decode cX0_finishOver 7 = .ok (.bipush 6, 2) := by decide +kernel
theorem dX0_finishOver_9 : decode cX0_finishOver 9 = .ok (.if_icmp .ge 4, 3) := by decide +kernel
theorem dX0_finishOver_12 : decode cX0_finishOver 12 = .ok (.return_, 1) := by decide +kernel
theorem dX0_finishOver_13 : decode cX0_finishOver 13 = .ok (.aload_n 0, 1) := by decide +kernel
theorem dX0_finishOver_14 : decode cX0_finishOver 14 = .ok (.invokevirtual 100, 3) := by decide +kernel
theorem dX0_finishOver_17 : decode cX0_finishOver 17 = .ok (.aload_n 0, 1) := by decide +kernel
theorem dX0_finishOver_18 : decode cX0_finishOver 18 = .ok (.getfield 23, 3) := by decide +kernel
theorem dX0_finishOver_21 : decode cX0_finishOver 21 = .ok (.aload_n 0, 1) := by decide +kernel
theorem dX0_finishOver_22 : decode cX0_finishOver 22 = .ok (.getfield 35, 3) := by decide +kernel
theorem dX0_finishOver_25 : decode cX0_finishOver 25 = .ok (.getfield 81, 3) := by decide +kernel
theorem dX0_finishOver_28 : decode cX0_finishOver 28 = .ok (.bipush 6, 2) := by decide +kernel
theorem dX0_finishOver_30 : decode cX0_finishOver 30 = .ok (.iconst 1, 1) := by decide +kernel
theorem dX0_finishOver_31 : decode cX0_finishOver 31 = .ok (.invokevirtual 103, 3) := by decide +kernel
theorem dX0_finishOver_34 : decode cX0_finishOver 34 = .ok (.aload_n 0, 1) := by decide +kernel
theorem dX0_finishOver_35 : decode cX0_finishOver 35 = .ok (.getfield 23, 3) := by decide +kernel
theorem dX0_finishOver_38 : decode cX0_finishOver 38 = .ok (.aload_n 0, 1) := by decide +kernel
theorem dX0_finishOver_39 : decode cX0_finishOver 39 = .ok (.getfield 35, 3) := by decide +kernel
theorem dX0_finishOver_42 : decode cX0_finishOver 42 = .ok (.getfield 81, 3) := by decide +kernel
theorem dX0_finishOver_45 : decode cX0_finishOver 45 = .ok (.iconst 3, 1) := by decide +kernel
theorem dX0_finishOver_46 : decode cX0_finishOver 46 = .ok (.aload_n 0, 1) := by decide +kernel
theorem dX0_finishOver_47 : decode cX0_finishOver 47 = .ok (.getfield 35, 3) := by decide +kernel
theorem dX0_finishOver_50 : decode cX0_finishOver 50 = .ok (.getfield 106, 3) := by decide +kernel
theorem dX0_finishOver_53 : decode cX0_finishOver 53 = .ok (.ifCond .ne 7, 3) := by decide +kernel
theorem dX0_finishOver_56 : decode cX0_finishOver 56 = .ok (.iconst 1, 1) := by decide +kernel
theorem dX0_finishOver_57 : decode cX0_finishOver 57 = .ok (.goto 4, 3) := by decide +kernel
theorem dX0_finishOver_60 : decode cX0_finishOver 60 = .ok (.iconst 0, 1) := by decide +kernel
theorem dX0_finishOver_61 : decode cX0_finishOver 61 = .ok (.invokevirtual 103, 3) := by decide +kernel
theorem dX0_finishOver_64 : decode cX0_finishOver 64 = .ok (.aload_n 0, 1) := by decide +kernel
theorem dX0_finishOver_65 : decode cX0_finishOver 65 = .ok (.getfield 35, 3) := by decide +kernel
theorem dX0_finishOver_68 : decode cX0_finishOver 68 = .ok (.aload_n 0, 1) := by decide +kernel
theorem dX0_finishOver_69 : decode cX0_finishOver 69 = .ok (.iconst 0, 1) := by decide +kernel
theorem dX0_finishOver_70 : decode cX0_finishOver 70 = .ok (.invokevirtual 109, 3) := by decide +kernel
theorem dX0_finishOver_73 : decode cX0_finishOver 73 = .ok (.invokevirtual 112, 3) := by decide +kernel
theorem dX0_finishOver_76 : decode cX0_finishOver 76 = .ok (.return_, 1) := by decide +kernel
set_option maxRecDepth 20000 in
theorem ggX0_canLose_X3_begun : GoodIn wsX0_canLose wsX3_begun := goodIn_r _ [7, 8, 9, 21, 22, 23, 24, 25, 26, 27, 28, 29] (by decide +kernel) (by decide +kernel)
set_option maxRecDepth 20000 in
theorem gX0_canLose_X3_begun : GoodIn wsX0_canLose (wsV RX0 115 RX3 yX3_begun wsX3_begun) := goodIn_app (goodIn_of _ (by decide +kernel)) ggX0_canLose_X3_begun
theorem dX0_canLose_0 : decode cX0_canLose 0 = .ok (.aload_n 0, 1) := by decide +kernel
theorem dX0_canLose_1 : decode cX0_canLose 1 = .ok (.getfield 35, 3) := by decide +kernel
theorem dX0_canLose_4 : decode cX0_canLose 4 = .ok (.getfield 78, 3) := by decide +kernel
theorem dX0_canLose_7 : decode cX0_canLose 7 = .ok (.iload_n 1, 1) := by decide +kernel
theorem dX0_canLose_8 : decode cX0_canLose 8 = .ok (.isub, 1) := by decide +kernel
theorem dX0_canLose_9 : decode cX0_canLose 9 = .ok (.aload_n 0, 1) := by decide +kernel
theorem dX0_canLose_10 : decode cX0_canLose 10 = .ok (.getfield 35, 3) := by decide +kernel
theorem dX0_canLose_13 : decode cX0_canLose 13 = .ok (.invokevirtual 115, 3) := by decide +kernel
theorem dX0_canLose_16 : decode cX0_canLose 16 = .ok (.if_icmp .le 7, 3) := by decide +kernel
theorem dX0_canLose_19 : decode cX0_canLose 19 = .ok (.iconst 1, 1) := by decide +kernel
theorem dX0_canLose_20 : decode cX0_canLose 20 = .ok (.goto 4, 3) := by decide +kernel
theorem dX0_canLose_23 : decode cX0_canLose 23 = .ok (.iconst 0, 1) := by decide +kernel
theorem dX0_canLose_24 : decode cX0_canLose 24 = .ok (.ireturn, 1) := by decide +kernel
set_option maxRecDepth 20000 in
theorem ggX0_lowerLimit_X0_value : GoodIn wsX0_lowerLimit wsX0_value := goodIn_ca (goodIn_r _ [8, 1, 2, 9, 10, 11, 12, 13, 14, 15, 16, 17, 18, 19, 20, 21, 22, 23, 24, 25, 26, 27, 28, 29, 30, 31, 32, 33, 34, 35, 36, 37, 38, 39, 40] (by decide +kernel) (by decide +kernel)) (goodIn_sub (fun _ h => List.mem_cons_of_mem _ (List.mem_append_right _ h)) (by decide +kernel))
set_option maxRecDepth 20000 in
theorem gX0_lowerLimit_X0_value : GoodIn wsX0_lowerLimit (wsV RX0 67 RX0 yX0_value wsX0_value) := goodIn_app (goodIn_of _ (by decide +kernel)) ggX0_lowerLimit_X0_value
theorem dX0_lowerLimit_0 : decode cX0_lowerLimit 0 = .ok (.aload_n 0, 1) := by decide +kernel
theorem dX0_lowerLimit_1 : decode cX0_lowerLimit 1 = .ok (.invokevirtual 67, 3) := by decide +kernel
theorem dX0_lowerLimit_4 : decode cX0_lowerLimit 4 = .ok (.istore_n 2, 1) := by decide +kernel
theorem dX0_lowerLimit_5 : decode cX0_lowerLimit 5 = .ok (.aload_n 0, 1) := by decide +kernel
theorem dX0_lowerLimit_6 : decode cX0_lowerLimit 6 = .ok (.getfield 35, 3) := by decide +kernel
theorem dX0_lowerLimit_9 : decode cX0_lowerLimit 9 = .ok (.dup, 1) := by decide +kernel
theorem dX0_lowerLimit_10 : decode cX0_lowerLimit 10 = .ok (.getfield 78, 3) := by decide +kernel
theorem dX0_lowerLimit_13 : decode cX0_lowerLimit 13 = .ok (.iload_n 1, 1) := by decide +kernel
theorem dX0_lowerLimit_14 : decode cX0_lowerLimit 14 = .ok (.isub, 1) := by decide +kernel
theorem dX0_lowerLimit_15 : decode cX0_lowerLimit 15 = .ok (.putfield 78, 3) := by decide +kernel
theorem dX0_lowerLimit_18 : decode cX0_lowerLimit 18 = .ok (.aload_n 0, 1) := by decide +kernel
theorem dX0_lowerLimit_19 : decode cX0_lowerLimit 19 = .ok (.dup, 1) := by decide +kernel
theorem dX0_lowerLimit_20 : decode cX0_lowerLimit 20 = .ok (.getfield 39, 3) := by decide +kernel
theorem dX0_lowerLimit_23 : decode cX0_lowerLimit 23 = .ok (.iload_n 2, 1) := by decide +kernel
theorem dX0_lowerLimit_24 : decode cX0_lowerLimit 24 = .ok (.aload_n 0, 1) := by decide +kernel
theorem dX0_lowerLimit_25 : decode cX0_lowerLimit 25 = .ok (.invokevirtual 67, 3) := by decide +kernel
theorem dX0_lowerLimit_28 : decode cX0_lowerLimit 28 = .ok (.isub, 1) := by decide +kernel
theorem dX0_lowerLimit_29 : decode cX0_lowerLimit 29 = .ok (.isub, 1) := by decide +kernel
theorem dX0_lowerLimit_30 : decode cX0_lowerLimit 30 = .ok (.putfield 39, 3) := by decide +kernel
theorem dX0_lowerLimit_33 : decode cX0_lowerLimit 33 = .ok (.aload_n 0, 1) := by decide +kernel
theorem dX0_lowerLimit_34 : decode cX0_lowerLimit 34 = .ok (.getfield 35, 3) := by decide +kernel
theorem dX0_lowerLimit_37 : decode cX0_lowerLimit 37 = .ok (.getfield 78, 3) := by decide +kernel
theorem dX0_lowerLimit_40 : decode cX0_lowerLimit 40 = .ok (.ireturn, 1) := by decide +kernel
set_option maxRecDepth 20000 in
theorem ggX0_scoreBall_X0_count : GoodIn wsX0_scoreBall wsX0_count := goodIn_ca (goodIn_r _ [5, 6, 7, 8, 9, 10, 11, 12, 13, 14, 15, 16, 17, 18, 19, 20, 21, 22, 23, 24, 25, 26, 27, 28, 4, 29, 30, 31, 32, 33, 34, 35, 36, 37, 38, 39, 40, 41, 42, 43, 44, 45, 46, 47, 48, 49, 50, 51, 52, 53, 54, 55, 56, 57, 58, 59, 60, 61, 62, 63, 64, 65, 66, 67, 68, 69, 70, 71, 72, 73, 74, 75, 104, 105, 106, 107, 108, 109, 110, 111, 112, 113, 114, 115, 116, 117, 118, 119, 120, 121, 122, 123, 124, 125, 126, 127, 128, 129, 130, 131, 132, 133, 134, 135] (by decide +kernel) (by decide +kernel)) (goodIn_sub (fun _ h => List.mem_cons_of_mem _ (List.mem_append_right _ h)) (by decide +kernel))
set_option maxRecDepth 20000 in
theorem gX0_scoreBall_X0_count : GoodIn wsX0_scoreBall (wsV RX0 118 RX0 yX0_count wsX0_count) := goodIn_app (goodIn_of _ (by decide +kernel)) ggX0_scoreBall_X0_count
set_option maxRecDepth 20000 in
theorem ggX0_scoreBall_X0_finishOver : GoodIn wsX0_scoreBall wsX0_finishOver := goodIn_ca (goodIn_r _ [79, 36, 38, 40, 41, 39, 72, 73, 74, 4, 75, 51, 62, 14, 15, 16, 17, 18, 19, 20, 21, 80, 81, 82, 83, 6, 84, 85, 86, 87, 88, 89, 90, 91, 92, 93, 94, 95, 96, 97, 98, 99, 100, 101, 102, 103, 104, 105, 106, 107, 108, 109, 110, 111, 112, 113, 114, 127, 128, 129, 130, 131, 132, 133, 134, 135, 124, 125, 126] (by decide +kernel) (by decide +kernel)) (goodIn_sub (fun _ h => List.mem_cons_of_mem _ (List.mem_append_right _ h)) (by decide +kernel))
set_option maxRecDepth 20000 in
theorem gX0_scoreBall_X0_finishOver : GoodIn wsX0_scoreBall (wsV RX0 122 RX0 yX0_finishOver wsX0_finishOver) := goodIn_app (goodIn_of _ (by decide +kernel)) ggX0_scoreBall_X0_finishOver
set_option maxRecDepth 20000 in
theorem ggX0_scoreBall_X5_teamRuns : GoodIn wsX0_scoreBall wsX5_teamRuns := goodIn_r _ [11, 12, 13, 115, 116, 117, 118, 119, 120, 121, 122, 123] (by decide +kernel) (by decide +kernel)
set_option maxRecDepth 20000 in
theorem gX0_scoreBall_X5_teamRuns : GoodIn wsX0_scoreBall (wsV RX0 124 RX5 yX5_teamRuns wsX5_teamRuns) := goodIn_app (goodIn_of _ (by decide +kernel)) ggX0_scoreBall_X5_teamRuns
theorem dX0_scoreBall_0 : decode cX0_scoreBall 0 = .ok (.aload_n 0, 1) := by decide +kernel
theorem dX0_scoreBall_1 : decode cX0_scoreBall 1 = .ok (.aload_n 1, 1) := by decide +kernel
theorem dX0_scoreBall_2 : decode cX0_scoreBall 2 = .ok (.invokevirtual 118, 3) := by decide +kernel
theorem dX0_scoreBall_5 : decode cX0_scoreBall 5 = .ok (.aload_n 0, 1) := by decide +kernel
theorem dX0_scoreBall_6 : decode cX0_scoreBall 6 = .ok (.invokevirtual 122, 3) := by decide +kernel
theorem dX0_scoreBall_9 : decode cX0_scoreBall 9 = .ok (.aload_n 1, 1) := by decide +kernel
theorem dX0_scoreBall_10 : decode cX0_scoreBall 10 = .ok (.invokevirtual 124, 3) := by decide +kernel
theorem dX0_scoreBall_13 : decode cX0_scoreBall 13 = .ok (.ireturn, 1) := by decide +kernel
set_option maxRecDepth 20000 in
theorem ggX0_scoreWicket_X0_nextBatter : GoodIn wsX0_scoreWicket wsX0_nextBatter := goodIn_ca (goodIn_r _ [10, 11, 12, 13, 14, 9, 15, 16, 17, 18, 19, 20, 21, 22, 23, 24, 154, 155, 156, 157, 158, 159, 160, 161, 162, 163, 164, 165, 166, 167] (by decide +kernel) (by decide +kernel)) (goodIn_sub (fun _ h => List.mem_cons_of_mem _ (List.mem_append_right _ h)) (by decide +kernel))
set_option maxRecDepth 20000 in
theorem gX0_scoreWicket_X0_nextBatter : GoodIn wsX0_scoreWicket (wsV RX0 131 RX0 yX0_nextBatter wsX0_nextBatter) := goodIn_app (goodIn_of _ (by decide +kernel)) ggX0_scoreWicket_X0_nextBatter
set_option maxRecDepth 20000 in
theorem ggX0_scoreWicket_X0_count : GoodIn wsX0_scoreWicket wsX0_count := goodIn_ca (goodIn_r _ [28, 29, 30, 31, 32, 33, 34, 35, 36, 37, 38, 39, 20, 40, 22, 23, 24, 41, 42, 43, 44, 45, 46, 47, 9, 48, 49, 50, 51, 52, 53, 54, 55, 56, 57, 58, 59, 60, 61, 62, 63, 64, 65, 66, 67, 68, 16, 3, 69, 70, 71, 72, 73, 74, 75, 76, 77, 78, 2, 79, 80, 81, 82, 83, 84, 85, 86, 87, 88, 89, 90, 91, 154, 155, 156, 157, 158, 159, 160, 161, 162, 163, 164, 145, 146, 147, 148, 149, 150, 151, 152, 153, 165, 166, 167, 168, 169, 170, 171, 172, 173, 174, 175, 176] (by decide +kernel) (by decide +kernel)) (goodIn_sub (fun _ h => List.mem_cons_of_mem _ (List.mem_append_right _ h)) (by decide +kernel))
set_option maxRecDepth 20000 in
theorem gX0_scoreWicket_X0_count : GoodIn wsX0_scoreWicket (wsV RX0 118 RX0 yX0_count wsX0_count) := goodIn_app (goodIn_of _ (by decide +kernel)) ggX0_scoreWicket_X0_count
set_option maxRecDepth 20000 in
theorem ggX0_scoreWicket_X0_changeEnds : GoodIn wsX0_scoreWicket wsX0_changeEnds := goodIn_r _ [91, 3, 2, 154, 155, 156, 157, 158, 159, 160, 161, 162, 163, 164] (by decide +kernel) (by decide +kernel)
set_option maxRecDepth 20000 in
theorem gX0_scoreWicket_X0_changeEnds : GoodIn wsX0_scoreWicket (wsV RX0 100 RX0 yX0_changeEnds wsX0_changeEnds) := goodIn_app (goodIn_of _ (by decide +kernel)) ggX0_scoreWicket_X0_changeEnds
set_option maxRecDepth 20000 in
theorem ggX0_scoreWicket_X0_countWicket : GoodIn wsX0_scoreWicket wsX0_countWicket := goodIn_ca (goodIn_r _ [95, 29, 96, 16, 55, 60, 59, 37, 38, 39, 20, 40, 22, 23, 24, 97, 98, 99, 100, 79, 80, 81, 82, 101, 102, 103, 104, 105, 106, 107, 9, 108, 17, 18, 19, 21, 154, 155, 156, 157, 158, 159, 160, 161, 162, 163, 164, 168, 169, 170, 171, 172, 173, 174, 175, 176, 165, 166, 167] (by decide +kernel) (by decide +kernel)) (goodIn_sub (fun _ h => List.mem_cons_of_mem _ (List.mem_append_right _ h)) (by decide +kernel))
set_option maxRecDepth 20000 in
theorem gX0_scoreWicket_X0_countWicket : GoodIn wsX0_scoreWicket (wsV RX0 140 RX0 yX0_countWicket wsX0_countWicket) := goodIn_app (goodIn_of _ (by decide +kernel)) ggX0_scoreWicket_X0_countWicket
set_option maxRecDepth 20000 in
theorem ggX0_scoreWicket_X0_leave : GoodIn wsX0_scoreWicket wsX0_leave := goodIn_ca (goodIn_r _ [112, 16, 78, 113, 3, 2, 11, 101, 102, 103, 20, 104, 22, 23, 24, 79, 80, 81, 82, 114, 115, 116, 9, 117, 118, 119, 120, 121, 122, 123, 124, 97, 98, 99, 100, 154, 155, 156, 157, 158, 159, 160, 161, 162, 163, 164, 165, 166, 167] (by decide +kernel) (by decide +kernel)) (goodIn_sub (fun _ h => List.mem_cons_of_mem _ (List.mem_append_right _ h)) (by decide +kernel))
set_option maxRecDepth 20000 in
theorem gX0_scoreWicket_X0_leave : GoodIn wsX0_scoreWicket (wsV RX0 143 RX0 yX0_leave wsX0_leave) := goodIn_app (goodIn_of _ (by decide +kernel)) ggX0_scoreWicket_X0_leave
set_option maxRecDepth 20000 in
theorem ggX0_scoreWicket_X0_finishOver : GoodIn wsX0_scoreWicket wsX0_finishOver := goodIn_ca (goodIn_r _ [128, 55, 57, 59, 60, 58, 88, 89, 90, 9, 91, 3, 2, 37, 38, 39, 20, 40, 22, 23, 24, 105, 106, 107, 108, 29, 17, 18, 19, 21, 129, 130, 131, 132, 133, 134, 135, 136, 137, 138, 139, 140, 141, 142, 143, 144, 154, 155, 156, 157, 158, 159, 160, 161, 162, 163, 164, 168, 169, 170, 171, 172, 173, 174, 175, 176, 165, 166, 167] (by decide +kernel) (by decide +kernel)) (goodIn_sub (fun _ h => List.mem_cons_of_mem _ (List.mem_append_right _ h)) (by decide +kernel))
set_option maxRecDepth 20000 in
theorem gX0_scoreWicket_X0_finishOver : GoodIn wsX0_scoreWicket (wsV RX0 122 RX0 yX0_finishOver wsX0_finishOver) := goodIn_app (goodIn_of _ (by decide +kernel)) ggX0_scoreWicket_X0_finishOver
set_option maxRecDepth 20000 in
theorem ggX0_scoreWicket_X0_total : GoodIn wsX0_scoreWicket wsX0_total := goodIn_ca (goodIn_r _ [108, 29, 17, 18, 19, 20, 21, 22, 23, 24, 154, 155, 156, 157, 158, 159, 160, 161, 162, 163, 164, 165, 166, 167] (by decide +kernel) (by decide +kernel)) (goodIn_sub (fun _ h => List.mem_cons_of_mem _ (List.mem_append_right _ h)) (by decide +kernel))
set_option maxRecDepth 20000 in
theorem gX0_scoreWicket_X0_total : GoodIn wsX0_scoreWicket (wsV RX0 109 RX0 yX0_total wsX0_total) := goodIn_app (goodIn_of _ (by decide +kernel)) ggX0_scoreWicket_X0_total
theorem dX0_scoreWicket_0 : decode cX0_scoreWicket 0 = .ok (.aload_n 1, 1) := by decide +kernel
theorem dX0_scoreWicket_1 : decode cX0_scoreWicket 1 = .ok (.getfield 129, 3) := by decide +kernel
theorem dX0_scoreWicket_4 : decode cX0_scoreWicket 4 = .ok (.ifCond .eq 10, 3) := by decide +kernel
theorem dX0_scoreWicket_7 : decode cX0_scoreWicket 7 = .ok (.aload_n 0, 1) := by decide +kernel
theorem dX0_scoreWicket_8 : decode cX0_scoreWicket 8 = .ok (.getfield 46, 3) := by decide +kernel
theorem dX0_scoreWicket_11 : decode cX0_scoreWicket 11 = .ok (.goto 7, 3) := by decide +kernel
theorem dX0_scoreWicket_14 : decode cX0_scoreWicket 14 = .ok (.aload_n 0, 1) := by decide +kernel
theorem dX0_scoreWicket_15 : decode cX0_scoreWicket 15 = .ok (.getfield 43, 3) := by decide +kernel
theorem dX0_scoreWicket_18 : decode cX0_scoreWicket 18 = .ok (.istore_n 2, 1) := by decide +kernel
theorem dX0_scoreWicket_19 : decode cX0_scoreWicket 19 = .ok (.aload_n 0, 1) := by decide +kernel
theorem dX0_scoreWicket_20 : decode cX0_scoreWicket 20 = .ok (.invokevirtual 131, 3) := by decide +kernel
theorem dX0_scoreWicket_23 : decode cX0_scoreWicket 23 = .ok (.istore_n 3, 1) := by decide +kernel
theorem dX0_scoreWicket_24 : decode cX0_scoreWicket 24 = .ok (.aload_n 0, 1) := by decide +kernel
theorem dX0_scoreWicket_25 : decode cX0_scoreWicket 25 = .ok (.aload_n 1, 1) := by decide +kernel
theorem dX0_scoreWicket_26 : decode cX0_scoreWicket 26 = .ok (.invokevirtual 118, 3) := by decide +kernel
theorem dX0_scoreWicket_29 : decode cX0_scoreWicket 29 = .ok (.aload_n 1, 1) := by decide +kernel
theorem dX0_scoreWicket_30 : decode cX0_scoreWicket 30 = .ok (.getfield 134, 3) := by decide +kernel
theorem dX0_scoreWicket_33 : decode cX0_scoreWicket 33 = .ok (.ifCond .eq 7, 3) := by decide +kernel
theorem dX0_scoreWicket_36 : decode cX0_scoreWicket 36 = .ok (.aload_n 0, 1) := by decide +kernel
theorem dX0_scoreWicket_37 : decode cX0_scoreWicket 37 = .ok (.invokevirtual 100, 3) := by decide +kernel
theorem dX0_scoreWicket_40 : decode cX0_scoreWicket 40 = .ok (.aload_n 0, 1) := by decide +kernel
theorem dX0_scoreWicket_41 : decode cX0_scoreWicket 41 = .ok (.iload_n 2, 1) := by decide +kernel
theorem dX0_scoreWicket_42 : decode cX0_scoreWicket 42 = .ok (.aload_n 1, 1) := by decide +kernel
theorem dX0_scoreWicket_43 : decode cX0_scoreWicket 43 = .ok (.getfield 137, 3) := by decide +kernel
theorem dX0_scoreWicket_46 : decode cX0_scoreWicket 46 = .ok (.invokevirtual 140, 3) := by decide +kernel
theorem dX0_scoreWicket_49 : decode cX0_scoreWicket 49 = .ok (.aload_n 0, 1) := by decide +kernel
theorem dX0_scoreWicket_50 : decode cX0_scoreWicket 50 = .ok (.iload_n 2, 1) := by decide +kernel
theorem dX0_scoreWicket_51 : decode cX0_scoreWicket 51 = .ok (.aload_n 1, 1) := by decide +kernel
theorem dX0_scoreWicket_52 : decode cX0_scoreWicket 52 = .ok (.getfield 137, 3) := by decide +kernel
theorem dX0_scoreWicket_55 : decode cX0_scoreWicket 55 = .ok (.iload_n 3, 1) := by decide +kernel
theorem dX0_scoreWicket_56 : decode cX0_scoreWicket 56 = .ok (.invokevirtual 143, 3) := by decide +kernel
theorem dX0_scoreWicket_59 : decode cX0_scoreWicket 59 = .ok (.aload_n 0, 1) := by decide +kernel
theorem dX0_scoreWicket_60 : decode cX0_scoreWicket 60 = .ok (.invokevirtual 122, 3) := by decide +kernel
theorem dX0_scoreWicket_63 : decode cX0_scoreWicket 63 = .ok (.aload_n 0, 1) := by decide +kernel
theorem dX0_scoreWicket_64 : decode cX0_scoreWicket 64 = .ok (.iconst 1, 1) := by decide +kernel
theorem dX0_scoreWicket_65 : decode cX0_scoreWicket 65 = .ok (.invokevirtual 109, 3) := by decide +kernel
theorem dX0_scoreWicket_68 : decode cX0_scoreWicket 68 = .ok (.ireturn, 1) := by decide +kernel
set_option maxRecDepth 20000 in
theorem ggX0_count_X5_teamRuns : GoodIn wsX0_count wsX5_teamRuns := goodIn_r _ [6, 7, 8, 83, 84, 85, 86, 87, 88, 89, 90, 91] (by decide +kernel) (by decide +kernel)
set_option maxRecDepth 20000 in
theorem gX0_count_X5_teamRuns : GoodIn wsX0_count (wsV RX0 124 RX5 yX5_teamRuns wsX5_teamRuns) := goodIn_app (goodIn_of _ (by decide +kernel)) ggX0_count_X5_teamRuns
set_option maxRecDepth 20000 in
theorem ggX0_count_X6_increase : GoodIn wsX0_count wsX6_increase := goodIn_ca (goodIn_r _ [13, 14, 15, 16, 92, 93, 94] (by decide +kernel) (by decide +kernel)) (goodIn_sub (fun _ h => List.mem_cons_of_mem _ (List.mem_append_right _ h)) (by decide +kernel))
set_option maxRecDepth 20000 in
theorem gX0_count_X6_increase : GoodIn wsX0_count (wsV RX0 103 RX6 yX6_increase wsX6_increase) := goodIn_app (goodIn_of _ (by decide +kernel)) ggX0_count_X6_increase
set_option maxRecDepth 20000 in
theorem ggX0_count_X5_isLegal : GoodIn wsX0_count wsX5_isLegal := goodIn_r _ [20, 7, 83, 84, 85, 86, 87, 88, 89, 90, 91] (by decide +kernel) (by decide +kernel)
set_option maxRecDepth 20000 in
theorem gX0_count_X5_isLegal : GoodIn wsX0_count (wsV RX0 146 RX5 yX5_isLegal wsX5_isLegal) := goodIn_app (goodIn_of _ (by decide +kernel)) ggX0_count_X5_isLegal
set_option maxRecDepth 20000 in
theorem ggX0_count_X0_countExtras : GoodIn wsX0_count wsX0_countExtras := goodIn_ca (goodIn_r _ [25, 26, 1, 27, 2, 3, 4, 5, 6, 7, 8, 9, 10, 11, 12, 13, 14, 15, 16, 83, 84, 85, 86, 87, 88, 89, 90, 91, 72, 73, 74, 75, 76, 77, 78, 79, 80, 81, 82, 92, 93, 94] (by decide +kernel) (by decide +kernel)) (goodIn_sub (fun _ h => List.mem_cons_of_mem _ (List.mem_append_right _ h)) (by decide +kernel))
set_option maxRecDepth 20000 in
theorem gX0_count_X0_countExtras : GoodIn wsX0_count (wsV RX0 150 RX0 yX0_countExtras wsX0_countExtras) := goodIn_app (goodIn_of _ (by decide +kernel)) ggX0_count_X0_countExtras
set_option maxRecDepth 20000 in
theorem ggX0_count_X0_countForBowler : GoodIn wsX0_count wsX0_countForBowler := goodIn_ca (goodIn_r _ [31, 32, 33, 34, 35, 36, 37, 26, 17, 18, 19, 5, 20, 7, 38, 39, 40, 41, 8, 9, 10, 11, 12, 13, 14, 15, 16, 72, 73, 74, 75, 76, 77, 78, 79, 80, 81, 82, 95, 96, 97, 98, 99, 100, 101, 102, 103, 83, 84, 85, 86, 87, 88, 89, 90, 91, 92, 93, 94] (by decide +kernel) (by decide +kernel)) (goodIn_sub (fun _ h => List.mem_cons_of_mem _ (List.mem_append_right _ h)) (by decide +kernel))
set_option maxRecDepth 20000 in
theorem gX0_count_X0_countForBowler : GoodIn wsX0_count (wsV RX0 153 RX0 yX0_countForBowler wsX0_countForBowler) := goodIn_app (goodIn_of _ (by decide +kernel)) ggX0_count_X0_countForBowler
set_option maxRecDepth 20000 in
theorem ggX0_count_X0_countForStriker : GoodIn wsX0_count wsX0_countForStriker := goodIn_ca (goodIn_r _ [45, 46, 47, 26, 48, 27, 49, 50, 51, 5, 52, 7, 8, 9, 10, 11, 12, 13, 14, 15, 16, 72, 73, 74, 75, 76, 77, 78, 79, 80, 81, 82, 83, 84, 85, 86, 87, 88, 89, 90, 91, 92, 93, 94] (by decide +kernel) (by decide +kernel)) (goodIn_sub (fun _ h => List.mem_cons_of_mem _ (List.mem_append_right _ h)) (by decide +kernel))
set_option maxRecDepth 20000 in
theorem gX0_count_X0_countForStriker : GoodIn wsX0_count (wsV RX0 156 RX0 yX0_countForStriker wsX0_countForStriker) := goodIn_app (goodIn_of _ (by decide +kernel)) ggX0_count_X0_countForStriker
set_option maxRecDepth 20000 in
theorem ggX0_count_X0_countForPartnership : GoodIn wsX0_count wsX0_countForPartnership := goodIn_ca (goodIn_r _ [56, 57, 47, 58, 59, 60, 61, 12, 62, 15, 2, 3, 4, 5, 6, 7, 8, 9, 10, 11, 13, 14, 16, 17, 18, 19, 20, 49, 50, 51, 52, 72, 73, 74, 75, 76, 77, 78, 79, 80, 81, 82, 92, 93, 94, 83, 84, 85, 86, 87, 88, 89, 90, 91] (by decide +kernel) (by decide +kernel)) (goodIn_sub (fun _ h => List.mem_cons_of_mem _ (List.mem_append_right _ h)) (by decide +kernel))
set_option maxRecDepth 20000 in
theorem gX0_count_X0_countForPartnership : GoodIn wsX0_count (wsV RX0 159 RX0 yX0_countForPartnership wsX0_countForPartnership) := goodIn_app (goodIn_of _ (by decide +kernel)) ggX0_count_X0_countForPartnership
set_option maxRecDepth 20000 in
theorem ggX0_count_X5_changesEnds : GoodIn wsX0_count wsX5_changesEnds := goodIn_r _ [66, 67, 8, 83, 84, 85, 86, 87, 88, 89, 90, 91] (by decide +kernel) (by decide +kernel)
set_option maxRecDepth 20000 in
theorem gX0_count_X5_changesEnds : GoodIn wsX0_count (wsV RX0 162 RX5 yX5_changesEnds wsX5_changesEnds) := goodIn_app (goodIn_of _ (by decide +kernel)) ggX0_count_X5_changesEnds
set_option maxRecDepth 20000 in
theorem ggX0_count_X0_changeEnds : GoodIn wsX0_count wsX0_changeEnds := goodIn_r _ [71, 47, 58, 72, 73, 74, 75, 76, 77, 78, 79, 80, 81, 82] (by decide +kernel) (by decide +kernel)
set_option maxRecDepth 20000 in
theorem gX0_count_X0_changeEnds : GoodIn wsX0_count (wsV RX0 100 RX0 yX0_changeEnds wsX0_changeEnds) := goodIn_app (goodIn_of _ (by decide +kernel)) ggX0_count_X0_changeEnds
theorem dX0_count_0 : decode cX0_count 0 = .ok (.aload_n 0, 1) := by decide +kernel
theorem dX0_count_1 : decode cX0_count 1 = .ok (.getfield 16, 3) := by decide +kernel
theorem dX0_count_4 : decode cX0_count 4 = .ok (.iconst 0, 1) := by decide +kernel
theorem dX0_count_5 : decode cX0_count 5 = .ok (.iconst 0, 1) := by decide +kernel
theorem dX0_count_6 : decode cX0_count 6 = .ok (.aload_n 1, 1) := by decide +kernel
theorem dX0_count_7 : decode cX0_count 7 = .ok (.invokevirtual 124, 3) := by decide +kernel
theorem dX0_count_10 : decode cX0_count 10 = .ok (.invokevirtual 103, 3) := by decide +kernel
theorem dX0_count_13 : decode cX0_count 13 = .ok (.aload_n 0, 1) := by decide +kernel
theorem dX0_count_14 : decode cX0_count 14 = .ok (.getfield 16, 3) := by decide +kernel
theorem dX0_count_17 : decode cX0_count 17 = .ok (.iconst 0, 1) := by decide +kernel
theorem dX0_count_18 : decode cX0_count 18 = .ok (.iconst 2, 1) := by decide +kernel
theorem dX0_count_19 : decode cX0_count 19 = .ok (.aload_n 1, 1) := by decide +kernel
theorem dX0_count_20 : decode cX0_count 20 = .ok (.invokevirtual 146, 3) := by decide +kernel
theorem dX0_count_23 : decode cX0_count 23 = .ok (.ifCond .eq 7, 3) := by decide +kernel
theorem dX0_count_26 : decode cX0_count 26 = .ok (.iconst 1, 1) := by decide +kernel
theorem dX0_count_27 : decode cX0_count 27 = .ok (.goto 4, 3) := by decide +kernel
theorem dX0_count_30 : decode cX0_count 30 = .ok (.iconst 0, 1) := by decide +kernel
theorem dX0_count_31 : decode cX0_count 31 = .ok (.invokevirtual 103, 3) := by decide +kernel
theorem dX0_count_34 : decode cX0_count 34 = .ok (.aload_n 0, 1) := by decide +kernel
theorem dX0_count_35 : decode cX0_count 35 = .ok (.aload_n 1, 1) := by decide +kernel
theorem dX0_count_36 : decode cX0_count 36 = .ok (.invokevirtual 150, 3) := by decide +kernel
theorem dX0_count_39 : decode cX0_count 39 = .ok (.aload_n 0, 1) := by decide +kernel
theorem dX0_count_40 : decode cX0_count 40 = .ok (.aload_n 1, 1) := by decide +kernel
theorem dX0_count_41 : decode cX0_count 41 = .ok (.invokevirtual 153, 3) := by decide +kernel
theorem dX0_count_44 : decode cX0_count 44 = .ok (.aload_n 0, 1) := by decide +kernel
theorem dX0_count_45 : decode cX0_count 45 = .ok (.aload_n 1, 1) := by decide +kernel
theorem dX0_count_46 : decode cX0_count 46 = .ok (.invokevirtual 156, 3) := by decide +kernel
theorem dX0_count_49 : decode cX0_count 49 = .ok (.aload_n 0, 1) := by decide +kernel
theorem dX0_count_50 : decode cX0_count 50 = .ok (.aload_n 1, 1) := by decide +kernel
theorem dX0_count_51 : decode cX0_count 51 = .ok (.invokevirtual 159, 3) := by decide +kernel
theorem dX0_count_54 : decode cX0_count 54 = .ok (.aload_n 1, 1) := by decide +kernel
theorem dX0_count_55 : decode cX0_count 55 = .ok (.invokevirtual 162, 3) := by decide +kernel
theorem dX0_count_58 : decode cX0_count 58 = .ok (.ifCond .eq 7, 3) := by decide +kernel
theorem dX0_count_61 : decode cX0_count 61 = .ok (.aload_n 0, 1) := by decide +kernel
theorem dX0_count_62 : decode cX0_count 62 = .ok (.invokevirtual 100, 3) := by decide +kernel
theorem dX0_count_65 : decode cX0_count 65 = .ok (.return_, 1) := by decide +kernel
set_option maxRecDepth 20000 in
theorem ggX0_countExtras_X5_teamRuns : GoodIn wsX0_countExtras wsX5_teamRuns := goodIn_r _ [8, 9, 10, 19, 20, 21, 22, 23, 24, 25, 26, 27] (by decide +kernel) (by decide +kernel)
set_option maxRecDepth 20000 in
theorem gX0_countExtras_X5_teamRuns : GoodIn wsX0_countExtras (wsV RX0 124 RX5 yX5_teamRuns wsX5_teamRuns) := goodIn_app (goodIn_of _ (by decide +kernel)) ggX0_countExtras_X5_teamRuns
set_option maxRecDepth 20000 in
theorem ggX0_countExtras_X6_increase : GoodIn wsX0_countExtras wsX6_increase := goodIn_ca (goodIn_r _ [15, 16, 17, 18, 39, 40, 41] (by decide +kernel) (by decide +kernel)) (goodIn_sub (fun _ h => List.mem_cons_of_mem _ (List.mem_append_right _ h)) (by decide +kernel))
set_option maxRecDepth 20000 in
theorem gX0_countExtras_X6_increase : GoodIn wsX0_countExtras (wsV RX0 103 RX6 yX6_increase wsX6_increase) := goodIn_app (goodIn_of _ (by decide +kernel)) ggX0_countExtras_X6_increase
theorem dX0_countExtras_0 : decode cX0_countExtras 0 = .ok (.aload_n 1, 1) := by decide +kernel
theorem dX0_countExtras_1 : decode cX0_countExtras 1 = .ok (.getfield 165, 3) := by decide +kernel
theorem dX0_countExtras_4 : decode cX0_countExtras 4 = .ok (.tableswitch 94 1 4 #[32, 48, 61, 77], 32) := by decide +kernel
theorem dX0_countExtras_36 : decode cX0_countExtras 36 = .ok (.aload_n 0, 1) := by decide +kernel
theorem dX0_countExtras_37 : decode cX0_countExtras 37 = .ok (.getfield 16, 3) := by decide +kernel
theorem dX0_countExtras_40 : decode cX0_countExtras 40 = .ok (.iconst 0, 1) := by decide +kernel
theorem dX0_countExtras_41 : decode cX0_countExtras 41 = .ok (.iconst 3, 1) := by decide +kernel
theorem dX0_countExtras_42 : decode cX0_countExtras 42 = .ok (.aload_n 1, 1) := by decide +kernel
theorem dX0_countExtras_43 : decode cX0_countExtras 43 = .ok (.invokevirtual 124, 3) := by decide +kernel
theorem dX0_countExtras_46 : decode cX0_countExtras 46 = .ok (.invokevirtual 103, 3) := by decide +kernel
theorem dX0_countExtras_49 : decode cX0_countExtras 49 = .ok (.goto 49, 3) := by decide +kernel
theorem dX0_countExtras_52 : decode cX0_countExtras 52 = .ok (.aload_n 0, 1) := by decide +kernel
theorem dX0_countExtras_53 : decode cX0_countExtras 53 = .ok (.getfield 16, 3) := by decide +kernel
theorem dX0_countExtras_56 : decode cX0_countExtras 56 = .ok (.iconst 0, 1) := by decide +kernel
theorem dX0_countExtras_57 : decode cX0_countExtras 57 = .ok (.iconst 4, 1) := by decide +kernel
theorem dX0_countExtras_58 : decode cX0_countExtras 58 = .ok (.iconst 1, 1) := by decide +kernel
theorem dX0_countExtras_59 : decode cX0_countExtras 59 = .ok (.invokevirtual 103, 3) := by decide +kernel
theorem dX0_countExtras_62 : decode cX0_countExtras 62 = .ok (.goto 36, 3) := by decide +kernel
theorem dX0_countExtras_65 : decode cX0_countExtras 65 = .ok (.aload_n 0, 1) := by decide +kernel
theorem dX0_countExtras_66 : decode cX0_countExtras 66 = .ok (.getfield 16, 3) := by decide +kernel
theorem dX0_countExtras_69 : decode cX0_countExtras 69 = .ok (.iconst 0, 1) := by decide +kernel
theorem dX0_countExtras_70 : decode cX0_countExtras 70 = .ok (.iconst 5, 1) := by decide +kernel
theorem dX0_countExtras_71 : decode cX0_countExtras 71 = .ok (.aload_n 1, 1) := by decide +kernel
theorem dX0_countExtras_72 : decode cX0_countExtras 72 = .ok (.getfield 168, 3) := by decide +kernel
theorem dX0_countExtras_75 : decode cX0_countExtras 75 = .ok (.invokevirtual 103, 3) := by decide +kernel
theorem dX0_countExtras_78 : decode cX0_countExtras 78 = .ok (.goto 20, 3) := by decide +kernel
theorem dX0_countExtras_81 : decode cX0_countExtras 81 = .ok (.aload_n 0, 1) := by decide +kernel
theorem dX0_countExtras_82 : decode cX0_countExtras 82 = .ok (.getfield 16, 3) := by decide +kernel
theorem dX0_countExtras_85 : decode cX0_countExtras 85 = .ok (.iconst 0, 1) := by decide +kernel
theorem dX0_countExtras_86 : decode cX0_countExtras 86 = .ok (.bipush 6, 2) := by decide +kernel
theorem dX0_countExtras_88 : decode cX0_countExtras 88 = .ok (.aload_n 1, 1) := by decide +kernel
theorem dX0_countExtras_89 : decode cX0_countExtras 89 = .ok (.getfield 168, 3) := by decide +kernel
theorem dX0_countExtras_92 : decode cX0_countExtras 92 = .ok (.invokevirtual 103, 3) := by decide +kernel
theorem dX0_countExtras_95 : decode cX0_countExtras 95 = .ok (.goto 3, 3) := by decide +kernel
theorem dX0_countExtras_98 : decode cX0_countExtras 98 = .ok (.return_, 1) := by decide +kernel
set_option maxRecDepth 20000 in
theorem ggX0_countForBowler_X5_isLegal : GoodIn wsX0_countForBowler wsX5_isLegal := goodIn_r _ [12, 13, 47, 48, 49, 50, 51, 52, 53, 54, 55] (by decide +kernel) (by decide +kernel)
set_option maxRecDepth 20000 in
theorem gX0_countForBowler_X5_isLegal : GoodIn wsX0_countForBowler (wsV RX0 146 RX5 yX5_isLegal wsX5_isLegal) := goodIn_app (goodIn_of _ (by decide +kernel)) ggX0_countForBowler_X5_isLegal
set_option maxRecDepth 20000 in
theorem ggX0_countForBowler_X5_bowlerRuns : GoodIn wsX0_countForBowler wsX5_bowlerRuns := goodIn_r _ [17, 13, 18, 47, 48, 49, 50, 51, 52, 53, 54, 55] (by decide +kernel) (by decide +kernel)
set_option maxRecDepth 20000 in
theorem gX0_countForBowler_X5_bowlerRuns : GoodIn wsX0_countForBowler (wsV RX0 174 RX5 yX5_bowlerRuns wsX5_bowlerRuns) := goodIn_app (goodIn_of _ (by decide +kernel)) ggX0_countForBowler_X5_bowlerRuns
set_option maxRecDepth 20000 in
theorem ggX0_countForBowler_X6_increase : GoodIn wsX0_countForBowler wsX6_increase := goodIn_ca (goodIn_r _ [23, 24, 25, 26, 56, 57, 58] (by decide +kernel) (by decide +kernel)) (goodIn_sub (fun _ h => List.mem_cons_of_mem _ (List.mem_append_right _ h)) (by decide +kernel))
set_option maxRecDepth 20000 in
theorem gX0_countForBowler_X6_increase : GoodIn wsX0_countForBowler (wsV RX0 103 RX6 yX6_increase wsX6_increase) := goodIn_app (goodIn_of _ (by decide +kernel)) ggX0_countForBowler_X6_increase
theorem dX0_countForBowler_0 : decode cX0_countForBowler 0 = .ok (.aload_n 1, 1) := by decide +kernel
theorem dX0_countForBowler_1 : decode cX0_countForBowler 1 = .ok (.invokevirtual 146, 3) := by decide +kernel
theorem dX0_countForBowler_4 : decode cX0_countForBowler 4 = .ok (.ifCond .eq 7, 3) := by decide +kernel
theorem dX0_countForBowler_7 : decode cX0_countForBowler 7 = .ok (.iconst 1, 1) := by decide +kernel
theorem dX0_countForBowler_8 : decode cX0_countForBowler 8 = .ok (.goto 4, 3) := by decide +kernel
theorem dX0_countForBowler_11 : decode cX0_countForBowler 11 = .ok (.iconst 0, 1) := by decide +kernel
theorem dX0_countForBowler_12 : decode cX0_countForBowler 12 = .ok (.istore_n 2, 1) := by decide +kernel
theorem dX0_countForBowler_13 : decode cX0_countForBowler 13 = .ok (.aload_n 0, 1) := by decide +kernel
theorem dX0_countForBowler_14 : decode cX0_countForBowler 14 = .ok (.getfield 35, 3) := by decide +kernel
theorem dX0_countForBowler_17 : decode cX0_countForBowler 17 = .ok (.iconst 1, 1) := by decide +kernel
theorem dX0_countForBowler_18 : decode cX0_countForBowler 18 = .ok (.putfield 171, 3) := by decide +kernel
theorem dX0_countForBowler_21 : decode cX0_countForBowler 21 = .ok (.aload_n 0, 1) := by decide +kernel
theorem dX0_countForBowler_22 : decode cX0_countForBowler 22 = .ok (.getfield 35, 3) := by decide +kernel
theorem dX0_countForBowler_25 : decode cX0_countForBowler 25 = .ok (.dup, 1) := by decide +kernel
theorem dX0_countForBowler_26 : decode cX0_countForBowler 26 = .ok (.getfield 97, 3) := by decide +kernel
theorem dX0_countForBowler_29 : decode cX0_countForBowler 29 = .ok (.iload_n 2, 1) := by decide +kernel
theorem dX0_countForBowler_30 : decode cX0_countForBowler 30 = .ok (.iadd, 1) := by decide +kernel
theorem dX0_countForBowler_31 : decode cX0_countForBowler 31 = .ok (.putfield 97, 3) := by decide +kernel
theorem dX0_countForBowler_34 : decode cX0_countForBowler 34 = .ok (.aload_n 0, 1) := by decide +kernel
theorem dX0_countForBowler_35 : decode cX0_countForBowler 35 = .ok (.getfield 35, 3) := by decide +kernel
theorem dX0_countForBowler_38 : decode cX0_countForBowler 38 = .ok (.dup, 1) := by decide +kernel
theorem dX0_countForBowler_39 : decode cX0_countForBowler 39 = .ok (.getfield 106, 3) := by decide +kernel
theorem dX0_countForBowler_42 : decode cX0_countForBowler 42 = .ok (.aload_n 1, 1) := by decide +kernel
theorem dX0_countForBowler_43 : decode cX0_countForBowler 43 = .ok (.invokevirtual 174, 3) := by decide +kernel
theorem dX0_countForBowler_46 : decode cX0_countForBowler 46 = .ok (.iadd, 1) := by decide +kernel
theorem dX0_countForBowler_47 : decode cX0_countForBowler 47 = .ok (.putfield 106, 3) := by decide +kernel
theorem dX0_countForBowler_50 : decode cX0_countForBowler 50 = .ok (.aload_n 0, 1) := by decide +kernel
theorem dX0_countForBowler_51 : decode cX0_countForBowler 51 = .ok (.getfield 23, 3) := by decide +kernel
theorem dX0_countForBowler_54 : decode cX0_countForBowler 54 = .ok (.aload_n 0, 1) := by decide +kernel
theorem dX0_countForBowler_55 : decode cX0_countForBowler 55 = .ok (.getfield 35, 3) := by decide +kernel
theorem dX0_countForBowler_58 : decode cX0_countForBowler 58 = .ok (.getfield 81, 3) := by decide +kernel
theorem dX0_countForBowler_61 : decode cX0_countForBowler 61 = .ok (.iconst 0, 1) := by decide +kernel
theorem dX0_countForBowler_62 : decode cX0_countForBowler 62 = .ok (.iload_n 2, 1) := by decide +kernel
theorem dX0_countForBowler_63 : decode cX0_countForBowler 63 = .ok (.invokevirtual 103, 3) := by decide +kernel
theorem dX0_countForBowler_66 : decode cX0_countForBowler 66 = .ok (.aload_n 0, 1) := by decide +kernel
theorem dX0_countForBowler_67 : decode cX0_countForBowler 67 = .ok (.getfield 23, 3) := by decide +kernel
theorem dX0_countForBowler_70 : decode cX0_countForBowler 70 = .ok (.aload_n 0, 1) := by decide +kernel
theorem dX0_countForBowler_71 : decode cX0_countForBowler 71 = .ok (.getfield 35, 3) := by decide +kernel
theorem dX0_countForBowler_74 : decode cX0_countForBowler 74 = .ok (.getfield 81, 3) := by decide +kernel
theorem dX0_countForBowler_77 : decode cX0_countForBowler 77 = .ok (.iconst 1, 1) := by decide +kernel
theorem dX0_countForBowler_78 : decode cX0_countForBowler 78 = .ok (.aload_n 1, 1) := by decide +kernel
theorem dX0_countForBowler_79 : decode cX0_countForBowler 79 = .ok (.invokevirtual 174, 3) := by decide +kernel
theorem dX0_countForBowler_82 : decode cX0_countForBowler 82 = .ok (.invokevirtual 103, 3) := by decide +kernel
theorem dX0_countForBowler_85 : decode cX0_countForBowler 85 = .ok (.aload_n 0, 1) := by decide +kernel
theorem dX0_countForBowler_86 : decode cX0_countForBowler 86 = .ok (.getfield 23, 3) := by decide +kernel
theorem dX0_countForBowler_89 : decode cX0_countForBowler 89 = .ok (.aload_n 0, 1) := by decide +kernel
theorem dX0_countForBowler_90 : decode cX0_countForBowler 90 = .ok (.getfield 35, 3) := by decide +kernel
theorem dX0_countForBowler_93 : decode cX0_countForBowler 93 = .ok (.getfield 81, 3) := by decide +kernel
theorem dX0_countForBowler_96 : decode cX0_countForBowler 96 = .ok (.iconst 4, 1) := by decide +kernel
theorem dX0_countForBowler_97 : decode cX0_countForBowler 97 = .ok (.aload_n 1, 1) := by decide +kernel
theorem dX0_countForBowler_98 : decode cX0_countForBowler 98 = .ok (.getfield 165, 3) := by decide +kernel
theorem dX0_countForBowler_101 : decode cX0_countForBowler 101 = .ok (.iconst 1, 1) := by decide +kernel
theorem dX0_countForBowler_102 : decode cX0_countForBowler 102 = .ok (.if_icmp .ne 7, 3) := by decide +kernel
theorem dX0_countForBowler_105 : decode cX0_countForBowler 105 = .ok (.iconst 1, 1) := by decide +kernel
theorem dX0_countForBowler_106 : decode cX0_countForBowler 106 = .ok (.goto 4, 3) := by decide +kernel
theorem dX0_countForBowler_109 : decode cX0_countForBowler 109 = .ok (.iconst 0, 1) := by decide +kernel
theorem dX0_countForBowler_110 : decode cX0_countForBowler 110 = .ok (.invokevirtual 103, 3) := by decide +kernel
theorem dX0_countForBowler_113 : decode cX0_countForBowler 113 = .ok (.aload_n 0, 1) := by decide +kernel
theorem dX0_countForBowler_114 : decode cX0_countForBowler 114 = .ok (.getfield 23, 3) := by decide +kernel
theorem dX0_countForBowler_117 : decode cX0_countForBowler 117 = .ok (.aload_n 0, 1) := by decide +kernel
theorem dX0_countForBowler_118 : decode cX0_countForBowler 118 = .ok (.getfield 35, 3) := by decide +kernel
theorem dX0_countForBowler_121 : decode cX0_countForBowler 121 = .ok (.getfield 81, 3) := by decide +kernel
theorem dX0_countForBowler_124 : decode cX0_countForBowler 124 = .ok (.iconst 5, 1) := by decide +kernel
theorem dX0_countForBowler_125 : decode cX0_countForBowler 125 = .ok (.aload_n 1, 1) := by decide +kernel
theorem dX0_countForBowler_126 : decode cX0_countForBowler 126 = .ok (.getfield 165, 3) := by decide +kernel
theorem dX0_countForBowler_129 : decode cX0_countForBowler 129 = .ok (.iconst 2, 1) := by decide +kernel
theorem dX0_countForBowler_130 : decode cX0_countForBowler 130 = .ok (.if_icmp .ne 7, 3) := by decide +kernel
theorem dX0_countForBowler_133 : decode cX0_countForBowler 133 = .ok (.iconst 1, 1) := by decide +kernel
theorem dX0_countForBowler_134 : decode cX0_countForBowler 134 = .ok (.goto 4, 3) := by decide +kernel
theorem dX0_countForBowler_137 : decode cX0_countForBowler 137 = .ok (.iconst 0, 1) := by decide +kernel
theorem dX0_countForBowler_138 : decode cX0_countForBowler 138 = .ok (.invokevirtual 103, 3) := by decide +kernel
theorem dX0_countForBowler_141 : decode cX0_countForBowler 141 = .ok (.return_, 1) := by decide +kernel
set_option maxRecDepth 20000 in
theorem ggX0_countForStriker_X5_strikerRuns : GoodIn wsX0_countForStriker wsX5_strikerRuns := goodIn_r _ [10, 11, 12, 32, 33, 34, 35, 36, 37, 38, 39, 40] (by decide +kernel) (by decide +kernel)
set_option maxRecDepth 20000 in
theorem gX0_countForStriker_X5_strikerRuns : GoodIn wsX0_countForStriker (wsV RX0 177 RX5 yX5_strikerRuns wsX5_strikerRuns) := goodIn_app (goodIn_of _ (by decide +kernel)) ggX0_countForStriker_X5_strikerRuns
set_option maxRecDepth 20000 in
theorem ggX0_countForStriker_X6_increase : GoodIn wsX0_countForStriker wsX6_increase := goodIn_ca (goodIn_r _ [17, 18, 19, 20, 41, 42, 43] (by decide +kernel) (by decide +kernel)) (goodIn_sub (fun _ h => List.mem_cons_of_mem _ (List.mem_append_right _ h)) (by decide +kernel))
set_option maxRecDepth 20000 in
theorem gX0_countForStriker_X6_increase : GoodIn wsX0_countForStriker (wsV RX0 103 RX6 yX6_increase wsX6_increase) := goodIn_app (goodIn_of _ (by decide +kernel)) ggX0_countForStriker_X6_increase
theorem dX0_countForStriker_0 : decode cX0_countForStriker 0 = .ok (.aload_n 0, 1) := by decide +kernel
theorem dX0_countForStriker_1 : decode cX0_countForStriker 1 = .ok (.getfield 20, 3) := by decide +kernel
theorem dX0_countForStriker_4 : decode cX0_countForStriker 4 = .ok (.aload_n 0, 1) := by decide +kernel
theorem dX0_countForStriker_5 : decode cX0_countForStriker 5 = .ok (.getfield 43, 3) := by decide +kernel
theorem dX0_countForStriker_8 : decode cX0_countForStriker 8 = .ok (.iconst 0, 1) := by decide +kernel
theorem dX0_countForStriker_9 : decode cX0_countForStriker 9 = .ok (.aload_n 1, 1) := by decide +kernel
theorem dX0_countForStriker_10 : decode cX0_countForStriker 10 = .ok (.invokevirtual 177, 3) := by decide +kernel
theorem dX0_countForStriker_13 : decode cX0_countForStriker 13 = .ok (.invokevirtual 103, 3) := by decide +kernel
theorem dX0_countForStriker_16 : decode cX0_countForStriker 16 = .ok (.aload_n 0, 1) := by decide +kernel
theorem dX0_countForStriker_17 : decode cX0_countForStriker 17 = .ok (.getfield 20, 3) := by decide +kernel
theorem dX0_countForStriker_20 : decode cX0_countForStriker 20 = .ok (.aload_n 0, 1) := by decide +kernel
theorem dX0_countForStriker_21 : decode cX0_countForStriker 21 = .ok (.getfield 43, 3) := by decide +kernel
theorem dX0_countForStriker_24 : decode cX0_countForStriker 24 = .ok (.iconst 1, 1) := by decide +kernel
theorem dX0_countForStriker_25 : decode cX0_countForStriker 25 = .ok (.aload_n 1, 1) := by decide +kernel
theorem dX0_countForStriker_26 : decode cX0_countForStriker 26 = .ok (.getfield 165, 3) := by decide +kernel
theorem dX0_countForStriker_29 : decode cX0_countForStriker 29 = .ok (.iconst 1, 1) := by decide +kernel
theorem dX0_countForStriker_30 : decode cX0_countForStriker 30 = .ok (.if_icmp .ne 7, 3) := by decide +kernel
theorem dX0_countForStriker_33 : decode cX0_countForStriker 33 = .ok (.iconst 0, 1) := by decide +kernel
theorem dX0_countForStriker_34 : decode cX0_countForStriker 34 = .ok (.goto 4, 3) := by decide +kernel
theorem dX0_countForStriker_37 : decode cX0_countForStriker 37 = .ok (.iconst 1, 1) := by decide +kernel
theorem dX0_countForStriker_38 : decode cX0_countForStriker 38 = .ok (.invokevirtual 103, 3) := by decide +kernel
theorem dX0_countForStriker_41 : decode cX0_countForStriker 41 = .ok (.aload_n 1, 1) := by decide +kernel
theorem dX0_countForStriker_42 : decode cX0_countForStriker 42 = .ok (.getfield 180, 3) := by decide +kernel
theorem dX0_countForStriker_45 : decode cX0_countForStriker 45 = .ok (.ifCond .eq 28, 3) := by decide +kernel
theorem dX0_countForStriker_48 : decode cX0_countForStriker 48 = .ok (.aload_n 0, 1) := by decide +kernel
theorem dX0_countForStriker_49 : decode cX0_countForStriker 49 = .ok (.getfield 20, 3) := by decide +kernel
theorem dX0_countForStriker_52 : decode cX0_countForStriker 52 = .ok (.aload_n 0, 1) := by decide +kernel
theorem dX0_countForStriker_53 : decode cX0_countForStriker 53 = .ok (.getfield 43, 3) := by decide +kernel
theorem dX0_countForStriker_56 : decode cX0_countForStriker 56 = .ok (.aload_n 1, 1) := by decide +kernel
theorem dX0_countForStriker_57 : decode cX0_countForStriker 57 = .ok (.getfield 168, 3) := by decide +kernel
theorem dX0_countForStriker_60 : decode cX0_countForStriker 60 = .ok (.iconst 4, 1) := by decide +kernel
theorem dX0_countForStriker_61 : decode cX0_countForStriker 61 = .ok (.if_icmp .ne 7, 3) := by decide +kernel
theorem dX0_countForStriker_64 : decode cX0_countForStriker 64 = .ok (.iconst 2, 1) := by decide +kernel
theorem dX0_countForStriker_65 : decode cX0_countForStriker 65 = .ok (.goto 4, 3) := by decide +kernel
theorem dX0_countForStriker_68 : decode cX0_countForStriker 68 = .ok (.iconst 3, 1) := by decide +kernel
theorem dX0_countForStriker_69 : decode cX0_countForStriker 69 = .ok (.iconst 1, 1) := by decide +kernel
theorem dX0_countForStriker_70 : decode cX0_countForStriker 70 = .ok (.invokevirtual 103, 3) := by decide +kernel
theorem dX0_countForStriker_73 : decode cX0_countForStriker 73 = .ok (.return_, 1) := by decide +kernel
set_option maxRecDepth 20000 in
theorem ggX0_countForPartnership_X6_lastRow : GoodIn wsX0_countForPartnership wsX6_lastRow := goodIn_r _ [8, 9, 42, 43, 44] (by decide +kernel) (by decide +kernel)
set_option maxRecDepth 20000 in
theorem gX0_countForPartnership_X6_lastRow : GoodIn wsX0_countForPartnership (wsV RX0 183 RX6 yX6_lastRow wsX6_lastRow) := goodIn_app (goodIn_of _ (by decide +kernel)) ggX0_countForPartnership_X6_lastRow
set_option maxRecDepth 20000 in
theorem ggX0_countForPartnership_X5_teamRuns : GoodIn wsX0_countForPartnership wsX5_teamRuns := goodIn_r _ [14, 15, 16, 45, 46, 47, 48, 49, 50, 51, 52, 53] (by decide +kernel) (by decide +kernel)
set_option maxRecDepth 20000 in
theorem gX0_countForPartnership_X5_teamRuns : GoodIn wsX0_countForPartnership (wsV RX0 124 RX5 yX5_teamRuns wsX5_teamRuns) := goodIn_app (goodIn_of _ (by decide +kernel)) ggX0_countForPartnership_X5_teamRuns
set_option maxRecDepth 20000 in
theorem ggX0_countForPartnership_X6_increase : GoodIn wsX0_countForPartnership wsX6_increase := goodIn_ca (goodIn_r _ [20, 21, 9, 22, 42, 43, 44] (by decide +kernel) (by decide +kernel)) (goodIn_sub (fun _ h => List.mem_cons_of_mem _ (List.mem_append_right _ h)) (by decide +kernel))
set_option maxRecDepth 20000 in
theorem gX0_countForPartnership_X6_increase : GoodIn wsX0_countForPartnership (wsV RX0 103 RX6 yX6_increase wsX6_increase) := goodIn_app (goodIn_of _ (by decide +kernel)) ggX0_countForPartnership_X6_increase
set_option maxRecDepth 20000 in
theorem ggX0_countForPartnership_X5_isLegal : GoodIn wsX0_countForPartnership wsX5_isLegal := goodIn_r _ [26, 15, 45, 46, 47, 48, 49, 50, 51, 52, 53] (by decide +kernel) (by decide +kernel)
set_option maxRecDepth 20000 in
theorem gX0_countForPartnership_X5_isLegal : GoodIn wsX0_countForPartnership (wsV RX0 146 RX5 yX5_isLegal wsX5_isLegal) := goodIn_app (goodIn_of _ (by decide +kernel)) ggX0_countForPartnership_X5_isLegal
set_option maxRecDepth 20000 in
theorem ggX0_countForPartnership_X5_strikerRuns : GoodIn wsX0_countForPartnership wsX5_strikerRuns := goodIn_r _ [30, 15, 16, 45, 46, 47, 48, 49, 50, 51, 52, 53] (by decide +kernel) (by decide +kernel)
set_option maxRecDepth 20000 in
theorem gX0_countForPartnership_X5_strikerRuns : GoodIn wsX0_countForPartnership (wsV RX0 177 RX5 yX5_strikerRuns wsX5_strikerRuns) := goodIn_app (goodIn_of _ (by decide +kernel)) ggX0_countForPartnership_X5_strikerRuns
theorem dX0_countForPartnership_0 : decode cX0_countForPartnership 0 = .ok (.aload_n 0, 1) := by decide +kernel
theorem dX0_countForPartnership_1 : decode cX0_countForPartnership 1 = .ok (.getfield 26, 3) := by decide +kernel
theorem dX0_countForPartnership_4 : decode cX0_countForPartnership 4 = .ok (.invokevirtual 183, 3) := by decide +kernel
theorem dX0_countForPartnership_7 : decode cX0_countForPartnership 7 = .ok (.istore_n 2, 1) := by decide +kernel
theorem dX0_countForPartnership_8 : decode cX0_countForPartnership 8 = .ok (.aload_n 0, 1) := by decide +kernel
theorem dX0_countForPartnership_9 : decode cX0_countForPartnership 9 = .ok (.getfield 26, 3) := by decide +kernel
theorem dX0_countForPartnership_12 : decode cX0_countForPartnership 12 = .ok (.iload_n 2, 1) := by decide +kernel
theorem dX0_countForPartnership_13 : decode cX0_countForPartnership 13 = .ok (.iconst 0, 1) := by decide +kernel
theorem dX0_countForPartnership_14 : decode cX0_countForPartnership 14 = .ok (.aload_n 1, 1) := by decide +kernel
theorem dX0_countForPartnership_15 : decode cX0_countForPartnership 15 = .ok (.invokevirtual 124, 3) := by decide +kernel
theorem dX0_countForPartnership_18 : decode cX0_countForPartnership 18 = .ok (.invokevirtual 103, 3) := by decide +kernel
theorem dX0_countForPartnership_21 : decode cX0_countForPartnership 21 = .ok (.aload_n 0, 1) := by decide +kernel
theorem dX0_countForPartnership_22 : decode cX0_countForPartnership 22 = .ok (.getfield 26, 3) := by decide +kernel
theorem dX0_countForPartnership_25 : decode cX0_countForPartnership 25 = .ok (.iload_n 2, 1) := by decide +kernel
theorem dX0_countForPartnership_26 : decode cX0_countForPartnership 26 = .ok (.iconst 1, 1) := by decide +kernel
theorem dX0_countForPartnership_27 : decode cX0_countForPartnership 27 = .ok (.aload_n 1, 1) := by decide +kernel
theorem dX0_countForPartnership_28 : decode cX0_countForPartnership 28 = .ok (.invokevirtual 146, 3) := by decide +kernel
theorem dX0_countForPartnership_31 : decode cX0_countForPartnership 31 = .ok (.ifCond .eq 7, 3) := by decide +kernel
theorem dX0_countForPartnership_34 : decode cX0_countForPartnership 34 = .ok (.iconst 1, 1) := by decide +kernel
theorem dX0_countForPartnership_35 : decode cX0_countForPartnership 35 = .ok (.goto 4, 3) := by decide +kernel
theorem dX0_countForPartnership_38 : decode cX0_countForPartnership 38 = .ok (.iconst 0, 1) := by decide +kernel
theorem dX0_countForPartnership_39 : decode cX0_countForPartnership 39 = .ok (.invokevirtual 103, 3) := by decide +kernel
theorem dX0_countForPartnership_42 : decode cX0_countForPartnership 42 = .ok (.aload_n 0, 1) := by decide +kernel
theorem dX0_countForPartnership_43 : decode cX0_countForPartnership 43 = .ok (.getfield 26, 3) := by decide +kernel
theorem dX0_countForPartnership_46 : decode cX0_countForPartnership 46 = .ok (.iload_n 2, 1) := by decide +kernel
theorem dX0_countForPartnership_47 : decode cX0_countForPartnership 47 = .ok (.aload_n 0, 1) := by decide +kernel
theorem dX0_countForPartnership_48 : decode cX0_countForPartnership 48 = .ok (.getfield 43, 3) := by decide +kernel
theorem dX0_countForPartnership_51 : decode cX0_countForPartnership 51 = .ok (.aload_n 0, 1) := by decide +kernel
theorem dX0_countForPartnership_52 : decode cX0_countForPartnership 52 = .ok (.getfield 46, 3) := by decide +kernel
theorem dX0_countForPartnership_55 : decode cX0_countForPartnership 55 = .ok (.if_icmp .ge 7, 3) := by decide +kernel
theorem dX0_countForPartnership_58 : decode cX0_countForPartnership 58 = .ok (.iconst 4, 1) := by decide +kernel
theorem dX0_countForPartnership_59 : decode cX0_countForPartnership 59 = .ok (.goto 4, 3) := by decide +kernel
theorem dX0_countForPartnership_62 : decode cX0_countForPartnership 62 = .ok (.iconst 5, 1) := by decide +kernel
theorem dX0_countForPartnership_63 : decode cX0_countForPartnership 63 = .ok (.aload_n 1, 1) := by decide +kernel
theorem dX0_countForPartnership_64 : decode cX0_countForPartnership 64 = .ok (.invokevirtual 177, 3) := by decide +kernel
theorem dX0_countForPartnership_67 : decode cX0_countForPartnership 67 = .ok (.invokevirtual 103, 3) := by decide +kernel
theorem dX0_countForPartnership_70 : decode cX0_countForPartnership 70 = .ok (.aload_n 0, 1) := by decide +kernel
theorem dX0_countForPartnership_71 : decode cX0_countForPartnership 71 = .ok (.getfield 26, 3) := by decide +kernel
theorem dX0_countForPartnership_74 : decode cX0_countForPartnership 74 = .ok (.iload_n 2, 1) := by decide +kernel
theorem dX0_countForPartnership_75 : decode cX0_countForPartnership 75 = .ok (.bipush 6, 2) := by decide +kernel
theorem dX0_countForPartnership_77 : decode cX0_countForPartnership 77 = .ok (.aload_n 1, 1) := by decide +kernel
theorem dX0_countForPartnership_78 : decode cX0_countForPartnership 78 = .ok (.invokevirtual 124, 3) := by decide +kernel
theorem dX0_countForPartnership_81 : decode cX0_countForPartnership 81 = .ok (.aload_n 1, 1) := by decide +kernel
theorem dX0_countForPartnership_82 : decode cX0_countForPartnership 82 = .ok (.invokevirtual 177, 3) := by decide +kernel
theorem dX0_countForPartnership_85 : decode cX0_countForPartnership 85 = .ok (.isub, 1) := by decide +kernel
theorem dX0_countForPartnership_86 : decode cX0_countForPartnership 86 = .ok (.invokevirtual 103, 3) := by decide +kernel
theorem dX0_countForPartnership_89 : decode cX0_countForPartnership 89 = .ok (.return_, 1) := by decide +kernel
set_option maxRecDepth 20000 in
theorem ggX0_countWicket_X6_increase : GoodIn wsX0_countWicket wsX6_increase := goodIn_ca (goodIn_r _ [11, 12, 13, 14, 56, 57, 58] (by decide +kernel) (by decide +kernel)) (goodIn_sub (fun _ h => List.mem_cons_of_mem _ (List.mem_append_right _ h)) (by decide +kernel))
set_option maxRecDepth 20000 in
theorem gX0_countWicket_X6_increase : GoodIn wsX0_countWicket (wsV RX0 103 RX6 yX6_increase wsX6_increase) := goodIn_app (goodIn_of _ (by decide +kernel)) ggX0_countWicket_X6_increase
set_option maxRecDepth 20000 in
theorem ggX0_countWicket_X6_addRow : GoodIn wsX0_countWicket wsX6_addRow := goodIn_ca (goodIn_r _ [18, 13, 12, 14, 56, 57, 58] (by decide +kernel) (by decide +kernel)) (goodIn_sub (fun _ h => List.mem_cons_of_mem _ (List.mem_append_right _ h)) (by decide +kernel))
set_option maxRecDepth 20000 in
theorem gX0_countWicket_X6_addRow : GoodIn wsX0_countWicket (wsV RX0 186 RX6 yX6_addRow wsX6_addRow) := goodIn_app (goodIn_of _ (by decide +kernel)) ggX0_countWicket_X6_addRow
set_option maxRecDepth 20000 in
theorem ggX0_countWicket_X6_lastRow : GoodIn wsX0_countWicket wsX6_lastRow := goodIn_r _ [22, 13, 56, 57, 58] (by decide +kernel) (by decide +kernel)
set_option maxRecDepth 20000 in
theorem gX0_countWicket_X6_lastRow : GoodIn wsX0_countWicket (wsV RX0 183 RX6 yX6_lastRow wsX6_lastRow) := goodIn_app (goodIn_of _ (by decide +kernel)) ggX0_countWicket_X6_lastRow
set_option maxRecDepth 20000 in
theorem ggX0_countWicket_X6_set : GoodIn wsX0_countWicket wsX6_set := goodIn_ca (goodIn_r _ [26, 12, 13, 14, 56, 57, 58] (by decide +kernel) (by decide +kernel)) (goodIn_sub (fun _ h => List.mem_cons_of_mem _ (List.mem_append_right _ h)) (by decide +kernel))
set_option maxRecDepth 20000 in
theorem gX0_countWicket_X6_set : GoodIn wsX0_countWicket (wsV RX0 63 RX6 yX6_set wsX6_set) := goodIn_app (goodIn_of _ (by decide +kernel)) ggX0_countWicket_X6_set
set_option maxRecDepth 20000 in
theorem ggX0_countWicket_X0_total : GoodIn wsX0_countWicket wsX0_total := goodIn_ca (goodIn_r _ [31, 1, 32, 33, 34, 10, 35, 12, 13, 14, 36, 37, 38, 39, 40, 41, 42, 43, 44, 45, 46, 56, 57, 58] (by decide +kernel) (by decide +kernel)) (goodIn_sub (fun _ h => List.mem_cons_of_mem _ (List.mem_append_right _ h)) (by decide +kernel))
set_option maxRecDepth 20000 in
theorem gX0_countWicket_X0_total : GoodIn wsX0_countWicket (wsV RX0 109 RX0 yX0_total wsX0_total) := goodIn_app (goodIn_of _ (by decide +kernel)) ggX0_countWicket_X0_total
theorem dX0_countWicket_0 : decode cX0_countWicket 0 = .ok (.aload_n 0, 1) := by decide +kernel
theorem dX0_countWicket_1 : decode cX0_countWicket 1 = .ok (.getfield 16, 3) := by decide +kernel
theorem dX0_countWicket_4 : decode cX0_countWicket 4 = .ok (.iconst 0, 1) := by decide +kernel
theorem dX0_countWicket_5 : decode cX0_countWicket 5 = .ok (.iconst 1, 1) := by decide +kernel
theorem dX0_countWicket_6 : decode cX0_countWicket 6 = .ok (.iconst 1, 1) := by decide +kernel
theorem dX0_countWicket_7 : decode cX0_countWicket 7 = .ok (.invokevirtual 103, 3) := by decide +kernel
theorem dX0_countWicket_10 : decode cX0_countWicket 10 = .ok (.aload_n 0, 1) := by decide +kernel
theorem dX0_countWicket_11 : decode cX0_countWicket 11 = .ok (.getfield 29, 3) := by decide +kernel
theorem dX0_countWicket_14 : decode cX0_countWicket 14 = .ok (.invokevirtual 186, 3) := by decide +kernel
theorem dX0_countWicket_17 : decode cX0_countWicket 17 = .ok (.aload_n 0, 1) := by decide +kernel
theorem dX0_countWicket_18 : decode cX0_countWicket 18 = .ok (.getfield 29, 3) := by decide +kernel
theorem dX0_countWicket_21 : decode cX0_countWicket 21 = .ok (.aload_n 0, 1) := by decide +kernel
theorem dX0_countWicket_22 : decode cX0_countWicket 22 = .ok (.getfield 29, 3) := by decide +kernel
theorem dX0_countWicket_25 : decode cX0_countWicket 25 = .ok (.invokevirtual 183, 3) := by decide +kernel
theorem dX0_countWicket_28 : decode cX0_countWicket 28 = .ok (.iconst 0, 1) := by decide +kernel
theorem dX0_countWicket_29 : decode cX0_countWicket 29 = .ok (.iload_n 1, 1) := by decide +kernel
theorem dX0_countWicket_30 : decode cX0_countWicket 30 = .ok (.invokevirtual 63, 3) := by decide +kernel
theorem dX0_countWicket_33 : decode cX0_countWicket 33 = .ok (.aload_n 0, 1) := by decide +kernel
theorem dX0_countWicket_34 : decode cX0_countWicket 34 = .ok (.getfield 29, 3) := by decide +kernel
theorem dX0_countWicket_37 : decode cX0_countWicket 37 = .ok (.aload_n 0, 1) := by decide +kernel
theorem dX0_countWicket_38 : decode cX0_countWicket 38 = .ok (.getfield 29, 3) := by decide +kernel
theorem dX0_countWicket_41 : decode cX0_countWicket 41 = .ok (.invokevirtual 183, 3) := by decide +kernel
theorem dX0_countWicket_44 : decode cX0_countWicket 44 = .ok (.iconst 1, 1) := by decide +kernel
theorem dX0_countWicket_45 : decode cX0_countWicket 45 = .ok (.aload_n 0, 1) := by decide +kernel
theorem dX0_countWicket_46 : decode cX0_countWicket 46 = .ok (.iconst 0, 1) := by decide +kernel
theorem dX0_countWicket_47 : decode cX0_countWicket 47 = .ok (.invokevirtual 109, 3) := by decide +kernel
theorem dX0_countWicket_50 : decode cX0_countWicket 50 = .ok (.invokevirtual 63, 3) := by decide +kernel
theorem dX0_countWicket_53 : decode cX0_countWicket 53 = .ok (.aload_n 0, 1) := by decide +kernel
theorem dX0_countWicket_54 : decode cX0_countWicket 54 = .ok (.getfield 29, 3) := by decide +kernel
theorem dX0_countWicket_57 : decode cX0_countWicket 57 = .ok (.aload_n 0, 1) := by decide +kernel
theorem dX0_countWicket_58 : decode cX0_countWicket 58 = .ok (.getfield 29, 3) := by decide +kernel
theorem dX0_countWicket_61 : decode cX0_countWicket 61 = .ok (.invokevirtual 183, 3) := by decide +kernel
theorem dX0_countWicket_64 : decode cX0_countWicket 64 = .ok (.iconst 2, 1) := by decide +kernel
theorem dX0_countWicket_65 : decode cX0_countWicket 65 = .ok (.aload_n 0, 1) := by decide +kernel
theorem dX0_countWicket_66 : decode cX0_countWicket 66 = .ok (.iconst 2, 1) := by decide +kernel
theorem dX0_countWicket_67 : decode cX0_countWicket 67 = .ok (.invokevirtual 109, 3) := by decide +kernel
theorem dX0_countWicket_70 : decode cX0_countWicket 70 = .ok (.invokevirtual 63, 3) := by decide +kernel
theorem dX0_countWicket_73 : decode cX0_countWicket 73 = .ok (.iload_n 2, 1) := by decide +kernel
theorem dX0_countWicket_74 : decode cX0_countWicket 74 = .ok (.iconst 5, 1) := by decide +kernel
theorem dX0_countWicket_75 : decode cX0_countWicket 75 = .ok (.if_icmp .eq 35, 3) := by decide +kernel
theorem dX0_countWicket_78 : decode cX0_countWicket 78 = .ok (.aload_n 0, 1) := by decide +kernel
theorem dX0_countWicket_79 : decode cX0_countWicket 79 = .ok (.getfield 20, 3) := by decide +kernel
theorem dX0_countWicket_82 : decode cX0_countWicket 82 = .ok (.iload_n 1, 1) := by decide +kernel
theorem dX0_countWicket_83 : decode cX0_countWicket 83 = .ok (.iconst 5, 1) := by decide +kernel
theorem dX0_countWicket_84 : decode cX0_countWicket 84 = .ok (.aload_n 0, 1) := by decide +kernel
theorem dX0_countWicket_85 : decode cX0_countWicket 85 = .ok (.getfield 35, 3) := by decide +kernel
theorem dX0_countWicket_88 : decode cX0_countWicket 88 = .ok (.getfield 81, 3) := by decide +kernel
theorem dX0_countWicket_91 : decode cX0_countWicket 91 = .ok (.invokevirtual 63, 3) := by decide +kernel
theorem dX0_countWicket_94 : decode cX0_countWicket 94 = .ok (.aload_n 0, 1) := by decide +kernel
theorem dX0_countWicket_95 : decode cX0_countWicket 95 = .ok (.getfield 23, 3) := by decide +kernel
theorem dX0_countWicket_98 : decode cX0_countWicket 98 = .ok (.aload_n 0, 1) := by decide +kernel
theorem dX0_countWicket_99 : decode cX0_countWicket 99 = .ok (.getfield 35, 3) := by decide +kernel
theorem dX0_countWicket_102 : decode cX0_countWicket 102 = .ok (.getfield 81, 3) := by decide +kernel
theorem dX0_countWicket_105 : decode cX0_countWicket 105 = .ok (.iconst 2, 1) := by decide +kernel
theorem dX0_countWicket_106 : decode cX0_countWicket 106 = .ok (.iconst 1, 1) := by decide +kernel
theorem dX0_countWicket_107 : decode cX0_countWicket 107 = .ok (.invokevirtual 103, 3) := by decide +kernel
theorem dX0_countWicket_110 : decode cX0_countWicket 110 = .ok (.return_, 1) := by decide +kernel
theorem dX0_changeEnds_0 : decode cX0_changeEnds 0 = .ok (.aload_n 0, 1) := by decide +kernel
theorem dX0_changeEnds_1 : decode cX0_changeEnds 1 = .ok (.getfield 43, 3) := by decide +kernel
theorem dX0_changeEnds_4 : decode cX0_changeEnds 4 = .ok (.istore_n 1, 1) := by decide +kernel
theorem dX0_changeEnds_5 : decode cX0_changeEnds 5 = .ok (.aload_n 0, 1) := by decide +kernel
theorem dX0_changeEnds_6 : decode cX0_changeEnds 6 = .ok (.aload_n 0, 1) := by decide +kernel
theorem dX0_changeEnds_7 : decode cX0_changeEnds 7 = .ok (.getfield 46, 3) := by decide +kernel
theorem dX0_changeEnds_10 : decode cX0_changeEnds 10 = .ok (.putfield 43, 3) := by decide +kernel
theorem dX0_changeEnds_13 : decode cX0_changeEnds 13 = .ok (.aload_n 0, 1) := by decide +kernel
theorem dX0_changeEnds_14 : decode cX0_changeEnds 14 = .ok (.iload_n 1, 1) := by decide +kernel
theorem dX0_changeEnds_15 : decode cX0_changeEnds 15 = .ok (.putfield 46, 3) := by decide +kernel
theorem dX0_changeEnds_18 : decode cX0_changeEnds 18 = .ok (.return_, 1) := by decide +kernel
set_option maxRecDepth 20000 in
theorem ggX0_retireBatter_X0_nextBatter : GoodIn wsX0_retireBatter wsX0_nextBatter := goodIn_ca (goodIn_r _ [9, 10, 11, 12, 13, 8, 14, 15, 16, 17, 18, 19, 20, 21, 22, 23, 62, 63, 64, 65, 66, 67, 68, 69, 70, 71, 72, 73, 74, 75] (by decide +kernel) (by decide +kernel)) (goodIn_sub (fun _ h => List.mem_cons_of_mem _ (List.mem_append_right _ h)) (by decide +kernel))
set_option maxRecDepth 20000 in
theorem gX0_retireBatter_X0_nextBatter : GoodIn wsX0_retireBatter (wsV RX0 131 RX0 yX0_nextBatter wsX0_nextBatter) := goodIn_app (goodIn_of _ (by decide +kernel)) ggX0_retireBatter_X0_nextBatter
set_option maxRecDepth 20000 in
theorem ggX0_retireBatter_X0_leave : GoodIn wsX0_retireBatter wsX0_leave := goodIn_ca (goodIn_r _ [27, 15, 28, 29, 3, 2, 10, 30, 31, 32, 19, 33, 21, 22, 23, 34, 35, 36, 37, 38, 39, 40, 8, 41, 42, 43, 44, 45, 46, 47, 48, 49, 50, 51, 52, 62, 63, 64, 65, 66, 67, 68, 69, 70, 71, 72, 73, 74, 75] (by decide +kernel) (by decide +kernel)) (goodIn_sub (fun _ h => List.mem_cons_of_mem _ (List.mem_append_right _ h)) (by decide +kernel))
set_option maxRecDepth 20000 in
theorem gX0_retireBatter_X0_leave : GoodIn wsX0_retireBatter (wsV RX0 143 RX0 yX0_leave wsX0_leave) := goodIn_app (goodIn_of _ (by decide +kernel)) ggX0_retireBatter_X0_leave
theorem dX0_retireBatter_0 : decode cX0_retireBatter 0 = .ok (.aload_n 0, 1) := by decide +kernel
theorem dX0_retireBatter_1 : decode cX0_retireBatter 1 = .ok (.invokevirtual 131, 3) := by decide +kernel
theorem dX0_retireBatter_4 : decode cX0_retireBatter 4 = .ok (.istore_n 2, 1) := by decide +kernel
theorem dX0_retireBatter_5 : decode cX0_retireBatter 5 = .ok (.aload_n 0, 1) := by decide +kernel
theorem dX0_retireBatter_6 : decode cX0_retireBatter 6 = .ok (.aload_n 1, 1) := by decide +kernel
theorem dX0_retireBatter_7 : decode cX0_retireBatter 7 = .ok (.getfield 129, 3) := by decide +kernel
theorem dX0_retireBatter_10 : decode cX0_retireBatter 10 = .ok (.ifCond .eq 10, 3) := by decide +kernel
theorem dX0_retireBatter_13 : decode cX0_retireBatter 13 = .ok (.aload_n 0, 1) := by decide +kernel
theorem dX0_retireBatter_14 : decode cX0_retireBatter 14 = .ok (.getfield 46, 3) := by decide +kernel
theorem dX0_retireBatter_17 : decode cX0_retireBatter 17 = .ok (.goto 7, 3) := by decide +kernel
theorem dX0_retireBatter_20 : decode cX0_retireBatter 20 = .ok (.aload_n 0, 1) := by decide +kernel
theorem dX0_retireBatter_21 : decode cX0_retireBatter 21 = .ok (.getfield 43, 3) := by decide +kernel
theorem dX0_retireBatter_24 : decode cX0_retireBatter 24 = .ok (.aload_n 1, 1) := by decide +kernel
theorem dX0_retireBatter_25 : decode cX0_retireBatter 25 = .ok (.getfield 189, 3) := by decide +kernel
theorem dX0_retireBatter_28 : decode cX0_retireBatter 28 = .ok (.ifCond .eq 8, 3) := by decide +kernel
theorem dX0_retireBatter_31 : decode cX0_retireBatter 31 = .ok (.bipush 6, 2) := by decide +kernel
theorem dX0_retireBatter_33 : decode cX0_retireBatter 33 = .ok (.goto 5, 3) := by decide +kernel
theorem dX0_retireBatter_36 : decode cX0_retireBatter 36 = .ok (.bipush 7, 2) := by decide +kernel
theorem dX0_retireBatter_38 : decode cX0_retireBatter 38 = .ok (.iload_n 2, 1) := by decide +kernel
theorem dX0_retireBatter_39 : decode cX0_retireBatter 39 = .ok (.invokevirtual 143, 3) := by decide +kernel
theorem dX0_retireBatter_42 : decode cX0_retireBatter 42 = .ok (.iload_n 2, 1) := by decide +kernel
theorem dX0_retireBatter_43 : decode cX0_retireBatter 43 = .ok (.ireturn, 1) := by decide +kernel
set_option maxRecDepth 20000 in
theorem ggX0_canComeIn_X6_get : GoodIn wsX0_canComeIn wsX6_get := goodIn_ca (goodIn_r _ [6, 7, 8, 9, 21, 22, 23] (by decide +kernel) (by decide +kernel)) (goodIn_sub (fun _ h => List.mem_cons_of_mem _ (List.mem_append_right _ h)) (by decide +kernel))
set_option maxRecDepth 20000 in
theorem gX0_canComeIn_X6_get : GoodIn wsX0_canComeIn (wsV RX0 74 RX6 yX6_get wsX6_get) := goodIn_app (goodIn_of _ (by decide +kernel)) ggX0_canComeIn_X6_get
theorem dX0_canComeIn_0 : decode cX0_canComeIn 0 = .ok (.aload_n 0, 1) := by decide +kernel
theorem dX0_canComeIn_1 : decode cX0_canComeIn 1 = .ok (.getfield 20, 3) := by decide +kernel
theorem dX0_canComeIn_4 : decode cX0_canComeIn 4 = .ok (.iload_n 1, 1) := by decide +kernel
theorem dX0_canComeIn_5 : decode cX0_canComeIn 5 = .ok (.iconst 4, 1) := by decide +kernel
theorem dX0_canComeIn_6 : decode cX0_canComeIn 6 = .ok (.invokevirtual 74, 3) := by decide +kernel
theorem dX0_canComeIn_9 : decode cX0_canComeIn 9 = .ok (.istore_n 2, 1) := by decide +kernel
theorem dX0_canComeIn_10 : decode cX0_canComeIn 10 = .ok (.iload_n 2, 1) := by decide +kernel
theorem dX0_canComeIn_11 : decode cX0_canComeIn 11 = .ok (.bipush (-2), 2) := by decide +kernel
theorem dX0_canComeIn_13 : decode cX0_canComeIn 13 = .ok (.if_icmp .eq 9, 3) := by decide +kernel
theorem dX0_canComeIn_16 : decode cX0_canComeIn 16 = .ok (.iload_n 2, 1) := by decide +kernel
theorem dX0_canComeIn_17 : decode cX0_canComeIn 17 = .ok (.bipush 6, 2) := by decide +kernel
theorem dX0_canComeIn_19 : decode cX0_canComeIn 19 = .ok (.if_icmp .ne 7, 3) := by decide +kernel
theorem dX0_canComeIn_22 : decode cX0_canComeIn 22 = .ok (.iconst 1, 1) := by decide +kernel
theorem dX0_canComeIn_23 : decode cX0_canComeIn 23 = .ok (.goto 4, 3) := by decide +kernel
theorem dX0_canComeIn_26 : decode cX0_canComeIn 26 = .ok (.iconst 0, 1) := by decide +kernel
theorem dX0_canComeIn_27 : decode cX0_canComeIn 27 = .ok (.ireturn, 1) := by decide +kernel
set_option maxRecDepth 20000 in
theorem ggX0_chooseNext_X0_nextBatter : GoodIn wsX0_chooseNext wsX0_nextBatter := goodIn_ca (goodIn_r _ [6, 1, 7, 8, 9, 5, 10, 11, 12, 13, 14, 15, 16, 17, 18, 19, 20, 21, 22, 23, 24, 25, 26, 27, 28, 29, 30, 31, 32, 33] (by decide +kernel) (by decide +kernel)) (goodIn_sub (fun _ h => List.mem_cons_of_mem _ (List.mem_append_right _ h)) (by decide +kernel))
set_option maxRecDepth 20000 in
theorem gX0_chooseNext_X0_nextBatter : GoodIn wsX0_chooseNext (wsV RX0 131 RX0 yX0_nextBatter wsX0_nextBatter) := goodIn_app (goodIn_of _ (by decide +kernel)) ggX0_chooseNext_X0_nextBatter
theorem dX0_chooseNext_0 : decode cX0_chooseNext 0 = .ok (.aload_n 0, 1) := by decide +kernel
theorem dX0_chooseNext_1 : decode cX0_chooseNext 1 = .ok (.invokevirtual 131, 3) := by decide +kernel
theorem dX0_chooseNext_4 : decode cX0_chooseNext 4 = .ok (.istore_n 2, 1) := by decide +kernel
theorem dX0_chooseNext_5 : decode cX0_chooseNext 5 = .ok (.aload_n 0, 1) := by decide +kernel
theorem dX0_chooseNext_6 : decode cX0_chooseNext 6 = .ok (.iload_n 1, 1) := by decide +kernel
theorem dX0_chooseNext_7 : decode cX0_chooseNext 7 = .ok (.putfield 49, 3) := by decide +kernel
theorem dX0_chooseNext_10 : decode cX0_chooseNext 10 = .ok (.iload_n 2, 1) := by decide +kernel
theorem dX0_chooseNext_11 : decode cX0_chooseNext 11 = .ok (.ireturn, 1) := by decide +kernel
set_option maxRecDepth 20000 in
theorem ggX0_nextBatter_X0_lowestWhoStands : GoodIn wsX0_nextBatter wsX0_lowestWhoStands := goodIn_ca (goodIn_r _ [6, 7, 8, 9, 10, 11, 12, 13, 14, 15, 16, 17, 18, 19, 20, 21, 22, 23, 24, 25, 26, 27, 28, 29] (by decide +kernel) (by decide +kernel)) (goodIn_sub (fun _ h => List.mem_cons_of_mem _ (List.mem_append_right _ h)) (by decide +kernel))
set_option maxRecDepth 20000 in
theorem gX0_nextBatter_X0_lowestWhoStands : GoodIn wsX0_nextBatter (wsV RX0 192 RX0 yX0_lowestWhoStands wsX0_lowestWhoStands) := goodIn_app (goodIn_of _ (by decide +kernel)) ggX0_nextBatter_X0_lowestWhoStands
theorem dX0_nextBatter_0 : decode cX0_nextBatter 0 = .ok (.aload_n 0, 1) := by decide +kernel
theorem dX0_nextBatter_1 : decode cX0_nextBatter 1 = .ok (.getfield 49, 3) := by decide +kernel
theorem dX0_nextBatter_4 : decode cX0_nextBatter 4 = .ok (.iconst (-1), 1) := by decide +kernel
theorem dX0_nextBatter_5 : decode cX0_nextBatter 5 = .ok (.if_icmp .eq 8, 3) := by decide +kernel
theorem dX0_nextBatter_8 : decode cX0_nextBatter 8 = .ok (.aload_n 0, 1) := by decide +kernel
theorem dX0_nextBatter_9 : decode cX0_nextBatter 9 = .ok (.getfield 49, 3) := by decide +kernel
theorem dX0_nextBatter_12 : decode cX0_nextBatter 12 = .ok (.ireturn, 1) := by decide +kernel
theorem dX0_nextBatter_13 : decode cX0_nextBatter 13 = .ok (.aload_n 0, 1) := by decide +kernel
theorem dX0_nextBatter_14 : decode cX0_nextBatter 14 = .ok (.bipush (-2), 2) := by decide +kernel
theorem dX0_nextBatter_16 : decode cX0_nextBatter 16 = .ok (.invokevirtual 192, 3) := by decide +kernel
theorem dX0_nextBatter_19 : decode cX0_nextBatter 19 = .ok (.istore_n 1, 1) := by decide +kernel
theorem dX0_nextBatter_20 : decode cX0_nextBatter 20 = .ok (.iload_n 1, 1) := by decide +kernel
theorem dX0_nextBatter_21 : decode cX0_nextBatter 21 = .ok (.iconst (-1), 1) := by decide +kernel
theorem dX0_nextBatter_22 : decode cX0_nextBatter 22 = .ok (.if_icmp .eq 7, 3) := by decide +kernel
theorem dX0_nextBatter_25 : decode cX0_nextBatter 25 = .ok (.iload_n 1, 1) := by decide +kernel
theorem dX0_nextBatter_26 : decode cX0_nextBatter 26 = .ok (.goto 9, 3) := by decide +kernel
theorem dX0_nextBatter_29 : decode cX0_nextBatter 29 = .ok (.aload_n 0, 1) := by decide +kernel
theorem dX0_nextBatter_30 : decode cX0_nextBatter 30 = .ok (.bipush 6, 2) := by decide +kernel
theorem dX0_nextBatter_32 : decode cX0_nextBatter 32 = .ok (.invokevirtual 192, 3) := by decide +kernel
theorem dX0_nextBatter_35 : decode cX0_nextBatter 35 = .ok (.ireturn, 1) := by decide +kernel
set_option maxRecDepth 20000 in
theorem ggX0_lowestWhoStands_X6_get : GoodIn wsX0_lowestWhoStands wsX6_get := goodIn_ca (goodIn_r _ [6, 7, 8, 9, 21, 22, 23] (by decide +kernel) (by decide +kernel)) (goodIn_sub (fun _ h => List.mem_cons_of_mem _ (List.mem_append_right _ h)) (by decide +kernel))
set_option maxRecDepth 20000 in
theorem gX0_lowestWhoStands_X6_get : GoodIn wsX0_lowestWhoStands (wsV RX0 74 RX6 yX6_get wsX6_get) := goodIn_app (goodIn_of _ (by decide +kernel)) ggX0_lowestWhoStands_X6_get
theorem dX0_lowestWhoStands_0 : decode cX0_lowestWhoStands 0 = .ok (.iconst 0, 1) := by decide +kernel
theorem dX0_lowestWhoStands_1 : decode cX0_lowestWhoStands 1 = .ok (.istore_n 2, 1) := by decide +kernel
theorem dX0_lowestWhoStands_2 : decode cX0_lowestWhoStands 2 = .ok (.iload_n 2, 1) := by decide +kernel
theorem dX0_lowestWhoStands_3 : decode cX0_lowestWhoStands 3 = .ok (.bipush 11, 2) := by decide +kernel
theorem dX0_lowestWhoStands_5 : decode cX0_lowestWhoStands 5 = .ok (.if_icmp .ge 24, 3) := by decide +kernel
theorem dX0_lowestWhoStands_8 : decode cX0_lowestWhoStands 8 = .ok (.aload_n 0, 1) := by decide +kernel
theorem dX0_lowestWhoStands_9 : decode cX0_lowestWhoStands 9 = .ok (.getfield 20, 3) := by decide +kernel
theorem dX0_lowestWhoStands_12 : decode cX0_lowestWhoStands 12 = .ok (.iload_n 2, 1) := by decide +kernel
theorem dX0_lowestWhoStands_13 : decode cX0_lowestWhoStands 13 = .ok (.iconst 4, 1) := by decide +kernel
theorem dX0_lowestWhoStands_14 : decode cX0_lowestWhoStands 14 = .ok (.invokevirtual 74, 3) := by decide +kernel
theorem dX0_lowestWhoStands_17 : decode cX0_lowestWhoStands 17 = .ok (.iload_n 1, 1) := by decide +kernel
theorem dX0_lowestWhoStands_18 : decode cX0_lowestWhoStands 18 = .ok (.if_icmp .ne 5, 3) := by decide +kernel
theorem dX0_lowestWhoStands_21 : decode cX0_lowestWhoStands 21 = .ok (.iload_n 2, 1) := by decide +kernel
theorem dX0_lowestWhoStands_22 : decode cX0_lowestWhoStands 22 = .ok (.ireturn, 1) := by decide +kernel
theorem dX0_lowestWhoStands_23 : decode cX0_lowestWhoStands 23 = .ok (.iinc 2 1, 3) := by decide +kernel
theorem dX0_lowestWhoStands_26 : decode cX0_lowestWhoStands 26 = .ok (.goto (-24), 3) := by decide +kernel
theorem dX0_lowestWhoStands_29 : decode cX0_lowestWhoStands 29 = .ok (.iconst (-1), 1) := by decide +kernel
theorem dX0_lowestWhoStands_30 : decode cX0_lowestWhoStands 30 = .ok (.ireturn, 1) := by decide +kernel
set_option maxRecDepth 20000 in
theorem ggX0_leave_X6_set : GoodIn wsX0_leave wsX6_set := goodIn_ca (goodIn_r _ [11, 12, 13, 14, 46, 47, 48] (by decide +kernel) (by decide +kernel)) (goodIn_sub (fun _ h => List.mem_cons_of_mem _ (List.mem_append_right _ h)) (by decide +kernel))
set_option maxRecDepth 20000 in
theorem gX0_leave_X6_set : GoodIn wsX0_leave (wsV RX0 63 RX6 yX6_set wsX6_set) := goodIn_app (goodIn_of _ (by decide +kernel)) ggX0_leave_X6_set
set_option maxRecDepth 20000 in
theorem ggX0_leave_X6_lastRow : GoodIn wsX0_leave wsX6_lastRow := goodIn_r _ [18, 13, 46, 47, 48] (by decide +kernel) (by decide +kernel)
set_option maxRecDepth 20000 in
theorem gX0_leave_X6_lastRow : GoodIn wsX0_leave (wsV RX0 183 RX6 yX6_lastRow wsX6_lastRow) := goodIn_app (goodIn_of _ (by decide +kernel)) ggX0_leave_X6_lastRow
set_option maxRecDepth 20000 in
theorem ggX0_leave_X0_beginPartnership : GoodIn wsX0_leave wsX0_beginPartnership := goodIn_ca (goodIn_r _ [23, 2, 4, 5, 24, 25, 26, 27, 28, 29, 30, 31, 32, 33, 10, 34, 13, 12, 14, 15, 16, 17, 18, 7, 8, 9, 11, 35, 36, 37, 38, 39, 40, 41, 42, 43, 44, 45, 46, 47, 48] (by decide +kernel) (by decide +kernel)) (goodIn_sub (fun _ h => List.mem_cons_of_mem _ (List.mem_append_right _ h)) (by decide +kernel))
set_option maxRecDepth 20000 in
theorem gX0_leave_X0_beginPartnership : GoodIn wsX0_leave (wsV RX0 71 RX0 yX0_beginPartnership wsX0_beginPartnership) := goodIn_app (goodIn_of _ (by decide +kernel)) ggX0_leave_X0_beginPartnership
theorem dX0_leave_0 : decode cX0_leave 0 = .ok (.aload_n 0, 1) := by decide +kernel
theorem dX0_leave_1 : decode cX0_leave 1 = .ok (.getfield 20, 3) := by decide +kernel
theorem dX0_leave_4 : decode cX0_leave 4 = .ok (.iload_n 1, 1) := by decide +kernel
theorem dX0_leave_5 : decode cX0_leave 5 = .ok (.iconst 4, 1) := by decide +kernel
theorem dX0_leave_6 : decode cX0_leave 6 = .ok (.iload_n 2, 1) := by decide +kernel
theorem dX0_leave_7 : decode cX0_leave 7 = .ok (.invokevirtual 63, 3) := by decide +kernel
theorem dX0_leave_10 : decode cX0_leave 10 = .ok (.aload_n 0, 1) := by decide +kernel
theorem dX0_leave_11 : decode cX0_leave 11 = .ok (.getfield 26, 3) := by decide +kernel
theorem dX0_leave_14 : decode cX0_leave 14 = .ok (.aload_n 0, 1) := by decide +kernel
theorem dX0_leave_15 : decode cX0_leave 15 = .ok (.getfield 26, 3) := by decide +kernel
theorem dX0_leave_18 : decode cX0_leave 18 = .ok (.invokevirtual 183, 3) := by decide +kernel
theorem dX0_leave_21 : decode cX0_leave 21 = .ok (.bipush 7, 2) := by decide +kernel
theorem dX0_leave_23 : decode cX0_leave 23 = .ok (.iconst 0, 1) := by decide +kernel
theorem dX0_leave_24 : decode cX0_leave 24 = .ok (.invokevirtual 63, 3) := by decide +kernel
theorem dX0_leave_27 : decode cX0_leave 27 = .ok (.iload_n 3, 1) := by decide +kernel
theorem dX0_leave_28 : decode cX0_leave 28 = .ok (.iconst (-1), 1) := by decide +kernel
theorem dX0_leave_29 : decode cX0_leave 29 = .ok (.if_icmp .ne 9, 3) := by decide +kernel
theorem dX0_leave_32 : decode cX0_leave 32 = .ok (.aload_n 0, 1) := by decide +kernel
theorem dX0_leave_33 : decode cX0_leave 33 = .ok (.iconst 1, 1) := by decide +kernel
theorem dX0_leave_34 : decode cX0_leave 34 = .ok (.putfield 52, 3) := by decide +kernel
theorem dX0_leave_37 : decode cX0_leave 37 = .ok (.return_, 1) := by decide +kernel
theorem dX0_leave_38 : decode cX0_leave 38 = .ok (.iload_n 1, 1) := by decide +kernel
theorem dX0_leave_39 : decode cX0_leave 39 = .ok (.aload_n 0, 1) := by decide +kernel
theorem dX0_leave_40 : decode cX0_leave 40 = .ok (.getfield 43, 3) := by decide +kernel
theorem dX0_leave_43 : decode cX0_leave 43 = .ok (.if_icmp .ne 11, 3) := by decide +kernel
theorem dX0_leave_46 : decode cX0_leave 46 = .ok (.aload_n 0, 1) := by decide +kernel
theorem dX0_leave_47 : decode cX0_leave 47 = .ok (.iload_n 3, 1) := by decide +kernel
theorem dX0_leave_48 : decode cX0_leave 48 = .ok (.putfield 43, 3) := by decide +kernel
theorem dX0_leave_51 : decode cX0_leave 51 = .ok (.goto 8, 3) := by decide +kernel
theorem dX0_leave_54 : decode cX0_leave 54 = .ok (.aload_n 0, 1) := by decide +kernel
theorem dX0_leave_55 : decode cX0_leave 55 = .ok (.iload_n 3, 1) := by decide +kernel
theorem dX0_leave_56 : decode cX0_leave 56 = .ok (.putfield 46, 3) := by decide +kernel
theorem dX0_leave_59 : decode cX0_leave 59 = .ok (.aload_n 0, 1) := by decide +kernel
theorem dX0_leave_60 : decode cX0_leave 60 = .ok (.iconst (-1), 1) := by decide +kernel
theorem dX0_leave_61 : decode cX0_leave 61 = .ok (.putfield 49, 3) := by decide +kernel
theorem dX0_leave_64 : decode cX0_leave 64 = .ok (.aload_n 0, 1) := by decide +kernel
theorem dX0_leave_65 : decode cX0_leave 65 = .ok (.getfield 20, 3) := by decide +kernel
theorem dX0_leave_68 : decode cX0_leave 68 = .ok (.iload_n 3, 1) := by decide +kernel
theorem dX0_leave_69 : decode cX0_leave 69 = .ok (.iconst 4, 1) := by decide +kernel
theorem dX0_leave_70 : decode cX0_leave 70 = .ok (.iconst (-1), 1) := by decide +kernel
theorem dX0_leave_71 : decode cX0_leave 71 = .ok (.invokevirtual 63, 3) := by decide +kernel
theorem dX0_leave_74 : decode cX0_leave 74 = .ok (.aload_n 0, 1) := by decide +kernel
theorem dX0_leave_75 : decode cX0_leave 75 = .ok (.invokevirtual 71, 3) := by decide +kernel
theorem dX0_leave_78 : decode cX0_leave 78 = .ok (.return_, 1) := by decide +kernel
set_option maxRecDepth 20000 in
theorem ggX0_beginPartnership_X6_addRow : GoodIn wsX0_beginPartnership wsX6_addRow := goodIn_ca (goodIn_r _ [15, 16, 17, 18, 38, 39, 40] (by decide +kernel) (by decide +kernel)) (goodIn_sub (fun _ h => List.mem_cons_of_mem _ (List.mem_append_right _ h)) (by decide +kernel))
set_option maxRecDepth 20000 in
theorem gX0_beginPartnership_X6_addRow : GoodIn wsX0_beginPartnership (wsV RX0 186 RX6 yX6_addRow wsX6_addRow) := goodIn_app (goodIn_of _ (by decide +kernel)) ggX0_beginPartnership_X6_addRow
set_option maxRecDepth 20000 in
theorem ggX0_beginPartnership_X6_lastRow : GoodIn wsX0_beginPartnership wsX6_lastRow := goodIn_r _ [22, 16, 38, 39, 40] (by decide +kernel) (by decide +kernel)
set_option maxRecDepth 20000 in
theorem gX0_beginPartnership_X6_lastRow : GoodIn wsX0_beginPartnership (wsV RX0 183 RX6 yX6_lastRow wsX6_lastRow) := goodIn_app (goodIn_of _ (by decide +kernel)) ggX0_beginPartnership_X6_lastRow
set_option maxRecDepth 20000 in
theorem ggX0_beginPartnership_X6_set : GoodIn wsX0_beginPartnership wsX6_set := goodIn_ca (goodIn_r _ [26, 17, 16, 18, 38, 39, 40] (by decide +kernel) (by decide +kernel)) (goodIn_sub (fun _ h => List.mem_cons_of_mem _ (List.mem_append_right _ h)) (by decide +kernel))
set_option maxRecDepth 20000 in
theorem gX0_beginPartnership_X6_set : GoodIn wsX0_beginPartnership (wsV RX0 63 RX6 yX6_set wsX6_set) := goodIn_app (goodIn_of _ (by decide +kernel)) ggX0_beginPartnership_X6_set
theorem dX0_beginPartnership_0 : decode cX0_beginPartnership 0 = .ok (.aload_n 0, 1) := by decide +kernel
theorem dX0_beginPartnership_1 : decode cX0_beginPartnership 1 = .ok (.getfield 26, 3) := by decide +kernel
theorem dX0_beginPartnership_4 : decode cX0_beginPartnership 4 = .ok (.invokevirtual 186, 3) := by decide +kernel
theorem dX0_beginPartnership_7 : decode cX0_beginPartnership 7 = .ok (.aload_n 0, 1) := by decide +kernel
theorem dX0_beginPartnership_8 : decode cX0_beginPartnership 8 = .ok (.getfield 26, 3) := by decide +kernel
theorem dX0_beginPartnership_11 : decode cX0_beginPartnership 11 = .ok (.invokevirtual 183, 3) := by decide +kernel
theorem dX0_beginPartnership_14 : decode cX0_beginPartnership 14 = .ok (.istore_n 1, 1) := by decide +kernel
theorem dX0_beginPartnership_15 : decode cX0_beginPartnership 15 = .ok (.aload_n 0, 1) := by decide +kernel
theorem dX0_beginPartnership_16 : decode cX0_beginPartnership 16 = .ok (.getfield 26, 3) := by decide +kernel
theorem dX0_beginPartnership_19 : decode cX0_beginPartnership 19 = .ok (.iload_n 1, 1) := by decide +kernel
theorem dX0_beginPartnership_20 : decode cX0_beginPartnership 20 = .ok (.iconst 2, 1) := by decide +kernel
theorem dX0_beginPartnership_21 : decode cX0_beginPartnership 21 = .ok (.aload_n 0, 1) := by decide +kernel
theorem dX0_beginPartnership_22 : decode cX0_beginPartnership 22 = .ok (.getfield 43, 3) := by decide +kernel
theorem dX0_beginPartnership_25 : decode cX0_beginPartnership 25 = .ok (.aload_n 0, 1) := by decide +kernel
theorem dX0_beginPartnership_26 : decode cX0_beginPartnership 26 = .ok (.getfield 46, 3) := by decide +kernel
theorem dX0_beginPartnership_29 : decode cX0_beginPartnership 29 = .ok (.invokestatic 195, 3) := by decide +kernel
theorem dX0_beginPartnership_32 : decode cX0_beginPartnership 32 = .ok (.invokevirtual 63, 3) := by decide +kernel
theorem dX0_beginPartnership_35 : decode cX0_beginPartnership 35 = .ok (.aload_n 0, 1) := by decide +kernel
theorem dX0_beginPartnership_36 : decode cX0_beginPartnership 36 = .ok (.getfield 26, 3) := by decide +kernel
theorem dX0_beginPartnership_39 : decode cX0_beginPartnership 39 = .ok (.iload_n 1, 1) := by decide +kernel
theorem dX0_beginPartnership_40 : decode cX0_beginPartnership 40 = .ok (.iconst 3, 1) := by decide +kernel
theorem dX0_beginPartnership_41 : decode cX0_beginPartnership 41 = .ok (.aload_n 0, 1) := by decide +kernel
theorem dX0_beginPartnership_42 : decode cX0_beginPartnership 42 = .ok (.getfield 43, 3) := by decide +kernel
theorem dX0_beginPartnership_45 : decode cX0_beginPartnership 45 = .ok (.aload_n 0, 1) := by decide +kernel
theorem dX0_beginPartnership_46 : decode cX0_beginPartnership 46 = .ok (.getfield 46, 3) := by decide +kernel
theorem dX0_beginPartnership_49 : decode cX0_beginPartnership 49 = .ok (.invokestatic 200, 3) := by decide +kernel
theorem dX0_beginPartnership_52 : decode cX0_beginPartnership 52 = .ok (.invokevirtual 63, 3) := by decide +kernel
theorem dX0_beginPartnership_55 : decode cX0_beginPartnership 55 = .ok (.aload_n 0, 1) := by decide +kernel
theorem dX0_beginPartnership_56 : decode cX0_beginPartnership 56 = .ok (.getfield 26, 3) := by decide +kernel
theorem dX0_beginPartnership_59 : decode cX0_beginPartnership 59 = .ok (.iload_n 1, 1) := by decide +kernel
theorem dX0_beginPartnership_60 : decode cX0_beginPartnership 60 = .ok (.bipush 7, 2) := by decide +kernel
theorem dX0_beginPartnership_62 : decode cX0_beginPartnership 62 = .ok (.iconst 1, 1) := by decide +kernel
theorem dX0_beginPartnership_63 : decode cX0_beginPartnership 63 = .ok (.invokevirtual 63, 3) := by decide +kernel
theorem dX0_beginPartnership_66 : decode cX0_beginPartnership 66 = .ok (.return_, 1) := by decide +kernel
theorem dX0_ending_0 : decode cX0_ending 0 = .ok (.aload_n 0, 1) := by decide +kernel
theorem dX0_ending_1 : decode cX0_ending 1 = .ok (.getfield 52, 3) := by decide +kernel
theorem dX0_ending_4 : decode cX0_ending 4 = .ok (.ifCond .eq 5, 3) := by decide +kernel
theorem dX0_ending_7 : decode cX0_ending 7 = .ok (.iconst 2, 1) := by decide +kernel
theorem dX0_ending_8 : decode cX0_ending 8 = .ok (.ireturn, 1) := by decide +kernel
theorem dX0_ending_9 : decode cX0_ending 9 = .ok (.aload_n 0, 1) := by decide +kernel
theorem dX0_ending_10 : decode cX0_ending 10 = .ok (.getfield 35, 3) := by decide +kernel
theorem dX0_ending_13 : decode cX0_ending 13 = .ok (.getfield 203, 3) := by decide +kernel
theorem dX0_ending_16 : decode cX0_ending 16 = .ok (.aload_n 0, 1) := by decide +kernel
theorem dX0_ending_17 : decode cX0_ending 17 = .ok (.getfield 35, 3) := by decide +kernel
theorem dX0_ending_20 : decode cX0_ending 20 = .ok (.getfield 78, 3) := by decide +kernel
theorem dX0_ending_23 : decode cX0_ending 23 = .ok (.if_icmp .lt 7, 3) := by decide +kernel
theorem dX0_ending_26 : decode cX0_ending 26 = .ok (.iconst 1, 1) := by decide +kernel
theorem dX0_ending_27 : decode cX0_ending 27 = .ok (.goto 4, 3) := by decide +kernel
theorem dX0_ending_30 : decode cX0_ending 30 = .ok (.iconst 0, 1) := by decide +kernel
theorem dX0_ending_31 : decode cX0_ending 31 = .ok (.ireturn, 1) := by decide +kernel
set_option maxRecDepth 20000 in
theorem ggX0_finish_X6_set : GoodIn wsX0_finish wsX6_set := goodIn_ca (goodIn_r _ [7, 8, 9, 10, 22, 23, 24] (by decide +kernel) (by decide +kernel)) (goodIn_sub (fun _ h => List.mem_cons_of_mem _ (List.mem_append_right _ h)) (by decide +kernel))
set_option maxRecDepth 20000 in
theorem gX0_finish_X6_set : GoodIn wsX0_finish (wsV RX0 63 RX6 yX6_set wsX6_set) := goodIn_app (goodIn_of _ (by decide +kernel)) ggX0_finish_X6_set
theorem dX0_finish_0 : decode cX0_finish 0 = .ok (.aload_n 0, 1) := by decide +kernel
theorem dX0_finish_1 : decode cX0_finish 1 = .ok (.getfield 16, 3) := by decide +kernel
theorem dX0_finish_4 : decode cX0_finish 4 = .ok (.iconst 0, 1) := by decide +kernel
theorem dX0_finish_5 : decode cX0_finish 5 = .ok (.bipush 7, 2) := by decide +kernel
theorem dX0_finish_7 : decode cX0_finish 7 = .ok (.iload_n 1, 1) := by decide +kernel
theorem dX0_finish_8 : decode cX0_finish 8 = .ok (.invokevirtual 63, 3) := by decide +kernel
theorem dX0_finish_11 : decode cX0_finish 11 = .ok (.aload_n 0, 1) := by decide +kernel
theorem dX0_finish_12 : decode cX0_finish 12 = .ok (.iconst (-1), 1) := by decide +kernel
theorem dX0_finish_13 : decode cX0_finish 13 = .ok (.putfield 49, 3) := by decide +kernel
theorem dX0_finish_16 : decode cX0_finish 16 = .ok (.return_, 1) := by decide +kernel
set_option maxRecDepth 20000 in
theorem ggX0_isLike_X6_isLike : GoodIn wsX0_isLike wsX6_isLike := goodIn_ca (goodIn_r _ [16, 17, 18, 19, 20, 21, 15, 22, 23, 53, 54, 55] (by decide +kernel) (by decide +kernel)) (goodIn_sub (fun _ h => List.mem_cons_of_mem _ (List.mem_append_right _ h)) (by decide +kernel))
set_option maxRecDepth 20000 in
theorem gX0_isLike_X6_isLike : GoodIn wsX0_isLike (wsV RX0 206 RX6 yX6_isLike wsX6_isLike) := goodIn_app (goodIn_of _ (by decide +kernel)) ggX0_isLike_X6_isLike
set_option maxRecDepth 20000 in
theorem ggX0_isLike_X3_isLike : GoodIn wsX0_isLike wsX3_isLike := goodIn_ca (goodIn_r _ [28, 29, 30, 31, 32, 33, 34, 35, 36, 37, 38, 39, 27, 40, 41, 56, 57, 58, 59, 60, 61, 62, 63, 64] (by decide +kernel) (by decide +kernel)) (goodIn_sub (fun _ h => List.mem_cons_of_mem _ (List.mem_append_right _ h)) (by decide +kernel))
set_option maxRecDepth 20000 in
theorem gX0_isLike_X3_isLike : GoodIn wsX0_isLike (wsV RX0 210 RX3 yX3_isLike wsX3_isLike) := goodIn_app (goodIn_of _ (by decide +kernel)) ggX0_isLike_X3_isLike
theorem dX0_isLike_0 : decode cX0_isLike 0 = .ok (.aload_n 0, 1) := by decide +kernel
theorem dX0_isLike_1 : decode cX0_isLike 1 = .ok (.getfield 16, 3) := by decide +kernel
theorem dX0_isLike_4 : decode cX0_isLike 4 = .ok (.aload_n 1, 1) := by decide +kernel
theorem dX0_isLike_5 : decode cX0_isLike 5 = .ok (.getfield 16, 3) := by decide +kernel
theorem dX0_isLike_8 : decode cX0_isLike 8 = .ok (.invokevirtual 206, 3) := by decide +kernel
theorem dX0_isLike_11 : decode cX0_isLike 11 = .ok (.ifCond .eq 132, 3) := by decide +kernel
theorem dX0_isLike_14 : decode cX0_isLike 14 = .ok (.aload_n 0, 1) := by decide +kernel
theorem dX0_isLike_15 : decode cX0_isLike 15 = .ok (.getfield 20, 3) := by decide +kernel
theorem dX0_isLike_18 : decode cX0_isLike 18 = .ok (.aload_n 1, 1) := by decide +kernel
theorem dX0_isLike_19 : decode cX0_isLike 19 = .ok (.getfield 20, 3) := by decide +kernel
theorem dX0_isLike_22 : decode cX0_isLike 22 = .ok (.invokevirtual 206, 3) := by decide +kernel
theorem dX0_isLike_25 : decode cX0_isLike 25 = .ok (.ifCond .eq 118, 3) := by decide +kernel
theorem dX0_isLike_28 : decode cX0_isLike 28 = .ok (.aload_n 0, 1) := by decide +kernel
theorem dX0_isLike_29 : decode cX0_isLike 29 = .ok (.getfield 23, 3) := by decide +kernel
theorem dX0_isLike_32 : decode cX0_isLike 32 = .ok (.aload_n 1, 1) := by decide +kernel
theorem dX0_isLike_33 : decode cX0_isLike 33 = .ok (.getfield 23, 3) := by decide +kernel
theorem dX0_isLike_36 : decode cX0_isLike 36 = .ok (.invokevirtual 206, 3) := by decide +kernel
theorem dX0_isLike_39 : decode cX0_isLike 39 = .ok (.ifCond .eq 104, 3) := by decide +kernel
theorem dX0_isLike_42 : decode cX0_isLike 42 = .ok (.aload_n 0, 1) := by decide +kernel
theorem dX0_isLike_43 : decode cX0_isLike 43 = .ok (.getfield 26, 3) := by decide +kernel
theorem dX0_isLike_46 : decode cX0_isLike 46 = .ok (.aload_n 1, 1) := by decide +kernel
theorem dX0_isLike_47 : decode cX0_isLike 47 = .ok (.getfield 26, 3) := by decide +kernel
theorem dX0_isLike_50 : decode cX0_isLike 50 = .ok (.invokevirtual 206, 3) := by decide +kernel
theorem dX0_isLike_53 : decode cX0_isLike 53 = .ok (.ifCond .eq 90, 3) := by decide +kernel
theorem dX0_isLike_56 : decode cX0_isLike 56 = .ok (.aload_n 0, 1) := by decide +kernel
theorem dX0_isLike_57 : decode cX0_isLike 57 = .ok (.getfield 29, 3) := by decide +kernel
theorem dX0_isLike_60 : decode cX0_isLike 60 = .ok (.aload_n 1, 1) := by decide +kernel
theorem dX0_isLike_61 : decode cX0_isLike 61 = .ok (.getfield 29, 3) := by decide +kernel
theorem dX0_isLike_64 : decode cX0_isLike 64 = .ok (.invokevirtual 206, 3) := by decide +kernel
theorem dX0_isLike_67 : decode cX0_isLike 67 = .ok (.ifCond .eq 76, 3) := by decide +kernel
theorem dX0_isLike_70 : decode cX0_isLike 70 = .ok (.aload_n 0, 1) := by decide +kernel
theorem dX0_isLike_71 : decode cX0_isLike 71 = .ok (.getfield 35, 3) := by decide +kernel
theorem dX0_isLike_74 : decode cX0_isLike 74 = .ok (.aload_n 1, 1) := by decide +kernel
theorem dX0_isLike_75 : decode cX0_isLike 75 = .ok (.getfield 35, 3) := by decide +kernel
theorem dX0_isLike_78 : decode cX0_isLike 78 = .ok (.invokevirtual 210, 3) := by decide +kernel
theorem dX0_isLike_81 : decode cX0_isLike 81 = .ok (.ifCond .eq 62, 3) := by decide +kernel
theorem dX0_isLike_84 : decode cX0_isLike 84 = .ok (.aload_n 0, 1) := by decide +kernel
theorem dX0_isLike_85 : decode cX0_isLike 85 = .ok (.getfield 39, 3) := by decide +kernel
theorem dX0_isLike_88 : decode cX0_isLike 88 = .ok (.aload_n 1, 1) := by decide +kernel
theorem dX0_isLike_89 : decode cX0_isLike 89 = .ok (.getfield 39, 3) := by decide +kernel
theorem dX0_isLike_92 : decode cX0_isLike 92 = .ok (.if_icmp .ne 51, 3) := by decide +kernel
theorem dX0_isLike_95 : decode cX0_isLike 95 = .ok (.aload_n 0, 1) := by decide +kernel
theorem dX0_isLike_96 : decode cX0_isLike 96 = .ok (.getfield 43, 3) := by decide +kernel
theorem dX0_isLike_99 : decode cX0_isLike 99 = .ok (.aload_n 1, 1) := by decide +kernel
theorem dX0_isLike_100 : decode cX0_isLike 100 = .ok (.getfield 43, 3) := by decide +kernel
theorem dX0_isLike_103 : decode cX0_isLike 103 = .ok (.if_icmp .ne 40, 3) := by decide +kernel
theorem dX0_isLike_106 : decode cX0_isLike 106 = .ok (.aload_n 0, 1) := by decide +kernel
theorem dX0_isLike_107 : decode cX0_isLike 107 = .ok (.getfield 46, 3) := by decide +kernel
theorem dX0_isLike_110 : decode cX0_isLike 110 = .ok (.aload_n 1, 1) := by decide +kernel
theorem dX0_isLike_111 : decode cX0_isLike 111 = .ok (.getfield 46, 3) := by decide +kernel
theorem dX0_isLike_114 : decode cX0_isLike 114 = .ok (.if_icmp .ne 29, 3) := by decide +kernel
theorem dX0_isLike_117 : decode cX0_isLike 117 = .ok (.aload_n 0, 1) := by decide +kernel
theorem dX0_isLike_118 : decode cX0_isLike 118 = .ok (.getfield 49, 3) := by decide +kernel
theorem dX0_isLike_121 : decode cX0_isLike 121 = .ok (.aload_n 1, 1) := by decide +kernel
theorem dX0_isLike_122 : decode cX0_isLike 122 = .ok (.getfield 49, 3) := by decide +kernel
theorem dX0_isLike_125 : decode cX0_isLike 125 = .ok (.if_icmp .ne 18, 3) := by decide +kernel
theorem dX0_isLike_128 : decode cX0_isLike 128 = .ok (.aload_n 0, 1) := by decide +kernel
theorem dX0_isLike_129 : decode cX0_isLike 129 = .ok (.getfield 52, 3) := by decide +kernel
theorem dX0_isLike_132 : decode cX0_isLike 132 = .ok (.aload_n 1, 1) := by decide +kernel
theorem dX0_isLike_133 : decode cX0_isLike 133 = .ok (.getfield 52, 3) := by decide +kernel
theorem dX0_isLike_136 : decode cX0_isLike 136 = .ok (.if_icmp .ne 7, 3) := by decide +kernel
theorem dX0_isLike_139 : decode cX0_isLike 139 = .ok (.iconst 1, 1) := by decide +kernel
theorem dX0_isLike_140 : decode cX0_isLike 140 = .ok (.goto 4, 3) := by decide +kernel
theorem dX0_isLike_143 : decode cX0_isLike 143 = .ok (.iconst 0, 1) := by decide +kernel
theorem dX0_isLike_144 : decode cX0_isLike 144 = .ok (.ireturn, 1) := by decide +kernel
set_option maxRecDepth 20000 in
theorem ggX1_init_X5_init : GoodIn wsX1_init wsX5_init := goodIn_r _ [19, 20, 2, 3, 21, 22, 23, 24, 25, 26, 27, 28, 29, 30] (by decide +kernel) (by decide +kernel)
set_option maxRecDepth 20000 in
theorem gX1_init_X5_init : GoodIn wsX1_init (wsX5_init) := ggX1_init_X5_init
theorem dX1_init_0 : decode cX1_init 0 = .ok (.aload_n 0, 1) := by decide +kernel
theorem dX1_init_1 : decode cX1_init 1 = .ok (.invokespecial 3, 3) := by decide +kernel
theorem dX1_init_4 : decode cX1_init 4 = .ok (.aload_n 0, 1) := by decide +kernel
theorem dX1_init_5 : decode cX1_init 5 = .ok (.new 9, 3) := by decide +kernel
theorem dX1_init_8 : decode cX1_init 8 = .ok (.dup, 1) := by decide +kernel
theorem dX1_init_9 : decode cX1_init 9 = .ok (.iconst 0, 1) := by decide +kernel
theorem dX1_init_10 : decode cX1_init 10 = .ok (.invokespecial 11, 3) := by decide +kernel
theorem dX1_init_13 : decode cX1_init 13 = .ok (.putfield 14, 3) := by decide +kernel
theorem dX1_init_16 : decode cX1_init 16 = .ok (.aload_n 0, 1) := by decide +kernel
theorem dX1_init_17 : decode cX1_init 17 = .ok (.sipush 512, 3) := by decide +kernel
theorem dX1_init_20 : decode cX1_init 20 = .ok (.anewarray 9, 3) := by decide +kernel
theorem dX1_init_23 : decode cX1_init 23 = .ok (.putfield 20, 3) := by decide +kernel
theorem dX1_init_26 : decode cX1_init 26 = .ok (.aload_n 0, 1) := by decide +kernel
theorem dX1_init_27 : decode cX1_init 27 = .ok (.sipush 512, 3) := by decide +kernel
theorem dX1_init_30 : decode cX1_init 30 = .ok (.newarray .int, 2) := by decide +kernel
theorem dX1_init_32 : decode cX1_init 32 = .ok (.putfield 24, 3) := by decide +kernel
theorem dX1_init_35 : decode cX1_init 35 = .ok (.aload_n 0, 1) := by decide +kernel
theorem dX1_init_36 : decode cX1_init 36 = .ok (.iconst 0, 1) := by decide +kernel
theorem dX1_init_37 : decode cX1_init 37 = .ok (.putfield 28, 3) := by decide +kernel
theorem dX1_init_40 : decode cX1_init 40 = .ok (.aload_n 0, 1) := by decide +kernel
theorem dX1_init_41 : decode cX1_init 41 = .ok (.iconst 0, 1) := by decide +kernel
theorem dX1_init_42 : decode cX1_init 42 = .ok (.putfield 32, 3) := by decide +kernel
theorem dX1_init_45 : decode cX1_init 45 = .ok (.aload_n 0, 1) := by decide +kernel
theorem dX1_init_46 : decode cX1_init 46 = .ok (.iconst 0, 1) := by decide +kernel
theorem dX1_init_47 : decode cX1_init 47 = .ok (.putfield 35, 3) := by decide +kernel
theorem dX1_init_50 : decode cX1_init 50 = .ok (.aload_n 0, 1) := by decide +kernel
theorem dX1_init_51 : decode cX1_init 51 = .ok (.iconst 0, 1) := by decide +kernel
theorem dX1_init_52 : decode cX1_init 52 = .ok (.putfield 38, 3) := by decide +kernel
theorem dX1_init_55 : decode cX1_init 55 = .ok (.aload_n 0, 1) := by decide +kernel
theorem dX1_init_56 : decode cX1_init 56 = .ok (.iconst 0, 1) := by decide +kernel
theorem dX1_init_57 : decode cX1_init 57 = .ok (.putfield 41, 3) := by decide +kernel
theorem dX1_init_60 : decode cX1_init 60 = .ok (.aload_n 0, 1) := by decide +kernel
theorem dX1_init_61 : decode cX1_init 61 = .ok (.iconst 0, 1) := by decide +kernel
theorem dX1_init_62 : decode cX1_init 62 = .ok (.putfield 44, 3) := by decide +kernel
theorem dX1_init_65 : decode cX1_init 65 = .ok (.iconst 0, 1) := by decide +kernel
theorem dX1_init_66 : decode cX1_init 66 = .ok (.istore_n 1, 1) := by decide +kernel
theorem dX1_init_67 : decode cX1_init 67 = .ok (.iload_n 1, 1) := by decide +kernel
theorem dX1_init_68 : decode cX1_init 68 = .ok (.aload_n 0, 1) := by decide +kernel
theorem dX1_init_69 : decode cX1_init 69 = .ok (.getfield 20, 3) := by decide +kernel
theorem dX1_init_72 : decode cX1_init 72 = .ok (.arraylength, 1) := by decide +kernel
theorem dX1_init_73 : decode cX1_init 73 = .ok (.if_icmp .ge 19, 3) := by decide +kernel
theorem dX1_init_76 : decode cX1_init 76 = .ok (.aload_n 0, 1) := by decide +kernel
theorem dX1_init_77 : decode cX1_init 77 = .ok (.getfield 20, 3) := by decide +kernel
theorem dX1_init_80 : decode cX1_init 80 = .ok (.iload_n 1, 1) := by decide +kernel
theorem dX1_init_81 : decode cX1_init 81 = .ok (.aload_n 0, 1) := by decide +kernel
theorem dX1_init_82 : decode cX1_init 82 = .ok (.getfield 14, 3) := by decide +kernel
theorem dX1_init_85 : decode cX1_init 85 = .ok (.aastore, 1) := by decide +kernel
theorem dX1_init_86 : decode cX1_init 86 = .ok (.iinc 1 1, 3) := by decide +kernel
theorem dX1_init_89 : decode cX1_init 89 = .ok (.goto (-22), 3) := by decide +kernel
theorem dX1_init_92 : decode cX1_init 92 = .ok (.return_, 1) := by decide +kernel
theorem dX1_start_0 : decode cX1_start 0 = .ok (.aload_n 0, 1) := by decide +kernel
theorem dX1_start_1 : decode cX1_start 1 = .ok (.iload_n 1, 1) := by decide +kernel
theorem dX1_start_2 : decode cX1_start 2 = .ok (.putfield 28, 3) := by decide +kernel
theorem dX1_start_5 : decode cX1_start 5 = .ok (.aload_n 0, 1) := by decide +kernel
theorem dX1_start_6 : decode cX1_start 6 = .ok (.iload_n 2, 1) := by decide +kernel
theorem dX1_start_7 : decode cX1_start 7 = .ok (.putfield 32, 3) := by decide +kernel
theorem dX1_start_10 : decode cX1_start 10 = .ok (.aload_n 0, 1) := by decide +kernel
theorem dX1_start_11 : decode cX1_start 11 = .ok (.iload_n 3, 1) := by decide +kernel
theorem dX1_start_12 : decode cX1_start 12 = .ok (.putfield 35, 3) := by decide +kernel
theorem dX1_start_15 : decode cX1_start 15 = .ok (.aload_n 0, 1) := by decide +kernel
theorem dX1_start_16 : decode cX1_start 16 = .ok (.iconst 0, 1) := by decide +kernel
theorem dX1_start_17 : decode cX1_start 17 = .ok (.putfield 38, 3) := by decide +kernel
theorem dX1_start_20 : decode cX1_start 20 = .ok (.aload_n 0, 1) := by decide +kernel
theorem dX1_start_21 : decode cX1_start 21 = .ok (.iconst 0, 1) := by decide +kernel
theorem dX1_start_22 : decode cX1_start 22 = .ok (.putfield 41, 3) := by decide +kernel
theorem dX1_start_25 : decode cX1_start 25 = .ok (.aload_n 0, 1) := by decide +kernel
theorem dX1_start_26 : decode cX1_start 26 = .ok (.iconst 0, 1) := by decide +kernel
theorem dX1_start_27 : decode cX1_start 27 = .ok (.putfield 44, 3) := by decide +kernel
theorem dX1_start_30 : decode cX1_start 30 = .ok (.return_, 1) := by decide +kernel
theorem dX1_hasMatch_0 : decode cX1_hasMatch 0 = .ok (.aload_n 0, 1) := by decide +kernel
theorem dX1_hasMatch_1 : decode cX1_hasMatch 1 = .ok (.getfield 32, 3) := by decide +kernel
theorem dX1_hasMatch_4 : decode cX1_hasMatch 4 = .ok (.ifCond .le 7, 3) := by decide +kernel
theorem dX1_hasMatch_7 : decode cX1_hasMatch 7 = .ok (.iconst 1, 1) := by decide +kernel
theorem dX1_hasMatch_8 : decode cX1_hasMatch 8 = .ok (.goto 4, 3) := by decide +kernel
theorem dX1_hasMatch_11 : decode cX1_hasMatch 11 = .ok (.iconst 0, 1) := by decide +kernel
theorem dX1_hasMatch_12 : decode cX1_hasMatch 12 = .ok (.ireturn, 1) := by decide +kernel
theorem dX1_hasRoom_0 : decode cX1_hasRoom 0 = .ok (.aload_n 0, 1) := by decide +kernel
theorem dX1_hasRoom_1 : decode cX1_hasRoom 1 = .ok (.getfield 38, 3) := by decide +kernel
theorem dX1_hasRoom_4 : decode cX1_hasRoom 4 = .ok (.iload_n 1, 1) := by decide +kernel
theorem dX1_hasRoom_5 : decode cX1_hasRoom 5 = .ok (.iadd, 1) := by decide +kernel
theorem dX1_hasRoom_6 : decode cX1_hasRoom 6 = .ok (.aload_n 0, 1) := by decide +kernel
theorem dX1_hasRoom_7 : decode cX1_hasRoom 7 = .ok (.getfield 20, 3) := by decide +kernel
theorem dX1_hasRoom_10 : decode cX1_hasRoom 10 = .ok (.arraylength, 1) := by decide +kernel
theorem dX1_hasRoom_11 : decode cX1_hasRoom 11 = .ok (.if_icmp .gt 19, 3) := by decide +kernel
theorem dX1_hasRoom_14 : decode cX1_hasRoom 14 = .ok (.aload_n 0, 1) := by decide +kernel
theorem dX1_hasRoom_15 : decode cX1_hasRoom 15 = .ok (.getfield 41, 3) := by decide +kernel
theorem dX1_hasRoom_18 : decode cX1_hasRoom 18 = .ok (.aload_n 0, 1) := by decide +kernel
theorem dX1_hasRoom_19 : decode cX1_hasRoom 19 = .ok (.getfield 24, 3) := by decide +kernel
theorem dX1_hasRoom_22 : decode cX1_hasRoom 22 = .ok (.arraylength, 1) := by decide +kernel
theorem dX1_hasRoom_23 : decode cX1_hasRoom 23 = .ok (.if_icmp .ge 7, 3) := by decide +kernel
theorem dX1_hasRoom_26 : decode cX1_hasRoom 26 = .ok (.iconst 1, 1) := by decide +kernel
theorem dX1_hasRoom_27 : decode cX1_hasRoom 27 = .ok (.goto 4, 3) := by decide +kernel
theorem dX1_hasRoom_30 : decode cX1_hasRoom 30 = .ok (.iconst 0, 1) := by decide +kernel
theorem dX1_hasRoom_31 : decode cX1_hasRoom 31 = .ok (.ireturn, 1) := by decide +kernel
theorem dX1_step_0 : decode cX1_step 0 = .ok (.iload_n 1, 1) := by decide +kernel
theorem dX1_step_1 : decode cX1_step 1 = .ok (.ifCond .lt 29, 3) := by decide +kernel
theorem dX1_step_4 : decode cX1_step 4 = .ok (.iload_n 1, 1) := by decide +kernel
theorem dX1_step_5 : decode cX1_step 5 = .ok (.aload_n 0, 1) := by decide +kernel
theorem dX1_step_6 : decode cX1_step 6 = .ok (.getfield 38, 3) := by decide +kernel
theorem dX1_step_9 : decode cX1_step 9 = .ok (.if_icmp .ge 21, 3) := by decide +kernel
theorem dX1_step_12 : decode cX1_step 12 = .ok (.iload_n 1, 1) := by decide +kernel
theorem dX1_step_13 : decode cX1_step 13 = .ok (.aload_n 0, 1) := by decide +kernel
theorem dX1_step_14 : decode cX1_step 14 = .ok (.getfield 20, 3) := by decide +kernel
theorem dX1_step_17 : decode cX1_step 17 = .ok (.arraylength, 1) := by decide +kernel
theorem dX1_step_18 : decode cX1_step 18 = .ok (.if_icmp .ge 12, 3) := by decide +kernel
theorem dX1_step_21 : decode cX1_step 21 = .ok (.aload_n 0, 1) := by decide +kernel
theorem dX1_step_22 : decode cX1_step 22 = .ok (.getfield 20, 3) := by decide +kernel
theorem dX1_step_25 : decode cX1_step 25 = .ok (.iload_n 1, 1) := by decide +kernel
theorem dX1_step_26 : decode cX1_step 26 = .ok (.aaload, 1) := by decide +kernel
theorem dX1_step_27 : decode cX1_step 27 = .ok (.goto 7, 3) := by decide +kernel
theorem dX1_step_30 : decode cX1_step 30 = .ok (.aload_n 0, 1) := by decide +kernel
theorem dX1_step_31 : decode cX1_step 31 = .ok (.getfield 14, 3) := by decide +kernel
theorem dX1_step_34 : decode cX1_step 34 = .ok (.areturn, 1) := by decide +kernel
theorem dX1_add_0 : decode cX1_add 0 = .ok (.aload_n 0, 1) := by decide +kernel
theorem dX1_add_1 : decode cX1_add 1 = .ok (.getfield 38, 3) := by decide +kernel
theorem dX1_add_4 : decode cX1_add 4 = .ok (.ifCond .lt 35, 3) := by decide +kernel
theorem dX1_add_7 : decode cX1_add 7 = .ok (.aload_n 0, 1) := by decide +kernel
theorem dX1_add_8 : decode cX1_add 8 = .ok (.getfield 38, 3) := by decide +kernel
theorem dX1_add_11 : decode cX1_add 11 = .ok (.aload_n 0, 1) := by decide +kernel
theorem dX1_add_12 : decode cX1_add 12 = .ok (.getfield 20, 3) := by decide +kernel
theorem dX1_add_15 : decode cX1_add 15 = .ok (.arraylength, 1) := by decide +kernel
theorem dX1_add_16 : decode cX1_add 16 = .ok (.if_icmp .ge 23, 3) := by decide +kernel
theorem dX1_add_19 : decode cX1_add 19 = .ok (.aload_n 0, 1) := by decide +kernel
theorem dX1_add_20 : decode cX1_add 20 = .ok (.getfield 20, 3) := by decide +kernel
theorem dX1_add_23 : decode cX1_add 23 = .ok (.aload_n 0, 1) := by decide +kernel
theorem dX1_add_24 : decode cX1_add 24 = .ok (.getfield 38, 3) := by decide +kernel
theorem dX1_add_27 : decode cX1_add 27 = .ok (.aload_n 1, 1) := by decide +kernel
theorem dX1_add_28 : decode cX1_add 28 = .ok (.aastore, 1) := by decide +kernel
theorem dX1_add_29 : decode cX1_add 29 = .ok (.aload_n 0, 1) := by decide +kernel
theorem dX1_add_30 : decode cX1_add 30 = .ok (.dup, 1) := by decide +kernel
theorem dX1_add_31 : decode cX1_add 31 = .ok (.getfield 38, 3) := by decide +kernel
theorem dX1_add_34 : decode cX1_add 34 = .ok (.iconst 1, 1) := by decide +kernel
theorem dX1_add_35 : decode cX1_add 35 = .ok (.iadd, 1) := by decide +kernel
theorem dX1_add_36 : decode cX1_add 36 = .ok (.putfield 38, 3) := by decide +kernel
theorem dX1_add_39 : decode cX1_add 39 = .ok (.return_, 1) := by decide +kernel
theorem dX1_endCommand_0 : decode cX1_endCommand 0 = .ok (.aload_n 0, 1) := by decide +kernel
theorem dX1_endCommand_1 : decode cX1_endCommand 1 = .ok (.getfield 41, 3) := by decide +kernel
theorem dX1_endCommand_4 : decode cX1_endCommand 4 = .ok (.ifCond .lt 53, 3) := by decide +kernel
theorem dX1_endCommand_7 : decode cX1_endCommand 7 = .ok (.aload_n 0, 1) := by decide +kernel
theorem dX1_endCommand_8 : decode cX1_endCommand 8 = .ok (.getfield 41, 3) := by decide +kernel
theorem dX1_endCommand_11 : decode cX1_endCommand 11 = .ok (.aload_n 0, 1) := by decide +kernel
theorem dX1_endCommand_12 : decode cX1_endCommand 12 = .ok (.getfield 24, 3) := by decide +kernel
theorem dX1_endCommand_15 : decode cX1_endCommand 15 = .ok (.arraylength, 1) := by decide +kernel
theorem dX1_endCommand_16 : decode cX1_endCommand 16 = .ok (.if_icmp .ge 41, 3) := by decide +kernel
theorem dX1_endCommand_19 : decode cX1_endCommand 19 = .ok (.aload_n 0, 1) := by decide +kernel
theorem dX1_endCommand_20 : decode cX1_endCommand 20 = .ok (.getfield 24, 3) := by decide +kernel
theorem dX1_endCommand_23 : decode cX1_endCommand 23 = .ok (.aload_n 0, 1) := by decide +kernel
theorem dX1_endCommand_24 : decode cX1_endCommand 24 = .ok (.getfield 41, 3) := by decide +kernel
theorem dX1_endCommand_27 : decode cX1_endCommand 27 = .ok (.aload_n 0, 1) := by decide +kernel
theorem dX1_endCommand_28 : decode cX1_endCommand 28 = .ok (.getfield 38, 3) := by decide +kernel
theorem dX1_endCommand_31 : decode cX1_endCommand 31 = .ok (.iastore, 1) := by decide +kernel
theorem dX1_endCommand_32 : decode cX1_endCommand 32 = .ok (.aload_n 0, 1) := by decide +kernel
theorem dX1_endCommand_33 : decode cX1_endCommand 33 = .ok (.dup, 1) := by decide +kernel
theorem dX1_endCommand_34 : decode cX1_endCommand 34 = .ok (.getfield 41, 3) := by decide +kernel
theorem dX1_endCommand_37 : decode cX1_endCommand 37 = .ok (.iconst 1, 1) := by decide +kernel
theorem dX1_endCommand_38 : decode cX1_endCommand 38 = .ok (.iadd, 1) := by decide +kernel
theorem dX1_endCommand_39 : decode cX1_endCommand 39 = .ok (.putfield 41, 3) := by decide +kernel
theorem dX1_endCommand_42 : decode cX1_endCommand 42 = .ok (.aload_n 0, 1) := by decide +kernel
theorem dX1_endCommand_43 : decode cX1_endCommand 43 = .ok (.aload_n 0, 1) := by decide +kernel
theorem dX1_endCommand_44 : decode cX1_endCommand 44 = .ok (.getfield 44, 3) := by decide +kernel
theorem dX1_endCommand_47 : decode cX1_endCommand 47 = .ok (.bipush 7, 2) := by decide +kernel
theorem dX1_endCommand_49 : decode cX1_endCommand 49 = .ok (.invokestatic 47, 3) := by decide +kernel
theorem dX1_endCommand_52 : decode cX1_endCommand 52 = .ok (.iconst 1, 1) := by decide +kernel
theorem dX1_endCommand_53 : decode cX1_endCommand 53 = .ok (.iadd, 1) := by decide +kernel
theorem dX1_endCommand_54 : decode cX1_endCommand 54 = .ok (.putfield 44, 3) := by decide +kernel
theorem dX1_endCommand_57 : decode cX1_endCommand 57 = .ok (.return_, 1) := by decide +kernel
theorem dX1_dropCommand_0 : decode cX1_dropCommand 0 = .ok (.aload_n 0, 1) := by decide +kernel
theorem dX1_dropCommand_1 : decode cX1_dropCommand 1 = .ok (.dup, 1) := by decide +kernel
theorem dX1_dropCommand_2 : decode cX1_dropCommand 2 = .ok (.getfield 41, 3) := by decide +kernel
theorem dX1_dropCommand_5 : decode cX1_dropCommand 5 = .ok (.iconst 1, 1) := by decide +kernel
theorem dX1_dropCommand_6 : decode cX1_dropCommand 6 = .ok (.isub, 1) := by decide +kernel
theorem dX1_dropCommand_7 : decode cX1_dropCommand 7 = .ok (.putfield 41, 3) := by decide +kernel
theorem dX1_dropCommand_10 : decode cX1_dropCommand 10 = .ok (.aload_n 0, 1) := by decide +kernel
theorem dX1_dropCommand_11 : decode cX1_dropCommand 11 = .ok (.dup, 1) := by decide +kernel
theorem dX1_dropCommand_12 : decode cX1_dropCommand 12 = .ok (.getfield 44, 3) := by decide +kernel
theorem dX1_dropCommand_15 : decode cX1_dropCommand 15 = .ok (.iconst 1, 1) := by decide +kernel
theorem dX1_dropCommand_16 : decode cX1_dropCommand 16 = .ok (.isub, 1) := by decide +kernel
theorem dX1_dropCommand_17 : decode cX1_dropCommand 17 = .ok (.putfield 44, 3) := by decide +kernel
theorem dX1_dropCommand_20 : decode cX1_dropCommand 20 = .ok (.aload_n 0, 1) := by decide +kernel
theorem dX1_dropCommand_21 : decode cX1_dropCommand 21 = .ok (.getfield 41, 3) := by decide +kernel
theorem dX1_dropCommand_24 : decode cX1_dropCommand 24 = .ok (.iconst 1, 1) := by decide +kernel
theorem dX1_dropCommand_25 : decode cX1_dropCommand 25 = .ok (.isub, 1) := by decide +kernel
theorem dX1_dropCommand_26 : decode cX1_dropCommand 26 = .ok (.istore_n 1, 1) := by decide +kernel
theorem dX1_dropCommand_27 : decode cX1_dropCommand 27 = .ok (.aload_n 0, 1) := by decide +kernel
theorem dX1_dropCommand_28 : decode cX1_dropCommand 28 = .ok (.iload_n 1, 1) := by decide +kernel
theorem dX1_dropCommand_29 : decode cX1_dropCommand 29 = .ok (.ifCond .lt 21, 3) := by decide +kernel
theorem dX1_dropCommand_32 : decode cX1_dropCommand 32 = .ok (.iload_n 1, 1) := by decide +kernel
theorem dX1_dropCommand_33 : decode cX1_dropCommand 33 = .ok (.aload_n 0, 1) := by decide +kernel
theorem dX1_dropCommand_34 : decode cX1_dropCommand 34 = .ok (.getfield 24, 3) := by decide +kernel
theorem dX1_dropCommand_37 : decode cX1_dropCommand 37 = .ok (.arraylength, 1) := by decide +kernel
theorem dX1_dropCommand_38 : decode cX1_dropCommand 38 = .ok (.if_icmp .ge 12, 3) := by decide +kernel
theorem dX1_dropCommand_41 : decode cX1_dropCommand 41 = .ok (.aload_n 0, 1) := by decide +kernel
theorem dX1_dropCommand_42 : decode cX1_dropCommand 42 = .ok (.getfield 24, 3) := by decide +kernel
theorem dX1_dropCommand_45 : decode cX1_dropCommand 45 = .ok (.iload_n 1, 1) := by decide +kernel
theorem dX1_dropCommand_46 : decode cX1_dropCommand 46 = .ok (.iaload, 1) := by decide +kernel
theorem dX1_dropCommand_47 : decode cX1_dropCommand 47 = .ok (.goto 4, 3) := by decide +kernel
theorem dX1_dropCommand_50 : decode cX1_dropCommand 50 = .ok (.iconst 0, 1) := by decide +kernel
theorem dX1_dropCommand_51 : decode cX1_dropCommand 51 = .ok (.putfield 38, 3) := by decide +kernel
theorem dX1_dropCommand_54 : decode cX1_dropCommand 54 = .ok (.return_, 1) := by decide +kernel
set_option maxRecDepth 20000 in
theorem ggX1_copy_X1_start : GoodIn wsX1_copy wsX1_start := goodIn_r _ [15, 1, 2, 3, 4, 10, 16, 27, 28, 29, 30, 31, 32, 33, 34, 35] (by decide +kernel) (by decide +kernel)
set_option maxRecDepth 20000 in
theorem gX1_copy_X1_start : GoodIn wsX1_copy (wsV RX1 53 RX1 yX1_start wsX1_start) := goodIn_app (goodIn_of _ (by decide +kernel)) ggX1_copy_X1_start
set_option maxRecDepth 20000 in
theorem ggX1_copy_X1_step : GoodIn wsX1_copy wsX1_step := goodIn_r _ [20, 4, 21, 22, 27, 28, 29, 30, 31, 32, 33, 34, 35] (by decide +kernel) (by decide +kernel)
set_option maxRecDepth 20000 in
theorem gX1_copy_X1_step : GoodIn wsX1_copy (wsV RX1 57 RX1 yX1_step wsX1_step) := goodIn_app (goodIn_of _ (by decide +kernel)) ggX1_copy_X1_step
set_option maxRecDepth 20000 in
theorem ggX1_copy_X1_add : GoodIn wsX1_copy wsX1_add := goodIn_r _ [26, 4, 21, 27, 28, 29, 30, 31, 32, 33, 34, 35] (by decide +kernel) (by decide +kernel)
set_option maxRecDepth 20000 in
theorem gX1_copy_X1_add : GoodIn wsX1_copy (wsV RX1 61 RX1 yX1_add wsX1_add) := goodIn_app (goodIn_of _ (by decide +kernel)) ggX1_copy_X1_add
theorem dX1_copy_0 : decode cX1_copy 0 = .ok (.aload_n 0, 1) := by decide +kernel
theorem dX1_copy_1 : decode cX1_copy 1 = .ok (.aload_n 1, 1) := by decide +kernel
theorem dX1_copy_2 : decode cX1_copy 2 = .ok (.getfield 28, 3) := by decide +kernel
theorem dX1_copy_5 : decode cX1_copy 5 = .ok (.aload_n 1, 1) := by decide +kernel
theorem dX1_copy_6 : decode cX1_copy 6 = .ok (.getfield 32, 3) := by decide +kernel
theorem dX1_copy_9 : decode cX1_copy 9 = .ok (.aload_n 1, 1) := by decide +kernel
theorem dX1_copy_10 : decode cX1_copy 10 = .ok (.getfield 35, 3) := by decide +kernel
theorem dX1_copy_13 : decode cX1_copy 13 = .ok (.invokevirtual 53, 3) := by decide +kernel
theorem dX1_copy_16 : decode cX1_copy 16 = .ok (.iconst 0, 1) := by decide +kernel
theorem dX1_copy_17 : decode cX1_copy 17 = .ok (.istore_n 2, 1) := by decide +kernel
theorem dX1_copy_18 : decode cX1_copy 18 = .ok (.iload_n 2, 1) := by decide +kernel
theorem dX1_copy_19 : decode cX1_copy 19 = .ok (.aload_n 1, 1) := by decide +kernel
theorem dX1_copy_20 : decode cX1_copy 20 = .ok (.getfield 38, 3) := by decide +kernel
theorem dX1_copy_23 : decode cX1_copy 23 = .ok (.if_icmp .ge 18, 3) := by decide +kernel
theorem dX1_copy_26 : decode cX1_copy 26 = .ok (.aload_n 0, 1) := by decide +kernel
theorem dX1_copy_27 : decode cX1_copy 27 = .ok (.aload_n 1, 1) := by decide +kernel
theorem dX1_copy_28 : decode cX1_copy 28 = .ok (.iload_n 2, 1) := by decide +kernel
theorem dX1_copy_29 : decode cX1_copy 29 = .ok (.invokevirtual 57, 3) := by decide +kernel
theorem dX1_copy_32 : decode cX1_copy 32 = .ok (.invokevirtual 61, 3) := by decide +kernel
theorem dX1_copy_35 : decode cX1_copy 35 = .ok (.iinc 2 1, 3) := by decide +kernel
theorem dX1_copy_38 : decode cX1_copy 38 = .ok (.goto (-20), 3) := by decide +kernel
theorem dX1_copy_41 : decode cX1_copy 41 = .ok (.aload_n 1, 1) := by decide +kernel
theorem dX1_copy_42 : decode cX1_copy 42 = .ok (.getfield 24, 3) := by decide +kernel
theorem dX1_copy_45 : decode cX1_copy 45 = .ok (.iconst 0, 1) := by decide +kernel
theorem dX1_copy_46 : decode cX1_copy 46 = .ok (.aload_n 0, 1) := by decide +kernel
theorem dX1_copy_47 : decode cX1_copy 47 = .ok (.getfield 24, 3) := by decide +kernel
theorem dX1_copy_50 : decode cX1_copy 50 = .ok (.iconst 0, 1) := by decide +kernel
theorem dX1_copy_51 : decode cX1_copy 51 = .ok (.aload_n 0, 1) := by decide +kernel
theorem dX1_copy_52 : decode cX1_copy 52 = .ok (.getfield 24, 3) := by decide +kernel
theorem dX1_copy_55 : decode cX1_copy 55 = .ok (.arraylength, 1) := by decide +kernel
theorem dX1_copy_56 : decode cX1_copy 56 = .ok (.invokestatic 65, 3) := by decide +kernel
theorem dX1_copy_59 : decode cX1_copy 59 = .ok (.aload_n 0, 1) := by decide +kernel
theorem dX1_copy_60 : decode cX1_copy 60 = .ok (.aload_n 1, 1) := by decide +kernel
theorem dX1_copy_61 : decode cX1_copy 61 = .ok (.getfield 41, 3) := by decide +kernel
theorem dX1_copy_64 : decode cX1_copy 64 = .ok (.putfield 41, 3) := by decide +kernel
theorem dX1_copy_67 : decode cX1_copy 67 = .ok (.return_, 1) := by decide +kernel
set_option maxRecDepth 20000 in
theorem ggX2_init_X0_init : GoodIn wsX2_init wsX0_init := goodIn_r _ [14, 15, 2, 3, 16, 17, 18, 19, 20, 21, 22, 23, 24, 25, 26, 27, 28, 29, 30, 31, 32, 33, 34, 35, 36, 37, 38, 39, 40, 41, 42, 43, 44, 45, 46, 47, 48, 49, 50, 51, 52, 53, 54, 55, 56, 74, 75, 76, 63, 64, 65, 66, 67, 68, 69, 70, 71, 72, 73, 77, 78, 79, 80, 81, 82, 83, 84, 85] (by decide +kernel) (by decide +kernel)
set_option maxRecDepth 20000 in
theorem gX2_init_X0_init_n34 : GoodIn wsX2_init (wsX0_init) := ggX2_init_X0_init
theorem dX2_init_0 : decode cX2_init 0 = .ok (.aload_n 0, 1) := by decide +kernel
theorem dX2_init_1 : decode cX2_init 1 = .ok (.invokespecial 3, 3) := by decide +kernel
theorem dX2_init_4 : decode cX2_init 4 = .ok (.aload_n 0, 1) := by decide +kernel
theorem dX2_init_5 : decode cX2_init 5 = .ok (.iconst 4, 1) := by decide +kernel
theorem dX2_init_6 : decode cX2_init 6 = .ok (.anewarray 9, 3) := by decide +kernel
theorem dX2_init_9 : decode cX2_init 9 = .ok (.putfield 11, 3) := by decide +kernel
theorem dX2_init_12 : decode cX2_init 12 = .ok (.aload_n 0, 1) := by decide +kernel
theorem dX2_init_13 : decode cX2_init 13 = .ok (.iconst 0, 1) := by decide +kernel
theorem dX2_init_14 : decode cX2_init 14 = .ok (.putfield 17, 3) := by decide +kernel
theorem dX2_init_17 : decode cX2_init 17 = .ok (.aload_n 0, 1) := by decide +kernel
theorem dX2_init_18 : decode cX2_init 18 = .ok (.iconst 0, 1) := by decide +kernel
theorem dX2_init_19 : decode cX2_init 19 = .ok (.putfield 21, 3) := by decide +kernel
theorem dX2_init_22 : decode cX2_init 22 = .ok (.aload_n 0, 1) := by decide +kernel
theorem dX2_init_23 : decode cX2_init 23 = .ok (.iconst 0, 1) := by decide +kernel
theorem dX2_init_24 : decode cX2_init 24 = .ok (.putfield 24, 3) := by decide +kernel
theorem dX2_init_27 : decode cX2_init 27 = .ok (.aload_n 0, 1) := by decide +kernel
theorem dX2_init_28 : decode cX2_init 28 = .ok (.iconst 0, 1) := by decide +kernel
theorem dX2_init_29 : decode cX2_init 29 = .ok (.putfield 28, 3) := by decide +kernel
theorem dX2_init_32 : decode cX2_init 32 = .ok (.aload_n 0, 1) := by decide +kernel
theorem dX2_init_33 : decode cX2_init 33 = .ok (.iconst 0, 1) := by decide +kernel
theorem dX2_init_34 : decode cX2_init 34 = .ok (.putfield 31, 3) := by decide +kernel
theorem dX2_init_37 : decode cX2_init 37 = .ok (.iconst 0, 1) := by decide +kernel
theorem dX2_init_38 : decode cX2_init 38 = .ok (.istore_n 1, 1) := by decide +kernel
theorem dX2_init_39 : decode cX2_init 39 = .ok (.iload_n 1, 1) := by decide +kernel
theorem dX2_init_40 : decode cX2_init 40 = .ok (.aload_n 0, 1) := by decide +kernel
theorem dX2_init_41 : decode cX2_init 41 = .ok (.getfield 11, 3) := by decide +kernel
theorem dX2_init_44 : decode cX2_init 44 = .ok (.arraylength, 1) := by decide +kernel
theorem dX2_init_45 : decode cX2_init 45 = .ok (.if_icmp .ge 22, 3) := by decide +kernel
theorem dX2_init_48 : decode cX2_init 48 = .ok (.aload_n 0, 1) := by decide +kernel
theorem dX2_init_49 : decode cX2_init 49 = .ok (.getfield 11, 3) := by decide +kernel
theorem dX2_init_52 : decode cX2_init 52 = .ok (.iload_n 1, 1) := by decide +kernel
theorem dX2_init_53 : decode cX2_init 53 = .ok (.new 9, 3) := by decide +kernel
theorem dX2_init_56 : decode cX2_init 56 = .ok (.dup, 1) := by decide +kernel
theorem dX2_init_57 : decode cX2_init 57 = .ok (.invokespecial 34, 3) := by decide +kernel
theorem dX2_init_60 : decode cX2_init 60 = .ok (.aastore, 1) := by decide +kernel
theorem dX2_init_61 : decode cX2_init 61 = .ok (.iinc 1 1, 3) := by decide +kernel
theorem dX2_init_64 : decode cX2_init 64 = .ok (.goto (-25), 3) := by decide +kernel
theorem dX2_init_67 : decode cX2_init 67 = .ok (.return_, 1) := by decide +kernel
set_option maxRecDepth 20000 in
theorem ggX2_follow_X1_hasMatch : GoodIn wsX2_follow wsX1_hasMatch := goodIn_r _ [14, 15, 283, 284, 285, 286, 287, 288, 289, 290, 291] (by decide +kernel) (by decide +kernel)
set_option maxRecDepth 20000 in
theorem gX2_follow_X1_hasMatch : GoodIn wsX2_follow (wsV RX2 35 RX1 yX1_hasMatch wsX1_hasMatch) := goodIn_app (goodIn_of _ (by decide +kernel)) ggX2_follow_X1_hasMatch
set_option maxRecDepth 20000 in
theorem ggX2_follow_X2_present : GoodIn wsX2_follow wsX2_present := goodIn_r _ [20, 7, 21, 22, 23, 19, 24, 25, 26, 27, 28, 29, 30, 31, 32, 277, 278, 279, 280, 281, 282] (by decide +kernel) (by decide +kernel)
set_option maxRecDepth 20000 in
theorem gX2_follow_X2_present : GoodIn wsX2_follow (wsV RX2 43 RX2 yX2_present wsX2_present) := goodIn_app (goodIn_of _ (by decide +kernel)) ggX2_follow_X2_present
set_option maxRecDepth 20000 in
theorem ggX2_follow_X2_hasResources : GoodIn wsX2_follow wsX2_hasResources := goodIn_r _ [36, 4, 277, 278, 279, 280, 281, 282] (by decide +kernel) (by decide +kernel)
set_option maxRecDepth 20000 in
theorem gX2_follow_X2_hasResources : GoodIn wsX2_follow (wsV RX2 50 RX2 yX2_hasResources wsX2_hasResources) := goodIn_app (goodIn_of _ (by decide +kernel)) ggX2_follow_X2_hasResources
set_option maxRecDepth 20000 in
theorem ggX2_follow_X0_start : GoodIn wsX2_follow wsX0_start := goodIn_ca (goodIn_r _ [41, 42, 43, 44, 45, 46, 47, 48, 49, 50, 51, 52, 53, 54, 55, 56, 57, 58, 59, 60, 61, 62, 63, 64, 65, 66, 67, 68, 69, 70, 71, 72, 73, 74, 75, 76, 77, 78, 79, 80, 81, 82, 83, 84, 85, 86, 87, 88, 40, 89, 90, 91, 92, 93, 94, 95, 96, 97, 98, 99, 26, 27, 28, 100, 30, 31, 101, 102, 103, 104, 105, 292, 293, 294, 295, 296, 297, 298, 299, 300, 301, 302, 303, 304, 305, 306, 307, 308, 309, 310, 311, 312, 313, 314] (by decide +kernel) (by decide +kernel)) (goodIn_sub (fun _ h => List.mem_cons_of_mem _ (List.mem_append_left _ (List.mem_append_right _ h))) (by decide +kernel))
set_option maxRecDepth 20000 in
theorem gX2_follow_X0_start : GoodIn wsX2_follow (wsV RX2 53 RX0 yX0_start wsX0_start) := goodIn_app (goodIn_of _ (by decide +kernel)) ggX2_follow_X0_start
set_option maxRecDepth 20000 in
theorem ggX2_follow_X1_step : GoodIn wsX2_follow wsX1_step := goodIn_r _ [109, 110, 111, 112, 283, 284, 285, 286, 287, 288, 289, 290, 291] (by decide +kernel) (by decide +kernel)
set_option maxRecDepth 20000 in
theorem gX2_follow_X1_step : GoodIn wsX2_follow (wsV RX2 60 RX1 yX1_step wsX1_step) := goodIn_app (goodIn_of _ (by decide +kernel)) ggX2_follow_X1_step
set_option maxRecDepth 20000 in
theorem ggX2_follow_X2_perform : GoodIn wsX2_follow wsX2_perform := goodIn_ca (goodIn_ca (goodIn_r _ [116, 117, 118, 16, 17, 18, 19, 20, 7, 21, 22, 23, 24, 25, 26, 27, 28, 29, 30, 31, 32, 119, 120, 121, 40, 122, 47, 123, 124, 125, 126, 127, 44, 91, 92, 93, 56, 94, 63, 58, 64, 128, 129, 130, 131, 132, 133, 134, 135, 42, 136, 137, 138, 139, 140, 141, 142, 143, 144, 145, 146, 147, 148, 149, 150, 151, 152, 153, 154, 155, 156, 157, 158, 159, 160, 161, 162, 163, 164, 165, 166, 167, 168, 169, 170, 171, 43, 49, 172, 173, 174, 175, 176, 177, 178, 179, 180, 45, 50, 102, 103, 104, 105, 181, 182, 183, 184, 185, 186, 187, 188, 189, 190, 191, 192, 193, 194, 195, 196, 197, 198, 199, 200, 68, 201, 72, 202, 78, 73, 74, 75, 76, 77, 79, 80, 81, 203, 204, 205, 206, 207, 208, 209, 210, 211, 212, 213, 51, 214, 215, 216, 217, 218, 219, 220, 221, 46, 101, 60, 61, 62, 82, 83, 84, 85, 222, 223, 224, 225, 52, 95, 96, 97, 98, 99, 100, 226, 227, 228, 229, 230, 231, 232, 233, 234, 235, 236, 237, 238, 239, 90, 48, 86, 87, 88, 89, 240, 241, 242, 243, 244, 245, 246, 247, 248, 249, 250, 251, 4, 252, 253, 254, 255, 256, 33, 34, 35, 36, 257, 258, 259, 260, 261, 262, 263, 264, 265, 266, 267, 268, 269, 270, 271, 272, 273, 274, 2, 275, 276, 37, 38, 39, 41, 53, 54, 55, 57, 59, 65, 66, 67, 69, 70, 71, 315, 316, 317, 318, 319, 320, 321, 322, 323, 277, 278, 279, 280, 281, 282, 292, 293, 294, 295, 296, 297, 298, 299, 300, 301, 302, 306, 307, 308, 309, 310, 311, 312, 313, 314, 303, 304, 305] (by decide +kernel) (by decide +kernel)) (goodIn_sub (fun _ h => List.mem_cons_of_mem _ (List.mem_append_left _ (List.mem_append_right _ h))) (by decide +kernel))) (goodIn_sub (fun _ h => List.mem_cons_of_mem _ (List.mem_append_right _ h)) (by decide +kernel))
set_option maxRecDepth 20000 in
theorem gX2_follow_X2_perform : GoodIn wsX2_follow (wsV RX2 64 RX2 yX2_perform wsX2_perform) := goodIn_app (goodIn_of _ (by decide +kernel)) ggX2_follow_X2_perform
theorem dX2_follow_0 : decode cX2_follow 0 = .ok (.aload_n 0, 1) := by decide +kernel
theorem dX2_follow_1 : decode cX2_follow 1 = .ok (.aload_n 1, 1) := by decide +kernel
theorem dX2_follow_2 : decode cX2_follow 2 = .ok (.invokevirtual 35, 3) := by decide +kernel
theorem dX2_follow_5 : decode cX2_follow 5 = .ok (.putfield 17, 3) := by decide +kernel
theorem dX2_follow_8 : decode cX2_follow 8 = .ok (.aload_n 0, 1) := by decide +kernel
theorem dX2_follow_9 : decode cX2_follow 9 = .ok (.getfield 17, 3) := by decide +kernel
theorem dX2_follow_12 : decode cX2_follow 12 = .ok (.ifCond .ne 4, 3) := by decide +kernel
theorem dX2_follow_15 : decode cX2_follow 15 = .ok (.return_, 1) := by decide +kernel
theorem dX2_follow_16 : decode cX2_follow 16 = .ok (.aload_n 0, 1) := by decide +kernel
theorem dX2_follow_17 : decode cX2_follow 17 = .ok (.iconst 0, 1) := by decide +kernel
theorem dX2_follow_18 : decode cX2_follow 18 = .ok (.putfield 21, 3) := by decide +kernel
theorem dX2_follow_21 : decode cX2_follow 21 = .ok (.aload_n 0, 1) := by decide +kernel
theorem dX2_follow_22 : decode cX2_follow 22 = .ok (.aload_n 1, 1) := by decide +kernel
theorem dX2_follow_23 : decode cX2_follow 23 = .ok (.getfield 41, 3) := by decide +kernel
theorem dX2_follow_26 : decode cX2_follow 26 = .ok (.putfield 24, 3) := by decide +kernel
theorem dX2_follow_29 : decode cX2_follow 29 = .ok (.aload_n 0, 1) := by decide +kernel
theorem dX2_follow_30 : decode cX2_follow 30 = .ok (.aload_n 1, 1) := by decide +kernel
theorem dX2_follow_31 : decode cX2_follow 31 = .ok (.getfield 42, 3) := by decide +kernel
theorem dX2_follow_34 : decode cX2_follow 34 = .ok (.putfield 28, 3) := by decide +kernel
theorem dX2_follow_37 : decode cX2_follow 37 = .ok (.aload_n 0, 1) := by decide +kernel
theorem dX2_follow_38 : decode cX2_follow 38 = .ok (.iconst 0, 1) := by decide +kernel
theorem dX2_follow_39 : decode cX2_follow 39 = .ok (.putfield 31, 3) := by decide +kernel
theorem dX2_follow_42 : decode cX2_follow 42 = .ok (.aload_n 0, 1) := by decide +kernel
theorem dX2_follow_43 : decode cX2_follow 43 = .ok (.invokevirtual 43, 3) := by decide +kernel
theorem dX2_follow_46 : decode cX2_follow 46 = .ok (.aload_n 1, 1) := by decide +kernel
theorem dX2_follow_47 : decode cX2_follow 47 = .ok (.getfield 47, 3) := by decide +kernel
theorem dX2_follow_50 : decode cX2_follow 50 = .ok (.aload_n 0, 1) := by decide +kernel
theorem dX2_follow_51 : decode cX2_follow 51 = .ok (.invokevirtual 50, 3) := by decide +kernel
theorem dX2_follow_54 : decode cX2_follow 54 = .ok (.invokevirtual 53, 3) := by decide +kernel
theorem dX2_follow_57 : decode cX2_follow 57 = .ok (.iconst 0, 1) := by decide +kernel
theorem dX2_follow_58 : decode cX2_follow 58 = .ok (.istore_n 2, 1) := by decide +kernel
theorem dX2_follow_59 : decode cX2_follow 59 = .ok (.iload_n 2, 1) := by decide +kernel
theorem dX2_follow_60 : decode cX2_follow 60 = .ok (.aload_n 1, 1) := by decide +kernel
theorem dX2_follow_61 : decode cX2_follow 61 = .ok (.getfield 57, 3) := by decide +kernel
theorem dX2_follow_64 : decode cX2_follow 64 = .ok (.if_icmp .ge 19, 3) := by decide +kernel
theorem dX2_follow_67 : decode cX2_follow 67 = .ok (.aload_n 0, 1) := by decide +kernel
theorem dX2_follow_68 : decode cX2_follow 68 = .ok (.aload_n 1, 1) := by decide +kernel
theorem dX2_follow_69 : decode cX2_follow 69 = .ok (.iload_n 2, 1) := by decide +kernel
theorem dX2_follow_70 : decode cX2_follow 70 = .ok (.invokevirtual 60, 3) := by decide +kernel
theorem dX2_follow_73 : decode cX2_follow 73 = .ok (.invokevirtual 64, 3) := by decide +kernel
theorem dX2_follow_76 : decode cX2_follow 76 = .ok (.pop, 1) := by decide +kernel
theorem dX2_follow_77 : decode cX2_follow 77 = .ok (.iinc 2 1, 3) := by decide +kernel
theorem dX2_follow_80 : decode cX2_follow 80 = .ok (.goto (-21), 3) := by decide +kernel
theorem dX2_follow_83 : decode cX2_follow 83 = .ok (.return_, 1) := by decide +kernel
theorem dX2_hasBegun_0 : decode cX2_hasBegun 0 = .ok (.aload_n 0, 1) := by decide +kernel
theorem dX2_hasBegun_1 : decode cX2_hasBegun 1 = .ok (.getfield 17, 3) := by decide +kernel
theorem dX2_hasBegun_4 : decode cX2_hasBegun 4 = .ok (.ifCond .eq 19, 3) := by decide +kernel
theorem dX2_hasBegun_7 : decode cX2_hasBegun 7 = .ok (.iload_n 1, 1) := by decide +kernel
theorem dX2_hasBegun_8 : decode cX2_hasBegun 8 = .ok (.ifCond .lt 15, 3) := by decide +kernel
theorem dX2_hasBegun_11 : decode cX2_hasBegun 11 = .ok (.iload_n 1, 1) := by decide +kernel
theorem dX2_hasBegun_12 : decode cX2_hasBegun 12 = .ok (.aload_n 0, 1) := by decide +kernel
theorem dX2_hasBegun_13 : decode cX2_hasBegun 13 = .ok (.getfield 31, 3) := by decide +kernel
theorem dX2_hasBegun_16 : decode cX2_hasBegun 16 = .ok (.if_icmp .gt 7, 3) := by decide +kernel
theorem dX2_hasBegun_19 : decode cX2_hasBegun 19 = .ok (.iconst 1, 1) := by decide +kernel
theorem dX2_hasBegun_20 : decode cX2_hasBegun 20 = .ok (.goto 4, 3) := by decide +kernel
theorem dX2_hasBegun_23 : decode cX2_hasBegun 23 = .ok (.iconst 0, 1) := by decide +kernel
theorem dX2_hasBegun_24 : decode cX2_hasBegun 24 = .ok (.ireturn, 1) := by decide +kernel
theorem dX2_at_0 : decode cX2_at 0 = .ok (.iconst 0, 1) := by decide +kernel
theorem dX2_at_1 : decode cX2_at 1 = .ok (.iload_n 1, 1) := by decide +kernel
theorem dX2_at_2 : decode cX2_at 2 = .ok (.iconst 3, 1) := by decide +kernel
theorem dX2_at_3 : decode cX2_at 3 = .ok (.invokestatic 68, 3) := by decide +kernel
theorem dX2_at_6 : decode cX2_at 6 = .ok (.invokestatic 74, 3) := by decide +kernel
theorem dX2_at_9 : decode cX2_at 9 = .ok (.istore_n 2, 1) := by decide +kernel
theorem dX2_at_10 : decode cX2_at 10 = .ok (.aload_n 0, 1) := by decide +kernel
theorem dX2_at_11 : decode cX2_at 11 = .ok (.getfield 11, 3) := by decide +kernel
theorem dX2_at_14 : decode cX2_at 14 = .ok (.iload_n 2, 1) := by decide +kernel
theorem dX2_at_15 : decode cX2_at 15 = .ok (.aaload, 1) := by decide +kernel
theorem dX2_at_16 : decode cX2_at 16 = .ok (.areturn, 1) := by decide +kernel
set_option maxRecDepth 20000 in
theorem ggX2_present_X2_at : GoodIn wsX2_present wsX2_at := goodIn_r _ [6, 7, 8, 9, 10, 11, 12, 13, 14, 15, 16, 17, 18, 19, 20] (by decide +kernel) (by decide +kernel)
set_option maxRecDepth 20000 in
theorem gX2_present_X2_at : GoodIn wsX2_present (wsV RX2 77 RX2 yX2_at wsX2_at) := goodIn_app (goodIn_of _ (by decide +kernel)) ggX2_present_X2_at
theorem dX2_present_0 : decode cX2_present 0 = .ok (.aload_n 0, 1) := by decide +kernel
theorem dX2_present_1 : decode cX2_present 1 = .ok (.aload_n 0, 1) := by decide +kernel
theorem dX2_present_2 : decode cX2_present 2 = .ok (.getfield 31, 3) := by decide +kernel
theorem dX2_present_5 : decode cX2_present 5 = .ok (.invokevirtual 77, 3) := by decide +kernel
theorem dX2_present_8 : decode cX2_present 8 = .ok (.areturn, 1) := by decide +kernel
theorem dX2_hasResources_0 : decode cX2_hasResources 0 = .ok (.aload_n 0, 1) := by decide +kernel
theorem dX2_hasResources_1 : decode cX2_hasResources 1 = .ok (.getfield 24, 3) := by decide +kernel
theorem dX2_hasResources_4 : decode cX2_hasResources 4 = .ok (.iconst 1, 1) := by decide +kernel
theorem dX2_hasResources_5 : decode cX2_hasResources 5 = .ok (.if_icmp .ne 7, 3) := by decide +kernel
theorem dX2_hasResources_8 : decode cX2_hasResources 8 = .ok (.iconst 1, 1) := by decide +kernel
theorem dX2_hasResources_9 : decode cX2_hasResources 9 = .ok (.goto 4, 3) := by decide +kernel
theorem dX2_hasResources_12 : decode cX2_hasResources 12 = .ok (.iconst 0, 1) := by decide +kernel
theorem dX2_hasResources_13 : decode cX2_hasResources 13 = .ok (.ireturn, 1) := by decide +kernel
theorem dX2_lastNumber_0 : decode cX2_lastNumber 0 = .ok (.iconst 2, 1) := by decide +kernel
theorem dX2_lastNumber_1 : decode cX2_lastNumber 1 = .ok (.aload_n 0, 1) := by decide +kernel
theorem dX2_lastNumber_2 : decode cX2_lastNumber 2 = .ok (.getfield 24, 3) := by decide +kernel
theorem dX2_lastNumber_5 : decode cX2_lastNumber 5 = .ok (.imul, 1) := by decide +kernel
theorem dX2_lastNumber_6 : decode cX2_lastNumber 6 = .ok (.iconst 1, 1) := by decide +kernel
theorem dX2_lastNumber_7 : decode cX2_lastNumber 7 = .ok (.isub, 1) := by decide +kernel
theorem dX2_lastNumber_8 : decode cX2_lastNumber 8 = .ok (.ireturn, 1) := by decide +kernel
set_option maxRecDepth 20000 in
theorem ggX2_isLastPlayed_X2_lastNumber : GoodIn wsX2_isLastPlayed wsX2_lastNumber := goodIn_r _ [6, 7, 8, 9, 10, 11, 12, 13] (by decide +kernel) (by decide +kernel)
set_option maxRecDepth 20000 in
theorem gX2_isLastPlayed_X2_lastNumber : GoodIn wsX2_isLastPlayed (wsV RX2 81 RX2 yX2_lastNumber wsX2_lastNumber) := goodIn_app (goodIn_of _ (by decide +kernel)) ggX2_isLastPlayed_X2_lastNumber
theorem dX2_isLastPlayed_0 : decode cX2_isLastPlayed 0 = .ok (.aload_n 0, 1) := by decide +kernel
theorem dX2_isLastPlayed_1 : decode cX2_isLastPlayed 1 = .ok (.getfield 31, 3) := by decide +kernel
theorem dX2_isLastPlayed_4 : decode cX2_isLastPlayed 4 = .ok (.aload_n 0, 1) := by decide +kernel
theorem dX2_isLastPlayed_5 : decode cX2_isLastPlayed 5 = .ok (.invokevirtual 81, 3) := by decide +kernel
theorem dX2_isLastPlayed_8 : decode cX2_isLastPlayed 8 = .ok (.if_icmp .ne 7, 3) := by decide +kernel
theorem dX2_isLastPlayed_11 : decode cX2_isLastPlayed 11 = .ok (.iconst 1, 1) := by decide +kernel
theorem dX2_isLastPlayed_12 : decode cX2_isLastPlayed 12 = .ok (.goto 4, 3) := by decide +kernel
theorem dX2_isLastPlayed_15 : decode cX2_isLastPlayed 15 = .ok (.iconst 0, 1) := by decide +kernel
theorem dX2_isLastPlayed_16 : decode cX2_isLastPlayed 16 = .ok (.ireturn, 1) := by decide +kernel
theorem dX2_battingTeam_0 : decode cX2_battingTeam 0 = .ok (.iload_n 1, 1) := by decide +kernel
theorem dX2_battingTeam_1 : decode cX2_battingTeam 1 = .ok (.iconst 1, 1) := by decide +kernel
theorem dX2_battingTeam_2 : decode cX2_battingTeam 2 = .ok (.iand, 1) := by decide +kernel
theorem dX2_battingTeam_3 : decode cX2_battingTeam 3 = .ok (.ifCond .ne 10, 3) := by decide +kernel
theorem dX2_battingTeam_6 : decode cX2_battingTeam 6 = .ok (.aload_n 0, 1) := by decide +kernel
theorem dX2_battingTeam_7 : decode cX2_battingTeam 7 = .ok (.getfield 28, 3) := by decide +kernel
theorem dX2_battingTeam_10 : decode cX2_battingTeam 10 = .ok (.goto 9, 3) := by decide +kernel
theorem dX2_battingTeam_13 : decode cX2_battingTeam 13 = .ok (.iconst 1, 1) := by decide +kernel
theorem dX2_battingTeam_14 : decode cX2_battingTeam 14 = .ok (.aload_n 0, 1) := by decide +kernel
theorem dX2_battingTeam_15 : decode cX2_battingTeam 15 = .ok (.getfield 28, 3) := by decide +kernel
theorem dX2_battingTeam_18 : decode cX2_battingTeam 18 = .ok (.isub, 1) := by decide +kernel
theorem dX2_battingTeam_19 : decode cX2_battingTeam 19 = .ok (.ireturn, 1) := by decide +kernel
set_option maxRecDepth 20000 in
theorem ggX2_refusal_X2_present : GoodIn wsX2_refusal wsX2_present := goodIn_r _ [11, 12, 13, 14, 15, 10, 16, 17, 18, 19, 20, 21, 22, 23, 24, 82, 83, 84, 85, 86, 87] (by decide +kernel) (by decide +kernel)
set_option maxRecDepth 20000 in
theorem gX2_refusal_X2_present : GoodIn wsX2_refusal (wsV RX2 43 RX2 yX2_present wsX2_present) := goodIn_app (goodIn_of _ (by decide +kernel)) ggX2_refusal_X2_present
set_option maxRecDepth 20000 in
theorem ggX2_refusal_X0_bowlRefusal : GoodIn wsX2_refusal wsX0_bowlRefusal := goodIn_ca (goodIn_r _ [29, 30, 31, 32, 33, 34, 35, 36, 28, 37, 38, 39, 40, 41, 42, 43, 44, 45, 46, 47, 48, 49, 50, 97, 98, 99, 100, 101, 102, 103, 104, 105, 106, 107, 108, 109, 110, 111, 112, 113, 114, 115, 116, 117, 118, 119] (by decide +kernel) (by decide +kernel)) (goodIn_sub (fun _ h => List.mem_cons_of_mem _ (List.mem_append_right _ h)) (by decide +kernel))
set_option maxRecDepth 20000 in
theorem gX2_refusal_X0_bowlRefusal : GoodIn wsX2_refusal (wsV RX2 91 RX0 yX0_bowlRefusal wsX0_bowlRefusal) := goodIn_app (goodIn_of _ (by decide +kernel)) ggX2_refusal_X0_bowlRefusal
set_option maxRecDepth 20000 in
theorem ggX2_refusal_X5_isPossibleWicket : GoodIn wsX2_refusal wsX5_isPossibleWicket := goodIn_r _ [55, 56, 57, 58, 59, 60, 88, 89, 90, 91, 92, 93, 94, 95, 96] (by decide +kernel) (by decide +kernel)
set_option maxRecDepth 20000 in
theorem gX2_refusal_X5_isPossibleWicket : GoodIn wsX2_refusal (wsV RX2 103 RX5 yX5_isPossibleWicket wsX5_isPossibleWicket) := goodIn_app (goodIn_of _ (by decide +kernel)) ggX2_refusal_X5_isPossibleWicket
set_option maxRecDepth 20000 in
theorem ggX2_refusal_X0_canComeIn : GoodIn wsX2_refusal wsX0_canComeIn := goodIn_ca (goodIn_r _ [64, 65, 39, 40, 41, 42, 43, 44, 45, 46, 97, 98, 99, 100, 101, 102, 103, 104, 105, 106, 107, 117, 118, 119] (by decide +kernel) (by decide +kernel)) (goodIn_sub (fun _ h => List.mem_cons_of_mem _ (List.mem_append_right _ h)) (by decide +kernel))
set_option maxRecDepth 20000 in
theorem gX2_refusal_X0_canComeIn : GoodIn wsX2_refusal (wsV RX2 106 RX0 yX0_canComeIn wsX0_canComeIn) := goodIn_app (goodIn_of _ (by decide +kernel)) ggX2_refusal_X0_canComeIn
set_option maxRecDepth 20000 in
theorem ggX2_refusal_X2_hasResources : GoodIn wsX2_refusal wsX2_hasResources := goodIn_r _ [69, 70, 82, 83, 84, 85, 86, 87] (by decide +kernel) (by decide +kernel)
set_option maxRecDepth 20000 in
theorem gX2_refusal_X2_hasResources : GoodIn wsX2_refusal (wsV RX2 50 RX2 yX2_hasResources wsX2_hasResources) := goodIn_app (goodIn_of _ (by decide +kernel)) ggX2_refusal_X2_hasResources
set_option maxRecDepth 20000 in
theorem ggX2_refusal_X0_canLose : GoodIn wsX2_refusal wsX0_canLose := goodIn_r _ [74, 30, 75, 76, 77, 78, 49, 79, 80, 81, 97, 98, 99, 100, 101, 102, 103, 104, 105, 106, 107, 108, 109, 110, 111, 112, 113, 114, 115, 116] (by decide +kernel) (by decide +kernel)
set_option maxRecDepth 20000 in
theorem gX2_refusal_X0_canLose : GoodIn wsX2_refusal (wsV RX2 110 RX0 yX0_canLose wsX0_canLose) := goodIn_app (goodIn_of _ (by decide +kernel)) ggX2_refusal_X0_canLose
theorem dX2_refusal_0 : decode cX2_refusal 0 = .ok (.aload_n 0, 1) := by decide +kernel
theorem dX2_refusal_1 : decode cX2_refusal 1 = .ok (.getfield 17, 3) := by decide +kernel
theorem dX2_refusal_4 : decode cX2_refusal 4 = .ok (.ifCond .eq 10, 3) := by decide +kernel
theorem dX2_refusal_7 : decode cX2_refusal 7 = .ok (.aload_n 0, 1) := by decide +kernel
theorem dX2_refusal_8 : decode cX2_refusal 8 = .ok (.getfield 21, 3) := by decide +kernel
theorem dX2_refusal_11 : decode cX2_refusal 11 = .ok (.ifCond .eq 5, 3) := by decide +kernel
theorem dX2_refusal_14 : decode cX2_refusal 14 = .ok (.iconst 1, 1) := by decide +kernel
theorem dX2_refusal_15 : decode cX2_refusal 15 = .ok (.ireturn, 1) := by decide +kernel
theorem dX2_refusal_16 : decode cX2_refusal 16 = .ok (.aload_n 0, 1) := by decide +kernel
theorem dX2_refusal_17 : decode cX2_refusal 17 = .ok (.invokevirtual 43, 3) := by decide +kernel
theorem dX2_refusal_20 : decode cX2_refusal 20 = .ok (.astore_n 2, 1) := by decide +kernel
theorem dX2_refusal_21 : decode cX2_refusal 21 = .ok (.aload_n 1, 1) := by decide +kernel
theorem dX2_refusal_22 : decode cX2_refusal 22 = .ok (.getfield 85, 3) := by decide +kernel
theorem dX2_refusal_25 : decode cX2_refusal 25 = .ok (.tableswitch 138 1 7 #[43, 52, 69, 138, 96, 138, 113], 43) := by decide +kernel
theorem dX2_refusal_68 : decode cX2_refusal 68 = .ok (.aload_n 2, 1) := by decide +kernel
theorem dX2_refusal_69 : decode cX2_refusal 69 = .ok (.aload_n 1, 1) := by decide +kernel
theorem dX2_refusal_70 : decode cX2_refusal 70 = .ok (.getfield 90, 3) := by decide +kernel
theorem dX2_refusal_73 : decode cX2_refusal 73 = .ok (.invokevirtual 91, 3) := by decide +kernel
theorem dX2_refusal_76 : decode cX2_refusal 76 = .ok (.ireturn, 1) := by decide +kernel
theorem dX2_refusal_77 : decode cX2_refusal 77 = .ok (.aload_n 2, 1) := by decide +kernel
theorem dX2_refusal_78 : decode cX2_refusal 78 = .ok (.getfield 95, 3) := by decide +kernel
theorem dX2_refusal_81 : decode cX2_refusal 81 = .ok (.getfield 98, 3) := by decide +kernel
theorem dX2_refusal_84 : decode cX2_refusal 84 = .ok (.iconst (-1), 1) := by decide +kernel
theorem dX2_refusal_85 : decode cX2_refusal 85 = .ok (.if_icmp .ne 7, 3) := by decide +kernel
theorem dX2_refusal_88 : decode cX2_refusal 88 = .ok (.iconst 3, 1) := by decide +kernel
theorem dX2_refusal_89 : decode cX2_refusal 89 = .ok (.goto 4, 3) := by decide +kernel
theorem dX2_refusal_92 : decode cX2_refusal 92 = .ok (.iconst 0, 1) := by decide +kernel
theorem dX2_refusal_93 : decode cX2_refusal 93 = .ok (.ireturn, 1) := by decide +kernel
theorem dX2_refusal_94 : decode cX2_refusal 94 = .ok (.aload_n 2, 1) := by decide +kernel
theorem dX2_refusal_95 : decode cX2_refusal 95 = .ok (.getfield 95, 3) := by decide +kernel
theorem dX2_refusal_98 : decode cX2_refusal 98 = .ok (.getfield 98, 3) := by decide +kernel
theorem dX2_refusal_101 : decode cX2_refusal 101 = .ok (.iconst (-1), 1) := by decide +kernel
theorem dX2_refusal_102 : decode cX2_refusal 102 = .ok (.if_icmp .ne 5, 3) := by decide +kernel
theorem dX2_refusal_105 : decode cX2_refusal 105 = .ok (.iconst 3, 1) := by decide +kernel
theorem dX2_refusal_106 : decode cX2_refusal 106 = .ok (.ireturn, 1) := by decide +kernel
theorem dX2_refusal_107 : decode cX2_refusal 107 = .ok (.aload_n 1, 1) := by decide +kernel
theorem dX2_refusal_108 : decode cX2_refusal 108 = .ok (.invokevirtual 103, 3) := by decide +kernel
theorem dX2_refusal_111 : decode cX2_refusal 111 = .ok (.ifCond .eq 7, 3) := by decide +kernel
theorem dX2_refusal_114 : decode cX2_refusal 114 = .ok (.iconst 0, 1) := by decide +kernel
theorem dX2_refusal_115 : decode cX2_refusal 115 = .ok (.goto 5, 3) := by decide +kernel
theorem dX2_refusal_118 : decode cX2_refusal 118 = .ok (.bipush 6, 2) := by decide +kernel
theorem dX2_refusal_120 : decode cX2_refusal 120 = .ok (.ireturn, 1) := by decide +kernel
theorem dX2_refusal_121 : decode cX2_refusal 121 = .ok (.aload_n 2, 1) := by decide +kernel
theorem dX2_refusal_122 : decode cX2_refusal 122 = .ok (.aload_n 1, 1) := by decide +kernel
theorem dX2_refusal_123 : decode cX2_refusal 123 = .ok (.getfield 90, 3) := by decide +kernel
theorem dX2_refusal_126 : decode cX2_refusal 126 = .ok (.invokevirtual 106, 3) := by decide +kernel
theorem dX2_refusal_129 : decode cX2_refusal 129 = .ok (.ifCond .eq 7, 3) := by decide +kernel
theorem dX2_refusal_132 : decode cX2_refusal 132 = .ok (.iconst 0, 1) := by decide +kernel
theorem dX2_refusal_133 : decode cX2_refusal 133 = .ok (.goto 4, 3) := by decide +kernel
theorem dX2_refusal_136 : decode cX2_refusal 136 = .ok (.iconst 5, 1) := by decide +kernel
theorem dX2_refusal_137 : decode cX2_refusal 137 = .ok (.ireturn, 1) := by decide +kernel
theorem dX2_refusal_138 : decode cX2_refusal 138 = .ok (.aload_n 0, 1) := by decide +kernel
theorem dX2_refusal_139 : decode cX2_refusal 139 = .ok (.invokevirtual 50, 3) := by decide +kernel
theorem dX2_refusal_142 : decode cX2_refusal 142 = .ok (.ifCond .eq 18, 3) := by decide +kernel
theorem dX2_refusal_145 : decode cX2_refusal 145 = .ok (.aload_n 2, 1) := by decide +kernel
theorem dX2_refusal_146 : decode cX2_refusal 146 = .ok (.aload_n 1, 1) := by decide +kernel
theorem dX2_refusal_147 : decode cX2_refusal 147 = .ok (.getfield 90, 3) := by decide +kernel
theorem dX2_refusal_150 : decode cX2_refusal 150 = .ok (.invokevirtual 110, 3) := by decide +kernel
theorem dX2_refusal_153 : decode cX2_refusal 153 = .ok (.ifCond .eq 7, 3) := by decide +kernel
theorem dX2_refusal_156 : decode cX2_refusal 156 = .ok (.iconst 0, 1) := by decide +kernel
theorem dX2_refusal_157 : decode cX2_refusal 157 = .ok (.goto 5, 3) := by decide +kernel
theorem dX2_refusal_160 : decode cX2_refusal 160 = .ok (.bipush 8, 2) := by decide +kernel
theorem dX2_refusal_162 : decode cX2_refusal 162 = .ok (.ireturn, 1) := by decide +kernel
theorem dX2_refusal_163 : decode cX2_refusal 163 = .ok (.iconst 0, 1) := by decide +kernel
theorem dX2_refusal_164 : decode cX2_refusal 164 = .ok (.ireturn, 1) := by decide +kernel
set_option maxRecDepth 20000 in
theorem ggX2_perform_X2_present : GoodIn wsX2_perform wsX2_present := goodIn_r _ [7, 8, 9, 10, 11, 6, 12, 13, 14, 15, 16, 17, 18, 19, 20, 263, 264, 265, 266, 267, 268] (by decide +kernel) (by decide +kernel)
set_option maxRecDepth 20000 in
theorem gX2_perform_X2_present : GoodIn wsX2_perform (wsV RX2 43 RX2 yX2_present wsX2_present) := goodIn_app (goodIn_of _ (by decide +kernel)) ggX2_perform_X2_present
set_option maxRecDepth 20000 in
theorem ggX2_perform_X0_startOver : GoodIn wsX2_perform wsX0_startOver := goodIn_ca (goodIn_r _ [25, 26, 27, 28, 29, 30, 24, 31, 32, 33, 34, 35, 36, 37, 38, 39, 40, 269, 270, 271, 272, 273, 274, 275, 276, 277, 278, 279, 280, 281, 282, 283, 284, 285, 286, 287, 288, 289, 290, 291] (by decide +kernel) (by decide +kernel)) (goodIn_sub (fun _ h => List.mem_cons_of_mem _ (List.mem_append_left _ (List.mem_append_right _ h))) (by decide +kernel))
set_option maxRecDepth 20000 in
theorem gX2_perform_X0_startOver : GoodIn wsX2_perform (wsV RX2 113 RX0 yX0_startOver wsX0_startOver) := goodIn_app (goodIn_of _ (by decide +kernel)) ggX2_perform_X0_startOver
set_option maxRecDepth 20000 in
theorem ggX2_perform_X0_scoreBall : GoodIn wsX2_perform wsX0_scoreBall := goodIn_ca (goodIn_r _ [44, 45, 46, 47, 24, 48, 49, 50, 51, 52, 53, 54, 55, 56, 57, 58, 59, 36, 60, 38, 39, 40, 61, 62, 63, 64, 65, 66, 67, 68, 69, 70, 71, 72, 73, 74, 26, 75, 76, 77, 32, 27, 78, 79, 80, 81, 82, 83, 84, 85, 86, 87, 88, 89, 90, 91, 92, 93, 94, 95, 96, 97, 98, 99, 100, 101, 102, 103, 104, 105, 106, 107, 108, 109, 110, 111, 112, 113, 114, 115, 116, 117, 118, 119, 33, 34, 35, 37, 120, 121, 122, 123, 124, 125, 126, 127, 128, 129, 130, 131, 132, 133, 134, 135, 269, 270, 271, 272, 273, 274, 275, 276, 277, 278, 279, 254, 255, 256, 257, 258, 259, 260, 261, 262, 289, 290, 291, 280, 281, 282, 283, 284, 285, 286, 287, 288] (by decide +kernel) (by decide +kernel)) (goodIn_sub (fun _ h => List.mem_cons_of_mem _ (List.mem_append_left _ (List.mem_append_right _ h))) (by decide +kernel))
set_option maxRecDepth 20000 in
theorem gX2_perform_X0_scoreBall : GoodIn wsX2_perform (wsV RX2 116 RX0 yX0_scoreBall wsX0_scoreBall) := goodIn_app (goodIn_of _ (by decide +kernel)) ggX2_perform_X0_scoreBall
set_option maxRecDepth 20000 in
theorem ggX2_perform_X0_scoreWicket : GoodIn wsX2_perform wsX0_scoreWicket := goodIn_ca (goodIn_r _ [139, 140, 98, 87, 141, 142, 143, 144, 145, 24, 146, 147, 148, 149, 150, 151, 86, 33, 34, 35, 36, 37, 38, 39, 40, 45, 46, 47, 48, 49, 50, 51, 52, 53, 54, 55, 56, 57, 58, 59, 60, 61, 62, 63, 64, 65, 66, 67, 68, 69, 70, 71, 72, 73, 74, 26, 75, 76, 77, 32, 27, 78, 79, 80, 81, 82, 83, 84, 85, 88, 89, 90, 91, 92, 93, 94, 95, 96, 97, 99, 100, 101, 102, 103, 104, 105, 106, 107, 108, 109, 110, 111, 152, 153, 154, 155, 156, 157, 158, 159, 160, 161, 162, 163, 164, 116, 117, 118, 119, 165, 166, 167, 168, 169, 170, 171, 172, 173, 174, 14, 15, 16, 175, 18, 19, 112, 113, 114, 115, 120, 121, 122, 123, 124, 125, 126, 127, 128, 129, 130, 131, 132, 133, 134, 135, 254, 255, 256, 257, 258, 259, 260, 261, 262, 269, 270, 271, 272, 273, 274, 275, 276, 277, 278, 279, 289, 290, 291, 280, 281, 282, 283, 284, 285, 286, 287, 288] (by decide +kernel) (by decide +kernel)) (goodIn_sub (fun _ h => List.mem_cons_of_mem _ (List.mem_append_left _ (List.mem_append_right _ h))) (by decide +kernel))
set_option maxRecDepth 20000 in
theorem gX2_perform_X0_scoreWicket : GoodIn wsX2_perform (wsV RX2 119 RX0 yX0_scoreWicket wsX0_scoreWicket) := goodIn_app (goodIn_of _ (by decide +kernel)) ggX2_perform_X0_scoreWicket
set_option maxRecDepth 20000 in
theorem ggX2_perform_X0_retireBatter : GoodIn wsX2_perform wsX0_retireBatter := goodIn_ca (goodIn_r _ [179, 140, 98, 87, 180, 143, 144, 145, 24, 146, 147, 148, 149, 150, 151, 86, 33, 34, 35, 36, 37, 38, 39, 40, 165, 166, 167, 168, 97, 169, 161, 162, 163, 164, 99, 100, 101, 102, 170, 171, 172, 173, 174, 14, 15, 16, 175, 18, 19, 157, 158, 159, 160, 254, 255, 256, 257, 258, 259, 260, 261, 262, 269, 270, 271, 272, 273, 274, 275, 276, 277, 278, 279, 289, 290, 291] (by decide +kernel) (by decide +kernel)) (goodIn_sub (fun _ h => List.mem_cons_of_mem _ (List.mem_append_left _ (List.mem_append_right _ h))) (by decide +kernel))
set_option maxRecDepth 20000 in
theorem gX2_perform_X0_retireBatter : GoodIn wsX2_perform (wsV RX2 122 RX0 yX0_retireBatter wsX0_retireBatter) := goodIn_app (goodIn_of _ (by decide +kernel)) ggX2_perform_X0_retireBatter
set_option maxRecDepth 20000 in
theorem ggX2_perform_X0_chooseNext : GoodIn wsX2_perform wsX0_chooseNext := goodIn_ca (goodIn_r _ [184, 147, 143, 144, 145, 24, 146, 148, 149, 150, 151, 86, 33, 34, 35, 36, 37, 38, 39, 40, 269, 270, 271, 272, 273, 274, 275, 276, 277, 278, 279, 289, 290, 291] (by decide +kernel) (by decide +kernel)) (goodIn_sub (fun _ h => List.mem_cons_of_mem _ (List.mem_append_left _ (List.mem_append_right _ h))) (by decide +kernel))
set_option maxRecDepth 20000 in
theorem gX2_perform_X0_chooseNext : GoodIn wsX2_perform (wsV RX2 125 RX0 yX0_chooseNext wsX0_chooseNext) := goodIn_app (goodIn_of _ (by decide +kernel)) ggX2_perform_X0_chooseNext
set_option maxRecDepth 20000 in
theorem ggX2_perform_X0_total : GoodIn wsX2_perform wsX0_total := goodIn_ca (goodIn_r _ [119, 49, 33, 34, 35, 36, 37, 38, 39, 40, 269, 270, 271, 272, 273, 274, 275, 276, 277, 278, 279, 289, 290, 291] (by decide +kernel) (by decide +kernel)) (goodIn_sub (fun _ h => List.mem_cons_of_mem _ (List.mem_append_left _ (List.mem_append_right _ h))) (by decide +kernel))
set_option maxRecDepth 20000 in
theorem gX2_perform_X0_total : GoodIn wsX2_perform (wsV RX2 128 RX0 yX0_total wsX0_total) := goodIn_app (goodIn_of _ (by decide +kernel)) ggX2_perform_X0_total
set_option maxRecDepth 20000 in
theorem ggX2_perform_X0_lowerLimit : GoodIn wsX2_perform wsX0_lowerLimit := goodIn_ca (goodIn_r _ [189, 26, 190, 191, 192, 193, 194, 24, 195, 49, 33, 34, 35, 36, 37, 38, 39, 40, 269, 270, 271, 272, 273, 274, 275, 276, 277, 278, 279, 280, 281, 282, 283, 284, 285, 286, 287, 288, 289, 290, 291] (by decide +kernel) (by decide +kernel)) (goodIn_sub (fun _ h => List.mem_cons_of_mem _ (List.mem_append_left _ (List.mem_append_right _ h))) (by decide +kernel))
set_option maxRecDepth 20000 in
theorem gX2_perform_X0_lowerLimit : GoodIn wsX2_perform (wsV RX2 131 RX0 yX0_lowerLimit wsX0_lowerLimit) := goodIn_app (goodIn_of _ (by decide +kernel)) ggX2_perform_X0_lowerLimit
set_option maxRecDepth 20000 in
theorem ggX2_perform_X2_dueEnd : GoodIn wsX2_perform wsX2_dueEnd := goodIn_ca (goodIn_ca (goodIn_r _ [199, 3, 4, 5, 6, 7, 8, 9, 10, 11, 12, 13, 14, 15, 16, 17, 18, 19, 20, 200, 201, 202, 203, 204, 205, 206, 207, 208, 185, 117, 118, 24, 119, 49, 33, 34, 35, 36, 37, 38, 39, 40, 209, 210, 211, 212, 213, 214, 215, 216, 217, 218, 219, 220, 221, 222, 223, 224, 225, 226, 169, 26, 227, 190, 263, 264, 265, 266, 267, 268, 269, 270, 271, 272, 273, 274, 275, 276, 277, 278, 279, 289, 290, 291, 280, 281, 282, 283, 284, 285, 286, 287, 288] (by decide +kernel) (by decide +kernel)) (goodIn_sub (fun _ h => List.mem_cons_of_mem _ (List.mem_append_left _ (List.mem_append_right _ h))) (by decide +kernel))) (goodIn_sub (fun _ h => List.mem_cons_of_mem _ (List.mem_append_right _ h)) (by decide +kernel))
set_option maxRecDepth 20000 in
theorem gX2_perform_X2_dueEnd : GoodIn wsX2_perform (wsV RX2 134 RX2 yX2_dueEnd wsX2_dueEnd) := goodIn_app (goodIn_of _ (by decide +kernel)) ggX2_perform_X2_dueEnd
set_option maxRecDepth 20000 in
theorem ggX2_perform_X0_finish : GoodIn wsX2_perform wsX0_finish := goodIn_ca (goodIn_r _ [231, 49, 147, 161, 162, 163, 36, 164, 38, 39, 40, 269, 270, 271, 272, 273, 274, 275, 276, 277, 278, 279, 289, 290, 291] (by decide +kernel) (by decide +kernel)) (goodIn_sub (fun _ h => List.mem_cons_of_mem _ (List.mem_append_left _ (List.mem_append_right _ h))) (by decide +kernel))
set_option maxRecDepth 20000 in
theorem gX2_perform_X0_finish : GoodIn wsX2_perform (wsV RX2 138 RX0 yX0_finish wsX0_finish) := goodIn_app (goodIn_of _ (by decide +kernel)) ggX2_perform_X0_finish
set_option maxRecDepth 20000 in
theorem ggX2_perform_X2_goOn : GoodIn wsX2_perform wsX2_goOn := goodIn_ca (goodIn_ca (goodIn_r _ [235, 8, 236, 237, 238, 204, 205, 206, 6, 207, 208, 200, 201, 202, 203, 214, 215, 216, 217, 209, 210, 211, 212, 213, 9, 10, 11, 12, 13, 14, 15, 16, 17, 18, 19, 20, 185, 117, 118, 24, 119, 49, 33, 34, 35, 36, 37, 38, 39, 40, 218, 219, 220, 221, 222, 3, 4, 5, 7, 239, 240, 241, 242, 86, 32, 97, 156, 26, 191, 87, 98, 147, 169, 243, 244, 245, 246, 247, 158, 159, 160, 248, 249, 250, 123, 251, 252, 253, 125, 128, 129, 130, 131, 132, 127, 133, 134, 135, 161, 162, 163, 164, 192, 193, 194, 195, 190, 170, 171, 172, 173, 174, 175, 157, 99, 100, 101, 102, 263, 264, 265, 266, 267, 268, 269, 270, 271, 272, 273, 274, 275, 276, 277, 278, 279, 280, 281, 282, 283, 284, 285, 286, 287, 288, 289, 290, 291] (by decide +kernel) (by decide +kernel)) (goodIn_sub (fun _ h => List.mem_cons_of_mem _ (List.mem_append_left _ (List.mem_append_right _ h))) (by decide +kernel))) (goodIn_sub (fun _ h => List.mem_cons_of_mem _ (List.mem_append_right _ h)) (by decide +kernel))
set_option maxRecDepth 20000 in
theorem gX2_perform_X2_goOn : GoodIn wsX2_perform (wsV RX2 142 RX2 yX2_goOn wsX2_goOn) := goodIn_app (goodIn_of _ (by decide +kernel)) ggX2_perform_X2_goOn
theorem dX2_perform_0 : decode cX2_perform 0 = .ok (.aload_n 0, 1) := by decide +kernel
theorem dX2_perform_1 : decode cX2_perform 1 = .ok (.invokevirtual 43, 3) := by decide +kernel
theorem dX2_perform_4 : decode cX2_perform 4 = .ok (.astore_n 2, 1) := by decide +kernel
theorem dX2_perform_5 : decode cX2_perform 5 = .ok (.iconst 0, 1) := by decide +kernel
theorem dX2_perform_6 : decode cX2_perform 6 = .ok (.istore_n 3, 1) := by decide +kernel
theorem dX2_perform_7 : decode cX2_perform 7 = .ok (.aload_n 1, 1) := by decide +kernel
theorem dX2_perform_8 : decode cX2_perform 8 = .ok (.getfield 85, 3) := by decide +kernel
theorem dX2_perform_11 : decode cX2_perform 11 = .ok (.tableswitch 113 1 7 #[41, 53, 62, 71, 80, 92, 101], 41) := by decide +kernel
theorem dX2_perform_52 : decode cX2_perform 52 = .ok (.aload_n 2, 1) := by decide +kernel
theorem dX2_perform_53 : decode cX2_perform 53 = .ok (.aload_n 1, 1) := by decide +kernel
theorem dX2_perform_54 : decode cX2_perform 54 = .ok (.getfield 90, 3) := by decide +kernel
theorem dX2_perform_57 : decode cX2_perform 57 = .ok (.invokevirtual 113, 3) := by decide +kernel
theorem dX2_perform_60 : decode cX2_perform 60 = .ok (.istore_n 3, 1) := by decide +kernel
theorem dX2_perform_61 : decode cX2_perform 61 = .ok (.goto 63, 3) := by decide +kernel
theorem dX2_perform_64 : decode cX2_perform 64 = .ok (.aload_n 2, 1) := by decide +kernel
theorem dX2_perform_65 : decode cX2_perform 65 = .ok (.aload_n 1, 1) := by decide +kernel
theorem dX2_perform_66 : decode cX2_perform 66 = .ok (.invokevirtual 116, 3) := by decide +kernel
theorem dX2_perform_69 : decode cX2_perform 69 = .ok (.istore_n 3, 1) := by decide +kernel
theorem dX2_perform_70 : decode cX2_perform 70 = .ok (.goto 54, 3) := by decide +kernel
theorem dX2_perform_73 : decode cX2_perform 73 = .ok (.aload_n 2, 1) := by decide +kernel
theorem dX2_perform_74 : decode cX2_perform 74 = .ok (.aload_n 1, 1) := by decide +kernel
theorem dX2_perform_75 : decode cX2_perform 75 = .ok (.invokevirtual 119, 3) := by decide +kernel
theorem dX2_perform_78 : decode cX2_perform 78 = .ok (.istore_n 3, 1) := by decide +kernel
theorem dX2_perform_79 : decode cX2_perform 79 = .ok (.goto 45, 3) := by decide +kernel
theorem dX2_perform_82 : decode cX2_perform 82 = .ok (.aload_n 2, 1) := by decide +kernel
theorem dX2_perform_83 : decode cX2_perform 83 = .ok (.aload_n 1, 1) := by decide +kernel
theorem dX2_perform_84 : decode cX2_perform 84 = .ok (.invokevirtual 122, 3) := by decide +kernel
theorem dX2_perform_87 : decode cX2_perform 87 = .ok (.istore_n 3, 1) := by decide +kernel
theorem dX2_perform_88 : decode cX2_perform 88 = .ok (.goto 36, 3) := by decide +kernel
theorem dX2_perform_91 : decode cX2_perform 91 = .ok (.aload_n 2, 1) := by decide +kernel
theorem dX2_perform_92 : decode cX2_perform 92 = .ok (.aload_n 1, 1) := by decide +kernel
theorem dX2_perform_93 : decode cX2_perform 93 = .ok (.getfield 90, 3) := by decide +kernel
theorem dX2_perform_96 : decode cX2_perform 96 = .ok (.invokevirtual 125, 3) := by decide +kernel
theorem dX2_perform_99 : decode cX2_perform 99 = .ok (.istore_n 3, 1) := by decide +kernel
theorem dX2_perform_100 : decode cX2_perform 100 = .ok (.goto 24, 3) := by decide +kernel
theorem dX2_perform_103 : decode cX2_perform 103 = .ok (.aload_n 2, 1) := by decide +kernel
theorem dX2_perform_104 : decode cX2_perform 104 = .ok (.iconst 0, 1) := by decide +kernel
theorem dX2_perform_105 : decode cX2_perform 105 = .ok (.invokevirtual 128, 3) := by decide +kernel
theorem dX2_perform_108 : decode cX2_perform 108 = .ok (.istore_n 3, 1) := by decide +kernel
theorem dX2_perform_109 : decode cX2_perform 109 = .ok (.goto 15, 3) := by decide +kernel
theorem dX2_perform_112 : decode cX2_perform 112 = .ok (.aload_n 2, 1) := by decide +kernel
theorem dX2_perform_113 : decode cX2_perform 113 = .ok (.aload_n 1, 1) := by decide +kernel
theorem dX2_perform_114 : decode cX2_perform 114 = .ok (.getfield 90, 3) := by decide +kernel
theorem dX2_perform_117 : decode cX2_perform 117 = .ok (.invokevirtual 131, 3) := by decide +kernel
theorem dX2_perform_120 : decode cX2_perform 120 = .ok (.istore_n 3, 1) := by decide +kernel
theorem dX2_perform_121 : decode cX2_perform 121 = .ok (.goto 3, 3) := by decide +kernel
theorem dX2_perform_124 : decode cX2_perform 124 = .ok (.aload_n 0, 1) := by decide +kernel
theorem dX2_perform_125 : decode cX2_perform 125 = .ok (.aload_n 1, 1) := by decide +kernel
theorem dX2_perform_126 : decode cX2_perform 126 = .ok (.getfield 85, 3) := by decide +kernel
theorem dX2_perform_129 : decode cX2_perform 129 = .ok (.bipush 6, 2) := by decide +kernel
theorem dX2_perform_131 : decode cX2_perform 131 = .ok (.if_icmp .ne 7, 3) := by decide +kernel
theorem dX2_perform_134 : decode cX2_perform 134 = .ok (.iconst 1, 1) := by decide +kernel
theorem dX2_perform_135 : decode cX2_perform 135 = .ok (.goto 4, 3) := by decide +kernel
theorem dX2_perform_138 : decode cX2_perform 138 = .ok (.iconst 0, 1) := by decide +kernel
theorem dX2_perform_139 : decode cX2_perform 139 = .ok (.invokevirtual 134, 3) := by decide +kernel
theorem dX2_perform_142 : decode cX2_perform 142 = .ok (.istore 4, 2) := by decide +kernel
theorem dX2_perform_144 : decode cX2_perform 144 = .ok (.iload 4, 2) := by decide +kernel
theorem dX2_perform_146 : decode cX2_perform 146 = .ok (.ifCond .eq 13, 3) := by decide +kernel
theorem dX2_perform_149 : decode cX2_perform 149 = .ok (.aload_n 2, 1) := by decide +kernel
theorem dX2_perform_150 : decode cX2_perform 150 = .ok (.iload 4, 2) := by decide +kernel
theorem dX2_perform_152 : decode cX2_perform 152 = .ok (.invokevirtual 138, 3) := by decide +kernel
theorem dX2_perform_155 : decode cX2_perform 155 = .ok (.aload_n 0, 1) := by decide +kernel
theorem dX2_perform_156 : decode cX2_perform 156 = .ok (.invokevirtual 142, 3) := by decide +kernel
theorem dX2_perform_159 : decode cX2_perform 159 = .ok (.iload_n 3, 1) := by decide +kernel
theorem dX2_perform_160 : decode cX2_perform 160 = .ok (.ireturn, 1) := by decide +kernel
set_option maxRecDepth 20000 in
theorem ggX2_dueEnd_X2_present : GoodIn wsX2_dueEnd wsX2_present := goodIn_r _ [5, 6, 7, 8, 9, 4, 10, 11, 12, 13, 14, 15, 16, 17, 18, 64, 65, 66, 67, 68, 69] (by decide +kernel) (by decide +kernel)
set_option maxRecDepth 20000 in
theorem gX2_dueEnd_X2_present : GoodIn wsX2_dueEnd (wsV RX2 43 RX2 yX2_present wsX2_present) := goodIn_app (goodIn_of _ (by decide +kernel)) ggX2_dueEnd_X2_present
set_option maxRecDepth 20000 in
theorem ggX2_dueEnd_X2_isLastPlayed : GoodIn wsX2_dueEnd wsX2_isLastPlayed := goodIn_r _ [22, 6, 23, 24, 25, 4, 26, 27, 64, 65, 66, 67, 68, 69] (by decide +kernel) (by decide +kernel)
set_option maxRecDepth 20000 in
theorem gX2_dueEnd_X2_isLastPlayed : GoodIn wsX2_dueEnd (wsV RX2 145 RX2 yX2_isLastPlayed wsX2_isLastPlayed) := goodIn_app (goodIn_of _ (by decide +kernel)) ggX2_dueEnd_X2_isLastPlayed
set_option maxRecDepth 20000 in
theorem ggX2_dueEnd_X0_total : GoodIn wsX2_dueEnd wsX0_total := goodIn_ca (goodIn_r _ [32, 33, 34, 35, 36, 37, 38, 39, 40, 41, 70, 71, 72, 73, 74, 75, 76, 77, 78, 79, 80, 81, 82, 83] (by decide +kernel) (by decide +kernel)) (goodIn_sub (fun _ h => List.mem_cons_of_mem _ (List.mem_append_left _ (List.mem_append_right _ h))) (by decide +kernel))
set_option maxRecDepth 20000 in
theorem gX2_dueEnd_X0_total : GoodIn wsX2_dueEnd (wsV RX2 128 RX0 yX0_total wsX0_total) := goodIn_app (goodIn_of _ (by decide +kernel)) ggX2_dueEnd_X0_total
set_option maxRecDepth 20000 in
theorem ggX2_dueEnd_X2_target : GoodIn wsX2_dueEnd wsX2_target := goodIn_ca (goodIn_ca (goodIn_r _ [45, 46, 7, 8, 9, 4, 10, 11, 12, 13, 14, 15, 16, 17, 18, 28, 29, 30, 31, 32, 33, 34, 35, 36, 37, 38, 39, 40, 41, 47, 48, 49, 50, 27, 51, 52, 53, 54, 55, 70, 71, 72, 73, 74, 75, 76, 77, 78, 79, 80, 64, 65, 66, 67, 68, 69, 81, 82, 83] (by decide +kernel) (by decide +kernel)) (goodIn_sub (fun _ h => List.mem_cons_of_mem _ (List.mem_append_left _ (List.mem_append_right _ h))) (by decide +kernel))) (goodIn_sub (fun _ h => List.mem_cons_of_mem _ (List.mem_append_right _ h)) (by decide +kernel))
set_option maxRecDepth 20000 in
theorem gX2_dueEnd_X2_target : GoodIn wsX2_dueEnd (wsV RX2 148 RX2 yX2_target wsX2_target) := goodIn_app (goodIn_of _ (by decide +kernel)) ggX2_dueEnd_X2_target
set_option maxRecDepth 20000 in
theorem ggX2_dueEnd_X0_ending : GoodIn wsX2_dueEnd wsX0_ending := goodIn_r _ [59, 60, 61, 62, 63, 70, 71, 72, 73, 74, 75, 76, 77, 78, 79, 80, 84, 85, 86, 87, 88, 89, 90, 91, 92] (by decide +kernel) (by decide +kernel)
set_option maxRecDepth 20000 in
theorem gX2_dueEnd_X0_ending : GoodIn wsX2_dueEnd (wsV RX2 151 RX0 yX0_ending wsX0_ending) := goodIn_app (goodIn_of _ (by decide +kernel)) ggX2_dueEnd_X0_ending
theorem dX2_dueEnd_0 : decode cX2_dueEnd 0 = .ok (.aload_n 0, 1) := by decide +kernel
theorem dX2_dueEnd_1 : decode cX2_dueEnd 1 = .ok (.invokevirtual 43, 3) := by decide +kernel
theorem dX2_dueEnd_4 : decode cX2_dueEnd 4 = .ok (.astore_n 2, 1) := by decide +kernel
theorem dX2_dueEnd_5 : decode cX2_dueEnd 5 = .ok (.aload_n 0, 1) := by decide +kernel
theorem dX2_dueEnd_6 : decode cX2_dueEnd 6 = .ok (.invokevirtual 145, 3) := by decide +kernel
theorem dX2_dueEnd_9 : decode cX2_dueEnd 9 = .ok (.ifCond .eq 17, 3) := by decide +kernel
theorem dX2_dueEnd_12 : decode cX2_dueEnd 12 = .ok (.aload_n 2, 1) := by decide +kernel
theorem dX2_dueEnd_13 : decode cX2_dueEnd 13 = .ok (.iconst 0, 1) := by decide +kernel
theorem dX2_dueEnd_14 : decode cX2_dueEnd 14 = .ok (.invokevirtual 128, 3) := by decide +kernel
theorem dX2_dueEnd_17 : decode cX2_dueEnd 17 = .ok (.aload_n 0, 1) := by decide +kernel
theorem dX2_dueEnd_18 : decode cX2_dueEnd 18 = .ok (.invokevirtual 148, 3) := by decide +kernel
theorem dX2_dueEnd_21 : decode cX2_dueEnd 21 = .ok (.if_icmp .lt 5, 3) := by decide +kernel
theorem dX2_dueEnd_24 : decode cX2_dueEnd 24 = .ok (.iconst 4, 1) := by decide +kernel
theorem dX2_dueEnd_25 : decode cX2_dueEnd 25 = .ok (.ireturn, 1) := by decide +kernel
theorem dX2_dueEnd_26 : decode cX2_dueEnd 26 = .ok (.iload_n 1, 1) := by decide +kernel
theorem dX2_dueEnd_27 : decode cX2_dueEnd 27 = .ok (.ifCond .eq 7, 3) := by decide +kernel
theorem dX2_dueEnd_30 : decode cX2_dueEnd 30 = .ok (.iconst 3, 1) := by decide +kernel
theorem dX2_dueEnd_31 : decode cX2_dueEnd 31 = .ok (.goto 7, 3) := by decide +kernel
theorem dX2_dueEnd_34 : decode cX2_dueEnd 34 = .ok (.aload_n 2, 1) := by decide +kernel
theorem dX2_dueEnd_35 : decode cX2_dueEnd 35 = .ok (.invokevirtual 151, 3) := by decide +kernel
theorem dX2_dueEnd_38 : decode cX2_dueEnd 38 = .ok (.ireturn, 1) := by decide +kernel
set_option maxRecDepth 20000 in
theorem ggX2_goOn_X2_lastNumber : GoodIn wsX2_goOn wsX2_lastNumber := goodIn_r _ [9, 10, 118, 119, 120, 121, 122, 123] (by decide +kernel) (by decide +kernel)
set_option maxRecDepth 20000 in
theorem gX2_goOn_X2_lastNumber : GoodIn wsX2_goOn (wsV RX2 81 RX2 yX2_lastNumber wsX2_lastNumber) := goodIn_app (goodIn_of _ (by decide +kernel)) ggX2_goOn_X2_lastNumber
set_option maxRecDepth 20000 in
theorem ggX2_goOn_X2_isLastPlayed : GoodIn wsX2_goOn wsX2_isLastPlayed := goodIn_r _ [14, 1, 5, 6, 7, 8, 9, 10, 118, 119, 120, 121, 122, 123] (by decide +kernel) (by decide +kernel)
set_option maxRecDepth 20000 in
theorem gX2_goOn_X2_isLastPlayed : GoodIn wsX2_goOn (wsV RX2 145 RX2 yX2_isLastPlayed wsX2_isLastPlayed) := goodIn_app (goodIn_of _ (by decide +kernel)) ggX2_goOn_X2_isLastPlayed
set_option maxRecDepth 20000 in
theorem ggX2_goOn_X2_hasResources : GoodIn wsX2_goOn wsX2_hasResources := goodIn_r _ [18, 10, 118, 119, 120, 121, 122, 123] (by decide +kernel) (by decide +kernel)
set_option maxRecDepth 20000 in
theorem gX2_goOn_X2_hasResources : GoodIn wsX2_goOn (wsV RX2 50 RX2 yX2_hasResources wsX2_hasResources) := goodIn_app (goodIn_of _ (by decide +kernel)) ggX2_goOn_X2_hasResources
set_option maxRecDepth 20000 in
theorem ggX2_goOn_X2_target : GoodIn wsX2_goOn wsX2_target := goodIn_ca (goodIn_ca (goodIn_r _ [22, 23, 24, 25, 26, 8, 27, 28, 29, 30, 31, 32, 33, 34, 35, 36, 37, 38, 39, 40, 41, 42, 43, 44, 45, 46, 47, 48, 49, 15, 16, 17, 18, 10, 50, 51, 52, 53, 54, 124, 125, 126, 127, 128, 129, 130, 131, 132, 133, 134, 118, 119, 120, 121, 122, 123, 144, 145, 146] (by decide +kernel) (by decide +kernel)) (goodIn_sub (fun _ h => List.mem_cons_of_mem _ (List.mem_append_left _ (List.mem_append_right _ h))) (by decide +kernel))) (goodIn_sub (fun _ h => List.mem_cons_of_mem _ (List.mem_append_right _ h)) (by decide +kernel))
set_option maxRecDepth 20000 in
theorem gX2_goOn_X2_target : GoodIn wsX2_goOn (wsV RX2 148 RX2 yX2_target wsX2_target) := goodIn_app (goodIn_of _ (by decide +kernel)) ggX2_goOn_X2_target
set_option maxRecDepth 20000 in
theorem ggX2_goOn_X2_present : GoodIn wsX2_goOn wsX2_present := goodIn_r _ [58, 1, 24, 25, 26, 8, 27, 28, 29, 30, 31, 32, 33, 34, 35, 118, 119, 120, 121, 122, 123] (by decide +kernel) (by decide +kernel)
set_option maxRecDepth 20000 in
theorem gX2_goOn_X2_present : GoodIn wsX2_goOn (wsV RX2 43 RX2 yX2_present wsX2_present) := goodIn_app (goodIn_of _ (by decide +kernel)) ggX2_goOn_X2_present
set_option maxRecDepth 20000 in
theorem ggX2_goOn_X0_start : GoodIn wsX2_goOn wsX0_start := goodIn_ca (goodIn_r _ [62, 41, 63, 64, 65, 66, 67, 68, 69, 70, 71, 72, 73, 74, 75, 45, 76, 48, 77, 78, 79, 80, 47, 49, 81, 82, 83, 84, 85, 86, 87, 88, 89, 90, 91, 92, 93, 94, 95, 96, 97, 98, 99, 100, 101, 102, 103, 104, 39, 105, 106, 42, 43, 44, 46, 107, 108, 109, 110, 111, 29, 30, 31, 112, 33, 34, 113, 114, 115, 116, 117, 124, 125, 126, 127, 128, 129, 130, 131, 132, 133, 134, 144, 145, 146, 135, 136, 137, 138, 139, 140, 141, 142, 143] (by decide +kernel) (by decide +kernel)) (goodIn_sub (fun _ h => List.mem_cons_of_mem _ (List.mem_append_left _ (List.mem_append_right _ h))) (by decide +kernel))
set_option maxRecDepth 20000 in
theorem gX2_goOn_X0_start : GoodIn wsX2_goOn (wsV RX2 53 RX0 yX0_start wsX0_start) := goodIn_app (goodIn_of _ (by decide +kernel)) ggX2_goOn_X0_start
theorem dX2_goOn_0 : decode cX2_goOn 0 = .ok (.aload_n 0, 1) := by decide +kernel
theorem dX2_goOn_1 : decode cX2_goOn 1 = .ok (.getfield 31, 3) := by decide +kernel
theorem dX2_goOn_4 : decode cX2_goOn 4 = .ok (.iconst 1, 1) := by decide +kernel
theorem dX2_goOn_5 : decode cX2_goOn 5 = .ok (.iadd, 1) := by decide +kernel
theorem dX2_goOn_6 : decode cX2_goOn 6 = .ok (.aload_n 0, 1) := by decide +kernel
theorem dX2_goOn_7 : decode cX2_goOn 7 = .ok (.invokevirtual 81, 3) := by decide +kernel
theorem dX2_goOn_10 : decode cX2_goOn 10 = .ok (.if_icmp .ne 7, 3) := by decide +kernel
theorem dX2_goOn_13 : decode cX2_goOn 13 = .ok (.iconst 1, 1) := by decide +kernel
theorem dX2_goOn_14 : decode cX2_goOn 14 = .ok (.goto 4, 3) := by decide +kernel
theorem dX2_goOn_17 : decode cX2_goOn 17 = .ok (.iconst 0, 1) := by decide +kernel
theorem dX2_goOn_18 : decode cX2_goOn 18 = .ok (.istore_n 1, 1) := by decide +kernel
theorem dX2_goOn_19 : decode cX2_goOn 19 = .ok (.aload_n 0, 1) := by decide +kernel
theorem dX2_goOn_20 : decode cX2_goOn 20 = .ok (.invokevirtual 145, 3) := by decide +kernel
theorem dX2_goOn_23 : decode cX2_goOn 23 = .ok (.ifCond .ne 21, 3) := by decide +kernel
theorem dX2_goOn_26 : decode cX2_goOn 26 = .ok (.iload_n 1, 1) := by decide +kernel
theorem dX2_goOn_27 : decode cX2_goOn 27 = .ok (.ifCond .eq 23, 3) := by decide +kernel
theorem dX2_goOn_30 : decode cX2_goOn 30 = .ok (.aload_n 0, 1) := by decide +kernel
theorem dX2_goOn_31 : decode cX2_goOn 31 = .ok (.invokevirtual 50, 3) := by decide +kernel
theorem dX2_goOn_34 : decode cX2_goOn 34 = .ok (.ifCond .ne 16, 3) := by decide +kernel
theorem dX2_goOn_37 : decode cX2_goOn 37 = .ok (.aload_n 0, 1) := by decide +kernel
theorem dX2_goOn_38 : decode cX2_goOn 38 = .ok (.invokevirtual 148, 3) := by decide +kernel
theorem dX2_goOn_41 : decode cX2_goOn 41 = .ok (.ifCond .gt 9, 3) := by decide +kernel
theorem dX2_goOn_44 : decode cX2_goOn 44 = .ok (.aload_n 0, 1) := by decide +kernel
theorem dX2_goOn_45 : decode cX2_goOn 45 = .ok (.iconst 1, 1) := by decide +kernel
theorem dX2_goOn_46 : decode cX2_goOn 46 = .ok (.putfield 21, 3) := by decide +kernel
theorem dX2_goOn_49 : decode cX2_goOn 49 = .ok (.return_, 1) := by decide +kernel
theorem dX2_goOn_50 : decode cX2_goOn 50 = .ok (.aload_n 0, 1) := by decide +kernel
theorem dX2_goOn_51 : decode cX2_goOn 51 = .ok (.invokevirtual 43, 3) := by decide +kernel
theorem dX2_goOn_54 : decode cX2_goOn 54 = .ok (.getfield 95, 3) := by decide +kernel
theorem dX2_goOn_57 : decode cX2_goOn 57 = .ok (.getfield 154, 3) := by decide +kernel
theorem dX2_goOn_60 : decode cX2_goOn 60 = .ok (.istore_n 2, 1) := by decide +kernel
theorem dX2_goOn_61 : decode cX2_goOn 61 = .ok (.aload_n 0, 1) := by decide +kernel
theorem dX2_goOn_62 : decode cX2_goOn 62 = .ok (.dup, 1) := by decide +kernel
theorem dX2_goOn_63 : decode cX2_goOn 63 = .ok (.getfield 31, 3) := by decide +kernel
theorem dX2_goOn_66 : decode cX2_goOn 66 = .ok (.iconst 1, 1) := by decide +kernel
theorem dX2_goOn_67 : decode cX2_goOn 67 = .ok (.iadd, 1) := by decide +kernel
theorem dX2_goOn_68 : decode cX2_goOn 68 = .ok (.putfield 31, 3) := by decide +kernel
theorem dX2_goOn_71 : decode cX2_goOn 71 = .ok (.aload_n 0, 1) := by decide +kernel
theorem dX2_goOn_72 : decode cX2_goOn 72 = .ok (.invokevirtual 43, 3) := by decide +kernel
theorem dX2_goOn_75 : decode cX2_goOn 75 = .ok (.iload_n 2, 1) := by decide +kernel
theorem dX2_goOn_76 : decode cX2_goOn 76 = .ok (.aload_n 0, 1) := by decide +kernel
theorem dX2_goOn_77 : decode cX2_goOn 77 = .ok (.invokevirtual 50, 3) := by decide +kernel
theorem dX2_goOn_80 : decode cX2_goOn 80 = .ok (.invokevirtual 53, 3) := by decide +kernel
theorem dX2_goOn_83 : decode cX2_goOn 83 = .ok (.return_, 1) := by decide +kernel
set_option maxRecDepth 20000 in
theorem ggX2_target_X2_at : GoodIn wsX2_target wsX2_at := goodIn_r _ [6, 7, 8, 9, 10, 11, 12, 13, 14, 50, 51, 52, 53, 54, 55] (by decide +kernel) (by decide +kernel)
set_option maxRecDepth 20000 in
theorem gX2_target_X2_at : GoodIn wsX2_target (wsV RX2 77 RX2 yX2_at wsX2_at) := goodIn_app (goodIn_of _ (by decide +kernel)) ggX2_target_X2_at
set_option maxRecDepth 20000 in
theorem ggX2_target_X0_total : GoodIn wsX2_target wsX0_total := goodIn_ca (goodIn_r _ [19, 20, 21, 22, 23, 24, 25, 26, 27, 28, 39, 40, 41, 42, 43, 44, 45, 46, 47, 48, 49, 56, 57, 58] (by decide +kernel) (by decide +kernel)) (goodIn_sub (fun _ h => List.mem_cons_of_mem _ (List.mem_append_left _ (List.mem_append_right _ h))) (by decide +kernel))
set_option maxRecDepth 20000 in
theorem gX2_target_X0_total : GoodIn wsX2_target (wsV RX2 128 RX0 yX0_total wsX0_total) := goodIn_app (goodIn_of _ (by decide +kernel)) ggX2_target_X0_total
set_option maxRecDepth 20000 in
theorem ggX2_target_X2_hasResources : GoodIn wsX2_target wsX2_hasResources := goodIn_r _ [32, 33, 50, 51, 52, 53, 54, 55] (by decide +kernel) (by decide +kernel)
set_option maxRecDepth 20000 in
theorem gX2_target_X2_hasResources : GoodIn wsX2_target (wsV RX2 50 RX2 yX2_hasResources wsX2_hasResources) := goodIn_app (goodIn_of _ (by decide +kernel)) ggX2_target_X2_hasResources
set_option maxRecDepth 20000 in
theorem ggX2_target_X2_revisedTarget : GoodIn wsX2_target wsX2_revisedTarget := goodIn_ca (goodIn_r _ [36, 37, 38] (by decide +kernel) (by decide +kernel)) (goodIn_sub (fun _ h => List.mem_cons_of_mem _ (List.mem_append_right _ h)) (by decide +kernel))
set_option maxRecDepth 20000 in
theorem gX2_target_X2_revisedTarget : GoodIn wsX2_target (va_wsS RX2 160 yX2_revisedTarget wsX2_revisedTarget) := goodIn_app (goodIn_of _ (by decide +kernel)) ggX2_target_X2_revisedTarget
theorem dX2_target_0 : decode cX2_target 0 = .ok (.aload_n 0, 1) := by decide +kernel
theorem dX2_target_1 : decode cX2_target 1 = .ok (.iconst 0, 1) := by decide +kernel
theorem dX2_target_2 : decode cX2_target 2 = .ok (.invokevirtual 77, 3) := by decide +kernel
theorem dX2_target_5 : decode cX2_target 5 = .ok (.iconst 0, 1) := by decide +kernel
theorem dX2_target_6 : decode cX2_target 6 = .ok (.invokevirtual 128, 3) := by decide +kernel
theorem dX2_target_9 : decode cX2_target 9 = .ok (.istore_n 1, 1) := by decide +kernel
theorem dX2_target_10 : decode cX2_target 10 = .ok (.aload_n 0, 1) := by decide +kernel
theorem dX2_target_11 : decode cX2_target 11 = .ok (.invokevirtual 50, 3) := by decide +kernel
theorem dX2_target_14 : decode cX2_target 14 = .ok (.ifCond .eq 27, 3) := by decide +kernel
theorem dX2_target_17 : decode cX2_target 17 = .ok (.iload_n 1, 1) := by decide +kernel
theorem dX2_target_18 : decode cX2_target 18 = .ok (.i2l, 1) := by decide +kernel
theorem dX2_target_19 : decode cX2_target 19 = .ok (.aload_n 0, 1) := by decide +kernel
theorem dX2_target_20 : decode cX2_target 20 = .ok (.iconst 0, 1) := by decide +kernel
theorem dX2_target_21 : decode cX2_target 21 = .ok (.invokevirtual 77, 3) := by decide +kernel
theorem dX2_target_24 : decode cX2_target 24 = .ok (.getfield 157, 3) := by decide +kernel
theorem dX2_target_27 : decode cX2_target 27 = .ok (.i2l, 1) := by decide +kernel
theorem dX2_target_28 : decode cX2_target 28 = .ok (.aload_n 0, 1) := by decide +kernel
theorem dX2_target_29 : decode cX2_target 29 = .ok (.iconst 1, 1) := by decide +kernel
theorem dX2_target_30 : decode cX2_target 30 = .ok (.invokevirtual 77, 3) := by decide +kernel
theorem dX2_target_33 : decode cX2_target 33 = .ok (.getfield 157, 3) := by decide +kernel
theorem dX2_target_36 : decode cX2_target 36 = .ok (.i2l, 1) := by decide +kernel
theorem dX2_target_37 : decode cX2_target 37 = .ok (.invokestatic 160, 3) := by decide +kernel
theorem dX2_target_40 : decode cX2_target 40 = .ok (.ireturn, 1) := by decide +kernel
theorem dX2_target_41 : decode cX2_target 41 = .ok (.iload_n 1, 1) := by decide +kernel
theorem dX2_target_42 : decode cX2_target 42 = .ok (.aload_n 0, 1) := by decide +kernel
theorem dX2_target_43 : decode cX2_target 43 = .ok (.iconst 2, 1) := by decide +kernel
theorem dX2_target_44 : decode cX2_target 44 = .ok (.invokevirtual 77, 3) := by decide +kernel
theorem dX2_target_47 : decode cX2_target 47 = .ok (.iconst 0, 1) := by decide +kernel
theorem dX2_target_48 : decode cX2_target 48 = .ok (.invokevirtual 128, 3) := by decide +kernel
theorem dX2_target_51 : decode cX2_target 51 = .ok (.iadd, 1) := by decide +kernel
theorem dX2_target_52 : decode cX2_target 52 = .ok (.aload_n 0, 1) := by decide +kernel
theorem dX2_target_53 : decode cX2_target 53 = .ok (.iconst 1, 1) := by decide +kernel
theorem dX2_target_54 : decode cX2_target 54 = .ok (.invokevirtual 77, 3) := by decide +kernel
theorem dX2_target_57 : decode cX2_target 57 = .ok (.iconst 0, 1) := by decide +kernel
theorem dX2_target_58 : decode cX2_target 58 = .ok (.invokevirtual 128, 3) := by decide +kernel
theorem dX2_target_61 : decode cX2_target 61 = .ok (.isub, 1) := by decide +kernel
theorem dX2_target_62 : decode cX2_target 62 = .ok (.iconst 1, 1) := by decide +kernel
theorem dX2_target_63 : decode cX2_target 63 = .ok (.iadd, 1) := by decide +kernel
theorem dX2_target_64 : decode cX2_target 64 = .ok (.ireturn, 1) := by decide +kernel
theorem dX2_revisedTarget_0 : decode cX2_revisedTarget 0 = .ok (.lload 4, 2) := by decide +kernel
theorem dX2_revisedTarget_2 : decode cX2_revisedTarget 2 = .ok (.lload_n 2, 1) := by decide +kernel
theorem dX2_revisedTarget_3 : decode cX2_revisedTarget 3 = .ok (.lcmp, 1) := by decide +kernel
theorem dX2_revisedTarget_4 : decode cX2_revisedTarget 4 = .ok (.ifCond .le 21, 3) := by decide +kernel
theorem dX2_revisedTarget_7 : decode cX2_revisedTarget 7 = .ok (.lload_n 0, 1) := by decide +kernel
theorem dX2_revisedTarget_8 : decode cX2_revisedTarget 8 = .ok (.ldc2_w 164, 3) := by decide +kernel
theorem dX2_revisedTarget_11 : decode cX2_revisedTarget 11 = .ok (.lload 4, 2) := by decide +kernel
theorem dX2_revisedTarget_13 : decode cX2_revisedTarget 13 = .ok (.lload_n 2, 1) := by decide +kernel
theorem dX2_revisedTarget_14 : decode cX2_revisedTarget 14 = .ok (.lsub, 1) := by decide +kernel
theorem dX2_revisedTarget_15 : decode cX2_revisedTarget 15 = .ok (.lmul, 1) := by decide +kernel
theorem dX2_revisedTarget_16 : decode cX2_revisedTarget 16 = .ok (.ldc2_w 166, 3) := by decide +kernel
theorem dX2_revisedTarget_19 : decode cX2_revisedTarget 19 = .ok (.ldiv, 1) := by decide +kernel
theorem dX2_revisedTarget_20 : decode cX2_revisedTarget 20 = .ok (.ladd, 1) := by decide +kernel
theorem dX2_revisedTarget_21 : decode cX2_revisedTarget 21 = .ok (.l2i, 1) := by decide +kernel
theorem dX2_revisedTarget_22 : decode cX2_revisedTarget 22 = .ok (.iconst 1, 1) := by decide +kernel
theorem dX2_revisedTarget_23 : decode cX2_revisedTarget 23 = .ok (.iadd, 1) := by decide +kernel
theorem dX2_revisedTarget_24 : decode cX2_revisedTarget 24 = .ok (.ireturn, 1) := by decide +kernel
theorem dX2_revisedTarget_25 : decode cX2_revisedTarget 25 = .ok (.lload_n 2, 1) := by decide +kernel
theorem dX2_revisedTarget_26 : decode cX2_revisedTarget 26 = .ok (.lconst 0, 1) := by decide +kernel
theorem dX2_revisedTarget_27 : decode cX2_revisedTarget 27 = .ok (.lcmp, 1) := by decide +kernel
theorem dX2_revisedTarget_28 : decode cX2_revisedTarget 28 = .ok (.ifCond .le 15, 3) := by decide +kernel
theorem dX2_revisedTarget_31 : decode cX2_revisedTarget 31 = .ok (.lload_n 0, 1) := by decide +kernel
theorem dX2_revisedTarget_32 : decode cX2_revisedTarget 32 = .ok (.lload 4, 2) := by decide +kernel
theorem dX2_revisedTarget_34 : decode cX2_revisedTarget 34 = .ok (.lmul, 1) := by decide +kernel
theorem dX2_revisedTarget_35 : decode cX2_revisedTarget 35 = .ok (.lload_n 2, 1) := by decide +kernel
theorem dX2_revisedTarget_36 : decode cX2_revisedTarget 36 = .ok (.ldiv, 1) := by decide +kernel
theorem dX2_revisedTarget_37 : decode cX2_revisedTarget 37 = .ok (.l2i, 1) := by decide +kernel
theorem dX2_revisedTarget_38 : decode cX2_revisedTarget 38 = .ok (.iconst 1, 1) := by decide +kernel
theorem dX2_revisedTarget_39 : decode cX2_revisedTarget 39 = .ok (.iadd, 1) := by decide +kernel
theorem dX2_revisedTarget_40 : decode cX2_revisedTarget 40 = .ok (.goto 4, 3) := by decide +kernel
theorem dX2_revisedTarget_43 : decode cX2_revisedTarget 43 = .ok (.iconst 1, 1) := by decide +kernel
theorem dX2_revisedTarget_44 : decode cX2_revisedTarget 44 = .ok (.ireturn, 1) := by decide +kernel
set_option maxRecDepth 20000 in
theorem ggX2_outcome_X2_lastNumber : GoodIn wsX2_outcome wsX2_lastNumber := goodIn_r _ [7, 8, 63, 64, 65, 66, 67, 68] (by decide +kernel) (by decide +kernel)
set_option maxRecDepth 20000 in
theorem gX2_outcome_X2_lastNumber : GoodIn wsX2_outcome (wsV RX2 81 RX2 yX2_lastNumber wsX2_lastNumber) := goodIn_app (goodIn_of _ (by decide +kernel)) ggX2_outcome_X2_lastNumber
set_option maxRecDepth 20000 in
theorem ggX2_outcome_X2_battingTeam : GoodIn wsX2_outcome wsX2_battingTeam := goodIn_r _ [12, 13, 63, 64, 65, 66, 67, 68] (by decide +kernel) (by decide +kernel)
set_option maxRecDepth 20000 in
theorem gX2_outcome_X2_battingTeam : GoodIn wsX2_outcome (wsV RX2 168 RX2 yX2_battingTeam wsX2_battingTeam) := goodIn_app (goodIn_of _ (by decide +kernel)) ggX2_outcome_X2_battingTeam
set_option maxRecDepth 20000 in
theorem ggX2_outcome_X2_isLastPlayed : GoodIn wsX2_outcome wsX2_isLastPlayed := goodIn_r _ [17, 18, 3, 4, 5, 6, 7, 8, 63, 64, 65, 66, 67, 68] (by decide +kernel) (by decide +kernel)
set_option maxRecDepth 20000 in
theorem gX2_outcome_X2_isLastPlayed : GoodIn wsX2_outcome (wsV RX2 145 RX2 yX2_isLastPlayed wsX2_isLastPlayed) := goodIn_app (goodIn_of _ (by decide +kernel)) ggX2_outcome_X2_isLastPlayed
set_option maxRecDepth 20000 in
theorem ggX2_outcome_X2_present : GoodIn wsX2_outcome wsX2_present := goodIn_r _ [22, 18, 23, 24, 25, 6, 26, 27, 28, 29, 30, 31, 32, 33, 34, 63, 64, 65, 66, 67, 68] (by decide +kernel) (by decide +kernel)
set_option maxRecDepth 20000 in
theorem gX2_outcome_X2_present : GoodIn wsX2_outcome (wsV RX2 43 RX2 yX2_present wsX2_present) := goodIn_app (goodIn_of _ (by decide +kernel)) ggX2_outcome_X2_present
set_option maxRecDepth 20000 in
theorem ggX2_outcome_X0_total : GoodIn wsX2_outcome wsX0_total := goodIn_ca (goodIn_r _ [39, 40, 41, 42, 43, 44, 45, 46, 47, 48, 69, 70, 71, 72, 73, 74, 75, 76, 77, 78, 79, 80, 81, 82] (by decide +kernel) (by decide +kernel)) (goodIn_sub (fun _ h => List.mem_cons_of_mem _ (List.mem_append_left _ (List.mem_append_right _ h))) (by decide +kernel))
set_option maxRecDepth 20000 in
theorem gX2_outcome_X0_total : GoodIn wsX2_outcome (wsV RX2 128 RX0 yX0_total wsX0_total) := goodIn_app (goodIn_of _ (by decide +kernel)) ggX2_outcome_X0_total
set_option maxRecDepth 20000 in
theorem ggX2_outcome_X2_target : GoodIn wsX2_outcome wsX2_target := goodIn_ca (goodIn_ca (goodIn_r _ [52, 53, 23, 24, 25, 6, 26, 27, 28, 29, 30, 31, 32, 33, 34, 35, 36, 37, 38, 39, 40, 41, 42, 43, 44, 45, 46, 47, 48, 54, 55, 56, 57, 8, 58, 59, 60, 61, 62, 69, 70, 71, 72, 73, 74, 75, 76, 77, 78, 79, 63, 64, 65, 66, 67, 68, 80, 81, 82] (by decide +kernel) (by decide +kernel)) (goodIn_sub (fun _ h => List.mem_cons_of_mem _ (List.mem_append_left _ (List.mem_append_right _ h))) (by decide +kernel))) (goodIn_sub (fun _ h => List.mem_cons_of_mem _ (List.mem_append_right _ h)) (by decide +kernel))
set_option maxRecDepth 20000 in
theorem gX2_outcome_X2_target : GoodIn wsX2_outcome (wsV RX2 148 RX2 yX2_target wsX2_target) := goodIn_app (goodIn_of _ (by decide +kernel)) ggX2_outcome_X2_target
theorem dX2_outcome_0 : decode cX2_outcome 0 = .ok (.aload_n 0, 1) := by decide +kernel
theorem dX2_outcome_1 : decode cX2_outcome 1 = .ok (.getfield 17, 3) := by decide +kernel
theorem dX2_outcome_4 : decode cX2_outcome 4 = .ok (.ifCond .eq 10, 3) := by decide +kernel
theorem dX2_outcome_7 : decode cX2_outcome 7 = .ok (.aload_n 0, 1) := by decide +kernel
theorem dX2_outcome_8 : decode cX2_outcome 8 = .ok (.getfield 21, 3) := by decide +kernel
theorem dX2_outcome_11 : decode cX2_outcome 11 = .ok (.ifCond .ne 5, 3) := by decide +kernel
theorem dX2_outcome_14 : decode cX2_outcome 14 = .ok (.iconst 0, 1) := by decide +kernel
theorem dX2_outcome_15 : decode cX2_outcome 15 = .ok (.ireturn, 1) := by decide +kernel
theorem dX2_outcome_16 : decode cX2_outcome 16 = .ok (.aload_n 0, 1) := by decide +kernel
theorem dX2_outcome_17 : decode cX2_outcome 17 = .ok (.aload_n 0, 1) := by decide +kernel
theorem dX2_outcome_18 : decode cX2_outcome 18 = .ok (.invokevirtual 81, 3) := by decide +kernel
theorem dX2_outcome_21 : decode cX2_outcome 21 = .ok (.invokevirtual 168, 3) := by decide +kernel
theorem dX2_outcome_24 : decode cX2_outcome 24 = .ok (.istore_n 1, 1) := by decide +kernel
theorem dX2_outcome_25 : decode cX2_outcome 25 = .ok (.aload_n 0, 1) := by decide +kernel
theorem dX2_outcome_26 : decode cX2_outcome 26 = .ok (.invokevirtual 145, 3) := by decide +kernel
theorem dX2_outcome_29 : decode cX2_outcome 29 = .ok (.ifCond .eq 18, 3) := by decide +kernel
theorem dX2_outcome_32 : decode cX2_outcome 32 = .ok (.aload_n 0, 1) := by decide +kernel
theorem dX2_outcome_33 : decode cX2_outcome 33 = .ok (.invokevirtual 43, 3) := by decide +kernel
theorem dX2_outcome_36 : decode cX2_outcome 36 = .ok (.iconst 0, 1) := by decide +kernel
theorem dX2_outcome_37 : decode cX2_outcome 37 = .ok (.invokevirtual 128, 3) := by decide +kernel
theorem dX2_outcome_40 : decode cX2_outcome 40 = .ok (.aload_n 0, 1) := by decide +kernel
theorem dX2_outcome_41 : decode cX2_outcome 41 = .ok (.invokevirtual 148, 3) := by decide +kernel
theorem dX2_outcome_44 : decode cX2_outcome 44 = .ok (.if_icmp .lt 7, 3) := by decide +kernel
theorem dX2_outcome_47 : decode cX2_outcome 47 = .ok (.iconst 1, 1) := by decide +kernel
theorem dX2_outcome_48 : decode cX2_outcome 48 = .ok (.iload_n 1, 1) := by decide +kernel
theorem dX2_outcome_49 : decode cX2_outcome 49 = .ok (.iadd, 1) := by decide +kernel
theorem dX2_outcome_50 : decode cX2_outcome 50 = .ok (.ireturn, 1) := by decide +kernel
theorem dX2_outcome_51 : decode cX2_outcome 51 = .ok (.aload_n 0, 1) := by decide +kernel
theorem dX2_outcome_52 : decode cX2_outcome 52 = .ok (.invokevirtual 43, 3) := by decide +kernel
theorem dX2_outcome_55 : decode cX2_outcome 55 = .ok (.iconst 0, 1) := by decide +kernel
theorem dX2_outcome_56 : decode cX2_outcome 56 = .ok (.invokevirtual 128, 3) := by decide +kernel
theorem dX2_outcome_59 : decode cX2_outcome 59 = .ok (.aload_n 0, 1) := by decide +kernel
theorem dX2_outcome_60 : decode cX2_outcome 60 = .ok (.invokevirtual 148, 3) := by decide +kernel
theorem dX2_outcome_63 : decode cX2_outcome 63 = .ok (.iconst 1, 1) := by decide +kernel
theorem dX2_outcome_64 : decode cX2_outcome 64 = .ok (.isub, 1) := by decide +kernel
theorem dX2_outcome_65 : decode cX2_outcome 65 = .ok (.if_icmp .ne 7, 3) := by decide +kernel
theorem dX2_outcome_68 : decode cX2_outcome 68 = .ok (.iconst 3, 1) := by decide +kernel
theorem dX2_outcome_69 : decode cX2_outcome 69 = .ok (.goto 6, 3) := by decide +kernel
theorem dX2_outcome_72 : decode cX2_outcome 72 = .ok (.iconst 2, 1) := by decide +kernel
theorem dX2_outcome_73 : decode cX2_outcome 73 = .ok (.iload_n 1, 1) := by decide +kernel
theorem dX2_outcome_74 : decode cX2_outcome 74 = .ok (.isub, 1) := by decide +kernel
theorem dX2_outcome_75 : decode cX2_outcome 75 = .ok (.ireturn, 1) := by decide +kernel
set_option maxRecDepth 20000 in
theorem ggX2_numberOfPresent_X2_present : GoodIn wsX2_numberOfPresent wsX2_present := goodIn_r _ [15, 1, 16, 17, 18, 14, 19, 20, 21, 22, 23, 24, 25, 26, 27, 52, 53, 54, 55, 56, 57] (by decide +kernel) (by decide +kernel)
set_option maxRecDepth 20000 in
theorem gX2_numberOfPresent_X2_present : GoodIn wsX2_numberOfPresent (wsV RX2 43 RX2 yX2_present wsX2_present) := goodIn_app (goodIn_of _ (by decide +kernel)) ggX2_numberOfPresent_X2_present
set_option maxRecDepth 20000 in
theorem ggX2_numberOfPresent_X2_battingTeam : GoodIn wsX2_numberOfPresent wsX2_battingTeam := goodIn_r _ [31, 32, 52, 53, 54, 55, 56, 57] (by decide +kernel) (by decide +kernel)
set_option maxRecDepth 20000 in
theorem gX2_numberOfPresent_X2_battingTeam : GoodIn wsX2_numberOfPresent (wsV RX2 168 RX2 yX2_battingTeam wsX2_battingTeam) := goodIn_app (goodIn_of _ (by decide +kernel)) ggX2_numberOfPresent_X2_battingTeam
set_option maxRecDepth 20000 in
theorem ggX2_numberOfPresent_X0_nextBatter : GoodIn wsX2_numberOfPresent wsX0_nextBatter := goodIn_ca (goodIn_r _ [37, 38, 39, 40, 41, 36, 42, 43, 44, 45, 46, 47, 48, 49, 50, 51, 58, 59, 60, 61, 62, 63, 64, 65, 66, 67, 68, 78, 79, 80] (by decide +kernel) (by decide +kernel)) (goodIn_sub (fun _ h => List.mem_cons_of_mem _ (List.mem_append_right _ h)) (by decide +kernel))
set_option maxRecDepth 20000 in
theorem gX2_numberOfPresent_X0_nextBatter : GoodIn wsX2_numberOfPresent (wsV RX2 183 RX0 yX0_nextBatter wsX0_nextBatter) := goodIn_app (goodIn_of _ (by decide +kernel)) ggX2_numberOfPresent_X0_nextBatter
theorem dX2_numberOfPresent_0 : decode cX2_numberOfPresent 0 = .ok (.aload_n 0, 1) := by decide +kernel
theorem dX2_numberOfPresent_1 : decode cX2_numberOfPresent 1 = .ok (.invokevirtual 43, 3) := by decide +kernel
theorem dX2_numberOfPresent_4 : decode cX2_numberOfPresent 4 = .ok (.astore_n 2, 1) := by decide +kernel
theorem dX2_numberOfPresent_5 : decode cX2_numberOfPresent 5 = .ok (.iload_n 1, 1) := by decide +kernel
theorem dX2_numberOfPresent_6 : decode cX2_numberOfPresent 6 = .ok (.tableswitch 120 0 7 #[46, 51, 60, 65, 70, 99, 107, 112], 46) := by decide +kernel
theorem dX2_numberOfPresent_52 : decode cX2_numberOfPresent 52 = .ok (.aload_n 0, 1) := by decide +kernel
theorem dX2_numberOfPresent_53 : decode cX2_numberOfPresent 53 = .ok (.getfield 31, 3) := by decide +kernel
theorem dX2_numberOfPresent_56 : decode cX2_numberOfPresent 56 = .ok (.ireturn, 1) := by decide +kernel
theorem dX2_numberOfPresent_57 : decode cX2_numberOfPresent 57 = .ok (.aload_n 0, 1) := by decide +kernel
theorem dX2_numberOfPresent_58 : decode cX2_numberOfPresent 58 = .ok (.aload_n 0, 1) := by decide +kernel
theorem dX2_numberOfPresent_59 : decode cX2_numberOfPresent 59 = .ok (.getfield 31, 3) := by decide +kernel
theorem dX2_numberOfPresent_62 : decode cX2_numberOfPresent 62 = .ok (.invokevirtual 168, 3) := by decide +kernel
theorem dX2_numberOfPresent_65 : decode cX2_numberOfPresent 65 = .ok (.ireturn, 1) := by decide +kernel
theorem dX2_numberOfPresent_66 : decode cX2_numberOfPresent 66 = .ok (.aload_n 2, 1) := by decide +kernel
theorem dX2_numberOfPresent_67 : decode cX2_numberOfPresent 67 = .ok (.getfield 171, 3) := by decide +kernel
theorem dX2_numberOfPresent_70 : decode cX2_numberOfPresent 70 = .ok (.ireturn, 1) := by decide +kernel
theorem dX2_numberOfPresent_71 : decode cX2_numberOfPresent 71 = .ok (.aload_n 2, 1) := by decide +kernel
theorem dX2_numberOfPresent_72 : decode cX2_numberOfPresent 72 = .ok (.getfield 174, 3) := by decide +kernel
theorem dX2_numberOfPresent_75 : decode cX2_numberOfPresent 75 = .ok (.ireturn, 1) := by decide +kernel
theorem dX2_numberOfPresent_76 : decode cX2_numberOfPresent 76 = .ok (.aload_n 0, 1) := by decide +kernel
theorem dX2_numberOfPresent_77 : decode cX2_numberOfPresent 77 = .ok (.getfield 21, 3) := by decide +kernel
theorem dX2_numberOfPresent_80 : decode cX2_numberOfPresent 80 = .ok (.ifCond .eq 17, 3) := by decide +kernel
theorem dX2_numberOfPresent_83 : decode cX2_numberOfPresent 83 = .ok (.aload_n 2, 1) := by decide +kernel
theorem dX2_numberOfPresent_84 : decode cX2_numberOfPresent 84 = .ok (.getfield 95, 3) := by decide +kernel
theorem dX2_numberOfPresent_87 : decode cX2_numberOfPresent 87 = .ok (.getfield 177, 3) := by decide +kernel
theorem dX2_numberOfPresent_90 : decode cX2_numberOfPresent 90 = .ok (.ifCond .ne 7, 3) := by decide +kernel
theorem dX2_numberOfPresent_93 : decode cX2_numberOfPresent 93 = .ok (.iconst (-1), 1) := by decide +kernel
theorem dX2_numberOfPresent_94 : decode cX2_numberOfPresent 94 = .ok (.goto 10, 3) := by decide +kernel
theorem dX2_numberOfPresent_97 : decode cX2_numberOfPresent 97 = .ok (.aload_n 2, 1) := by decide +kernel
theorem dX2_numberOfPresent_98 : decode cX2_numberOfPresent 98 = .ok (.getfield 95, 3) := by decide +kernel
theorem dX2_numberOfPresent_101 : decode cX2_numberOfPresent 101 = .ok (.getfield 98, 3) := by decide +kernel
theorem dX2_numberOfPresent_104 : decode cX2_numberOfPresent 104 = .ok (.ireturn, 1) := by decide +kernel
theorem dX2_numberOfPresent_105 : decode cX2_numberOfPresent 105 = .ok (.aload_n 2, 1) := by decide +kernel
theorem dX2_numberOfPresent_106 : decode cX2_numberOfPresent 106 = .ok (.getfield 95, 3) := by decide +kernel
theorem dX2_numberOfPresent_109 : decode cX2_numberOfPresent 109 = .ok (.getfield 180, 3) := by decide +kernel
theorem dX2_numberOfPresent_112 : decode cX2_numberOfPresent 112 = .ok (.ireturn, 1) := by decide +kernel
theorem dX2_numberOfPresent_113 : decode cX2_numberOfPresent 113 = .ok (.aload_n 2, 1) := by decide +kernel
theorem dX2_numberOfPresent_114 : decode cX2_numberOfPresent 114 = .ok (.invokevirtual 183, 3) := by decide +kernel
theorem dX2_numberOfPresent_117 : decode cX2_numberOfPresent 117 = .ok (.ireturn, 1) := by decide +kernel
theorem dX2_numberOfPresent_118 : decode cX2_numberOfPresent 118 = .ok (.aload_n 2, 1) := by decide +kernel
theorem dX2_numberOfPresent_119 : decode cX2_numberOfPresent 119 = .ok (.getfield 95, 3) := by decide +kernel
theorem dX2_numberOfPresent_122 : decode cX2_numberOfPresent 122 = .ok (.getfield 154, 3) := by decide +kernel
theorem dX2_numberOfPresent_125 : decode cX2_numberOfPresent 125 = .ok (.ireturn, 1) := by decide +kernel
theorem dX2_numberOfPresent_126 : decode cX2_numberOfPresent 126 = .ok (.aload_n 2, 1) := by decide +kernel
theorem dX2_numberOfPresent_127 : decode cX2_numberOfPresent 127 = .ok (.getfield 157, 3) := by decide +kernel
theorem dX2_numberOfPresent_130 : decode cX2_numberOfPresent 130 = .ok (.ireturn, 1) := by decide +kernel
set_option maxRecDepth 20000 in
theorem ggX2_isLike_X2_at : GoodIn wsX2_isLike wsX2_at := goodIn_r _ [10, 11, 12, 13, 14, 15, 16, 17, 18, 65, 66, 67, 68, 69, 70] (by decide +kernel) (by decide +kernel)
set_option maxRecDepth 20000 in
theorem gX2_isLike_X2_at : GoodIn wsX2_isLike (wsV RX2 77 RX2 yX2_at wsX2_at) := goodIn_app (goodIn_of _ (by decide +kernel)) ggX2_isLike_X2_at
set_option maxRecDepth 20000 in
theorem ggX2_isLike_X0_isLike : GoodIn wsX2_isLike wsX0_isLike := goodIn_ca (goodIn_r _ [23, 24, 25, 26, 27, 28, 29, 30, 31, 32, 33, 34, 35, 36, 37, 38, 39, 40, 41, 42, 43, 44, 45, 46, 47, 48, 49, 50, 51, 52, 53, 54, 55, 56, 57, 58, 59, 60, 61, 62, 63, 64, 71, 72, 73, 74, 75, 76, 77, 78, 79, 80, 81, 82, 83, 84, 85, 86, 87, 88, 89, 90, 91, 92, 93] (by decide +kernel) (by decide +kernel)) (goodIn_sub (fun _ h => List.mem_cons_of_mem _ (List.mem_append_right _ h)) (by decide +kernel))
set_option maxRecDepth 20000 in
theorem gX2_isLike_X0_isLike : GoodIn wsX2_isLike (wsV RX2 186 RX0 yX0_isLike wsX0_isLike) := goodIn_app (goodIn_of _ (by decide +kernel)) ggX2_isLike_X0_isLike
theorem dX2_isLike_0 : decode cX2_isLike 0 = .ok (.aload_n 0, 1) := by decide +kernel
theorem dX2_isLike_1 : decode cX2_isLike 1 = .ok (.getfield 17, 3) := by decide +kernel
theorem dX2_isLike_4 : decode cX2_isLike 4 = .ok (.aload_n 1, 1) := by decide +kernel
theorem dX2_isLike_5 : decode cX2_isLike 5 = .ok (.getfield 17, 3) := by decide +kernel
theorem dX2_isLike_8 : decode cX2_isLike 8 = .ok (.if_icmp .ne 47, 3) := by decide +kernel
theorem dX2_isLike_11 : decode cX2_isLike 11 = .ok (.aload_n 0, 1) := by decide +kernel
theorem dX2_isLike_12 : decode cX2_isLike 12 = .ok (.getfield 21, 3) := by decide +kernel
theorem dX2_isLike_15 : decode cX2_isLike 15 = .ok (.aload_n 1, 1) := by decide +kernel
theorem dX2_isLike_16 : decode cX2_isLike 16 = .ok (.getfield 21, 3) := by decide +kernel
theorem dX2_isLike_19 : decode cX2_isLike 19 = .ok (.if_icmp .ne 36, 3) := by decide +kernel
theorem dX2_isLike_22 : decode cX2_isLike 22 = .ok (.aload_n 0, 1) := by decide +kernel
theorem dX2_isLike_23 : decode cX2_isLike 23 = .ok (.getfield 24, 3) := by decide +kernel
theorem dX2_isLike_26 : decode cX2_isLike 26 = .ok (.aload_n 1, 1) := by decide +kernel
theorem dX2_isLike_27 : decode cX2_isLike 27 = .ok (.getfield 24, 3) := by decide +kernel
theorem dX2_isLike_30 : decode cX2_isLike 30 = .ok (.if_icmp .ne 25, 3) := by decide +kernel
theorem dX2_isLike_33 : decode cX2_isLike 33 = .ok (.aload_n 0, 1) := by decide +kernel
theorem dX2_isLike_34 : decode cX2_isLike 34 = .ok (.getfield 28, 3) := by decide +kernel
theorem dX2_isLike_37 : decode cX2_isLike 37 = .ok (.aload_n 1, 1) := by decide +kernel
theorem dX2_isLike_38 : decode cX2_isLike 38 = .ok (.getfield 28, 3) := by decide +kernel
theorem dX2_isLike_41 : decode cX2_isLike 41 = .ok (.if_icmp .ne 14, 3) := by decide +kernel
theorem dX2_isLike_44 : decode cX2_isLike 44 = .ok (.aload_n 0, 1) := by decide +kernel
theorem dX2_isLike_45 : decode cX2_isLike 45 = .ok (.getfield 31, 3) := by decide +kernel
theorem dX2_isLike_48 : decode cX2_isLike 48 = .ok (.aload_n 1, 1) := by decide +kernel
theorem dX2_isLike_49 : decode cX2_isLike 49 = .ok (.getfield 31, 3) := by decide +kernel
theorem dX2_isLike_52 : decode cX2_isLike 52 = .ok (.if_icmp .eq 5, 3) := by decide +kernel
theorem dX2_isLike_55 : decode cX2_isLike 55 = .ok (.iconst 0, 1) := by decide +kernel
theorem dX2_isLike_56 : decode cX2_isLike 56 = .ok (.ireturn, 1) := by decide +kernel
theorem dX2_isLike_57 : decode cX2_isLike 57 = .ok (.iconst 0, 1) := by decide +kernel
theorem dX2_isLike_58 : decode cX2_isLike 58 = .ok (.istore_n 2, 1) := by decide +kernel
theorem dX2_isLike_59 : decode cX2_isLike 59 = .ok (.iload_n 2, 1) := by decide +kernel
theorem dX2_isLike_60 : decode cX2_isLike 60 = .ok (.aload_n 0, 1) := by decide +kernel
theorem dX2_isLike_61 : decode cX2_isLike 61 = .ok (.getfield 31, 3) := by decide +kernel
theorem dX2_isLike_64 : decode cX2_isLike 64 = .ok (.if_icmp .gt 27, 3) := by decide +kernel
theorem dX2_isLike_67 : decode cX2_isLike 67 = .ok (.aload_n 0, 1) := by decide +kernel
theorem dX2_isLike_68 : decode cX2_isLike 68 = .ok (.iload_n 2, 1) := by decide +kernel
theorem dX2_isLike_69 : decode cX2_isLike 69 = .ok (.invokevirtual 77, 3) := by decide +kernel
theorem dX2_isLike_72 : decode cX2_isLike 72 = .ok (.aload_n 1, 1) := by decide +kernel
theorem dX2_isLike_73 : decode cX2_isLike 73 = .ok (.iload_n 2, 1) := by decide +kernel
theorem dX2_isLike_74 : decode cX2_isLike 74 = .ok (.invokevirtual 77, 3) := by decide +kernel
theorem dX2_isLike_77 : decode cX2_isLike 77 = .ok (.invokevirtual 186, 3) := by decide +kernel
theorem dX2_isLike_80 : decode cX2_isLike 80 = .ok (.ifCond .ne 5, 3) := by decide +kernel
theorem dX2_isLike_83 : decode cX2_isLike 83 = .ok (.iconst 0, 1) := by decide +kernel
theorem dX2_isLike_84 : decode cX2_isLike 84 = .ok (.ireturn, 1) := by decide +kernel
theorem dX2_isLike_85 : decode cX2_isLike 85 = .ok (.iinc 2 1, 3) := by decide +kernel
theorem dX2_isLike_88 : decode cX2_isLike 88 = .ok (.goto (-29), 3) := by decide +kernel
theorem dX2_isLike_91 : decode cX2_isLike 91 = .ok (.iconst 1, 1) := by decide +kernel
theorem dX2_isLike_92 : decode cX2_isLike 92 = .ok (.ireturn, 1) := by decide +kernel
theorem dX3_init_0 : decode cX3_init 0 = .ok (.aload_n 0, 1) := by decide +kernel
theorem dX3_init_1 : decode cX3_init 1 = .ok (.invokespecial 3, 3) := by decide +kernel
theorem dX3_init_4 : decode cX3_init 4 = .ok (.aload_n 0, 1) := by decide +kernel
theorem dX3_init_5 : decode cX3_init 5 = .ok (.bipush 20, 2) := by decide +kernel
theorem dX3_init_7 : decode cX3_init 7 = .ok (.newarray .int, 2) := by decide +kernel
theorem dX3_init_9 : decode cX3_init 9 = .ok (.putfield 9, 3) := by decide +kernel
theorem dX3_init_12 : decode cX3_init 12 = .ok (.aload_n 0, 1) := by decide +kernel
theorem dX3_init_13 : decode cX3_init 13 = .ok (.iconst 0, 1) := by decide +kernel
theorem dX3_init_14 : decode cX3_init 14 = .ok (.putfield 15, 3) := by decide +kernel
theorem dX3_init_17 : decode cX3_init 17 = .ok (.aload_n 0, 1) := by decide +kernel
theorem dX3_init_18 : decode cX3_init 18 = .ok (.iconst 0, 1) := by decide +kernel
theorem dX3_init_19 : decode cX3_init 19 = .ok (.putfield 19, 3) := by decide +kernel
theorem dX3_init_22 : decode cX3_init 22 = .ok (.aload_n 0, 1) := by decide +kernel
theorem dX3_init_23 : decode cX3_init 23 = .ok (.iconst 0, 1) := by decide +kernel
theorem dX3_init_24 : decode cX3_init 24 = .ok (.putfield 22, 3) := by decide +kernel
theorem dX3_init_27 : decode cX3_init 27 = .ok (.aload_n 0, 1) := by decide +kernel
theorem dX3_init_28 : decode cX3_init 28 = .ok (.iconst (-1), 1) := by decide +kernel
theorem dX3_init_29 : decode cX3_init 29 = .ok (.putfield 25, 3) := by decide +kernel
theorem dX3_init_32 : decode cX3_init 32 = .ok (.aload_n 0, 1) := by decide +kernel
theorem dX3_init_33 : decode cX3_init 33 = .ok (.iconst (-1), 1) := by decide +kernel
theorem dX3_init_34 : decode cX3_init 34 = .ok (.putfield 28, 3) := by decide +kernel
theorem dX3_init_37 : decode cX3_init 37 = .ok (.aload_n 0, 1) := by decide +kernel
theorem dX3_init_38 : decode cX3_init 38 = .ok (.iconst 0, 1) := by decide +kernel
theorem dX3_init_39 : decode cX3_init 39 = .ok (.putfield 31, 3) := by decide +kernel
theorem dX3_init_42 : decode cX3_init 42 = .ok (.aload_n 0, 1) := by decide +kernel
theorem dX3_init_43 : decode cX3_init 43 = .ok (.iconst 0, 1) := by decide +kernel
theorem dX3_init_44 : decode cX3_init 44 = .ok (.putfield 34, 3) := by decide +kernel
theorem dX3_init_47 : decode cX3_init 47 = .ok (.aload_n 0, 1) := by decide +kernel
theorem dX3_init_48 : decode cX3_init 48 = .ok (.iconst 0, 1) := by decide +kernel
theorem dX3_init_49 : decode cX3_init 49 = .ok (.putfield 37, 3) := by decide +kernel
theorem dX3_init_52 : decode cX3_init 52 = .ok (.return_, 1) := by decide +kernel
theorem dX3_quota_0 : decode cX3_quota 0 = .ok (.iload_n 0, 1) := by decide +kernel
theorem dX3_quota_1 : decode cX3_quota 1 = .ok (.iconst 4, 1) := by decide +kernel
theorem dX3_quota_2 : decode cX3_quota 2 = .ok (.iadd, 1) := by decide +kernel
theorem dX3_quota_3 : decode cX3_quota 3 = .ok (.iconst 5, 1) := by decide +kernel
theorem dX3_quota_4 : decode cX3_quota 4 = .ok (.idiv, 1) := by decide +kernel
theorem dX3_quota_5 : decode cX3_quota 5 = .ok (.ireturn, 1) := by decide +kernel
set_option maxRecDepth 20000 in
theorem ggX3_start_X3_rest : GoodIn wsX3_start wsX3_rest := goodIn_r _ [9, 10, 11, 12, 13, 14, 15, 16, 17, 18, 19, 20, 21, 22] (by decide +kernel) (by decide +kernel)
set_option maxRecDepth 20000 in
theorem gX3_start_X3_rest : GoodIn wsX3_start (wsV RX3 41 RX3 yX3_rest wsX3_rest) := goodIn_app (goodIn_of _ (by decide +kernel)) ggX3_start_X3_rest
theorem dX3_start_0 : decode cX3_start 0 = .ok (.aload_n 0, 1) := by decide +kernel
theorem dX3_start_1 : decode cX3_start 1 = .ok (.iload_n 1, 1) := by decide +kernel
theorem dX3_start_2 : decode cX3_start 2 = .ok (.putfield 15, 3) := by decide +kernel
theorem dX3_start_5 : decode cX3_start 5 = .ok (.aload_n 0, 1) := by decide +kernel
theorem dX3_start_6 : decode cX3_start 6 = .ok (.iload_n 1, 1) := by decide +kernel
theorem dX3_start_7 : decode cX3_start 7 = .ok (.putfield 19, 3) := by decide +kernel
theorem dX3_start_10 : decode cX3_start 10 = .ok (.aload_n 0, 1) := by decide +kernel
theorem dX3_start_11 : decode cX3_start 11 = .ok (.iconst 0, 1) := by decide +kernel
theorem dX3_start_12 : decode cX3_start 12 = .ok (.putfield 22, 3) := by decide +kernel
theorem dX3_start_15 : decode cX3_start 15 = .ok (.aload_n 0, 1) := by decide +kernel
theorem dX3_start_16 : decode cX3_start 16 = .ok (.iconst (-1), 1) := by decide +kernel
theorem dX3_start_17 : decode cX3_start 17 = .ok (.putfield 28, 3) := by decide +kernel
theorem dX3_start_20 : decode cX3_start 20 = .ok (.aload_n 0, 1) := by decide +kernel
theorem dX3_start_21 : decode cX3_start 21 = .ok (.invokevirtual 41, 3) := by decide +kernel
theorem dX3_start_24 : decode cX3_start 24 = .ok (.return_, 1) := by decide +kernel
theorem dX3_rest_0 : decode cX3_rest 0 = .ok (.aload_n 0, 1) := by decide +kernel
theorem dX3_rest_1 : decode cX3_rest 1 = .ok (.iconst (-1), 1) := by decide +kernel
theorem dX3_rest_2 : decode cX3_rest 2 = .ok (.putfield 25, 3) := by decide +kernel
theorem dX3_rest_5 : decode cX3_rest 5 = .ok (.aload_n 0, 1) := by decide +kernel
theorem dX3_rest_6 : decode cX3_rest 6 = .ok (.iconst 0, 1) := by decide +kernel
theorem dX3_rest_7 : decode cX3_rest 7 = .ok (.putfield 31, 3) := by decide +kernel
theorem dX3_rest_10 : decode cX3_rest 10 = .ok (.aload_n 0, 1) := by decide +kernel
theorem dX3_rest_11 : decode cX3_rest 11 = .ok (.iconst 0, 1) := by decide +kernel
theorem dX3_rest_12 : decode cX3_rest 12 = .ok (.putfield 34, 3) := by decide +kernel
theorem dX3_rest_15 : decode cX3_rest 15 = .ok (.aload_n 0, 1) := by decide +kernel
theorem dX3_rest_16 : decode cX3_rest 16 = .ok (.iconst 0, 1) := by decide +kernel
theorem dX3_rest_17 : decode cX3_rest 17 = .ok (.putfield 37, 3) := by decide +kernel
theorem dX3_rest_20 : decode cX3_rest 20 = .ok (.return_, 1) := by decide +kernel
set_option maxRecDepth 20000 in
theorem ggX3_finishOver_X3_rest : GoodIn wsX3_finishOver wsX3_rest := goodIn_r _ [9, 3, 10, 11, 12, 13, 14, 15, 16, 17, 18, 19, 20, 21] (by decide +kernel) (by decide +kernel)
set_option maxRecDepth 20000 in
theorem gX3_finishOver_X3_rest : GoodIn wsX3_finishOver (wsV RX3 41 RX3 yX3_rest wsX3_rest) := goodIn_app (goodIn_of _ (by decide +kernel)) ggX3_finishOver_X3_rest
theorem dX3_finishOver_0 : decode cX3_finishOver 0 = .ok (.aload_n 0, 1) := by decide +kernel
theorem dX3_finishOver_1 : decode cX3_finishOver 1 = .ok (.getfield 22, 3) := by decide +kernel
theorem dX3_finishOver_4 : decode cX3_finishOver 4 = .ok (.ifCond .lt 35, 3) := by decide +kernel
theorem dX3_finishOver_7 : decode cX3_finishOver 7 = .ok (.aload_n 0, 1) := by decide +kernel
theorem dX3_finishOver_8 : decode cX3_finishOver 8 = .ok (.getfield 22, 3) := by decide +kernel
theorem dX3_finishOver_11 : decode cX3_finishOver 11 = .ok (.aload_n 0, 1) := by decide +kernel
theorem dX3_finishOver_12 : decode cX3_finishOver 12 = .ok (.getfield 9, 3) := by decide +kernel
theorem dX3_finishOver_15 : decode cX3_finishOver 15 = .ok (.arraylength, 1) := by decide +kernel
theorem dX3_finishOver_16 : decode cX3_finishOver 16 = .ok (.if_icmp .ge 23, 3) := by decide +kernel
theorem dX3_finishOver_19 : decode cX3_finishOver 19 = .ok (.aload_n 0, 1) := by decide +kernel
theorem dX3_finishOver_20 : decode cX3_finishOver 20 = .ok (.getfield 9, 3) := by decide +kernel
theorem dX3_finishOver_23 : decode cX3_finishOver 23 = .ok (.aload_n 0, 1) := by decide +kernel
theorem dX3_finishOver_24 : decode cX3_finishOver 24 = .ok (.getfield 22, 3) := by decide +kernel
theorem dX3_finishOver_27 : decode cX3_finishOver 27 = .ok (.iload_n 1, 1) := by decide +kernel
theorem dX3_finishOver_28 : decode cX3_finishOver 28 = .ok (.iastore, 1) := by decide +kernel
theorem dX3_finishOver_29 : decode cX3_finishOver 29 = .ok (.aload_n 0, 1) := by decide +kernel
theorem dX3_finishOver_30 : decode cX3_finishOver 30 = .ok (.dup, 1) := by decide +kernel
theorem dX3_finishOver_31 : decode cX3_finishOver 31 = .ok (.getfield 22, 3) := by decide +kernel
theorem dX3_finishOver_34 : decode cX3_finishOver 34 = .ok (.iconst 1, 1) := by decide +kernel
theorem dX3_finishOver_35 : decode cX3_finishOver 35 = .ok (.iadd, 1) := by decide +kernel
theorem dX3_finishOver_36 : decode cX3_finishOver 36 = .ok (.putfield 22, 3) := by decide +kernel
theorem dX3_finishOver_39 : decode cX3_finishOver 39 = .ok (.aload_n 0, 1) := by decide +kernel
theorem dX3_finishOver_40 : decode cX3_finishOver 40 = .ok (.aload_n 0, 1) := by decide +kernel
theorem dX3_finishOver_41 : decode cX3_finishOver 41 = .ok (.getfield 25, 3) := by decide +kernel
theorem dX3_finishOver_44 : decode cX3_finishOver 44 = .ok (.putfield 28, 3) := by decide +kernel
theorem dX3_finishOver_47 : decode cX3_finishOver 47 = .ok (.aload_n 0, 1) := by decide +kernel
theorem dX3_finishOver_48 : decode cX3_finishOver 48 = .ok (.invokevirtual 41, 3) := by decide +kernel
theorem dX3_finishOver_51 : decode cX3_finishOver 51 = .ok (.return_, 1) := by decide +kernel
theorem dX3_begun_0 : decode cX3_begun 0 = .ok (.aload_n 0, 1) := by decide +kernel
theorem dX3_begun_1 : decode cX3_begun 1 = .ok (.getfield 37, 3) := by decide +kernel
theorem dX3_begun_4 : decode cX3_begun 4 = .ok (.ifCond .eq 12, 3) := by decide +kernel
theorem dX3_begun_7 : decode cX3_begun 7 = .ok (.aload_n 0, 1) := by decide +kernel
theorem dX3_begun_8 : decode cX3_begun 8 = .ok (.getfield 22, 3) := by decide +kernel
theorem dX3_begun_11 : decode cX3_begun 11 = .ok (.iconst 1, 1) := by decide +kernel
theorem dX3_begun_12 : decode cX3_begun 12 = .ok (.iadd, 1) := by decide +kernel
theorem dX3_begun_13 : decode cX3_begun 13 = .ok (.goto 7, 3) := by decide +kernel
theorem dX3_begun_16 : decode cX3_begun 16 = .ok (.aload_n 0, 1) := by decide +kernel
theorem dX3_begun_17 : decode cX3_begun 17 = .ok (.getfield 22, 3) := by decide +kernel
theorem dX3_begun_20 : decode cX3_begun 20 = .ok (.ireturn, 1) := by decide +kernel
theorem dX3_runsAfter_0 : decode cX3_runsAfter 0 = .ok (.iload_n 1, 1) := by decide +kernel
theorem dX3_runsAfter_1 : decode cX3_runsAfter 1 = .ok (.ifCond .lt 29, 3) := by decide +kernel
theorem dX3_runsAfter_4 : decode cX3_runsAfter 4 = .ok (.iload_n 1, 1) := by decide +kernel
theorem dX3_runsAfter_5 : decode cX3_runsAfter 5 = .ok (.aload_n 0, 1) := by decide +kernel
theorem dX3_runsAfter_6 : decode cX3_runsAfter 6 = .ok (.getfield 22, 3) := by decide +kernel
theorem dX3_runsAfter_9 : decode cX3_runsAfter 9 = .ok (.if_icmp .ge 21, 3) := by decide +kernel
theorem dX3_runsAfter_12 : decode cX3_runsAfter 12 = .ok (.iload_n 1, 1) := by decide +kernel
theorem dX3_runsAfter_13 : decode cX3_runsAfter 13 = .ok (.aload_n 0, 1) := by decide +kernel
theorem dX3_runsAfter_14 : decode cX3_runsAfter 14 = .ok (.getfield 9, 3) := by decide +kernel
theorem dX3_runsAfter_17 : decode cX3_runsAfter 17 = .ok (.arraylength, 1) := by decide +kernel
theorem dX3_runsAfter_18 : decode cX3_runsAfter 18 = .ok (.if_icmp .ge 12, 3) := by decide +kernel
theorem dX3_runsAfter_21 : decode cX3_runsAfter 21 = .ok (.aload_n 0, 1) := by decide +kernel
theorem dX3_runsAfter_22 : decode cX3_runsAfter 22 = .ok (.getfield 9, 3) := by decide +kernel
theorem dX3_runsAfter_25 : decode cX3_runsAfter 25 = .ok (.iload_n 1, 1) := by decide +kernel
theorem dX3_runsAfter_26 : decode cX3_runsAfter 26 = .ok (.iaload, 1) := by decide +kernel
theorem dX3_runsAfter_27 : decode cX3_runsAfter 27 = .ok (.goto 4, 3) := by decide +kernel
theorem dX3_runsAfter_30 : decode cX3_runsAfter 30 = .ok (.iload_n 2, 1) := by decide +kernel
theorem dX3_runsAfter_31 : decode cX3_runsAfter 31 = .ok (.ireturn, 1) := by decide +kernel
set_option maxRecDepth 20000 in
theorem ggX3_isLike_X3_runsAfter : GoodIn wsX3_isLike wsX3_runsAfter := goodIn_ca (goodIn_r _ [13, 1, 14, 15, 16, 17, 18, 19, 20, 21, 22, 23] (by decide +kernel) (by decide +kernel)) (goodIn_sub (fun _ h => List.mem_cons_of_mem _ (List.mem_append_right _ h)) (by decide +kernel))
set_option maxRecDepth 20000 in
theorem gX3_isLike_X3_runsAfter : GoodIn wsX3_isLike (wsV RX3 44 RX3 yX3_runsAfter wsX3_runsAfter) := goodIn_app (goodIn_of _ (by decide +kernel)) ggX3_isLike_X3_runsAfter
theorem dX3_isLike_0 : decode cX3_isLike 0 = .ok (.iconst 0, 1) := by decide +kernel
theorem dX3_isLike_1 : decode cX3_isLike 1 = .ok (.istore_n 2, 1) := by decide +kernel
theorem dX3_isLike_2 : decode cX3_isLike 2 = .ok (.iload_n 2, 1) := by decide +kernel
theorem dX3_isLike_3 : decode cX3_isLike 3 = .ok (.aload_n 0, 1) := by decide +kernel
theorem dX3_isLike_4 : decode cX3_isLike 4 = .ok (.getfield 22, 3) := by decide +kernel
theorem dX3_isLike_7 : decode cX3_isLike 7 = .ok (.if_icmp .ge 26, 3) := by decide +kernel
theorem dX3_isLike_10 : decode cX3_isLike 10 = .ok (.aload_n 0, 1) := by decide +kernel
theorem dX3_isLike_11 : decode cX3_isLike 11 = .ok (.iload_n 2, 1) := by decide +kernel
theorem dX3_isLike_12 : decode cX3_isLike 12 = .ok (.iconst 0, 1) := by decide +kernel
theorem dX3_isLike_13 : decode cX3_isLike 13 = .ok (.invokevirtual 44, 3) := by decide +kernel
theorem dX3_isLike_16 : decode cX3_isLike 16 = .ok (.aload_n 1, 1) := by decide +kernel
theorem dX3_isLike_17 : decode cX3_isLike 17 = .ok (.iload_n 2, 1) := by decide +kernel
theorem dX3_isLike_18 : decode cX3_isLike 18 = .ok (.iconst 0, 1) := by decide +kernel
theorem dX3_isLike_19 : decode cX3_isLike 19 = .ok (.invokevirtual 44, 3) := by decide +kernel
theorem dX3_isLike_22 : decode cX3_isLike 22 = .ok (.if_icmp .eq 5, 3) := by decide +kernel
theorem dX3_isLike_25 : decode cX3_isLike 25 = .ok (.iconst 0, 1) := by decide +kernel
theorem dX3_isLike_26 : decode cX3_isLike 26 = .ok (.ireturn, 1) := by decide +kernel
theorem dX3_isLike_27 : decode cX3_isLike 27 = .ok (.iinc 2 1, 3) := by decide +kernel
theorem dX3_isLike_30 : decode cX3_isLike 30 = .ok (.goto (-28), 3) := by decide +kernel
theorem dX3_isLike_33 : decode cX3_isLike 33 = .ok (.aload_n 0, 1) := by decide +kernel
theorem dX3_isLike_34 : decode cX3_isLike 34 = .ok (.getfield 15, 3) := by decide +kernel
theorem dX3_isLike_37 : decode cX3_isLike 37 = .ok (.aload_n 1, 1) := by decide +kernel
theorem dX3_isLike_38 : decode cX3_isLike 38 = .ok (.getfield 15, 3) := by decide +kernel
theorem dX3_isLike_41 : decode cX3_isLike 41 = .ok (.if_icmp .ne 84, 3) := by decide +kernel
theorem dX3_isLike_44 : decode cX3_isLike 44 = .ok (.aload_n 0, 1) := by decide +kernel
theorem dX3_isLike_45 : decode cX3_isLike 45 = .ok (.getfield 19, 3) := by decide +kernel
theorem dX3_isLike_48 : decode cX3_isLike 48 = .ok (.aload_n 1, 1) := by decide +kernel
theorem dX3_isLike_49 : decode cX3_isLike 49 = .ok (.getfield 19, 3) := by decide +kernel
theorem dX3_isLike_52 : decode cX3_isLike 52 = .ok (.if_icmp .ne 73, 3) := by decide +kernel
theorem dX3_isLike_55 : decode cX3_isLike 55 = .ok (.aload_n 0, 1) := by decide +kernel
theorem dX3_isLike_56 : decode cX3_isLike 56 = .ok (.getfield 22, 3) := by decide +kernel
theorem dX3_isLike_59 : decode cX3_isLike 59 = .ok (.aload_n 1, 1) := by decide +kernel
theorem dX3_isLike_60 : decode cX3_isLike 60 = .ok (.getfield 22, 3) := by decide +kernel
theorem dX3_isLike_63 : decode cX3_isLike 63 = .ok (.if_icmp .ne 62, 3) := by decide +kernel
theorem dX3_isLike_66 : decode cX3_isLike 66 = .ok (.aload_n 0, 1) := by decide +kernel
theorem dX3_isLike_67 : decode cX3_isLike 67 = .ok (.getfield 25, 3) := by decide +kernel
theorem dX3_isLike_70 : decode cX3_isLike 70 = .ok (.aload_n 1, 1) := by decide +kernel
theorem dX3_isLike_71 : decode cX3_isLike 71 = .ok (.getfield 25, 3) := by decide +kernel
theorem dX3_isLike_74 : decode cX3_isLike 74 = .ok (.if_icmp .ne 51, 3) := by decide +kernel
theorem dX3_isLike_77 : decode cX3_isLike 77 = .ok (.aload_n 0, 1) := by decide +kernel
theorem dX3_isLike_78 : decode cX3_isLike 78 = .ok (.getfield 28, 3) := by decide +kernel
theorem dX3_isLike_81 : decode cX3_isLike 81 = .ok (.aload_n 1, 1) := by decide +kernel
theorem dX3_isLike_82 : decode cX3_isLike 82 = .ok (.getfield 28, 3) := by decide +kernel
theorem dX3_isLike_85 : decode cX3_isLike 85 = .ok (.if_icmp .ne 40, 3) := by decide +kernel
theorem dX3_isLike_88 : decode cX3_isLike 88 = .ok (.aload_n 0, 1) := by decide +kernel
theorem dX3_isLike_89 : decode cX3_isLike 89 = .ok (.getfield 31, 3) := by decide +kernel
theorem dX3_isLike_92 : decode cX3_isLike 92 = .ok (.aload_n 1, 1) := by decide +kernel
theorem dX3_isLike_93 : decode cX3_isLike 93 = .ok (.getfield 31, 3) := by decide +kernel
theorem dX3_isLike_96 : decode cX3_isLike 96 = .ok (.if_icmp .ne 29, 3) := by decide +kernel
theorem dX3_isLike_99 : decode cX3_isLike 99 = .ok (.aload_n 0, 1) := by decide +kernel
theorem dX3_isLike_100 : decode cX3_isLike 100 = .ok (.getfield 34, 3) := by decide +kernel
theorem dX3_isLike_103 : decode cX3_isLike 103 = .ok (.aload_n 1, 1) := by decide +kernel
theorem dX3_isLike_104 : decode cX3_isLike 104 = .ok (.getfield 34, 3) := by decide +kernel
theorem dX3_isLike_107 : decode cX3_isLike 107 = .ok (.if_icmp .ne 18, 3) := by decide +kernel
theorem dX3_isLike_110 : decode cX3_isLike 110 = .ok (.aload_n 0, 1) := by decide +kernel
theorem dX3_isLike_111 : decode cX3_isLike 111 = .ok (.getfield 37, 3) := by decide +kernel
theorem dX3_isLike_114 : decode cX3_isLike 114 = .ok (.aload_n 1, 1) := by decide +kernel
theorem dX3_isLike_115 : decode cX3_isLike 115 = .ok (.getfield 37, 3) := by decide +kernel
theorem dX3_isLike_118 : decode cX3_isLike 118 = .ok (.if_icmp .ne 7, 3) := by decide +kernel
theorem dX3_isLike_121 : decode cX3_isLike 121 = .ok (.iconst 1, 1) := by decide +kernel
theorem dX3_isLike_122 : decode cX3_isLike 122 = .ok (.goto 4, 3) := by decide +kernel
theorem dX3_isLike_125 : decode cX3_isLike 125 = .ok (.iconst 0, 1) := by decide +kernel
theorem dX3_isLike_126 : decode cX3_isLike 126 = .ok (.ireturn, 1) := by decide +kernel
theorem dX4_init_0 : decode cX4_init 0 = .ok (.aload_n 0, 1) := by decide +kernel
theorem dX4_init_1 : decode cX4_init 1 = .ok (.invokespecial 3, 3) := by decide +kernel
theorem dX4_init_4 : decode cX4_init 4 = .ok (.aload_n 0, 1) := by decide +kernel
theorem dX4_init_5 : decode cX4_init 5 = .ok (.bipush 20, 2) := by decide +kernel
theorem dX4_init_7 : decode cX4_init 7 = .ok (.newarray .float, 2) := by decide +kernel
theorem dX4_init_9 : decode cX4_init 9 = .ok (.putfield 9, 3) := by decide +kernel
theorem dX4_init_12 : decode cX4_init 12 = .ok (.aload_n 0, 1) := by decide +kernel
theorem dX4_init_13 : decode cX4_init 13 = .ok (.iconst 0, 1) := by decide +kernel
theorem dX4_init_14 : decode cX4_init 14 = .ok (.putfield 15, 3) := by decide +kernel
theorem dX4_init_17 : decode cX4_init 17 = .ok (.aload_n 0, 1) := by decide +kernel
theorem dX4_init_18 : decode cX4_init 18 = .ok (.iconst 0, 1) := by decide +kernel
theorem dX4_init_19 : decode cX4_init 19 = .ok (.putfield 19, 3) := by decide +kernel
theorem dX4_init_22 : decode cX4_init 22 = .ok (.aload_n 0, 1) := by decide +kernel
theorem dX4_init_23 : decode cX4_init 23 = .ok (.iconst 0, 1) := by decide +kernel
theorem dX4_init_24 : decode cX4_init 24 = .ok (.putfield 22, 3) := by decide +kernel
theorem dX4_init_27 : decode cX4_init 27 = .ok (.return_, 1) := by decide +kernel
set_option maxRecDepth 20000 in
theorem ggX4_store_X3_begun : GoodIn wsX4_store wsX3_begun := goodIn_r _ [10, 11, 12, 47, 48, 49, 50, 51, 52, 53, 54, 55] (by decide +kernel) (by decide +kernel)
set_option maxRecDepth 20000 in
theorem gX4_store_X3_begun : GoodIn wsX4_store (wsV RX4 32 RX3 yX3_begun wsX3_begun) := goodIn_app (goodIn_of _ (by decide +kernel)) ggX4_store_X3_begun
set_option maxRecDepth 20000 in
theorem ggX4_store_X0_total : GoodIn wsX4_store wsX0_total := goodIn_ca (goodIn_r _ [17, 18, 19, 20, 21, 22, 23, 24, 25, 26, 36, 37, 38, 39, 40, 41, 42, 43, 44, 45, 46, 56, 57, 58] (by decide +kernel) (by decide +kernel)) (goodIn_sub (fun _ h => List.mem_cons_of_mem _ (List.mem_append_right _ h)) (by decide +kernel))
set_option maxRecDepth 20000 in
theorem gX4_store_X0_total : GoodIn wsX4_store (wsV RX4 38 RX0 yX0_total wsX0_total) := goodIn_app (goodIn_of _ (by decide +kernel)) ggX4_store_X0_total
set_option maxRecDepth 20000 in
theorem ggX4_store_X3_runsAfter : GoodIn wsX4_store wsX3_runsAfter := goodIn_ca (goodIn_r _ [30, 12, 31, 47, 48, 49, 50, 51, 52, 53, 54, 55] (by decide +kernel) (by decide +kernel)) (goodIn_sub (fun _ h => List.mem_cons_of_mem _ (List.mem_append_right _ h)) (by decide +kernel))
set_option maxRecDepth 20000 in
theorem gX4_store_X3_runsAfter : GoodIn wsX4_store (wsV RX4 42 RX3 yX3_runsAfter wsX3_runsAfter) := goodIn_app (goodIn_of _ (by decide +kernel)) ggX4_store_X3_runsAfter
theorem dX4_store_0 : decode cX4_store 0 = .ok (.aload_n 0, 1) := by decide +kernel
theorem dX4_store_1 : decode cX4_store 1 = .ok (.iconst 1, 1) := by decide +kernel
theorem dX4_store_2 : decode cX4_store 2 = .ok (.putfield 15, 3) := by decide +kernel
theorem dX4_store_5 : decode cX4_store 5 = .ok (.aload_n 0, 1) := by decide +kernel
theorem dX4_store_6 : decode cX4_store 6 = .ok (.iload_n 2, 1) := by decide +kernel
theorem dX4_store_7 : decode cX4_store 7 = .ok (.putfield 19, 3) := by decide +kernel
theorem dX4_store_10 : decode cX4_store 10 = .ok (.aload_n 0, 1) := by decide +kernel
theorem dX4_store_11 : decode cX4_store 11 = .ok (.aload_n 1, 1) := by decide +kernel
theorem dX4_store_12 : decode cX4_store 12 = .ok (.getfield 26, 3) := by decide +kernel
theorem dX4_store_15 : decode cX4_store 15 = .ok (.invokevirtual 32, 3) := by decide +kernel
theorem dX4_store_18 : decode cX4_store 18 = .ok (.putfield 22, 3) := by decide +kernel
theorem dX4_store_21 : decode cX4_store 21 = .ok (.iconst 0, 1) := by decide +kernel
theorem dX4_store_22 : decode cX4_store 22 = .ok (.istore_n 3, 1) := by decide +kernel
theorem dX4_store_23 : decode cX4_store 23 = .ok (.iload_n 3, 1) := by decide +kernel
theorem dX4_store_24 : decode cX4_store 24 = .ok (.aload_n 0, 1) := by decide +kernel
theorem dX4_store_25 : decode cX4_store 25 = .ok (.getfield 22, 3) := by decide +kernel
theorem dX4_store_28 : decode cX4_store 28 = .ok (.if_icmp .ge 57, 3) := by decide +kernel
theorem dX4_store_31 : decode cX4_store 31 = .ok (.iload_n 3, 1) := by decide +kernel
theorem dX4_store_32 : decode cX4_store 32 = .ok (.aload_n 0, 1) := by decide +kernel
theorem dX4_store_33 : decode cX4_store 33 = .ok (.getfield 9, 3) := by decide +kernel
theorem dX4_store_36 : decode cX4_store 36 = .ok (.arraylength, 1) := by decide +kernel
theorem dX4_store_37 : decode cX4_store 37 = .ok (.if_icmp .ge 48, 3) := by decide +kernel
theorem dX4_store_40 : decode cX4_store 40 = .ok (.aload_n 1, 1) := by decide +kernel
theorem dX4_store_41 : decode cX4_store 41 = .ok (.getfield 26, 3) := by decide +kernel
theorem dX4_store_44 : decode cX4_store 44 = .ok (.iload_n 3, 1) := by decide +kernel
theorem dX4_store_45 : decode cX4_store 45 = .ok (.aload_n 1, 1) := by decide +kernel
theorem dX4_store_46 : decode cX4_store 46 = .ok (.iconst 0, 1) := by decide +kernel
theorem dX4_store_47 : decode cX4_store 47 = .ok (.invokevirtual 38, 3) := by decide +kernel
theorem dX4_store_50 : decode cX4_store 50 = .ok (.invokevirtual 42, 3) := by decide +kernel
theorem dX4_store_53 : decode cX4_store 53 = .ok (.istore 4, 2) := by decide +kernel
theorem dX4_store_55 : decode cX4_store 55 = .ok (.aload_n 0, 1) := by decide +kernel
theorem dX4_store_56 : decode cX4_store 56 = .ok (.getfield 9, 3) := by decide +kernel
theorem dX4_store_59 : decode cX4_store 59 = .ok (.iload_n 3, 1) := by decide +kernel
theorem dX4_store_60 : decode cX4_store 60 = .ok (.iload_n 2, 1) := by decide +kernel
theorem dX4_store_61 : decode cX4_store 61 = .ok (.ifCond .eq 9, 3) := by decide +kernel
theorem dX4_store_64 : decode cX4_store 64 = .ok (.iload 4, 2) := by decide +kernel
theorem dX4_store_66 : decode cX4_store 66 = .ok (.i2f, 1) := by decide +kernel
theorem dX4_store_67 : decode cX4_store 67 = .ok (.goto 11, 3) := by decide +kernel
theorem dX4_store_70 : decode cX4_store 70 = .ok (.iload 4, 2) := by decide +kernel
theorem dX4_store_72 : decode cX4_store 72 = .ok (.i2f, 1) := by decide +kernel
theorem dX4_store_73 : decode cX4_store 73 = .ok (.iload_n 3, 1) := by decide +kernel
theorem dX4_store_74 : decode cX4_store 74 = .ok (.iconst 1, 1) := by decide +kernel
theorem dX4_store_75 : decode cX4_store 75 = .ok (.iadd, 1) := by decide +kernel
theorem dX4_store_76 : decode cX4_store 76 = .ok (.i2f, 1) := by decide +kernel
theorem dX4_store_77 : decode cX4_store 77 = .ok (.fdiv, 1) := by decide +kernel
theorem dX4_store_78 : decode cX4_store 78 = .ok (.fastore, 1) := by decide +kernel
theorem dX4_store_79 : decode cX4_store 79 = .ok (.iinc 3 1, 3) := by decide +kernel
theorem dX4_store_82 : decode cX4_store 82 = .ok (.goto (-59), 3) := by decide +kernel
theorem dX4_store_85 : decode cX4_store 85 = .ok (.aload_n 0, 1) := by decide +kernel
theorem dX4_store_86 : decode cX4_store 86 = .ok (.getfield 22, 3) := by decide +kernel
theorem dX4_store_89 : decode cX4_store 89 = .ok (.ireturn, 1) := by decide +kernel
theorem dX4_has_0 : decode cX4_has 0 = .ok (.aload_n 0, 1) := by decide +kernel
theorem dX4_has_1 : decode cX4_has 1 = .ok (.getfield 15, 3) := by decide +kernel
theorem dX4_has_4 : decode cX4_has 4 = .ok (.ifCond .eq 19, 3) := by decide +kernel
theorem dX4_has_7 : decode cX4_has 7 = .ok (.iload_n 1, 1) := by decide +kernel
theorem dX4_has_8 : decode cX4_has 8 = .ok (.ifCond .lt 15, 3) := by decide +kernel
theorem dX4_has_11 : decode cX4_has 11 = .ok (.iload_n 1, 1) := by decide +kernel
theorem dX4_has_12 : decode cX4_has 12 = .ok (.aload_n 0, 1) := by decide +kernel
theorem dX4_has_13 : decode cX4_has 13 = .ok (.getfield 22, 3) := by decide +kernel
theorem dX4_has_16 : decode cX4_has 16 = .ok (.if_icmp .ge 7, 3) := by decide +kernel
theorem dX4_has_19 : decode cX4_has 19 = .ok (.iconst 1, 1) := by decide +kernel
theorem dX4_has_20 : decode cX4_has 20 = .ok (.goto 4, 3) := by decide +kernel
theorem dX4_has_23 : decode cX4_has 23 = .ok (.iconst 0, 1) := by decide +kernel
theorem dX4_has_24 : decode cX4_has 24 = .ok (.ireturn, 1) := by decide +kernel
theorem dX4_get_0 : decode cX4_get 0 = .ok (.iload_n 1, 1) := by decide +kernel
theorem dX4_get_1 : decode cX4_get 1 = .ok (.ifCond .lt 21, 3) := by decide +kernel
theorem dX4_get_4 : decode cX4_get 4 = .ok (.iload_n 1, 1) := by decide +kernel
theorem dX4_get_5 : decode cX4_get 5 = .ok (.aload_n 0, 1) := by decide +kernel
theorem dX4_get_6 : decode cX4_get 6 = .ok (.getfield 9, 3) := by decide +kernel
theorem dX4_get_9 : decode cX4_get 9 = .ok (.arraylength, 1) := by decide +kernel
theorem dX4_get_10 : decode cX4_get 10 = .ok (.if_icmp .ge 12, 3) := by decide +kernel
theorem dX4_get_13 : decode cX4_get 13 = .ok (.aload_n 0, 1) := by decide +kernel
theorem dX4_get_14 : decode cX4_get 14 = .ok (.getfield 9, 3) := by decide +kernel
theorem dX4_get_17 : decode cX4_get 17 = .ok (.iload_n 1, 1) := by decide +kernel
theorem dX4_get_18 : decode cX4_get 18 = .ok (.faload, 1) := by decide +kernel
theorem dX4_get_19 : decode cX4_get 19 = .ok (.goto 4, 3) := by decide +kernel
theorem dX4_get_22 : decode cX4_get 22 = .ok (.fconst 0, 1) := by decide +kernel
theorem dX4_get_23 : decode cX4_get 23 = .ok (.freturn, 1) := by decide +kernel
set_option maxRecDepth 20000 in
theorem ggX4_take_X4_get : GoodIn wsX4_take wsX4_get := goodIn_ca (goodIn_r _ [6, 1, 7, 8, 9, 10] (by decide +kernel) (by decide +kernel)) (goodIn_sub (fun _ h => List.mem_cons_of_mem _ (List.mem_append_right _ h)) (by decide +kernel))
set_option maxRecDepth 20000 in
theorem gX4_take_X4_get : GoodIn wsX4_take (wsV RX4 46 RX4 yX4_get wsX4_get) := goodIn_app (goodIn_of _ (by decide +kernel)) ggX4_take_X4_get
theorem dX4_take_0 : decode cX4_take 0 = .ok (.iconst 0, 1) := by decide +kernel
theorem dX4_take_1 : decode cX4_take 1 = .ok (.istore_n 3, 1) := by decide +kernel
theorem dX4_take_2 : decode cX4_take 2 = .ok (.iconst 0, 1) := by decide +kernel
theorem dX4_take_3 : decode cX4_take 3 = .ok (.istore 4, 2) := by decide +kernel
theorem dX4_take_5 : decode cX4_take 5 = .ok (.iload 4, 2) := by decide +kernel
theorem dX4_take_7 : decode cX4_take 7 = .ok (.iload_n 2, 1) := by decide +kernel
theorem dX4_take_8 : decode cX4_take 8 = .ok (.if_icmp .ge 59, 3) := by decide +kernel
theorem dX4_take_11 : decode cX4_take 11 = .ok (.iload 4, 2) := by decide +kernel
theorem dX4_take_13 : decode cX4_take 13 = .ok (.aload_n 0, 1) := by decide +kernel
theorem dX4_take_14 : decode cX4_take 14 = .ok (.getfield 9, 3) := by decide +kernel
theorem dX4_take_17 : decode cX4_take 17 = .ok (.arraylength, 1) := by decide +kernel
theorem dX4_take_18 : decode cX4_take 18 = .ok (.if_icmp .ge 49, 3) := by decide +kernel
theorem dX4_take_21 : decode cX4_take 21 = .ok (.aload_n 1, 1) := by decide +kernel
theorem dX4_take_22 : decode cX4_take 22 = .ok (.iload 4, 2) := by decide +kernel
theorem dX4_take_24 : decode cX4_take 24 = .ok (.invokevirtual 46, 3) := by decide +kernel
theorem dX4_take_27 : decode cX4_take 27 = .ok (.fstore 5, 2) := by decide +kernel
theorem dX4_take_29 : decode cX4_take 29 = .ok (.iload_n 3, 1) := by decide +kernel
theorem dX4_take_30 : decode cX4_take 30 = .ok (.ifCond .ne 16, 3) := by decide +kernel
theorem dX4_take_33 : decode cX4_take 33 = .ok (.aload_n 0, 1) := by decide +kernel
theorem dX4_take_34 : decode cX4_take 34 = .ok (.getfield 9, 3) := by decide +kernel
theorem dX4_take_37 : decode cX4_take 37 = .ok (.iload 4, 2) := by decide +kernel
theorem dX4_take_39 : decode cX4_take 39 = .ok (.faload, 1) := by decide +kernel
theorem dX4_take_40 : decode cX4_take 40 = .ok (.fload 5, 2) := by decide +kernel
theorem dX4_take_42 : decode cX4_take 42 = .ok (.fcmp .l, 1) := by decide +kernel
theorem dX4_take_43 : decode cX4_take 43 = .ok (.ifCond .eq 7, 3) := by decide +kernel
theorem dX4_take_46 : decode cX4_take 46 = .ok (.iconst 1, 1) := by decide +kernel
theorem dX4_take_47 : decode cX4_take 47 = .ok (.goto 4, 3) := by decide +kernel
theorem dX4_take_50 : decode cX4_take 50 = .ok (.iconst 0, 1) := by decide +kernel
theorem dX4_take_51 : decode cX4_take 51 = .ok (.istore_n 3, 1) := by decide +kernel
theorem dX4_take_52 : decode cX4_take 52 = .ok (.aload_n 0, 1) := by decide +kernel
theorem dX4_take_53 : decode cX4_take 53 = .ok (.getfield 9, 3) := by decide +kernel
theorem dX4_take_56 : decode cX4_take 56 = .ok (.iload 4, 2) := by decide +kernel
theorem dX4_take_58 : decode cX4_take 58 = .ok (.fload 5, 2) := by decide +kernel
theorem dX4_take_60 : decode cX4_take 60 = .ok (.fastore, 1) := by decide +kernel
theorem dX4_take_61 : decode cX4_take 61 = .ok (.iinc 4 1, 3) := by decide +kernel
theorem dX4_take_64 : decode cX4_take 64 = .ok (.goto (-59), 3) := by decide +kernel
theorem dX4_take_67 : decode cX4_take 67 = .ok (.iload_n 3, 1) := by decide +kernel
theorem dX4_take_68 : decode cX4_take 68 = .ok (.ireturn, 1) := by decide +kernel
theorem dX5_init_0 : decode cX5_init 0 = .ok (.aload_n 0, 1) := by decide +kernel
theorem dX5_init_1 : decode cX5_init 1 = .ok (.invokespecial 3, 3) := by decide +kernel
theorem dX5_init_4 : decode cX5_init 4 = .ok (.aload_n 0, 1) := by decide +kernel
theorem dX5_init_5 : decode cX5_init 5 = .ok (.iload_n 1, 1) := by decide +kernel
theorem dX5_init_6 : decode cX5_init 6 = .ok (.putfield 9, 3) := by decide +kernel
theorem dX5_init_9 : decode cX5_init 9 = .ok (.return_, 1) := by decide +kernel
set_option maxRecDepth 20000 in
theorem ggX5_ofNumber_X5_init : GoodIn wsX5_ofNumber wsX5_init := goodIn_r _ [7, 8, 9, 10, 11, 12, 13, 14, 15, 16, 17, 18, 19, 20] (by decide +kernel) (by decide +kernel)
set_option maxRecDepth 20000 in
theorem gX5_ofNumber_X5_init : GoodIn wsX5_ofNumber (wsX5_init) := ggX5_ofNumber_X5_init
theorem dX5_ofNumber_0 : decode cX5_ofNumber 0 = .ok (.new 10, 3) := by decide +kernel
theorem dX5_ofNumber_3 : decode cX5_ofNumber 3 = .ok (.dup, 1) := by decide +kernel
theorem dX5_ofNumber_4 : decode cX5_ofNumber 4 = .ok (.iload_n 0, 1) := by decide +kernel
theorem dX5_ofNumber_5 : decode cX5_ofNumber 5 = .ok (.invokespecial 15, 3) := by decide +kernel
theorem dX5_ofNumber_8 : decode cX5_ofNumber 8 = .ok (.astore_n 2, 1) := by decide +kernel
theorem dX5_ofNumber_9 : decode cX5_ofNumber 9 = .ok (.aload_n 2, 1) := by decide +kernel
theorem dX5_ofNumber_10 : decode cX5_ofNumber 10 = .ok (.iload_n 1, 1) := by decide +kernel
theorem dX5_ofNumber_11 : decode cX5_ofNumber 11 = .ok (.putfield 18, 3) := by decide +kernel
theorem dX5_ofNumber_14 : decode cX5_ofNumber 14 = .ok (.aload_n 2, 1) := by decide +kernel
theorem dX5_ofNumber_15 : decode cX5_ofNumber 15 = .ok (.areturn, 1) := by decide +kernel
set_option maxRecDepth 20000 in
theorem ggX5_ofBall_X5_init : GoodIn wsX5_ofBall wsX5_init := goodIn_r _ [9, 10, 11, 12, 13, 14, 15, 16, 17, 18, 19, 20, 21, 22] (by decide +kernel) (by decide +kernel)
set_option maxRecDepth 20000 in
theorem gX5_ofBall_X5_init : GoodIn wsX5_ofBall (wsX5_init) := ggX5_ofBall_X5_init
theorem dX5_ofBall_0 : decode cX5_ofBall 0 = .ok (.new 10, 3) := by decide +kernel
theorem dX5_ofBall_3 : decode cX5_ofBall 3 = .ok (.dup, 1) := by decide +kernel
theorem dX5_ofBall_4 : decode cX5_ofBall 4 = .ok (.iconst 2, 1) := by decide +kernel
theorem dX5_ofBall_5 : decode cX5_ofBall 5 = .ok (.invokespecial 15, 3) := by decide +kernel
theorem dX5_ofBall_8 : decode cX5_ofBall 8 = .ok (.astore_n 3, 1) := by decide +kernel
theorem dX5_ofBall_9 : decode cX5_ofBall 9 = .ok (.aload_n 3, 1) := by decide +kernel
theorem dX5_ofBall_10 : decode cX5_ofBall 10 = .ok (.iload_n 0, 1) := by decide +kernel
theorem dX5_ofBall_11 : decode cX5_ofBall 11 = .ok (.putfield 21, 3) := by decide +kernel
theorem dX5_ofBall_14 : decode cX5_ofBall 14 = .ok (.aload_n 3, 1) := by decide +kernel
theorem dX5_ofBall_15 : decode cX5_ofBall 15 = .ok (.iload_n 1, 1) := by decide +kernel
theorem dX5_ofBall_16 : decode cX5_ofBall 16 = .ok (.putfield 24, 3) := by decide +kernel
theorem dX5_ofBall_19 : decode cX5_ofBall 19 = .ok (.aload_n 3, 1) := by decide +kernel
theorem dX5_ofBall_20 : decode cX5_ofBall 20 = .ok (.iload_n 2, 1) := by decide +kernel
theorem dX5_ofBall_21 : decode cX5_ofBall 21 = .ok (.putfield 27, 3) := by decide +kernel
theorem dX5_ofBall_24 : decode cX5_ofBall 24 = .ok (.aload_n 3, 1) := by decide +kernel
theorem dX5_ofBall_25 : decode cX5_ofBall 25 = .ok (.areturn, 1) := by decide +kernel
set_option maxRecDepth 20000 in
theorem ggX5_ofWicket_X5_init : GoodIn wsX5_ofWicket wsX5_init := goodIn_r _ [11, 12, 13, 14, 15, 16, 17, 18, 19, 20, 21, 22, 23, 24] (by decide +kernel) (by decide +kernel)
set_option maxRecDepth 20000 in
theorem gX5_ofWicket_X5_init : GoodIn wsX5_ofWicket (wsX5_init) := ggX5_ofWicket_X5_init
theorem dX5_ofWicket_0 : decode cX5_ofWicket 0 = .ok (.new 10, 3) := by decide +kernel
theorem dX5_ofWicket_3 : decode cX5_ofWicket 3 = .ok (.dup, 1) := by decide +kernel
theorem dX5_ofWicket_4 : decode cX5_ofWicket 4 = .ok (.iconst 3, 1) := by decide +kernel
theorem dX5_ofWicket_5 : decode cX5_ofWicket 5 = .ok (.invokespecial 15, 3) := by decide +kernel
theorem dX5_ofWicket_8 : decode cX5_ofWicket 8 = .ok (.astore 5, 2) := by decide +kernel
theorem dX5_ofWicket_10 : decode cX5_ofWicket 10 = .ok (.aload 5, 2) := by decide +kernel
theorem dX5_ofWicket_12 : decode cX5_ofWicket 12 = .ok (.iload_n 0, 1) := by decide +kernel
theorem dX5_ofWicket_13 : decode cX5_ofWicket 13 = .ok (.putfield 31, 3) := by decide +kernel
theorem dX5_ofWicket_16 : decode cX5_ofWicket 16 = .ok (.aload 5, 2) := by decide +kernel
theorem dX5_ofWicket_18 : decode cX5_ofWicket 18 = .ok (.iload_n 1, 1) := by decide +kernel
theorem dX5_ofWicket_19 : decode cX5_ofWicket 19 = .ok (.putfield 21, 3) := by decide +kernel
theorem dX5_ofWicket_22 : decode cX5_ofWicket 22 = .ok (.aload 5, 2) := by decide +kernel
theorem dX5_ofWicket_24 : decode cX5_ofWicket 24 = .ok (.iload_n 2, 1) := by decide +kernel
theorem dX5_ofWicket_25 : decode cX5_ofWicket 25 = .ok (.putfield 34, 3) := by decide +kernel
theorem dX5_ofWicket_28 : decode cX5_ofWicket 28 = .ok (.aload 5, 2) := by decide +kernel
theorem dX5_ofWicket_30 : decode cX5_ofWicket 30 = .ok (.iload_n 3, 1) := by decide +kernel
theorem dX5_ofWicket_31 : decode cX5_ofWicket 31 = .ok (.putfield 24, 3) := by decide +kernel
theorem dX5_ofWicket_34 : decode cX5_ofWicket 34 = .ok (.aload 5, 2) := by decide +kernel
theorem dX5_ofWicket_36 : decode cX5_ofWicket 36 = .ok (.iload 4, 2) := by decide +kernel
theorem dX5_ofWicket_38 : decode cX5_ofWicket 38 = .ok (.putfield 37, 3) := by decide +kernel
theorem dX5_ofWicket_41 : decode cX5_ofWicket 41 = .ok (.aload 5, 2) := by decide +kernel
theorem dX5_ofWicket_43 : decode cX5_ofWicket 43 = .ok (.areturn, 1) := by decide +kernel
set_option maxRecDepth 20000 in
theorem ggX5_ofRetirement_X5_init : GoodIn wsX5_ofRetirement wsX5_init := goodIn_r _ [8, 9, 10, 11, 12, 13, 14, 15, 16, 17, 18, 19, 20, 21] (by decide +kernel) (by decide +kernel)
set_option maxRecDepth 20000 in
theorem gX5_ofRetirement_X5_init : GoodIn wsX5_ofRetirement (wsX5_init) := ggX5_ofRetirement_X5_init
theorem dX5_ofRetirement_0 : decode cX5_ofRetirement 0 = .ok (.new 10, 3) := by decide +kernel
theorem dX5_ofRetirement_3 : decode cX5_ofRetirement 3 = .ok (.dup, 1) := by decide +kernel
theorem dX5_ofRetirement_4 : decode cX5_ofRetirement 4 = .ok (.iconst 4, 1) := by decide +kernel
theorem dX5_ofRetirement_5 : decode cX5_ofRetirement 5 = .ok (.invokespecial 15, 3) := by decide +kernel
theorem dX5_ofRetirement_8 : decode cX5_ofRetirement 8 = .ok (.astore_n 2, 1) := by decide +kernel
theorem dX5_ofRetirement_9 : decode cX5_ofRetirement 9 = .ok (.aload_n 2, 1) := by decide +kernel
theorem dX5_ofRetirement_10 : decode cX5_ofRetirement 10 = .ok (.iload_n 0, 1) := by decide +kernel
theorem dX5_ofRetirement_11 : decode cX5_ofRetirement 11 = .ok (.putfield 34, 3) := by decide +kernel
theorem dX5_ofRetirement_14 : decode cX5_ofRetirement 14 = .ok (.aload_n 2, 1) := by decide +kernel
theorem dX5_ofRetirement_15 : decode cX5_ofRetirement 15 = .ok (.iload_n 1, 1) := by decide +kernel
theorem dX5_ofRetirement_16 : decode cX5_ofRetirement 16 = .ok (.putfield 40, 3) := by decide +kernel
theorem dX5_ofRetirement_19 : decode cX5_ofRetirement 19 = .ok (.aload_n 2, 1) := by decide +kernel
theorem dX5_ofRetirement_20 : decode cX5_ofRetirement 20 = .ok (.areturn, 1) := by decide +kernel
theorem dX5_isLegal_0 : decode cX5_isLegal 0 = .ok (.aload_n 0, 1) := by decide +kernel
theorem dX5_isLegal_1 : decode cX5_isLegal 1 = .ok (.getfield 21, 3) := by decide +kernel
theorem dX5_isLegal_4 : decode cX5_isLegal 4 = .ok (.iconst 1, 1) := by decide +kernel
theorem dX5_isLegal_5 : decode cX5_isLegal 5 = .ok (.if_icmp .eq 15, 3) := by decide +kernel
theorem dX5_isLegal_8 : decode cX5_isLegal 8 = .ok (.aload_n 0, 1) := by decide +kernel
theorem dX5_isLegal_9 : decode cX5_isLegal 9 = .ok (.getfield 21, 3) := by decide +kernel
theorem dX5_isLegal_12 : decode cX5_isLegal 12 = .ok (.iconst 2, 1) := by decide +kernel
theorem dX5_isLegal_13 : decode cX5_isLegal 13 = .ok (.if_icmp .eq 7, 3) := by decide +kernel
theorem dX5_isLegal_16 : decode cX5_isLegal 16 = .ok (.iconst 1, 1) := by decide +kernel
theorem dX5_isLegal_17 : decode cX5_isLegal 17 = .ok (.goto 4, 3) := by decide +kernel
theorem dX5_isLegal_20 : decode cX5_isLegal 20 = .ok (.iconst 0, 1) := by decide +kernel
theorem dX5_isLegal_21 : decode cX5_isLegal 21 = .ok (.ireturn, 1) := by decide +kernel
theorem dX5_teamRuns_0 : decode cX5_teamRuns 0 = .ok (.aload_n 0, 1) := by decide +kernel
theorem dX5_teamRuns_1 : decode cX5_teamRuns 1 = .ok (.getfield 21, 3) := by decide +kernel
theorem dX5_teamRuns_4 : decode cX5_teamRuns 4 = .ok (.iconst 1, 1) := by decide +kernel
theorem dX5_teamRuns_5 : decode cX5_teamRuns 5 = .ok (.if_icmp .eq 11, 3) := by decide +kernel
theorem dX5_teamRuns_8 : decode cX5_teamRuns 8 = .ok (.aload_n 0, 1) := by decide +kernel
theorem dX5_teamRuns_9 : decode cX5_teamRuns 9 = .ok (.getfield 21, 3) := by decide +kernel
theorem dX5_teamRuns_12 : decode cX5_teamRuns 12 = .ok (.iconst 2, 1) := by decide +kernel
theorem dX5_teamRuns_13 : decode cX5_teamRuns 13 = .ok (.if_icmp .ne 12, 3) := by decide +kernel
theorem dX5_teamRuns_16 : decode cX5_teamRuns 16 = .ok (.aload_n 0, 1) := by decide +kernel
theorem dX5_teamRuns_17 : decode cX5_teamRuns 17 = .ok (.getfield 24, 3) := by decide +kernel
theorem dX5_teamRuns_20 : decode cX5_teamRuns 20 = .ok (.iconst 1, 1) := by decide +kernel
theorem dX5_teamRuns_21 : decode cX5_teamRuns 21 = .ok (.iadd, 1) := by decide +kernel
theorem dX5_teamRuns_22 : decode cX5_teamRuns 22 = .ok (.goto 7, 3) := by decide +kernel
theorem dX5_teamRuns_25 : decode cX5_teamRuns 25 = .ok (.aload_n 0, 1) := by decide +kernel
theorem dX5_teamRuns_26 : decode cX5_teamRuns 26 = .ok (.getfield 24, 3) := by decide +kernel
theorem dX5_teamRuns_29 : decode cX5_teamRuns 29 = .ok (.ireturn, 1) := by decide +kernel
theorem dX5_strikerRuns_0 : decode cX5_strikerRuns 0 = .ok (.aload_n 0, 1) := by decide +kernel
theorem dX5_strikerRuns_1 : decode cX5_strikerRuns 1 = .ok (.getfield 21, 3) := by decide +kernel
theorem dX5_strikerRuns_4 : decode cX5_strikerRuns 4 = .ok (.ifCond .eq 11, 3) := by decide +kernel
theorem dX5_strikerRuns_7 : decode cX5_strikerRuns 7 = .ok (.aload_n 0, 1) := by decide +kernel
theorem dX5_strikerRuns_8 : decode cX5_strikerRuns 8 = .ok (.getfield 21, 3) := by decide +kernel
theorem dX5_strikerRuns_11 : decode cX5_strikerRuns 11 = .ok (.iconst 2, 1) := by decide +kernel
theorem dX5_strikerRuns_12 : decode cX5_strikerRuns 12 = .ok (.if_icmp .ne 10, 3) := by decide +kernel
theorem dX5_strikerRuns_15 : decode cX5_strikerRuns 15 = .ok (.aload_n 0, 1) := by decide +kernel
theorem dX5_strikerRuns_16 : decode cX5_strikerRuns 16 = .ok (.getfield 24, 3) := by decide +kernel
theorem dX5_strikerRuns_19 : decode cX5_strikerRuns 19 = .ok (.goto 4, 3) := by decide +kernel
theorem dX5_strikerRuns_22 : decode cX5_strikerRuns 22 = .ok (.iconst 0, 1) := by decide +kernel
theorem dX5_strikerRuns_23 : decode cX5_strikerRuns 23 = .ok (.ireturn, 1) := by decide +kernel
theorem dX5_bowlerRuns_0 : decode cX5_bowlerRuns 0 = .ok (.aload_n 0, 1) := by decide +kernel
theorem dX5_bowlerRuns_1 : decode cX5_bowlerRuns 1 = .ok (.getfield 21, 3) := by decide +kernel
theorem dX5_bowlerRuns_4 : decode cX5_bowlerRuns 4 = .ok (.iconst 3, 1) := by decide +kernel
theorem dX5_bowlerRuns_5 : decode cX5_bowlerRuns 5 = .ok (.if_icmp .eq 11, 3) := by decide +kernel
theorem dX5_bowlerRuns_8 : decode cX5_bowlerRuns 8 = .ok (.aload_n 0, 1) := by decide +kernel
theorem dX5_bowlerRuns_9 : decode cX5_bowlerRuns 9 = .ok (.getfield 21, 3) := by decide +kernel
theorem dX5_bowlerRuns_12 : decode cX5_bowlerRuns 12 = .ok (.iconst 4, 1) := by decide +kernel
theorem dX5_bowlerRuns_13 : decode cX5_bowlerRuns 13 = .ok (.if_icmp .ne 5, 3) := by decide +kernel
theorem dX5_bowlerRuns_16 : decode cX5_bowlerRuns 16 = .ok (.iconst 0, 1) := by decide +kernel
theorem dX5_bowlerRuns_17 : decode cX5_bowlerRuns 17 = .ok (.ireturn, 1) := by decide +kernel
theorem dX5_bowlerRuns_18 : decode cX5_bowlerRuns 18 = .ok (.aload_n 0, 1) := by decide +kernel
theorem dX5_bowlerRuns_19 : decode cX5_bowlerRuns 19 = .ok (.getfield 21, 3) := by decide +kernel
theorem dX5_bowlerRuns_22 : decode cX5_bowlerRuns 22 = .ok (.ifCond .ne 10, 3) := by decide +kernel
theorem dX5_bowlerRuns_25 : decode cX5_bowlerRuns 25 = .ok (.aload_n 0, 1) := by decide +kernel
theorem dX5_bowlerRuns_26 : decode cX5_bowlerRuns 26 = .ok (.getfield 24, 3) := by decide +kernel
theorem dX5_bowlerRuns_29 : decode cX5_bowlerRuns 29 = .ok (.goto 9, 3) := by decide +kernel
theorem dX5_bowlerRuns_32 : decode cX5_bowlerRuns 32 = .ok (.aload_n 0, 1) := by decide +kernel
theorem dX5_bowlerRuns_33 : decode cX5_bowlerRuns 33 = .ok (.getfield 24, 3) := by decide +kernel
theorem dX5_bowlerRuns_36 : decode cX5_bowlerRuns 36 = .ok (.iconst 1, 1) := by decide +kernel
theorem dX5_bowlerRuns_37 : decode cX5_bowlerRuns 37 = .ok (.iadd, 1) := by decide +kernel
theorem dX5_bowlerRuns_38 : decode cX5_bowlerRuns 38 = .ok (.ireturn, 1) := by decide +kernel
theorem dX5_changesEnds_0 : decode cX5_changesEnds 0 = .ok (.aload_n 0, 1) := by decide +kernel
theorem dX5_changesEnds_1 : decode cX5_changesEnds 1 = .ok (.getfield 27, 3) := by decide +kernel
theorem dX5_changesEnds_4 : decode cX5_changesEnds 4 = .ok (.ifCond .ne 17, 3) := by decide +kernel
theorem dX5_changesEnds_7 : decode cX5_changesEnds 7 = .ok (.aload_n 0, 1) := by decide +kernel
theorem dX5_changesEnds_8 : decode cX5_changesEnds 8 = .ok (.getfield 24, 3) := by decide +kernel
theorem dX5_changesEnds_11 : decode cX5_changesEnds 11 = .ok (.iconst 1, 1) := by decide +kernel
theorem dX5_changesEnds_12 : decode cX5_changesEnds 12 = .ok (.iand, 1) := by decide +kernel
theorem dX5_changesEnds_13 : decode cX5_changesEnds 13 = .ok (.iconst 1, 1) := by decide +kernel
theorem dX5_changesEnds_14 : decode cX5_changesEnds 14 = .ok (.if_icmp .ne 7, 3) := by decide +kernel
theorem dX5_changesEnds_17 : decode cX5_changesEnds 17 = .ok (.iconst 1, 1) := by decide +kernel
theorem dX5_changesEnds_18 : decode cX5_changesEnds 18 = .ok (.goto 4, 3) := by decide +kernel
theorem dX5_changesEnds_21 : decode cX5_changesEnds 21 = .ok (.iconst 0, 1) := by decide +kernel
theorem dX5_changesEnds_22 : decode cX5_changesEnds 22 = .ok (.ireturn, 1) := by decide +kernel
theorem dX5_isPossibleWicket_0 : decode cX5_isPossibleWicket 0 = .ok (.aload_n 0, 1) := by decide +kernel
theorem dX5_isPossibleWicket_1 : decode cX5_isPossibleWicket 1 = .ok (.getfield 31, 3) := by decide +kernel
theorem dX5_isPossibleWicket_4 : decode cX5_isPossibleWicket 4 = .ok (.iconst 5, 1) := by decide +kernel
theorem dX5_isPossibleWicket_5 : decode cX5_isPossibleWicket 5 = .ok (.if_icmp .ne 5, 3) := by decide +kernel
theorem dX5_isPossibleWicket_8 : decode cX5_isPossibleWicket 8 = .ok (.iconst 1, 1) := by decide +kernel
theorem dX5_isPossibleWicket_9 : decode cX5_isPossibleWicket 9 = .ok (.ireturn, 1) := by decide +kernel
theorem dX5_isPossibleWicket_10 : decode cX5_isPossibleWicket 10 = .ok (.aload_n 0, 1) := by decide +kernel
theorem dX5_isPossibleWicket_11 : decode cX5_isPossibleWicket 11 = .ok (.getfield 21, 3) := by decide +kernel
theorem dX5_isPossibleWicket_14 : decode cX5_isPossibleWicket 14 = .ok (.ifCond .eq 19, 3) := by decide +kernel
theorem dX5_isPossibleWicket_17 : decode cX5_isPossibleWicket 17 = .ok (.aload_n 0, 1) := by decide +kernel
theorem dX5_isPossibleWicket_18 : decode cX5_isPossibleWicket 18 = .ok (.getfield 21, 3) := by decide +kernel
theorem dX5_isPossibleWicket_21 : decode cX5_isPossibleWicket 21 = .ok (.iconst 1, 1) := by decide +kernel
theorem dX5_isPossibleWicket_22 : decode cX5_isPossibleWicket 22 = .ok (.if_icmp .ne 15, 3) := by decide +kernel
theorem dX5_isPossibleWicket_25 : decode cX5_isPossibleWicket 25 = .ok (.aload_n 0, 1) := by decide +kernel
theorem dX5_isPossibleWicket_26 : decode cX5_isPossibleWicket 26 = .ok (.getfield 31, 3) := by decide +kernel
theorem dX5_isPossibleWicket_29 : decode cX5_isPossibleWicket 29 = .ok (.iconst 3, 1) := by decide +kernel
theorem dX5_isPossibleWicket_30 : decode cX5_isPossibleWicket 30 = .ok (.if_icmp .ne 7, 3) := by decide +kernel
theorem dX5_isPossibleWicket_33 : decode cX5_isPossibleWicket 33 = .ok (.iconst 1, 1) := by decide +kernel
theorem dX5_isPossibleWicket_34 : decode cX5_isPossibleWicket 34 = .ok (.goto 4, 3) := by decide +kernel
theorem dX5_isPossibleWicket_37 : decode cX5_isPossibleWicket 37 = .ok (.iconst 0, 1) := by decide +kernel
theorem dX5_isPossibleWicket_38 : decode cX5_isPossibleWicket 38 = .ok (.istore_n 1, 1) := by decide +kernel
theorem dX5_isPossibleWicket_39 : decode cX5_isPossibleWicket 39 = .ok (.iload_n 1, 1) := by decide +kernel
theorem dX5_isPossibleWicket_40 : decode cX5_isPossibleWicket 40 = .ok (.ifCond .eq 36, 3) := by decide +kernel
theorem dX5_isPossibleWicket_43 : decode cX5_isPossibleWicket 43 = .ok (.aload_n 0, 1) := by decide +kernel
theorem dX5_isPossibleWicket_44 : decode cX5_isPossibleWicket 44 = .ok (.getfield 34, 3) := by decide +kernel
theorem dX5_isPossibleWicket_47 : decode cX5_isPossibleWicket 47 = .ok (.ifCond .ne 29, 3) := by decide +kernel
theorem dX5_isPossibleWicket_50 : decode cX5_isPossibleWicket 50 = .ok (.aload_n 0, 1) := by decide +kernel
theorem dX5_isPossibleWicket_51 : decode cX5_isPossibleWicket 51 = .ok (.getfield 24, 3) := by decide +kernel
theorem dX5_isPossibleWicket_54 : decode cX5_isPossibleWicket 54 = .ok (.ifCond .ne 22, 3) := by decide +kernel
theorem dX5_isPossibleWicket_57 : decode cX5_isPossibleWicket 57 = .ok (.aload_n 0, 1) := by decide +kernel
theorem dX5_isPossibleWicket_58 : decode cX5_isPossibleWicket 58 = .ok (.getfield 37, 3) := by decide +kernel
theorem dX5_isPossibleWicket_61 : decode cX5_isPossibleWicket 61 = .ok (.ifCond .eq 11, 3) := by decide +kernel
theorem dX5_isPossibleWicket_64 : decode cX5_isPossibleWicket 64 = .ok (.aload_n 0, 1) := by decide +kernel
theorem dX5_isPossibleWicket_65 : decode cX5_isPossibleWicket 65 = .ok (.getfield 31, 3) := by decide +kernel
theorem dX5_isPossibleWicket_68 : decode cX5_isPossibleWicket 68 = .ok (.iconst 1, 1) := by decide +kernel
theorem dX5_isPossibleWicket_69 : decode cX5_isPossibleWicket 69 = .ok (.if_icmp .ne 7, 3) := by decide +kernel
theorem dX5_isPossibleWicket_72 : decode cX5_isPossibleWicket 72 = .ok (.iconst 1, 1) := by decide +kernel
theorem dX5_isPossibleWicket_73 : decode cX5_isPossibleWicket 73 = .ok (.goto 4, 3) := by decide +kernel
theorem dX5_isPossibleWicket_76 : decode cX5_isPossibleWicket 76 = .ok (.iconst 0, 1) := by decide +kernel
theorem dX5_isPossibleWicket_77 : decode cX5_isPossibleWicket 77 = .ok (.ireturn, 1) := by decide +kernel
theorem dX6_init_0 : decode cX6_init 0 = .ok (.aload_n 0, 1) := by decide +kernel
theorem dX6_init_1 : decode cX6_init 1 = .ok (.invokespecial 1, 3) := by decide +kernel
theorem dX6_init_4 : decode cX6_init 4 = .ok (.aload_n 0, 1) := by decide +kernel
theorem dX6_init_5 : decode cX6_init 5 = .ok (.iconst 0, 1) := by decide +kernel
theorem dX6_init_6 : decode cX6_init 6 = .ok (.putfield 7, 3) := by decide +kernel
theorem dX6_init_9 : decode cX6_init 9 = .ok (.aload_n 0, 1) := by decide +kernel
theorem dX6_init_10 : decode cX6_init 10 = .ok (.iload_n 2, 1) := by decide +kernel
theorem dX6_init_11 : decode cX6_init 11 = .ok (.putfield 13, 3) := by decide +kernel
theorem dX6_init_14 : decode cX6_init 14 = .ok (.aload_n 0, 1) := by decide +kernel
theorem dX6_init_15 : decode cX6_init 15 = .ok (.iconst 0, 1) := by decide +kernel
theorem dX6_init_16 : decode cX6_init 16 = .ok (.iload_n 1, 1) := by decide +kernel
theorem dX6_init_17 : decode cX6_init 17 = .ok (.iload_n 2, 1) := by decide +kernel
theorem dX6_init_18 : decode cX6_init 18 = .ok (.imul, 1) := by decide +kernel
theorem dX6_init_19 : decode cX6_init 19 = .ok (.invokestatic 16, 3) := by decide +kernel
theorem dX6_init_22 : decode cX6_init 22 = .ok (.newarray .int, 2) := by decide +kernel
theorem dX6_init_24 : decode cX6_init 24 = .ok (.putfield 22, 3) := by decide +kernel
theorem dX6_init_27 : decode cX6_init 27 = .ok (.return_, 1) := by decide +kernel
set_option maxRecDepth 20000 in
theorem ggX6_restart_X6_addRow : GoodIn wsX6_restart wsX6_addRow := goodIn_ca (goodIn_r _ [6, 1, 7, 8, 9, 10, 11] (by decide +kernel) (by decide +kernel)) (goodIn_sub (fun _ h => List.mem_cons_of_mem _ (List.mem_append_right _ h)) (by decide +kernel))
set_option maxRecDepth 20000 in
theorem gX6_restart_X6_addRow : GoodIn wsX6_restart (wsV RX6 26 RX6 yX6_addRow wsX6_addRow) := goodIn_app (goodIn_of _ (by decide +kernel)) ggX6_restart_X6_addRow
theorem dX6_restart_0 : decode cX6_restart 0 = .ok (.aload_n 0, 1) := by decide +kernel
theorem dX6_restart_1 : decode cX6_restart 1 = .ok (.iconst 0, 1) := by decide +kernel
theorem dX6_restart_2 : decode cX6_restart 2 = .ok (.putfield 7, 3) := by decide +kernel
theorem dX6_restart_5 : decode cX6_restart 5 = .ok (.iconst 0, 1) := by decide +kernel
theorem dX6_restart_6 : decode cX6_restart 6 = .ok (.istore_n 2, 1) := by decide +kernel
theorem dX6_restart_7 : decode cX6_restart 7 = .ok (.iload_n 2, 1) := by decide +kernel
theorem dX6_restart_8 : decode cX6_restart 8 = .ok (.iload_n 1, 1) := by decide +kernel
theorem dX6_restart_9 : decode cX6_restart 9 = .ok (.if_icmp .ge 13, 3) := by decide +kernel
theorem dX6_restart_12 : decode cX6_restart 12 = .ok (.aload_n 0, 1) := by decide +kernel
theorem dX6_restart_13 : decode cX6_restart 13 = .ok (.invokevirtual 26, 3) := by decide +kernel
theorem dX6_restart_16 : decode cX6_restart 16 = .ok (.iinc 2 1, 3) := by decide +kernel
theorem dX6_restart_19 : decode cX6_restart 19 = .ok (.goto (-12), 3) := by decide +kernel
theorem dX6_restart_22 : decode cX6_restart 22 = .ok (.return_, 1) := by decide +kernel
theorem dX6_addRow_0 : decode cX6_addRow 0 = .ok (.aload_n 0, 1) := by decide +kernel
theorem dX6_addRow_1 : decode cX6_addRow 1 = .ok (.getfield 7, 3) := by decide +kernel
theorem dX6_addRow_4 : decode cX6_addRow 4 = .ok (.aload_n 0, 1) := by decide +kernel
theorem dX6_addRow_5 : decode cX6_addRow 5 = .ok (.getfield 13, 3) := by decide +kernel
theorem dX6_addRow_8 : decode cX6_addRow 8 = .ok (.imul, 1) := by decide +kernel
theorem dX6_addRow_9 : decode cX6_addRow 9 = .ok (.istore_n 1, 1) := by decide +kernel
theorem dX6_addRow_10 : decode cX6_addRow 10 = .ok (.iload_n 1, 1) := by decide +kernel
theorem dX6_addRow_11 : decode cX6_addRow 11 = .ok (.ifCond .lt 17, 3) := by decide +kernel
theorem dX6_addRow_14 : decode cX6_addRow 14 = .ok (.iload_n 1, 1) := by decide +kernel
theorem dX6_addRow_15 : decode cX6_addRow 15 = .ok (.aload_n 0, 1) := by decide +kernel
theorem dX6_addRow_16 : decode cX6_addRow 16 = .ok (.getfield 13, 3) := by decide +kernel
theorem dX6_addRow_19 : decode cX6_addRow 19 = .ok (.iadd, 1) := by decide +kernel
theorem dX6_addRow_20 : decode cX6_addRow 20 = .ok (.aload_n 0, 1) := by decide +kernel
theorem dX6_addRow_21 : decode cX6_addRow 21 = .ok (.getfield 22, 3) := by decide +kernel
theorem dX6_addRow_24 : decode cX6_addRow 24 = .ok (.arraylength, 1) := by decide +kernel
theorem dX6_addRow_25 : decode cX6_addRow 25 = .ok (.if_icmp .le 4, 3) := by decide +kernel
theorem dX6_addRow_28 : decode cX6_addRow 28 = .ok (.return_, 1) := by decide +kernel
theorem dX6_addRow_29 : decode cX6_addRow 29 = .ok (.aload_n 0, 1) := by decide +kernel
theorem dX6_addRow_30 : decode cX6_addRow 30 = .ok (.dup, 1) := by decide +kernel
theorem dX6_addRow_31 : decode cX6_addRow 31 = .ok (.getfield 7, 3) := by decide +kernel
theorem dX6_addRow_34 : decode cX6_addRow 34 = .ok (.iconst 1, 1) := by decide +kernel
theorem dX6_addRow_35 : decode cX6_addRow 35 = .ok (.iadd, 1) := by decide +kernel
theorem dX6_addRow_36 : decode cX6_addRow 36 = .ok (.putfield 7, 3) := by decide +kernel
theorem dX6_addRow_39 : decode cX6_addRow 39 = .ok (.iload_n 1, 1) := by decide +kernel
theorem dX6_addRow_40 : decode cX6_addRow 40 = .ok (.istore_n 2, 1) := by decide +kernel
theorem dX6_addRow_41 : decode cX6_addRow 41 = .ok (.iload_n 2, 1) := by decide +kernel
theorem dX6_addRow_42 : decode cX6_addRow 42 = .ok (.iload_n 1, 1) := by decide +kernel
theorem dX6_addRow_43 : decode cX6_addRow 43 = .ok (.aload_n 0, 1) := by decide +kernel
theorem dX6_addRow_44 : decode cX6_addRow 44 = .ok (.getfield 13, 3) := by decide +kernel
theorem dX6_addRow_47 : decode cX6_addRow 47 = .ok (.iadd, 1) := by decide +kernel
theorem dX6_addRow_48 : decode cX6_addRow 48 = .ok (.if_icmp .ge 16, 3) := by decide +kernel
theorem dX6_addRow_51 : decode cX6_addRow 51 = .ok (.aload_n 0, 1) := by decide +kernel
theorem dX6_addRow_52 : decode cX6_addRow 52 = .ok (.getfield 22, 3) := by decide +kernel
theorem dX6_addRow_55 : decode cX6_addRow 55 = .ok (.iload_n 2, 1) := by decide +kernel
theorem dX6_addRow_56 : decode cX6_addRow 56 = .ok (.iconst 0, 1) := by decide +kernel
theorem dX6_addRow_57 : decode cX6_addRow 57 = .ok (.iastore, 1) := by decide +kernel
theorem dX6_addRow_58 : decode cX6_addRow 58 = .ok (.iinc 2 1, 3) := by decide +kernel
theorem dX6_addRow_61 : decode cX6_addRow 61 = .ok (.goto (-20), 3) := by decide +kernel
theorem dX6_addRow_64 : decode cX6_addRow 64 = .ok (.return_, 1) := by decide +kernel
theorem dX6_lastRow_0 : decode cX6_lastRow 0 = .ok (.aload_n 0, 1) := by decide +kernel
theorem dX6_lastRow_1 : decode cX6_lastRow 1 = .ok (.getfield 7, 3) := by decide +kernel
theorem dX6_lastRow_4 : decode cX6_lastRow 4 = .ok (.iconst 1, 1) := by decide +kernel
theorem dX6_lastRow_5 : decode cX6_lastRow 5 = .ok (.isub, 1) := by decide +kernel
theorem dX6_lastRow_6 : decode cX6_lastRow 6 = .ok (.ireturn, 1) := by decide +kernel
theorem dX6_hasRow_0 : decode cX6_hasRow 0 = .ok (.iload_n 1, 1) := by decide +kernel
theorem dX6_hasRow_1 : decode cX6_hasRow 1 = .ok (.ifCond .lt 15, 3) := by decide +kernel
theorem dX6_hasRow_4 : decode cX6_hasRow 4 = .ok (.iload_n 1, 1) := by decide +kernel
theorem dX6_hasRow_5 : decode cX6_hasRow 5 = .ok (.aload_n 0, 1) := by decide +kernel
theorem dX6_hasRow_6 : decode cX6_hasRow 6 = .ok (.getfield 7, 3) := by decide +kernel
theorem dX6_hasRow_9 : decode cX6_hasRow 9 = .ok (.if_icmp .ge 7, 3) := by decide +kernel
theorem dX6_hasRow_12 : decode cX6_hasRow 12 = .ok (.iconst 1, 1) := by decide +kernel
theorem dX6_hasRow_13 : decode cX6_hasRow 13 = .ok (.goto 4, 3) := by decide +kernel
theorem dX6_hasRow_16 : decode cX6_hasRow 16 = .ok (.iconst 0, 1) := by decide +kernel
theorem dX6_hasRow_17 : decode cX6_hasRow 17 = .ok (.ireturn, 1) := by decide +kernel
theorem dX6_hasColumn_0 : decode cX6_hasColumn 0 = .ok (.iload_n 1, 1) := by decide +kernel
theorem dX6_hasColumn_1 : decode cX6_hasColumn 1 = .ok (.ifCond .lt 15, 3) := by decide +kernel
theorem dX6_hasColumn_4 : decode cX6_hasColumn 4 = .ok (.iload_n 1, 1) := by decide +kernel
theorem dX6_hasColumn_5 : decode cX6_hasColumn 5 = .ok (.aload_n 0, 1) := by decide +kernel
theorem dX6_hasColumn_6 : decode cX6_hasColumn 6 = .ok (.getfield 13, 3) := by decide +kernel
theorem dX6_hasColumn_9 : decode cX6_hasColumn 9 = .ok (.if_icmp .ge 7, 3) := by decide +kernel
theorem dX6_hasColumn_12 : decode cX6_hasColumn 12 = .ok (.iconst 1, 1) := by decide +kernel
theorem dX6_hasColumn_13 : decode cX6_hasColumn 13 = .ok (.goto 4, 3) := by decide +kernel
theorem dX6_hasColumn_16 : decode cX6_hasColumn 16 = .ok (.iconst 0, 1) := by decide +kernel
theorem dX6_hasColumn_17 : decode cX6_hasColumn 17 = .ok (.ireturn, 1) := by decide +kernel
theorem dX6_get_0 : decode cX6_get 0 = .ok (.iload_n 1, 1) := by decide +kernel
theorem dX6_get_1 : decode cX6_get 1 = .ok (.aload_n 0, 1) := by decide +kernel
theorem dX6_get_2 : decode cX6_get 2 = .ok (.getfield 13, 3) := by decide +kernel
theorem dX6_get_5 : decode cX6_get 5 = .ok (.imul, 1) := by decide +kernel
theorem dX6_get_6 : decode cX6_get 6 = .ok (.iload_n 2, 1) := by decide +kernel
theorem dX6_get_7 : decode cX6_get 7 = .ok (.iadd, 1) := by decide +kernel
theorem dX6_get_8 : decode cX6_get 8 = .ok (.istore_n 3, 1) := by decide +kernel
theorem dX6_get_9 : decode cX6_get 9 = .ok (.iload_n 1, 1) := by decide +kernel
theorem dX6_get_10 : decode cX6_get 10 = .ok (.ifCond .lt 27, 3) := by decide +kernel
theorem dX6_get_13 : decode cX6_get 13 = .ok (.iload_n 1, 1) := by decide +kernel
theorem dX6_get_14 : decode cX6_get 14 = .ok (.aload_n 0, 1) := by decide +kernel
theorem dX6_get_15 : decode cX6_get 15 = .ok (.getfield 7, 3) := by decide +kernel
theorem dX6_get_18 : decode cX6_get 18 = .ok (.if_icmp .ge 19, 3) := by decide +kernel
theorem dX6_get_21 : decode cX6_get 21 = .ok (.iload_n 2, 1) := by decide +kernel
theorem dX6_get_22 : decode cX6_get 22 = .ok (.ifCond .lt 15, 3) := by decide +kernel
theorem dX6_get_25 : decode cX6_get 25 = .ok (.iload_n 2, 1) := by decide +kernel
theorem dX6_get_26 : decode cX6_get 26 = .ok (.aload_n 0, 1) := by decide +kernel
theorem dX6_get_27 : decode cX6_get 27 = .ok (.getfield 13, 3) := by decide +kernel
theorem dX6_get_30 : decode cX6_get 30 = .ok (.if_icmp .ge 7, 3) := by decide +kernel
theorem dX6_get_33 : decode cX6_get 33 = .ok (.iconst 1, 1) := by decide +kernel
theorem dX6_get_34 : decode cX6_get 34 = .ok (.goto 4, 3) := by decide +kernel
theorem dX6_get_37 : decode cX6_get 37 = .ok (.iconst 0, 1) := by decide +kernel
theorem dX6_get_38 : decode cX6_get 38 = .ok (.istore 4, 2) := by decide +kernel
theorem dX6_get_40 : decode cX6_get 40 = .ok (.iload 4, 2) := by decide +kernel
theorem dX6_get_42 : decode cX6_get 42 = .ok (.ifCond .eq 25, 3) := by decide +kernel
theorem dX6_get_45 : decode cX6_get 45 = .ok (.iload_n 3, 1) := by decide +kernel
theorem dX6_get_46 : decode cX6_get 46 = .ok (.ifCond .lt 21, 3) := by decide +kernel
theorem dX6_get_49 : decode cX6_get 49 = .ok (.iload_n 3, 1) := by decide +kernel
theorem dX6_get_50 : decode cX6_get 50 = .ok (.aload_n 0, 1) := by decide +kernel
theorem dX6_get_51 : decode cX6_get 51 = .ok (.getfield 22, 3) := by decide +kernel
theorem dX6_get_54 : decode cX6_get 54 = .ok (.arraylength, 1) := by decide +kernel
theorem dX6_get_55 : decode cX6_get 55 = .ok (.if_icmp .ge 12, 3) := by decide +kernel
theorem dX6_get_58 : decode cX6_get 58 = .ok (.aload_n 0, 1) := by decide +kernel
theorem dX6_get_59 : decode cX6_get 59 = .ok (.getfield 22, 3) := by decide +kernel
theorem dX6_get_62 : decode cX6_get 62 = .ok (.iload_n 3, 1) := by decide +kernel
theorem dX6_get_63 : decode cX6_get 63 = .ok (.iaload, 1) := by decide +kernel
theorem dX6_get_64 : decode cX6_get 64 = .ok (.goto 4, 3) := by decide +kernel
theorem dX6_get_67 : decode cX6_get 67 = .ok (.iconst 0, 1) := by decide +kernel
theorem dX6_get_68 : decode cX6_get 68 = .ok (.ireturn, 1) := by decide +kernel
theorem dX6_set_0 : decode cX6_set 0 = .ok (.iload_n 1, 1) := by decide +kernel
theorem dX6_set_1 : decode cX6_set 1 = .ok (.aload_n 0, 1) := by decide +kernel
theorem dX6_set_2 : decode cX6_set 2 = .ok (.getfield 13, 3) := by decide +kernel
theorem dX6_set_5 : decode cX6_set 5 = .ok (.imul, 1) := by decide +kernel
theorem dX6_set_6 : decode cX6_set 6 = .ok (.iload_n 2, 1) := by decide +kernel
theorem dX6_set_7 : decode cX6_set 7 = .ok (.iadd, 1) := by decide +kernel
theorem dX6_set_8 : decode cX6_set 8 = .ok (.istore 4, 2) := by decide +kernel
theorem dX6_set_10 : decode cX6_set 10 = .ok (.iload_n 1, 1) := by decide +kernel
theorem dX6_set_11 : decode cX6_set 11 = .ok (.ifCond .lt 27, 3) := by decide +kernel
theorem dX6_set_14 : decode cX6_set 14 = .ok (.iload_n 1, 1) := by decide +kernel
theorem dX6_set_15 : decode cX6_set 15 = .ok (.aload_n 0, 1) := by decide +kernel
theorem dX6_set_16 : decode cX6_set 16 = .ok (.getfield 7, 3) := by decide +kernel
theorem dX6_set_19 : decode cX6_set 19 = .ok (.if_icmp .ge 19, 3) := by decide +kernel
theorem dX6_set_22 : decode cX6_set 22 = .ok (.iload_n 2, 1) := by decide +kernel
theorem dX6_set_23 : decode cX6_set 23 = .ok (.ifCond .lt 15, 3) := by decide +kernel
theorem dX6_set_26 : decode cX6_set 26 = .ok (.iload_n 2, 1) := by decide +kernel
theorem dX6_set_27 : decode cX6_set 27 = .ok (.aload_n 0, 1) := by decide +kernel
theorem dX6_set_28 : decode cX6_set 28 = .ok (.getfield 13, 3) := by decide +kernel
theorem dX6_set_31 : decode cX6_set 31 = .ok (.if_icmp .ge 7, 3) := by decide +kernel
theorem dX6_set_34 : decode cX6_set 34 = .ok (.iconst 1, 1) := by decide +kernel
theorem dX6_set_35 : decode cX6_set 35 = .ok (.goto 4, 3) := by decide +kernel
theorem dX6_set_38 : decode cX6_set 38 = .ok (.iconst 0, 1) := by decide +kernel
theorem dX6_set_39 : decode cX6_set 39 = .ok (.istore 5, 2) := by decide +kernel
theorem dX6_set_41 : decode cX6_set 41 = .ok (.iload 5, 2) := by decide +kernel
theorem dX6_set_43 : decode cX6_set 43 = .ok (.ifCond .eq 26, 3) := by decide +kernel
theorem dX6_set_46 : decode cX6_set 46 = .ok (.iload 4, 2) := by decide +kernel
theorem dX6_set_48 : decode cX6_set 48 = .ok (.ifCond .lt 21, 3) := by decide +kernel
theorem dX6_set_51 : decode cX6_set 51 = .ok (.iload 4, 2) := by decide +kernel
theorem dX6_set_53 : decode cX6_set 53 = .ok (.aload_n 0, 1) := by decide +kernel
theorem dX6_set_54 : decode cX6_set 54 = .ok (.getfield 22, 3) := by decide +kernel
theorem dX6_set_57 : decode cX6_set 57 = .ok (.arraylength, 1) := by decide +kernel
theorem dX6_set_58 : decode cX6_set 58 = .ok (.if_icmp .ge 11, 3) := by decide +kernel
theorem dX6_set_61 : decode cX6_set 61 = .ok (.aload_n 0, 1) := by decide +kernel
theorem dX6_set_62 : decode cX6_set 62 = .ok (.getfield 22, 3) := by decide +kernel
theorem dX6_set_65 : decode cX6_set 65 = .ok (.iload 4, 2) := by decide +kernel
theorem dX6_set_67 : decode cX6_set 67 = .ok (.iload_n 3, 1) := by decide +kernel
theorem dX6_set_68 : decode cX6_set 68 = .ok (.iastore, 1) := by decide +kernel
theorem dX6_set_69 : decode cX6_set 69 = .ok (.return_, 1) := by decide +kernel
theorem dX6_increase_0 : decode cX6_increase 0 = .ok (.iload_n 1, 1) := by decide +kernel
theorem dX6_increase_1 : decode cX6_increase 1 = .ok (.aload_n 0, 1) := by decide +kernel
theorem dX6_increase_2 : decode cX6_increase 2 = .ok (.getfield 13, 3) := by decide +kernel
theorem dX6_increase_5 : decode cX6_increase 5 = .ok (.imul, 1) := by decide +kernel
theorem dX6_increase_6 : decode cX6_increase 6 = .ok (.iload_n 2, 1) := by decide +kernel
theorem dX6_increase_7 : decode cX6_increase 7 = .ok (.iadd, 1) := by decide +kernel
theorem dX6_increase_8 : decode cX6_increase 8 = .ok (.istore 4, 2) := by decide +kernel
theorem dX6_increase_10 : decode cX6_increase 10 = .ok (.iload_n 1, 1) := by decide +kernel
theorem dX6_increase_11 : decode cX6_increase 11 = .ok (.ifCond .lt 27, 3) := by decide +kernel
theorem dX6_increase_14 : decode cX6_increase 14 = .ok (.iload_n 1, 1) := by decide +kernel
theorem dX6_increase_15 : decode cX6_increase 15 = .ok (.aload_n 0, 1) := by decide +kernel
theorem dX6_increase_16 : decode cX6_increase 16 = .ok (.getfield 7, 3) := by decide +kernel
theorem dX6_increase_19 : decode cX6_increase 19 = .ok (.if_icmp .ge 19, 3) := by decide +kernel
theorem dX6_increase_22 : decode cX6_increase 22 = .ok (.iload_n 2, 1) := by decide +kernel
theorem dX6_increase_23 : decode cX6_increase 23 = .ok (.ifCond .lt 15, 3) := by decide +kernel
theorem dX6_increase_26 : decode cX6_increase 26 = .ok (.iload_n 2, 1) := by decide +kernel
theorem dX6_increase_27 : decode cX6_increase 27 = .ok (.aload_n 0, 1) := by decide +kernel
theorem dX6_increase_28 : decode cX6_increase 28 = .ok (.getfield 13, 3) := by decide +kernel
theorem dX6_increase_31 : decode cX6_increase 31 = .ok (.if_icmp .ge 7, 3) := by decide +kernel
theorem dX6_increase_34 : decode cX6_increase 34 = .ok (.iconst 1, 1) := by decide +kernel
theorem dX6_increase_35 : decode cX6_increase 35 = .ok (.goto 4, 3) := by decide +kernel
theorem dX6_increase_38 : decode cX6_increase 38 = .ok (.iconst 0, 1) := by decide +kernel
theorem dX6_increase_39 : decode cX6_increase 39 = .ok (.istore 5, 2) := by decide +kernel
theorem dX6_increase_41 : decode cX6_increase 41 = .ok (.iload 5, 2) := by decide +kernel
theorem dX6_increase_43 : decode cX6_increase 43 = .ok (.ifCond .eq 29, 3) := by decide +kernel
theorem dX6_increase_46 : decode cX6_increase 46 = .ok (.iload 4, 2) := by decide +kernel
theorem dX6_increase_48 : decode cX6_increase 48 = .ok (.ifCond .lt 24, 3) := by decide +kernel
theorem dX6_increase_51 : decode cX6_increase 51 = .ok (.iload 4, 2) := by decide +kernel
theorem dX6_increase_53 : decode cX6_increase 53 = .ok (.aload_n 0, 1) := by decide +kernel
theorem dX6_increase_54 : decode cX6_increase 54 = .ok (.getfield 22, 3) := by decide +kernel
theorem dX6_increase_57 : decode cX6_increase 57 = .ok (.arraylength, 1) := by decide +kernel
theorem dX6_increase_58 : decode cX6_increase 58 = .ok (.if_icmp .ge 14, 3) := by decide +kernel
theorem dX6_increase_61 : decode cX6_increase 61 = .ok (.aload_n 0, 1) := by decide +kernel
theorem dX6_increase_62 : decode cX6_increase 62 = .ok (.getfield 22, 3) := by decide +kernel
theorem dX6_increase_65 : decode cX6_increase 65 = .ok (.iload 4, 2) := by decide +kernel
theorem dX6_increase_67 : decode cX6_increase 67 = .ok (.dup2, 1) := by decide +kernel
theorem dX6_increase_68 : decode cX6_increase 68 = .ok (.iaload, 1) := by decide +kernel
theorem dX6_increase_69 : decode cX6_increase 69 = .ok (.iload_n 3, 1) := by decide +kernel
theorem dX6_increase_70 : decode cX6_increase 70 = .ok (.iadd, 1) := by decide +kernel
theorem dX6_increase_71 : decode cX6_increase 71 = .ok (.iastore, 1) := by decide +kernel
theorem dX6_increase_72 : decode cX6_increase 72 = .ok (.return_, 1) := by decide +kernel
set_option maxRecDepth 20000 in
theorem ggX6_isLike_X6_get : GoodIn wsX6_isLike wsX6_get := goodIn_ca (goodIn_r _ [7, 2, 1, 8, 9, 10, 11] (by decide +kernel) (by decide +kernel)) (goodIn_sub (fun _ h => List.mem_cons_of_mem _ (List.mem_append_right _ h)) (by decide +kernel))
set_option maxRecDepth 20000 in
theorem gX6_isLike_X6_get : GoodIn wsX6_isLike (wsV RX6 29 RX6 yX6_get wsX6_get) := goodIn_app (goodIn_of _ (by decide +kernel)) ggX6_isLike_X6_get
theorem dX6_isLike_0 : decode cX6_isLike 0 = .ok (.aload_n 0, 1) := by decide +kernel
theorem dX6_isLike_1 : decode cX6_isLike 1 = .ok (.getfield 7, 3) := by decide +kernel
theorem dX6_isLike_4 : decode cX6_isLike 4 = .ok (.aload_n 1, 1) := by decide +kernel
theorem dX6_isLike_5 : decode cX6_isLike 5 = .ok (.getfield 7, 3) := by decide +kernel
theorem dX6_isLike_8 : decode cX6_isLike 8 = .ok (.if_icmp .ne 14, 3) := by decide +kernel
theorem dX6_isLike_11 : decode cX6_isLike 11 = .ok (.aload_n 0, 1) := by decide +kernel
theorem dX6_isLike_12 : decode cX6_isLike 12 = .ok (.getfield 13, 3) := by decide +kernel
theorem dX6_isLike_15 : decode cX6_isLike 15 = .ok (.aload_n 1, 1) := by decide +kernel
theorem dX6_isLike_16 : decode cX6_isLike 16 = .ok (.getfield 13, 3) := by decide +kernel
theorem dX6_isLike_19 : decode cX6_isLike 19 = .ok (.if_icmp .eq 5, 3) := by decide +kernel
theorem dX6_isLike_22 : decode cX6_isLike 22 = .ok (.iconst 0, 1) := by decide +kernel
theorem dX6_isLike_23 : decode cX6_isLike 23 = .ok (.ireturn, 1) := by decide +kernel
theorem dX6_isLike_24 : decode cX6_isLike 24 = .ok (.iconst 0, 1) := by decide +kernel
theorem dX6_isLike_25 : decode cX6_isLike 25 = .ok (.istore_n 2, 1) := by decide +kernel
theorem dX6_isLike_26 : decode cX6_isLike 26 = .ok (.iload_n 2, 1) := by decide +kernel
theorem dX6_isLike_27 : decode cX6_isLike 27 = .ok (.aload_n 0, 1) := by decide +kernel
theorem dX6_isLike_28 : decode cX6_isLike 28 = .ok (.getfield 7, 3) := by decide +kernel
theorem dX6_isLike_31 : decode cX6_isLike 31 = .ok (.if_icmp .ge 42, 3) := by decide +kernel
theorem dX6_isLike_34 : decode cX6_isLike 34 = .ok (.iconst 0, 1) := by decide +kernel
theorem dX6_isLike_35 : decode cX6_isLike 35 = .ok (.istore_n 3, 1) := by decide +kernel
theorem dX6_isLike_36 : decode cX6_isLike 36 = .ok (.iload_n 3, 1) := by decide +kernel
theorem dX6_isLike_37 : decode cX6_isLike 37 = .ok (.aload_n 0, 1) := by decide +kernel
theorem dX6_isLike_38 : decode cX6_isLike 38 = .ok (.getfield 13, 3) := by decide +kernel
theorem dX6_isLike_41 : decode cX6_isLike 41 = .ok (.if_icmp .ge 26, 3) := by decide +kernel
theorem dX6_isLike_44 : decode cX6_isLike 44 = .ok (.aload_n 0, 1) := by decide +kernel
theorem dX6_isLike_45 : decode cX6_isLike 45 = .ok (.iload_n 2, 1) := by decide +kernel
theorem dX6_isLike_46 : decode cX6_isLike 46 = .ok (.iload_n 3, 1) := by decide +kernel
theorem dX6_isLike_47 : decode cX6_isLike 47 = .ok (.invokevirtual 29, 3) := by decide +kernel
theorem dX6_isLike_50 : decode cX6_isLike 50 = .ok (.aload_n 1, 1) := by decide +kernel
theorem dX6_isLike_51 : decode cX6_isLike 51 = .ok (.iload_n 2, 1) := by decide +kernel
theorem dX6_isLike_52 : decode cX6_isLike 52 = .ok (.iload_n 3, 1) := by decide +kernel
theorem dX6_isLike_53 : decode cX6_isLike 53 = .ok (.invokevirtual 29, 3) := by decide +kernel
theorem dX6_isLike_56 : decode cX6_isLike 56 = .ok (.if_icmp .eq 5, 3) := by decide +kernel
theorem dX6_isLike_59 : decode cX6_isLike 59 = .ok (.iconst 0, 1) := by decide +kernel
theorem dX6_isLike_60 : decode cX6_isLike 60 = .ok (.ireturn, 1) := by decide +kernel
theorem dX6_isLike_61 : decode cX6_isLike 61 = .ok (.iinc 3 1, 3) := by decide +kernel
theorem dX6_isLike_64 : decode cX6_isLike 64 = .ok (.goto (-28), 3) := by decide +kernel
theorem dX6_isLike_67 : decode cX6_isLike 67 = .ok (.iinc 2 1, 3) := by decide +kernel
theorem dX6_isLike_70 : decode cX6_isLike 70 = .ok (.goto (-44), 3) := by decide +kernel
theorem dX6_isLike_73 : decode cX6_isLike 73 = .ok (.iconst 1, 1) := by decide +kernel
theorem dX6_isLike_74 : decode cX6_isLike 74 = .ok (.ireturn, 1) := by decide +kernel
set_option maxRecDepth 20000 in
theorem ggX7_init_X5_init : GoodIn wsX7_init wsX5_init := goodIn_r _ [15, 16, 2, 3, 17, 23, 24, 25, 26, 27, 28, 29, 30, 31] (by decide +kernel) (by decide +kernel)
set_option maxRecDepth 20000 in
theorem gX7_init_X5_init : GoodIn wsX7_init (wsX5_init) := ggX7_init_X5_init
theorem dX7_init_0 : decode cX7_init 0 = .ok (.aload_n 0, 1) := by decide +kernel
theorem dX7_init_1 : decode cX7_init 1 = .ok (.invokespecial 3, 3) := by decide +kernel
theorem dX7_init_4 : decode cX7_init 4 = .ok (.aload_n 0, 1) := by decide +kernel
theorem dX7_init_5 : decode cX7_init 5 = .ok (.bipush 60, 2) := by decide +kernel
theorem dX7_init_7 : decode cX7_init 7 = .ok (.newarray .char, 2) := by decide +kernel
theorem dX7_init_9 : decode cX7_init 9 = .ok (.putfield 9, 3) := by decide +kernel
theorem dX7_init_12 : decode cX7_init 12 = .ok (.aload_n 0, 1) := by decide +kernel
theorem dX7_init_13 : decode cX7_init 13 = .ok (.new 15, 3) := by decide +kernel
theorem dX7_init_16 : decode cX7_init 16 = .ok (.dup, 1) := by decide +kernel
theorem dX7_init_17 : decode cX7_init 17 = .ok (.iconst 0, 1) := by decide +kernel
theorem dX7_init_18 : decode cX7_init 18 = .ok (.invokespecial 17, 3) := by decide +kernel
theorem dX7_init_21 : decode cX7_init 21 = .ok (.putfield 20, 3) := by decide +kernel
theorem dX7_init_24 : decode cX7_init 24 = .ok (.aload_n 0, 1) := by decide +kernel
theorem dX7_init_25 : decode cX7_init 25 = .ok (.bipush 60, 2) := by decide +kernel
theorem dX7_init_27 : decode cX7_init 27 = .ok (.anewarray 15, 3) := by decide +kernel
theorem dX7_init_30 : decode cX7_init 30 = .ok (.putfield 24, 3) := by decide +kernel
theorem dX7_init_33 : decode cX7_init 33 = .ok (.aload_n 0, 1) := by decide +kernel
theorem dX7_init_34 : decode cX7_init 34 = .ok (.iconst 0, 1) := by decide +kernel
theorem dX7_init_35 : decode cX7_init 35 = .ok (.putfield 28, 3) := by decide +kernel
theorem dX7_init_38 : decode cX7_init 38 = .ok (.aload_n 0, 1) := by decide +kernel
theorem dX7_init_39 : decode cX7_init 39 = .ok (.iconst 0, 1) := by decide +kernel
theorem dX7_init_40 : decode cX7_init 40 = .ok (.putfield 32, 3) := by decide +kernel
theorem dX7_init_43 : decode cX7_init 43 = .ok (.iconst 0, 1) := by decide +kernel
theorem dX7_init_44 : decode cX7_init 44 = .ok (.istore_n 1, 1) := by decide +kernel
theorem dX7_init_45 : decode cX7_init 45 = .ok (.iload_n 1, 1) := by decide +kernel
theorem dX7_init_46 : decode cX7_init 46 = .ok (.aload_n 0, 1) := by decide +kernel
theorem dX7_init_47 : decode cX7_init 47 = .ok (.getfield 24, 3) := by decide +kernel
theorem dX7_init_50 : decode cX7_init 50 = .ok (.arraylength, 1) := by decide +kernel
theorem dX7_init_51 : decode cX7_init 51 = .ok (.if_icmp .ge 19, 3) := by decide +kernel
theorem dX7_init_54 : decode cX7_init 54 = .ok (.aload_n 0, 1) := by decide +kernel
theorem dX7_init_55 : decode cX7_init 55 = .ok (.getfield 24, 3) := by decide +kernel
theorem dX7_init_58 : decode cX7_init 58 = .ok (.iload_n 1, 1) := by decide +kernel
theorem dX7_init_59 : decode cX7_init 59 = .ok (.aload_n 0, 1) := by decide +kernel
theorem dX7_init_60 : decode cX7_init 60 = .ok (.getfield 20, 3) := by decide +kernel
theorem dX7_init_63 : decode cX7_init 63 = .ok (.aastore, 1) := by decide +kernel
theorem dX7_init_64 : decode cX7_init 64 = .ok (.iinc 1 1, 3) := by decide +kernel
theorem dX7_init_67 : decode cX7_init 67 = .ok (.goto (-22), 3) := by decide +kernel
theorem dX7_init_70 : decode cX7_init 70 = .ok (.return_, 1) := by decide +kernel
theorem dX7_isFull_0 : decode cX7_isFull 0 = .ok (.aload_n 0, 1) := by decide +kernel
theorem dX7_isFull_1 : decode cX7_isFull 1 = .ok (.getfield 28, 3) := by decide +kernel
theorem dX7_isFull_4 : decode cX7_isFull 4 = .ok (.aload_n 0, 1) := by decide +kernel
theorem dX7_isFull_5 : decode cX7_isFull 5 = .ok (.getfield 9, 3) := by decide +kernel
theorem dX7_isFull_8 : decode cX7_isFull 8 = .ok (.arraylength, 1) := by decide +kernel
theorem dX7_isFull_9 : decode cX7_isFull 9 = .ok (.if_icmp .lt 7, 3) := by decide +kernel
theorem dX7_isFull_12 : decode cX7_isFull 12 = .ok (.iconst 1, 1) := by decide +kernel
theorem dX7_isFull_13 : decode cX7_isFull 13 = .ok (.goto 4, 3) := by decide +kernel
theorem dX7_isFull_16 : decode cX7_isFull 16 = .ok (.iconst 0, 1) := by decide +kernel
theorem dX7_isFull_17 : decode cX7_isFull 17 = .ok (.ireturn, 1) := by decide +kernel
theorem dX7_put_0 : decode cX7_put 0 = .ok (.aload_n 0, 1) := by decide +kernel
theorem dX7_put_1 : decode cX7_put 1 = .ok (.getfield 28, 3) := by decide +kernel
theorem dX7_put_4 : decode cX7_put 4 = .ok (.ifCond .lt 35, 3) := by decide +kernel
theorem dX7_put_7 : decode cX7_put 7 = .ok (.aload_n 0, 1) := by decide +kernel
theorem dX7_put_8 : decode cX7_put 8 = .ok (.getfield 28, 3) := by decide +kernel
theorem dX7_put_11 : decode cX7_put 11 = .ok (.aload_n 0, 1) := by decide +kernel
theorem dX7_put_12 : decode cX7_put 12 = .ok (.getfield 9, 3) := by decide +kernel
theorem dX7_put_15 : decode cX7_put 15 = .ok (.arraylength, 1) := by decide +kernel
theorem dX7_put_16 : decode cX7_put 16 = .ok (.if_icmp .ge 23, 3) := by decide +kernel
theorem dX7_put_19 : decode cX7_put 19 = .ok (.aload_n 0, 1) := by decide +kernel
theorem dX7_put_20 : decode cX7_put 20 = .ok (.getfield 9, 3) := by decide +kernel
theorem dX7_put_23 : decode cX7_put 23 = .ok (.aload_n 0, 1) := by decide +kernel
theorem dX7_put_24 : decode cX7_put 24 = .ok (.getfield 28, 3) := by decide +kernel
theorem dX7_put_27 : decode cX7_put 27 = .ok (.iload_n 1, 1) := by decide +kernel
theorem dX7_put_28 : decode cX7_put 28 = .ok (.castore, 1) := by decide +kernel
theorem dX7_put_29 : decode cX7_put 29 = .ok (.aload_n 0, 1) := by decide +kernel
theorem dX7_put_30 : decode cX7_put 30 = .ok (.dup, 1) := by decide +kernel
theorem dX7_put_31 : decode cX7_put 31 = .ok (.getfield 28, 3) := by decide +kernel
theorem dX7_put_34 : decode cX7_put 34 = .ok (.iconst 1, 1) := by decide +kernel
theorem dX7_put_35 : decode cX7_put 35 = .ok (.iadd, 1) := by decide +kernel
theorem dX7_put_36 : decode cX7_put 36 = .ok (.putfield 28, 3) := by decide +kernel
theorem dX7_put_39 : decode cX7_put 39 = .ok (.aload_n 0, 1) := by decide +kernel
theorem dX7_put_40 : decode cX7_put 40 = .ok (.getfield 28, 3) := by decide +kernel
theorem dX7_put_43 : decode cX7_put 43 = .ok (.ireturn, 1) := by decide +kernel
theorem dX7_clear_0 : decode cX7_clear 0 = .ok (.aload_n 0, 1) := by decide +kernel
theorem dX7_clear_1 : decode cX7_clear 1 = .ok (.iconst 0, 1) := by decide +kernel
theorem dX7_clear_2 : decode cX7_clear 2 = .ok (.putfield 28, 3) := by decide +kernel
theorem dX7_clear_5 : decode cX7_clear 5 = .ok (.return_, 1) := by decide +kernel
theorem dX7_elements_0 : decode cX7_elements 0 = .ok (.aload_n 0, 1) := by decide +kernel
theorem dX7_elements_1 : decode cX7_elements 1 = .ok (.getfield 32, 3) := by decide +kernel
theorem dX7_elements_4 : decode cX7_elements 4 = .ok (.ireturn, 1) := by decide +kernel
theorem dX7_element_0 : decode cX7_element 0 = .ok (.iload_n 1, 1) := by decide +kernel
theorem dX7_element_1 : decode cX7_element 1 = .ok (.ifCond .lt 21, 3) := by decide +kernel
theorem dX7_element_4 : decode cX7_element 4 = .ok (.iload_n 1, 1) := by decide +kernel
theorem dX7_element_5 : decode cX7_element 5 = .ok (.aload_n 0, 1) := by decide +kernel
theorem dX7_element_6 : decode cX7_element 6 = .ok (.getfield 24, 3) := by decide +kernel
theorem dX7_element_9 : decode cX7_element 9 = .ok (.arraylength, 1) := by decide +kernel
theorem dX7_element_10 : decode cX7_element 10 = .ok (.if_icmp .ge 12, 3) := by decide +kernel
theorem dX7_element_13 : decode cX7_element 13 = .ok (.aload_n 0, 1) := by decide +kernel
theorem dX7_element_14 : decode cX7_element 14 = .ok (.getfield 24, 3) := by decide +kernel
theorem dX7_element_17 : decode cX7_element 17 = .ok (.iload_n 1, 1) := by decide +kernel
theorem dX7_element_18 : decode cX7_element 18 = .ok (.aaload, 1) := by decide +kernel
theorem dX7_element_19 : decode cX7_element 19 = .ok (.goto 7, 3) := by decide +kernel
theorem dX7_element_22 : decode cX7_element 22 = .ok (.aload_n 0, 1) := by decide +kernel
theorem dX7_element_23 : decode cX7_element 23 = .ok (.getfield 20, 3) := by decide +kernel
theorem dX7_element_26 : decode cX7_element 26 = .ok (.areturn, 1) := by decide +kernel
theorem dX7_sign_0 : decode cX7_sign 0 = .ok (.iload_n 1, 1) := by decide +kernel
theorem dX7_sign_1 : decode cX7_sign 1 = .ok (.ifCond .lt 29, 3) := by decide +kernel
theorem dX7_sign_4 : decode cX7_sign 4 = .ok (.iload_n 1, 1) := by decide +kernel
theorem dX7_sign_5 : decode cX7_sign 5 = .ok (.aload_n 0, 1) := by decide +kernel
theorem dX7_sign_6 : decode cX7_sign 6 = .ok (.getfield 28, 3) := by decide +kernel
theorem dX7_sign_9 : decode cX7_sign 9 = .ok (.if_icmp .ge 21, 3) := by decide +kernel
theorem dX7_sign_12 : decode cX7_sign 12 = .ok (.iload_n 1, 1) := by decide +kernel
theorem dX7_sign_13 : decode cX7_sign 13 = .ok (.aload_n 0, 1) := by decide +kernel
theorem dX7_sign_14 : decode cX7_sign 14 = .ok (.getfield 9, 3) := by decide +kernel
theorem dX7_sign_17 : decode cX7_sign 17 = .ok (.arraylength, 1) := by decide +kernel
theorem dX7_sign_18 : decode cX7_sign 18 = .ok (.if_icmp .ge 12, 3) := by decide +kernel
theorem dX7_sign_21 : decode cX7_sign 21 = .ok (.aload_n 0, 1) := by decide +kernel
theorem dX7_sign_22 : decode cX7_sign 22 = .ok (.getfield 9, 3) := by decide +kernel
theorem dX7_sign_25 : decode cX7_sign 25 = .ok (.iload_n 1, 1) := by decide +kernel
theorem dX7_sign_26 : decode cX7_sign 26 = .ok (.caload, 1) := by decide +kernel
theorem dX7_sign_27 : decode cX7_sign 27 = .ok (.goto 4, 3) := by decide +kernel
theorem dX7_sign_30 : decode cX7_sign 30 = .ok (.iconst 0, 1) := by decide +kernel
theorem dX7_sign_31 : decode cX7_sign 31 = .ok (.ireturn, 1) := by decide +kernel
set_option maxRecDepth 20000 in
theorem ggX7_parse_X7_sign : GoodIn wsX7_parse wsX7_sign := goodIn_ca (goodIn_r _ [7, 2, 8, 63, 64, 65, 66, 67] (by decide +kernel) (by decide +kernel)) (goodIn_sub (fun _ h => List.mem_cons_of_mem _ (List.mem_append_right _ h)) (by decide +kernel))
set_option maxRecDepth 20000 in
theorem gX7_parse_X7_sign : GoodIn wsX7_parse (wsV RX7 35 RX7 yX7_sign wsX7_sign) := goodIn_app (goodIn_of _ (by decide +kernel)) ggX7_parse_X7_sign
set_option maxRecDepth 20000 in
theorem ggX7_parse_X7_isFirst : GoodIn wsX7_parse wsX7_isFirst := goodIn_r _ [11, 12, 13, 14, 15, 16, 6, 17] (by decide +kernel) (by decide +kernel)
set_option maxRecDepth 20000 in
theorem gX7_parse_X7_isFirst : GoodIn wsX7_parse (va_wsS RX7 39 yX7_isFirst wsX7_isFirst) := goodIn_app (goodIn_of _ (by decide +kernel)) ggX7_parse_X7_isFirst
set_option maxRecDepth 20000 in
theorem ggX7_parse_X7_leastSecond : GoodIn wsX7_parse wsX7_leastSecond := goodIn_r _ [20] (by decide +kernel) (by decide +kernel)
set_option maxRecDepth 20000 in
theorem gX7_parse_X7_leastSecond : GoodIn wsX7_parse (va_wsS RX7 43 yX7_leastSecond wsX7_leastSecond) := goodIn_app (goodIn_of _ (by decide +kernel)) ggX7_parse_X7_leastSecond
set_option maxRecDepth 20000 in
theorem ggX7_parse_X7_mostSecond : GoodIn wsX7_parse wsX7_mostSecond := goodIn_r _ [23] (by decide +kernel) (by decide +kernel)
set_option maxRecDepth 20000 in
theorem gX7_parse_X7_mostSecond : GoodIn wsX7_parse (va_wsS RX7 47 yX7_mostSecond wsX7_mostSecond) := goodIn_app (goodIn_of _ (by decide +kernel)) ggX7_parse_X7_mostSecond
set_option maxRecDepth 20000 in
theorem ggX7_parse_X8_isWithin : GoodIn wsX7_parse wsX8_isWithin := goodIn_r _ [14] (by decide +kernel) (by decide +kernel)
set_option maxRecDepth 20000 in
theorem gX7_parse_X8_isWithin_n50 : GoodIn wsX7_parse (wsX8_isWithin) := ggX7_parse_X8_isWithin
set_option maxRecDepth 20000 in
theorem ggX7_parse_X7_needsSecond : GoodIn wsX7_parse wsX7_needsSecond := goodIn_r _ [17] (by decide +kernel) (by decide +kernel)
set_option maxRecDepth 20000 in
theorem gX7_parse_X7_needsSecond : GoodIn wsX7_parse (va_wsS RX7 54 yX7_needsSecond wsX7_needsSecond) := goodIn_app (goodIn_of _ (by decide +kernel)) ggX7_parse_X7_needsSecond
set_option maxRecDepth 20000 in
theorem ggX7_parse_X7_pair : GoodIn wsX7_parse wsX7_pair := goodIn_r _ [26, 27, 28, 29, 30, 31, 32, 33, 34, 35, 36, 37, 38, 39, 40, 41, 42, 43, 44, 45, 46, 47, 13, 48, 68, 69, 70, 71, 72, 73, 74, 75, 76] (by decide +kernel) (by decide +kernel)
set_option maxRecDepth 20000 in
theorem gX7_parse_X7_pair : GoodIn wsX7_parse (va_wsS RX7 57 yX7_pair wsX7_pair) := goodIn_app (goodIn_of _ (by decide +kernel)) ggX7_parse_X7_pair
set_option maxRecDepth 20000 in
theorem ggX7_parse_X7_single : GoodIn wsX7_parse wsX7_single := goodIn_r _ [51, 41, 42, 29, 43, 31, 32, 44, 45, 46, 34, 35, 36, 37, 38, 39, 40, 52, 53, 54, 55, 56, 57, 47, 13, 48, 68, 69, 70, 71, 72, 73, 74, 75, 76] (by decide +kernel) (by decide +kernel)
set_option maxRecDepth 20000 in
theorem gX7_parse_X7_single : GoodIn wsX7_parse (va_wsS RX7 61 yX7_single wsX7_single) := goodIn_app (goodIn_of _ (by decide +kernel)) ggX7_parse_X7_single
set_option maxRecDepth 20000 in
theorem ggX7_parse_X7_keep : GoodIn wsX7_parse wsX7_keep := goodIn_r _ [61, 1, 62, 63, 64, 65, 66, 67] (by decide +kernel) (by decide +kernel)
set_option maxRecDepth 20000 in
theorem gX7_parse_X7_keep : GoodIn wsX7_parse (wsV RX7 65 RX7 yX7_keep wsX7_keep) := goodIn_app (goodIn_of _ (by decide +kernel)) ggX7_parse_X7_keep
theorem dX7_parse_0 : decode cX7_parse 0 = .ok (.aload_n 0, 1) := by decide +kernel
theorem dX7_parse_1 : decode cX7_parse 1 = .ok (.iconst 0, 1) := by decide +kernel
theorem dX7_parse_2 : decode cX7_parse 2 = .ok (.putfield 32, 3) := by decide +kernel
theorem dX7_parse_5 : decode cX7_parse 5 = .ok (.iconst 0, 1) := by decide +kernel
theorem dX7_parse_6 : decode cX7_parse 6 = .ok (.istore_n 1, 1) := by decide +kernel
theorem dX7_parse_7 : decode cX7_parse 7 = .ok (.iload_n 1, 1) := by decide +kernel
theorem dX7_parse_8 : decode cX7_parse 8 = .ok (.aload_n 0, 1) := by decide +kernel
theorem dX7_parse_9 : decode cX7_parse 9 = .ok (.getfield 28, 3) := by decide +kernel
theorem dX7_parse_12 : decode cX7_parse 12 = .ok (.if_icmp .ge 93, 3) := by decide +kernel
theorem dX7_parse_15 : decode cX7_parse 15 = .ok (.aload_n 0, 1) := by decide +kernel
theorem dX7_parse_16 : decode cX7_parse 16 = .ok (.iload_n 1, 1) := by decide +kernel
theorem dX7_parse_17 : decode cX7_parse 17 = .ok (.invokevirtual 35, 3) := by decide +kernel
theorem dX7_parse_20 : decode cX7_parse 20 = .ok (.istore_n 2, 1) := by decide +kernel
theorem dX7_parse_21 : decode cX7_parse 21 = .ok (.aload_n 0, 1) := by decide +kernel
theorem dX7_parse_22 : decode cX7_parse 22 = .ok (.iload_n 1, 1) := by decide +kernel
theorem dX7_parse_23 : decode cX7_parse 23 = .ok (.iconst 1, 1) := by decide +kernel
theorem dX7_parse_24 : decode cX7_parse 24 = .ok (.iadd, 1) := by decide +kernel
theorem dX7_parse_25 : decode cX7_parse 25 = .ok (.invokevirtual 35, 3) := by decide +kernel
theorem dX7_parse_28 : decode cX7_parse 28 = .ok (.istore_n 3, 1) := by decide +kernel
theorem dX7_parse_29 : decode cX7_parse 29 = .ok (.iload_n 2, 1) := by decide +kernel
theorem dX7_parse_30 : decode cX7_parse 30 = .ok (.invokestatic 39, 3) := by decide +kernel
theorem dX7_parse_33 : decode cX7_parse 33 = .ok (.ifCond .ne 5, 3) := by decide +kernel
theorem dX7_parse_36 : decode cX7_parse 36 = .ok (.iload_n 1, 1) := by decide +kernel
theorem dX7_parse_37 : decode cX7_parse 37 = .ok (.ireturn, 1) := by decide +kernel
theorem dX7_parse_38 : decode cX7_parse 38 = .ok (.iload_n 3, 1) := by decide +kernel
theorem dX7_parse_39 : decode cX7_parse 39 = .ok (.iload_n 2, 1) := by decide +kernel
theorem dX7_parse_40 : decode cX7_parse 40 = .ok (.invokestatic 43, 3) := by decide +kernel
theorem dX7_parse_43 : decode cX7_parse 43 = .ok (.iload_n 2, 1) := by decide +kernel
theorem dX7_parse_44 : decode cX7_parse 44 = .ok (.invokestatic 47, 3) := by decide +kernel
theorem dX7_parse_47 : decode cX7_parse 47 = .ok (.invokestatic 50, 3) := by decide +kernel
theorem dX7_parse_50 : decode cX7_parse 50 = .ok (.istore 4, 2) := by decide +kernel
theorem dX7_parse_52 : decode cX7_parse 52 = .ok (.iload 4, 2) := by decide +kernel
theorem dX7_parse_54 : decode cX7_parse 54 = .ok (.ifCond .ne 14, 3) := by decide +kernel
theorem dX7_parse_57 : decode cX7_parse 57 = .ok (.iload_n 2, 1) := by decide +kernel
theorem dX7_parse_58 : decode cX7_parse 58 = .ok (.invokestatic 54, 3) := by decide +kernel
theorem dX7_parse_61 : decode cX7_parse 61 = .ok (.ifCond .eq 7, 3) := by decide +kernel
theorem dX7_parse_64 : decode cX7_parse 64 = .ok (.iload_n 1, 1) := by decide +kernel
theorem dX7_parse_65 : decode cX7_parse 65 = .ok (.iconst 1, 1) := by decide +kernel
theorem dX7_parse_66 : decode cX7_parse 66 = .ok (.iadd, 1) := by decide +kernel
theorem dX7_parse_67 : decode cX7_parse 67 = .ok (.ireturn, 1) := by decide +kernel
theorem dX7_parse_68 : decode cX7_parse 68 = .ok (.aload_n 0, 1) := by decide +kernel
theorem dX7_parse_69 : decode cX7_parse 69 = .ok (.iload 4, 2) := by decide +kernel
theorem dX7_parse_71 : decode cX7_parse 71 = .ok (.ifCond .eq 11, 3) := by decide +kernel
theorem dX7_parse_74 : decode cX7_parse 74 = .ok (.iload_n 2, 1) := by decide +kernel
theorem dX7_parse_75 : decode cX7_parse 75 = .ok (.iload_n 3, 1) := by decide +kernel
theorem dX7_parse_76 : decode cX7_parse 76 = .ok (.invokestatic 57, 3) := by decide +kernel
theorem dX7_parse_79 : decode cX7_parse 79 = .ok (.goto 7, 3) := by decide +kernel
theorem dX7_parse_82 : decode cX7_parse 82 = .ok (.iload_n 2, 1) := by decide +kernel
theorem dX7_parse_83 : decode cX7_parse 83 = .ok (.invokestatic 61, 3) := by decide +kernel
theorem dX7_parse_86 : decode cX7_parse 86 = .ok (.invokevirtual 65, 3) := by decide +kernel
theorem dX7_parse_89 : decode cX7_parse 89 = .ok (.iload_n 1, 1) := by decide +kernel
theorem dX7_parse_90 : decode cX7_parse 90 = .ok (.iload 4, 2) := by decide +kernel
theorem dX7_parse_92 : decode cX7_parse 92 = .ok (.ifCond .eq 7, 3) := by decide +kernel
theorem dX7_parse_95 : decode cX7_parse 95 = .ok (.iconst 2, 1) := by decide +kernel
theorem dX7_parse_96 : decode cX7_parse 96 = .ok (.goto 4, 3) := by decide +kernel
theorem dX7_parse_99 : decode cX7_parse 99 = .ok (.iconst 1, 1) := by decide +kernel
theorem dX7_parse_100 : decode cX7_parse 100 = .ok (.iadd, 1) := by decide +kernel
theorem dX7_parse_101 : decode cX7_parse 101 = .ok (.istore_n 1, 1) := by decide +kernel
theorem dX7_parse_102 : decode cX7_parse 102 = .ok (.goto (-95), 3) := by decide +kernel
theorem dX7_parse_105 : decode cX7_parse 105 = .ok (.aload_n 0, 1) := by decide +kernel
theorem dX7_parse_106 : decode cX7_parse 106 = .ok (.getfield 28, 3) := by decide +kernel
theorem dX7_parse_109 : decode cX7_parse 109 = .ok (.ifCond .ne 7, 3) := by decide +kernel
theorem dX7_parse_112 : decode cX7_parse 112 = .ok (.iconst 0, 1) := by decide +kernel
theorem dX7_parse_113 : decode cX7_parse 113 = .ok (.goto 4, 3) := by decide +kernel
theorem dX7_parse_116 : decode cX7_parse 116 = .ok (.iconst (-1), 1) := by decide +kernel
theorem dX7_parse_117 : decode cX7_parse 117 = .ok (.ireturn, 1) := by decide +kernel
theorem dX7_keep_0 : decode cX7_keep 0 = .ok (.aload_n 0, 1) := by decide +kernel
theorem dX7_keep_1 : decode cX7_keep 1 = .ok (.getfield 32, 3) := by decide +kernel
theorem dX7_keep_4 : decode cX7_keep 4 = .ok (.ifCond .lt 35, 3) := by decide +kernel
theorem dX7_keep_7 : decode cX7_keep 7 = .ok (.aload_n 0, 1) := by decide +kernel
theorem dX7_keep_8 : decode cX7_keep 8 = .ok (.getfield 32, 3) := by decide +kernel
theorem dX7_keep_11 : decode cX7_keep 11 = .ok (.aload_n 0, 1) := by decide +kernel
theorem dX7_keep_12 : decode cX7_keep 12 = .ok (.getfield 24, 3) := by decide +kernel
theorem dX7_keep_15 : decode cX7_keep 15 = .ok (.arraylength, 1) := by decide +kernel
theorem dX7_keep_16 : decode cX7_keep 16 = .ok (.if_icmp .ge 23, 3) := by decide +kernel
theorem dX7_keep_19 : decode cX7_keep 19 = .ok (.aload_n 0, 1) := by decide +kernel
theorem dX7_keep_20 : decode cX7_keep 20 = .ok (.getfield 24, 3) := by decide +kernel
theorem dX7_keep_23 : decode cX7_keep 23 = .ok (.aload_n 0, 1) := by decide +kernel
theorem dX7_keep_24 : decode cX7_keep 24 = .ok (.getfield 32, 3) := by decide +kernel
theorem dX7_keep_27 : decode cX7_keep 27 = .ok (.aload_n 1, 1) := by decide +kernel
theorem dX7_keep_28 : decode cX7_keep 28 = .ok (.aastore, 1) := by decide +kernel
theorem dX7_keep_29 : decode cX7_keep 29 = .ok (.aload_n 0, 1) := by decide +kernel
theorem dX7_keep_30 : decode cX7_keep 30 = .ok (.dup, 1) := by decide +kernel
theorem dX7_keep_31 : decode cX7_keep 31 = .ok (.getfield 32, 3) := by decide +kernel
theorem dX7_keep_34 : decode cX7_keep 34 = .ok (.iconst 1, 1) := by decide +kernel
theorem dX7_keep_35 : decode cX7_keep 35 = .ok (.iadd, 1) := by decide +kernel
theorem dX7_keep_36 : decode cX7_keep 36 = .ok (.putfield 32, 3) := by decide +kernel
theorem dX7_keep_39 : decode cX7_keep 39 = .ok (.return_, 1) := by decide +kernel
set_option maxRecDepth 20000 in
theorem ggX7_isFirst_X8_isWithin : GoodIn wsX7_isFirst wsX8_isWithin := goodIn_r _ [3] (by decide +kernel) (by decide +kernel)
set_option maxRecDepth 20000 in
theorem gX7_isFirst_X8_isWithin_n50 : GoodIn wsX7_isFirst (wsX8_isWithin) := ggX7_isFirst_X8_isWithin
set_option maxRecDepth 20000 in
theorem ggX7_isFirst_X7_needsSecond : GoodIn wsX7_isFirst wsX7_needsSecond := goodIn_r _ [7] (by decide +kernel) (by decide +kernel)
set_option maxRecDepth 20000 in
theorem gX7_isFirst_X7_needsSecond : GoodIn wsX7_isFirst (va_wsS RX7 54 yX7_needsSecond wsX7_needsSecond) := goodIn_app (goodIn_of _ (by decide +kernel)) ggX7_isFirst_X7_needsSecond
theorem dX7_isFirst_0 : decode cX7_isFirst 0 = .ok (.iload_n 0, 1) := by decide +kernel
theorem dX7_isFirst_1 : decode cX7_isFirst 1 = .ok (.lookupswitch 69 #[(46, 67), (67, 67), (76, 67), (82, 67), (87, 67), (110, 67), (119, 67)], 67) := by decide +kernel
theorem dX7_isFirst_68 : decode cX7_isFirst 68 = .ok (.iconst 1, 1) := by decide +kernel
theorem dX7_isFirst_69 : decode cX7_isFirst 69 = .ok (.ireturn, 1) := by decide +kernel
theorem dX7_isFirst_70 : decode cX7_isFirst 70 = .ok (.iload_n 0, 1) := by decide +kernel
theorem dX7_isFirst_71 : decode cX7_isFirst 71 = .ok (.bipush 49, 2) := by decide +kernel
theorem dX7_isFirst_73 : decode cX7_isFirst 73 = .ok (.bipush 54, 2) := by decide +kernel
theorem dX7_isFirst_75 : decode cX7_isFirst 75 = .ok (.invokestatic 50, 3) := by decide +kernel
theorem dX7_isFirst_78 : decode cX7_isFirst 78 = .ok (.ifCond .ne 10, 3) := by decide +kernel
theorem dX7_isFirst_81 : decode cX7_isFirst 81 = .ok (.iload_n 0, 1) := by decide +kernel
theorem dX7_isFirst_82 : decode cX7_isFirst 82 = .ok (.invokestatic 54, 3) := by decide +kernel
theorem dX7_isFirst_85 : decode cX7_isFirst 85 = .ok (.ifCond .eq 7, 3) := by decide +kernel
theorem dX7_isFirst_88 : decode cX7_isFirst 88 = .ok (.iconst 1, 1) := by decide +kernel
theorem dX7_isFirst_89 : decode cX7_isFirst 89 = .ok (.goto 4, 3) := by decide +kernel
theorem dX7_isFirst_92 : decode cX7_isFirst 92 = .ok (.iconst 0, 1) := by decide +kernel
theorem dX7_isFirst_93 : decode cX7_isFirst 93 = .ok (.ireturn, 1) := by decide +kernel
theorem dX7_needsSecond_0 : decode cX7_needsSecond 0 = .ok (.iload_n 0, 1) := by decide +kernel
theorem dX7_needsSecond_1 : decode cX7_needsSecond 1 = .ok (.bipush 98, 2) := by decide +kernel
theorem dX7_needsSecond_3 : decode cX7_needsSecond 3 = .ok (.if_icmp .eq 15, 3) := by decide +kernel
theorem dX7_needsSecond_6 : decode cX7_needsSecond 6 = .ok (.iload_n 0, 1) := by decide +kernel
theorem dX7_needsSecond_7 : decode cX7_needsSecond 7 = .ok (.bipush 108, 2) := by decide +kernel
theorem dX7_needsSecond_9 : decode cX7_needsSecond 9 = .ok (.if_icmp .eq 9, 3) := by decide +kernel
theorem dX7_needsSecond_12 : decode cX7_needsSecond 12 = .ok (.iload_n 0, 1) := by decide +kernel
theorem dX7_needsSecond_13 : decode cX7_needsSecond 13 = .ok (.bipush 64, 2) := by decide +kernel
theorem dX7_needsSecond_15 : decode cX7_needsSecond 15 = .ok (.if_icmp .ne 7, 3) := by decide +kernel
theorem dX7_needsSecond_18 : decode cX7_needsSecond 18 = .ok (.iconst 1, 1) := by decide +kernel
theorem dX7_needsSecond_19 : decode cX7_needsSecond 19 = .ok (.goto 4, 3) := by decide +kernel
theorem dX7_needsSecond_22 : decode cX7_needsSecond 22 = .ok (.iconst 0, 1) := by decide +kernel
theorem dX7_needsSecond_23 : decode cX7_needsSecond 23 = .ok (.ireturn, 1) := by decide +kernel
theorem dX7_leastSecond_0 : decode cX7_leastSecond 0 = .ok (.iload_n 0, 1) := by decide +kernel
theorem dX7_leastSecond_1 : decode cX7_leastSecond 1 = .ok (.bipush 64, 2) := by decide +kernel
theorem dX7_leastSecond_3 : decode cX7_leastSecond 3 = .ok (.if_icmp .ne 8, 3) := by decide +kernel
theorem dX7_leastSecond_6 : decode cX7_leastSecond 6 = .ok (.bipush 97, 2) := by decide +kernel
theorem dX7_leastSecond_8 : decode cX7_leastSecond 8 = .ok (.goto 5, 3) := by decide +kernel
theorem dX7_leastSecond_11 : decode cX7_leastSecond 11 = .ok (.bipush 49, 2) := by decide +kernel
theorem dX7_leastSecond_13 : decode cX7_leastSecond 13 = .ok (.ireturn, 1) := by decide +kernel
theorem dX7_mostSecond_0 : decode cX7_mostSecond 0 = .ok (.iload_n 0, 1) := by decide +kernel
theorem dX7_mostSecond_1 : decode cX7_mostSecond 1 = .ok (.lookupswitch 60 #[(64, 57), (98, 51), (108, 51), (110, 54), (119, 51)], 51) := by decide +kernel
theorem dX7_mostSecond_52 : decode cX7_mostSecond 52 = .ok (.bipush 52, 2) := by decide +kernel
theorem dX7_mostSecond_54 : decode cX7_mostSecond 54 = .ok (.ireturn, 1) := by decide +kernel
theorem dX7_mostSecond_55 : decode cX7_mostSecond 55 = .ok (.bipush 54, 2) := by decide +kernel
theorem dX7_mostSecond_57 : decode cX7_mostSecond 57 = .ok (.ireturn, 1) := by decide +kernel
theorem dX7_mostSecond_58 : decode cX7_mostSecond 58 = .ok (.bipush 107, 2) := by decide +kernel
theorem dX7_mostSecond_60 : decode cX7_mostSecond 60 = .ok (.ireturn, 1) := by decide +kernel
theorem dX7_mostSecond_61 : decode cX7_mostSecond 61 = .ok (.iconst 0, 1) := by decide +kernel
theorem dX7_mostSecond_62 : decode cX7_mostSecond 62 = .ok (.ireturn, 1) := by decide +kernel
set_option maxRecDepth 20000 in
theorem ggX7_pair_X5_ofNumber : GoodIn wsX7_pair wsX5_ofNumber := goodIn_r _ [4, 5, 6, 3, 7, 8, 9, 10, 11, 12, 13, 14, 24, 25, 26, 27, 28, 29, 30, 31, 32] (by decide +kernel) (by decide +kernel)
set_option maxRecDepth 20000 in
theorem gX7_pair_X5_ofNumber : GoodIn wsX7_pair (va_wsS RX7 69 yX5_ofNumber wsX5_ofNumber) := goodIn_app (goodIn_of _ (by decide +kernel)) ggX7_pair_X5_ofNumber
set_option maxRecDepth 20000 in
theorem ggX7_pair_X5_ofBall : GoodIn wsX7_pair wsX5_ofBall := goodIn_r _ [17, 5, 6, 3, 18, 19, 20, 8, 9, 10, 11, 12, 13, 14, 24, 25, 26, 27, 28, 29, 30, 31, 32] (by decide +kernel) (by decide +kernel)
set_option maxRecDepth 20000 in
theorem gX7_pair_X5_ofBall : GoodIn wsX7_pair (va_wsS RX7 73 yX5_ofBall wsX5_ofBall) := goodIn_app (goodIn_of _ (by decide +kernel)) ggX7_pair_X5_ofBall
set_option maxRecDepth 20000 in
theorem ggX7_pair_X8_canBeBoundary : GoodIn wsX7_pair wsX8_canBeBoundary := goodIn_r _ [23] (by decide +kernel) (by decide +kernel)
set_option maxRecDepth 20000 in
theorem gX7_pair_X8_canBeBoundary_n77 : GoodIn wsX7_pair (wsX8_canBeBoundary) := ggX7_pair_X8_canBeBoundary
theorem dX7_pair_0 : decode cX7_pair 0 = .ok (.iload_n 1, 1) := by decide +kernel
theorem dX7_pair_1 : decode cX7_pair 1 = .ok (.bipush 48, 2) := by decide +kernel
theorem dX7_pair_3 : decode cX7_pair 3 = .ok (.isub, 1) := by decide +kernel
theorem dX7_pair_4 : decode cX7_pair 4 = .ok (.istore_n 2, 1) := by decide +kernel
theorem dX7_pair_5 : decode cX7_pair 5 = .ok (.iload_n 0, 1) := by decide +kernel
theorem dX7_pair_6 : decode cX7_pair 6 = .ok (.lookupswitch 76 #[(64, 42), (98, 69), (110, 58), (119, 51)], 42) := by decide +kernel
theorem dX7_pair_48 : decode cX7_pair 48 = .ok (.iconst 1, 1) := by decide +kernel
theorem dX7_pair_49 : decode cX7_pair 49 = .ok (.iload_n 1, 1) := by decide +kernel
theorem dX7_pair_50 : decode cX7_pair 50 = .ok (.bipush 97, 2) := by decide +kernel
theorem dX7_pair_52 : decode cX7_pair 52 = .ok (.isub, 1) := by decide +kernel
theorem dX7_pair_53 : decode cX7_pair 53 = .ok (.invokestatic 69, 3) := by decide +kernel
theorem dX7_pair_56 : decode cX7_pair 56 = .ok (.areturn, 1) := by decide +kernel
theorem dX7_pair_57 : decode cX7_pair 57 = .ok (.iconst 1, 1) := by decide +kernel
theorem dX7_pair_58 : decode cX7_pair 58 = .ok (.iload_n 2, 1) := by decide +kernel
theorem dX7_pair_59 : decode cX7_pair 59 = .ok (.iconst 0, 1) := by decide +kernel
theorem dX7_pair_60 : decode cX7_pair 60 = .ok (.invokestatic 73, 3) := by decide +kernel
theorem dX7_pair_63 : decode cX7_pair 63 = .ok (.areturn, 1) := by decide +kernel
theorem dX7_pair_64 : decode cX7_pair 64 = .ok (.iconst 2, 1) := by decide +kernel
theorem dX7_pair_65 : decode cX7_pair 65 = .ok (.iload_n 2, 1) := by decide +kernel
theorem dX7_pair_66 : decode cX7_pair 66 = .ok (.iconst 2, 1) := by decide +kernel
theorem dX7_pair_67 : decode cX7_pair 67 = .ok (.iload_n 2, 1) := by decide +kernel
theorem dX7_pair_68 : decode cX7_pair 68 = .ok (.invokestatic 77, 3) := by decide +kernel
theorem dX7_pair_71 : decode cX7_pair 71 = .ok (.invokestatic 73, 3) := by decide +kernel
theorem dX7_pair_74 : decode cX7_pair 74 = .ok (.areturn, 1) := by decide +kernel
theorem dX7_pair_75 : decode cX7_pair 75 = .ok (.iconst 3, 1) := by decide +kernel
theorem dX7_pair_76 : decode cX7_pair 76 = .ok (.iload_n 2, 1) := by decide +kernel
theorem dX7_pair_77 : decode cX7_pair 77 = .ok (.iconst 0, 1) := by decide +kernel
theorem dX7_pair_78 : decode cX7_pair 78 = .ok (.invokestatic 73, 3) := by decide +kernel
theorem dX7_pair_81 : decode cX7_pair 81 = .ok (.areturn, 1) := by decide +kernel
theorem dX7_pair_82 : decode cX7_pair 82 = .ok (.iconst 4, 1) := by decide +kernel
theorem dX7_pair_83 : decode cX7_pair 83 = .ok (.iload_n 2, 1) := by decide +kernel
theorem dX7_pair_84 : decode cX7_pair 84 = .ok (.iconst 0, 1) := by decide +kernel
theorem dX7_pair_85 : decode cX7_pair 85 = .ok (.invokestatic 73, 3) := by decide +kernel
theorem dX7_pair_88 : decode cX7_pair 88 = .ok (.areturn, 1) := by decide +kernel
set_option maxRecDepth 20000 in
theorem ggX7_single_X5_ofBall : GoodIn wsX7_single wsX5_ofBall := goodIn_r _ [4, 5, 6, 3, 7, 8, 9, 10, 11, 12, 13, 14, 15, 16, 26, 27, 28, 29, 30, 31, 32, 33, 34] (by decide +kernel) (by decide +kernel)
set_option maxRecDepth 20000 in
theorem gX7_single_X5_ofBall : GoodIn wsX7_single (va_wsS RX7 73 yX5_ofBall wsX5_ofBall) := goodIn_app (goodIn_of _ (by decide +kernel)) ggX7_single_X5_ofBall
set_option maxRecDepth 20000 in
theorem ggX7_single_X5_ofWicket : GoodIn wsX7_single wsX5_ofWicket := goodIn_r _ [19, 5, 6, 3, 20, 7, 21, 8, 22, 10, 11, 12, 13, 14, 15, 16, 26, 27, 28, 29, 30, 31, 32, 33, 34] (by decide +kernel) (by decide +kernel)
set_option maxRecDepth 20000 in
theorem gX7_single_X5_ofWicket : GoodIn wsX7_single (va_wsS RX7 81 yX5_ofWicket wsX5_ofWicket) := goodIn_app (goodIn_of _ (by decide +kernel)) ggX7_single_X5_ofWicket
set_option maxRecDepth 20000 in
theorem ggX7_single_X8_canBeBoundary : GoodIn wsX7_single wsX8_canBeBoundary := goodIn_r _ [25] (by decide +kernel) (by decide +kernel)
set_option maxRecDepth 20000 in
theorem gX7_single_X8_canBeBoundary_n77 : GoodIn wsX7_single (wsX8_canBeBoundary) := ggX7_single_X8_canBeBoundary
theorem dX7_single_0 : decode cX7_single 0 = .ok (.iload_n 0, 1) := by decide +kernel
theorem dX7_single_1 : decode cX7_single 1 = .ok (.lookupswitch 124 #[(46, 67), (67, 97), (76, 106), (82, 115), (87, 88), (110, 81), (119, 74)], 67) := by decide +kernel
theorem dX7_single_68 : decode cX7_single 68 = .ok (.iconst 0, 1) := by decide +kernel
theorem dX7_single_69 : decode cX7_single 69 = .ok (.iconst 0, 1) := by decide +kernel
theorem dX7_single_70 : decode cX7_single 70 = .ok (.iconst 0, 1) := by decide +kernel
theorem dX7_single_71 : decode cX7_single 71 = .ok (.invokestatic 73, 3) := by decide +kernel
theorem dX7_single_74 : decode cX7_single 74 = .ok (.areturn, 1) := by decide +kernel
theorem dX7_single_75 : decode cX7_single 75 = .ok (.iconst 1, 1) := by decide +kernel
theorem dX7_single_76 : decode cX7_single 76 = .ok (.iconst 0, 1) := by decide +kernel
theorem dX7_single_77 : decode cX7_single 77 = .ok (.iconst 0, 1) := by decide +kernel
theorem dX7_single_78 : decode cX7_single 78 = .ok (.invokestatic 73, 3) := by decide +kernel
theorem dX7_single_81 : decode cX7_single 81 = .ok (.areturn, 1) := by decide +kernel
theorem dX7_single_82 : decode cX7_single 82 = .ok (.iconst 2, 1) := by decide +kernel
theorem dX7_single_83 : decode cX7_single 83 = .ok (.iconst 0, 1) := by decide +kernel
theorem dX7_single_84 : decode cX7_single 84 = .ok (.iconst 0, 1) := by decide +kernel
theorem dX7_single_85 : decode cX7_single 85 = .ok (.invokestatic 73, 3) := by decide +kernel
theorem dX7_single_88 : decode cX7_single 88 = .ok (.areturn, 1) := by decide +kernel
theorem dX7_single_89 : decode cX7_single 89 = .ok (.iconst 0, 1) := by decide +kernel
theorem dX7_single_90 : decode cX7_single 90 = .ok (.iconst 0, 1) := by decide +kernel
theorem dX7_single_91 : decode cX7_single 91 = .ok (.iconst 0, 1) := by decide +kernel
theorem dX7_single_92 : decode cX7_single 92 = .ok (.iconst 0, 1) := by decide +kernel
theorem dX7_single_93 : decode cX7_single 93 = .ok (.iconst 0, 1) := by decide +kernel
theorem dX7_single_94 : decode cX7_single 94 = .ok (.invokestatic 81, 3) := by decide +kernel
theorem dX7_single_97 : decode cX7_single 97 = .ok (.areturn, 1) := by decide +kernel
theorem dX7_single_98 : decode cX7_single 98 = .ok (.iconst 1, 1) := by decide +kernel
theorem dX7_single_99 : decode cX7_single 99 = .ok (.iconst 0, 1) := by decide +kernel
theorem dX7_single_100 : decode cX7_single 100 = .ok (.iconst 0, 1) := by decide +kernel
theorem dX7_single_101 : decode cX7_single 101 = .ok (.iconst 0, 1) := by decide +kernel
theorem dX7_single_102 : decode cX7_single 102 = .ok (.iconst 0, 1) := by decide +kernel
theorem dX7_single_103 : decode cX7_single 103 = .ok (.invokestatic 81, 3) := by decide +kernel
theorem dX7_single_106 : decode cX7_single 106 = .ok (.areturn, 1) := by decide +kernel
theorem dX7_single_107 : decode cX7_single 107 = .ok (.iconst 2, 1) := by decide +kernel
theorem dX7_single_108 : decode cX7_single 108 = .ok (.iconst 0, 1) := by decide +kernel
theorem dX7_single_109 : decode cX7_single 109 = .ok (.iconst 0, 1) := by decide +kernel
theorem dX7_single_110 : decode cX7_single 110 = .ok (.iconst 0, 1) := by decide +kernel
theorem dX7_single_111 : decode cX7_single 111 = .ok (.iconst 0, 1) := by decide +kernel
theorem dX7_single_112 : decode cX7_single 112 = .ok (.invokestatic 81, 3) := by decide +kernel
theorem dX7_single_115 : decode cX7_single 115 = .ok (.areturn, 1) := by decide +kernel
theorem dX7_single_116 : decode cX7_single 116 = .ok (.iconst 5, 1) := by decide +kernel
theorem dX7_single_117 : decode cX7_single 117 = .ok (.iconst 0, 1) := by decide +kernel
theorem dX7_single_118 : decode cX7_single 118 = .ok (.iconst 0, 1) := by decide +kernel
theorem dX7_single_119 : decode cX7_single 119 = .ok (.iconst 0, 1) := by decide +kernel
theorem dX7_single_120 : decode cX7_single 120 = .ok (.iconst 0, 1) := by decide +kernel
theorem dX7_single_121 : decode cX7_single 121 = .ok (.invokestatic 81, 3) := by decide +kernel
theorem dX7_single_124 : decode cX7_single 124 = .ok (.areturn, 1) := by decide +kernel
theorem dX7_single_125 : decode cX7_single 125 = .ok (.iconst 0, 1) := by decide +kernel
theorem dX7_single_126 : decode cX7_single 126 = .ok (.iload_n 0, 1) := by decide +kernel
theorem dX7_single_127 : decode cX7_single 127 = .ok (.bipush 48, 2) := by decide +kernel
theorem dX7_single_129 : decode cX7_single 129 = .ok (.isub, 1) := by decide +kernel
theorem dX7_single_130 : decode cX7_single 130 = .ok (.iconst 0, 1) := by decide +kernel
theorem dX7_single_131 : decode cX7_single 131 = .ok (.iload_n 0, 1) := by decide +kernel
theorem dX7_single_132 : decode cX7_single 132 = .ok (.bipush 48, 2) := by decide +kernel
theorem dX7_single_134 : decode cX7_single 134 = .ok (.isub, 1) := by decide +kernel
theorem dX7_single_135 : decode cX7_single 135 = .ok (.invokestatic 77, 3) := by decide +kernel
theorem dX7_single_138 : decode cX7_single 138 = .ok (.invokestatic 73, 3) := by decide +kernel
theorem dX7_single_141 : decode cX7_single 141 = .ok (.areturn, 1) := by decide +kernel
set_option maxRecDepth 20000 in
theorem ggX8_init_X2_init : GoodIn wsX8_init wsX2_init := goodIn_r _ [28, 29, 2, 3, 30, 31, 32, 33, 34, 35, 36, 37, 38, 39, 40, 41, 42, 43, 44, 45, 46, 47, 48, 49, 50, 51, 52, 53, 54, 55, 56, 57, 58, 59, 60, 61, 62, 63, 64, 65, 66, 67, 68, 69, 70, 71, 72, 73, 74, 75, 76, 77, 78, 79, 80, 81, 82, 124, 125, 126, 127, 128, 129, 158, 159, 160, 161, 162, 163, 164, 165, 166, 167, 168, 169, 170, 171, 172, 173, 174, 175, 176, 177, 178, 179, 180] (by decide +kernel) (by decide +kernel)
set_option maxRecDepth 20000 in
theorem gX8_init_X2_init : GoodIn wsX8_init (wsX2_init) := ggX8_init_X2_init
set_option maxRecDepth 20000 in
theorem ggX8_init_X1_init : GoodIn wsX8_init wsX1_init := goodIn_r _ [85, 86, 2, 3, 87, 88, 89, 90, 91, 69, 92, 93, 94, 95, 96, 97, 98, 99, 100, 101, 102, 103, 181, 182, 183, 184, 185, 186, 187, 188, 189, 140, 141, 142, 143, 144, 145, 146, 147, 148] (by decide +kernel) (by decide +kernel)
set_option maxRecDepth 20000 in
theorem gX8_init_X1_init : GoodIn wsX8_init (wsX1_init) := ggX8_init_X1_init
set_option maxRecDepth 20000 in
theorem ggX8_init_X7_init : GoodIn wsX8_init wsX7_init := goodIn_r _ [106, 107, 2, 3, 108, 109, 110, 88, 89, 111, 112, 113, 114, 115, 100, 101, 102, 103, 149, 150, 151, 152, 153, 181, 182, 183, 184, 185, 186, 187, 188, 189] (by decide +kernel) (by decide +kernel)
set_option maxRecDepth 20000 in
theorem gX8_init_X7_init : GoodIn wsX8_init (wsX7_init) := ggX8_init_X7_init
set_option maxRecDepth 20000 in
theorem ggX8_init_X4_init : GoodIn wsX8_init wsX4_init := goodIn_r _ [117, 118, 2, 3, 119, 120, 121, 122, 123, 154, 155, 156, 157] (by decide +kernel) (by decide +kernel)
set_option maxRecDepth 20000 in
theorem gX8_init_X4_init_n38 : GoodIn wsX8_init (wsX4_init) := ggX8_init_X4_init
theorem dX8_init_0 : decode cX8_init 0 = .ok (.aload_n 0, 1) := by decide +kernel
theorem dX8_init_1 : decode cX8_init 1 = .ok (.invokespecial 1, 3) := by decide +kernel
theorem dX8_init_4 : decode cX8_init 4 = .ok (.aload_n 0, 1) := by decide +kernel
theorem dX8_init_5 : decode cX8_init 5 = .ok (.new 7, 3) := by decide +kernel
theorem dX8_init_8 : decode cX8_init 8 = .ok (.dup, 1) := by decide +kernel
theorem dX8_init_9 : decode cX8_init 9 = .ok (.invokespecial 9, 3) := by decide +kernel
theorem dX8_init_12 : decode cX8_init 12 = .ok (.putfield 10, 3) := by decide +kernel
theorem dX8_init_15 : decode cX8_init 15 = .ok (.aload_n 0, 1) := by decide +kernel
theorem dX8_init_16 : decode cX8_init 16 = .ok (.new 7, 3) := by decide +kernel
theorem dX8_init_19 : decode cX8_init 19 = .ok (.dup, 1) := by decide +kernel
theorem dX8_init_20 : decode cX8_init 20 = .ok (.invokespecial 9, 3) := by decide +kernel
theorem dX8_init_23 : decode cX8_init 23 = .ok (.putfield 16, 3) := by decide +kernel
theorem dX8_init_26 : decode cX8_init 26 = .ok (.aload_n 0, 1) := by decide +kernel
theorem dX8_init_27 : decode cX8_init 27 = .ok (.new 19, 3) := by decide +kernel
theorem dX8_init_30 : decode cX8_init 30 = .ok (.dup, 1) := by decide +kernel
theorem dX8_init_31 : decode cX8_init 31 = .ok (.invokespecial 21, 3) := by decide +kernel
theorem dX8_init_34 : decode cX8_init 34 = .ok (.putfield 22, 3) := by decide +kernel
theorem dX8_init_37 : decode cX8_init 37 = .ok (.aload_n 0, 1) := by decide +kernel
theorem dX8_init_38 : decode cX8_init 38 = .ok (.new 19, 3) := by decide +kernel
theorem dX8_init_41 : decode cX8_init 41 = .ok (.dup, 1) := by decide +kernel
theorem dX8_init_42 : decode cX8_init 42 = .ok (.invokespecial 21, 3) := by decide +kernel
theorem dX8_init_45 : decode cX8_init 45 = .ok (.putfield 26, 3) := by decide +kernel
theorem dX8_init_48 : decode cX8_init 48 = .ok (.aload_n 0, 1) := by decide +kernel
theorem dX8_init_49 : decode cX8_init 49 = .ok (.new 29, 3) := by decide +kernel
theorem dX8_init_52 : decode cX8_init 52 = .ok (.dup, 1) := by decide +kernel
theorem dX8_init_53 : decode cX8_init 53 = .ok (.invokespecial 31, 3) := by decide +kernel
theorem dX8_init_56 : decode cX8_init 56 = .ok (.putfield 32, 3) := by decide +kernel
theorem dX8_init_59 : decode cX8_init 59 = .ok (.aload_n 0, 1) := by decide +kernel
theorem dX8_init_60 : decode cX8_init 60 = .ok (.new 36, 3) := by decide +kernel
theorem dX8_init_63 : decode cX8_init 63 = .ok (.dup, 1) := by decide +kernel
theorem dX8_init_64 : decode cX8_init 64 = .ok (.invokespecial 38, 3) := by decide +kernel
theorem dX8_init_67 : decode cX8_init 67 = .ok (.putfield 39, 3) := by decide +kernel
theorem dX8_init_70 : decode cX8_init 70 = .ok (.aload_n 0, 1) := by decide +kernel
theorem dX8_init_71 : decode cX8_init 71 = .ok (.new 36, 3) := by decide +kernel
theorem dX8_init_74 : decode cX8_init 74 = .ok (.dup, 1) := by decide +kernel
theorem dX8_init_75 : decode cX8_init 75 = .ok (.invokespecial 38, 3) := by decide +kernel
theorem dX8_init_78 : decode cX8_init 78 = .ok (.putfield 43, 3) := by decide +kernel
theorem dX8_init_81 : decode cX8_init 81 = .ok (.aload_n 0, 1) := by decide +kernel
theorem dX8_init_82 : decode cX8_init 82 = .ok (.iconst (-1), 1) := by decide +kernel
theorem dX8_init_83 : decode cX8_init 83 = .ok (.putfield 46, 3) := by decide +kernel
theorem dX8_init_86 : decode cX8_init 86 = .ok (.aload_n 0, 1) := by decide +kernel
theorem dX8_init_87 : decode cX8_init 87 = .ok (.iconst (-1), 1) := by decide +kernel
theorem dX8_init_88 : decode cX8_init 88 = .ok (.putfield 50, 3) := by decide +kernel
theorem dX8_init_91 : decode cX8_init 91 = .ok (.aload_n 0, 1) := by decide +kernel
theorem dX8_init_92 : decode cX8_init 92 = .ok (.iconst 0, 1) := by decide +kernel
theorem dX8_init_93 : decode cX8_init 93 = .ok (.putfield 53, 3) := by decide +kernel
theorem dX8_init_96 : decode cX8_init 96 = .ok (.return_, 1) := by decide +kernel
set_option maxRecDepth 20000 in
theorem ggX8_begin_X8_isWithin : GoodIn wsX8_begin wsX8_isWithin := goodIn_r _ [8] (by decide +kernel) (by decide +kernel)
set_option maxRecDepth 20000 in
theorem gX8_begin_X8_isWithin : GoodIn wsX8_begin (va_wsS RX8 56 yX8_isWithin wsX8_isWithin) := goodIn_app (goodIn_of _ (by decide +kernel)) ggX8_begin_X8_isWithin
set_option maxRecDepth 20000 in
theorem ggX8_begin_X1_start : GoodIn wsX8_begin wsX1_start := goodIn_r _ [13, 14, 15, 16, 17, 18, 19, 310, 311, 312, 313, 314, 315, 316, 317, 318] (by decide +kernel) (by decide +kernel)
set_option maxRecDepth 20000 in
theorem gX8_begin_X1_start : GoodIn wsX8_begin (wsV RX8 67 RX1 yX1_start wsX1_start) := goodIn_app (goodIn_of _ (by decide +kernel)) ggX8_begin_X1_start
set_option maxRecDepth 20000 in
theorem ggX8_begin_X2_follow : GoodIn wsX8_begin wsX2_follow := goodIn_ca (goodIn_ca (goodIn_r _ [24, 25, 26, 27, 28, 29, 30, 31, 32, 33, 34, 35, 36, 12, 37, 15, 38, 39, 40, 23, 41, 42, 43, 44, 45, 46, 47, 48, 49, 50, 51, 52, 53, 54, 55, 56, 57, 58, 59, 60, 61, 62, 63, 64, 65, 66, 67, 68, 69, 70, 71, 72, 73, 74, 75, 76, 77, 78, 79, 80, 81, 82, 83, 84, 85, 86, 87, 88, 89, 90, 91, 92, 93, 94, 95, 96, 97, 98, 99, 100, 101, 102, 103, 104, 105, 106, 107, 108, 109, 110, 111, 112, 113, 114, 115, 116, 117, 118, 119, 120, 121, 122, 123, 124, 125, 126, 127, 128, 129, 130, 17, 131, 132, 133, 134, 135, 136, 137, 138, 139, 140, 141, 142, 143, 144, 145, 146, 147, 148, 149, 150, 151, 152, 153, 154, 155, 156, 157, 158, 159, 160, 161, 162, 163, 164, 165, 166, 167, 168, 169, 170, 171, 172, 173, 174, 175, 176, 177, 178, 179, 180, 181, 182, 183, 184, 185, 186, 187, 188, 189, 190, 191, 192, 193, 194, 195, 196, 197, 198, 199, 200, 201, 202, 203, 204, 205, 206, 207, 208, 209, 210, 211, 212, 213, 214, 215, 216, 217, 218, 219, 220, 221, 222, 223, 224, 225, 226, 227, 228, 229, 230, 231, 232, 233, 234, 235, 236, 237, 238, 239, 240, 241, 242, 243, 244, 245, 246, 247, 248, 249, 250, 251, 252, 253, 254, 255, 256, 257, 258, 259, 260, 261, 262, 263, 264, 265, 266, 267, 268, 269, 270, 271, 272, 273, 274, 275, 276, 277, 278, 279, 280, 281, 282, 283, 284, 285, 286, 287, 288, 289, 290, 291, 292, 293, 294, 295, 296, 319, 320, 321, 322, 323, 324, 310, 311, 312, 313, 314, 315, 316, 317, 318, 325, 326, 327, 328, 329, 330, 331, 332, 333, 334, 335, 336, 337, 338, 339, 340, 341, 342, 343, 344, 345, 346, 347, 348, 349, 350, 351, 352, 353, 354, 355, 356] (by decide +kernel) (by decide +kernel)) (goodIn_sub (fun _ h => List.mem_cons_of_mem _ (List.mem_append_left _ (List.mem_append_right _ h))) (by decide +kernel))) (goodIn_sub (fun _ h => List.mem_cons_of_mem _ (List.mem_append_right _ h)) (by decide +kernel))
set_option maxRecDepth 20000 in
theorem gX8_begin_X2_follow : GoodIn wsX8_begin (wsV RX8 71 RX2 yX2_follow wsX2_follow) := goodIn_app (goodIn_of _ (by decide +kernel)) ggX8_begin_X2_follow
set_option maxRecDepth 20000 in
theorem ggX8_begin_X3_quota : GoodIn wsX8_begin wsX3_quota := goodIn_r _ [299] (by decide +kernel) (by decide +kernel)
set_option maxRecDepth 20000 in
theorem gX8_begin_X3_quota : GoodIn wsX8_begin (va_wsS RX8 75 yX3_quota wsX3_quota) := goodIn_app (goodIn_of _ (by decide +kernel)) ggX8_begin_X3_quota
theorem dX8_begin_0 : decode cX8_begin 0 = .ok (.iload_n 1, 1) := by decide +kernel
theorem dX8_begin_1 : decode cX8_begin 1 = .ok (.iconst 1, 1) := by decide +kernel
theorem dX8_begin_2 : decode cX8_begin 2 = .ok (.bipush 20, 2) := by decide +kernel
theorem dX8_begin_4 : decode cX8_begin 4 = .ok (.invokestatic 56, 3) := by decide +kernel
theorem dX8_begin_7 : decode cX8_begin 7 = .ok (.ifCond .eq 21, 3) := by decide +kernel
theorem dX8_begin_10 : decode cX8_begin 10 = .ok (.iload_n 2, 1) := by decide +kernel
theorem dX8_begin_11 : decode cX8_begin 11 = .ok (.iconst 1, 1) := by decide +kernel
theorem dX8_begin_12 : decode cX8_begin 12 = .ok (.iconst 2, 1) := by decide +kernel
theorem dX8_begin_13 : decode cX8_begin 13 = .ok (.invokestatic 56, 3) := by decide +kernel
theorem dX8_begin_16 : decode cX8_begin 16 = .ok (.ifCond .eq 12, 3) := by decide +kernel
theorem dX8_begin_19 : decode cX8_begin 19 = .ok (.iload_n 3, 1) := by decide +kernel
theorem dX8_begin_20 : decode cX8_begin 20 = .ok (.iconst 0, 1) := by decide +kernel
theorem dX8_begin_21 : decode cX8_begin 21 = .ok (.iconst 1, 1) := by decide +kernel
theorem dX8_begin_22 : decode cX8_begin 22 = .ok (.invokestatic 56, 3) := by decide +kernel
theorem dX8_begin_25 : decode cX8_begin 25 = .ok (.ifCond .ne 13, 3) := by decide +kernel
theorem dX8_begin_28 : decode cX8_begin 28 = .ok (.new 60, 3) := by decide +kernel
theorem dX8_begin_31 : decode cX8_begin 31 = .ok (.dup, 1) := by decide +kernel
theorem dX8_begin_32 : decode cX8_begin 32 = .ok (.ldc 62, 2) := by decide +kernel
theorem dX8_begin_34 : decode cX8_begin 34 = .ok (.invokespecial 64, 3) := by decide +kernel
theorem dX8_begin_37 : decode cX8_begin 37 = .ok (.athrow, 1) := by decide +kernel
theorem dX8_begin_38 : decode cX8_begin 38 = .ok (.aload_n 0, 1) := by decide +kernel
theorem dX8_begin_39 : decode cX8_begin 39 = .ok (.getfield 22, 3) := by decide +kernel
theorem dX8_begin_42 : decode cX8_begin 42 = .ok (.iload_n 1, 1) := by decide +kernel
theorem dX8_begin_43 : decode cX8_begin 43 = .ok (.iload_n 2, 1) := by decide +kernel
theorem dX8_begin_44 : decode cX8_begin 44 = .ok (.iload_n 3, 1) := by decide +kernel
theorem dX8_begin_45 : decode cX8_begin 45 = .ok (.invokevirtual 67, 3) := by decide +kernel
theorem dX8_begin_48 : decode cX8_begin 48 = .ok (.aload_n 0, 1) := by decide +kernel
theorem dX8_begin_49 : decode cX8_begin 49 = .ok (.getfield 10, 3) := by decide +kernel
theorem dX8_begin_52 : decode cX8_begin 52 = .ok (.aload_n 0, 1) := by decide +kernel
theorem dX8_begin_53 : decode cX8_begin 53 = .ok (.getfield 22, 3) := by decide +kernel
theorem dX8_begin_56 : decode cX8_begin 56 = .ok (.invokevirtual 71, 3) := by decide +kernel
theorem dX8_begin_59 : decode cX8_begin 59 = .ok (.iload_n 1, 1) := by decide +kernel
theorem dX8_begin_60 : decode cX8_begin 60 = .ok (.invokestatic 75, 3) := by decide +kernel
theorem dX8_begin_63 : decode cX8_begin 63 = .ok (.ireturn, 1) := by decide +kernel
set_option maxRecDepth 20000 in
theorem ggX8_bowl_X8_isPlayer : GoodIn wsX8_bowl wsX8_isPlayer := goodIn_r _ [6, 7, 8, 5, 9] (by decide +kernel) (by decide +kernel)
set_option maxRecDepth 20000 in
theorem gX8_bowl_X8_isPlayer : GoodIn wsX8_bowl (va_wsS RX8 81 yX8_isPlayer wsX8_isPlayer) := goodIn_app (goodIn_of _ (by decide +kernel)) ggX8_bowl_X8_isPlayer
set_option maxRecDepth 20000 in
theorem ggX8_bowl_X5_ofNumber : GoodIn wsX8_bowl wsX5_ofNumber := goodIn_r _ [13, 14, 15, 12, 16, 17, 18, 19, 20, 21, 22, 23, 342, 343, 344, 345, 346, 347, 348, 349, 350] (by decide +kernel) (by decide +kernel)
set_option maxRecDepth 20000 in
theorem gX8_bowl_X5_ofNumber : GoodIn wsX8_bowl (va_wsS RX8 92 yX5_ofNumber wsX5_ofNumber) := goodIn_app (goodIn_of _ (by decide +kernel)) ggX8_bowl_X5_ofNumber
set_option maxRecDepth 20000 in
theorem ggX8_bowl_X8_carryOut : GoodIn wsX8_bowl wsX8_carryOut := goodIn_ca (goodIn_ca (goodIn_ca (goodIn_r _ [27, 28, 29, 30, 31, 32, 33, 34, 35, 36, 37, 38, 39, 40, 41, 42, 43, 44, 45, 46, 47, 48, 49, 50, 51, 52, 53, 54, 55, 56, 57, 58, 59, 60, 61, 62, 63, 64, 65, 66, 67, 68, 69, 70, 71, 72, 73, 74, 75, 76, 77, 78, 79, 80, 81, 82, 83, 84, 85, 86, 87, 88, 89, 12, 90, 91, 92, 93, 94, 95, 96, 97, 98, 99, 100, 101, 102, 103, 104, 105, 106, 107, 108, 109, 110, 111, 112, 113, 114, 115, 116, 117, 118, 119, 120, 121, 122, 123, 124, 125, 126, 127, 128, 129, 130, 131, 132, 133, 134, 135, 136, 137, 138, 139, 140, 141, 142, 143, 144, 145, 146, 147, 148, 149, 150, 151, 152, 153, 154, 155, 156, 157, 158, 159, 160, 161, 162, 163, 164, 165, 166, 167, 168, 169, 170, 171, 172, 173, 174, 175, 176, 177, 178, 179, 180, 181, 182, 183, 184, 185, 186, 187, 188, 189, 190, 191, 192, 193, 194, 195, 196, 197, 198, 199, 200, 201, 202, 203, 204, 205, 206, 207, 208, 209, 210, 211, 212, 213, 214, 215, 216, 217, 218, 219, 220, 221, 222, 223, 224, 225, 226, 227, 228, 229, 230, 231, 232, 233, 234, 235, 236, 237, 238, 239, 240, 241, 242, 243, 244, 245, 246, 247, 248, 249, 250, 251, 252, 253, 254, 255, 256, 257, 258, 259, 260, 261, 262, 263, 264, 265, 266, 267, 268, 269, 270, 271, 272, 273, 274, 275, 276, 277, 278, 279, 280, 281, 282, 283, 284, 285, 286, 287, 288, 289, 290, 291, 292, 293, 294, 295, 296, 297, 298, 299, 300, 301, 302, 303, 304, 305, 306, 307, 308, 309, 310, 311, 312, 313, 314, 315, 316, 317, 318, 319, 320, 321, 322, 323, 324, 325, 326, 327, 328, 329, 330, 331, 332, 333, 334, 335, 336, 337, 338, 339, 340, 341, 351, 352, 353, 354, 355, 356, 357, 358, 359, 360, 361, 362, 363, 364, 365, 366, 342, 343, 344, 345, 346, 347, 348, 349, 350, 367, 368, 369, 370, 371, 372, 373, 374, 375, 376, 377, 378, 379, 380, 381, 382, 383, 384, 385, 386, 387, 388, 389, 390, 391, 392, 393, 394, 395, 396, 397, 398] (by decide +kernel) (by decide +kernel)) (goodIn_sub (fun _ h => List.mem_cons_of_mem _ (List.mem_append_left _ (List.mem_append_left _ (List.mem_append_right _ h)))) (by decide +kernel))) (goodIn_sub (fun _ h => List.mem_cons_of_mem _ (List.mem_append_left _ (List.mem_append_right _ h))) (by decide +kernel))) (goodIn_sub (fun _ h => List.mem_cons_of_mem _ (List.mem_append_right _ h)) (by decide +kernel))
set_option maxRecDepth 20000 in
theorem gX8_bowl_X8_carryOut : GoodIn wsX8_bowl (wsV RX8 96 RX8 yX8_carryOut wsX8_carryOut) := goodIn_app (goodIn_of _ (by decide +kernel)) ggX8_bowl_X8_carryOut
theorem dX8_bowl_0 : decode cX8_bowl 0 = .ok (.iload_n 1, 1) := by decide +kernel
theorem dX8_bowl_1 : decode cX8_bowl 1 = .ok (.invokestatic 81, 3) := by decide +kernel
theorem dX8_bowl_4 : decode cX8_bowl 4 = .ok (.ifCond .ne 13, 3) := by decide +kernel
theorem dX8_bowl_7 : decode cX8_bowl 7 = .ok (.new 85, 3) := by decide +kernel
theorem dX8_bowl_10 : decode cX8_bowl 10 = .ok (.dup, 1) := by decide +kernel
theorem dX8_bowl_11 : decode cX8_bowl 11 = .ok (.ldc 87, 2) := by decide +kernel
theorem dX8_bowl_13 : decode cX8_bowl 13 = .ok (.invokespecial 89, 3) := by decide +kernel
theorem dX8_bowl_16 : decode cX8_bowl 16 = .ok (.athrow, 1) := by decide +kernel
theorem dX8_bowl_17 : decode cX8_bowl 17 = .ok (.aload_n 0, 1) := by decide +kernel
theorem dX8_bowl_18 : decode cX8_bowl 18 = .ok (.iconst 1, 1) := by decide +kernel
theorem dX8_bowl_19 : decode cX8_bowl 19 = .ok (.iload_n 1, 1) := by decide +kernel
theorem dX8_bowl_20 : decode cX8_bowl 20 = .ok (.invokestatic 92, 3) := by decide +kernel
theorem dX8_bowl_23 : decode cX8_bowl 23 = .ok (.invokevirtual 96, 3) := by decide +kernel
theorem dX8_bowl_26 : decode cX8_bowl 26 = .ok (.ireturn, 1) := by decide +kernel
set_option maxRecDepth 20000 in
theorem ggX8_ball_X8_isWithin : GoodIn wsX8_ball wsX8_isWithin := goodIn_r _ [6] (by decide +kernel) (by decide +kernel)
set_option maxRecDepth 20000 in
theorem gX8_ball_X8_isWithin : GoodIn wsX8_ball (va_wsS RX8 56 yX8_isWithin wsX8_isWithin) := goodIn_app (goodIn_of _ (by decide +kernel)) ggX8_ball_X8_isWithin
set_option maxRecDepth 20000 in
theorem ggX8_ball_X8_leastRuns : GoodIn wsX8_ball wsX8_leastRuns := goodIn_r _ [9] (by decide +kernel) (by decide +kernel)
set_option maxRecDepth 20000 in
theorem gX8_ball_X8_leastRuns : GoodIn wsX8_ball (va_wsS RX8 100 yX8_leastRuns wsX8_leastRuns) := goodIn_app (goodIn_of _ (by decide +kernel)) ggX8_ball_X8_leastRuns
set_option maxRecDepth 20000 in
theorem ggX8_ball_X8_mostRuns : GoodIn wsX8_ball wsX8_mostRuns := goodIn_r _ [12] (by decide +kernel) (by decide +kernel)
set_option maxRecDepth 20000 in
theorem gX8_ball_X8_mostRuns : GoodIn wsX8_ball (va_wsS RX8 103 yX8_mostRuns wsX8_mostRuns) := goodIn_app (goodIn_of _ (by decide +kernel)) ggX8_ball_X8_mostRuns
set_option maxRecDepth 20000 in
theorem ggX8_ball_X8_canBeBoundary : GoodIn wsX8_ball wsX8_canBeBoundary := goodIn_r _ [15] (by decide +kernel) (by decide +kernel)
set_option maxRecDepth 20000 in
theorem gX8_ball_X8_canBeBoundary : GoodIn wsX8_ball (va_wsS RX8 106 yX8_canBeBoundary wsX8_canBeBoundary) := goodIn_app (goodIn_of _ (by decide +kernel)) ggX8_ball_X8_canBeBoundary
set_option maxRecDepth 20000 in
theorem ggX8_ball_X5_ofBall : GoodIn wsX8_ball wsX5_ofBall := goodIn_r _ [19, 20, 21, 18, 22, 23, 24, 25, 26, 27, 28, 29, 30, 31, 347, 348, 349, 350, 351, 352, 353, 354, 355] (by decide +kernel) (by decide +kernel)
set_option maxRecDepth 20000 in
theorem gX8_ball_X5_ofBall : GoodIn wsX8_ball (va_wsS RX8 112 yX5_ofBall wsX5_ofBall) := goodIn_app (goodIn_of _ (by decide +kernel)) ggX8_ball_X5_ofBall
set_option maxRecDepth 20000 in
theorem ggX8_ball_X8_carryOut : GoodIn wsX8_ball wsX8_carryOut := goodIn_ca (goodIn_ca (goodIn_ca (goodIn_r _ [35, 36, 37, 38, 39, 40, 41, 42, 43, 44, 45, 46, 47, 48, 49, 50, 51, 52, 53, 54, 55, 56, 57, 58, 59, 60, 61, 62, 63, 64, 65, 66, 67, 68, 69, 70, 71, 72, 73, 74, 75, 76, 77, 78, 79, 80, 81, 82, 83, 84, 85, 86, 87, 88, 89, 90, 91, 92, 93, 94, 95, 96, 97, 18, 98, 99, 22, 100, 23, 101, 102, 103, 104, 105, 106, 107, 108, 109, 110, 111, 112, 113, 114, 115, 116, 117, 118, 119, 120, 121, 122, 123, 124, 125, 126, 127, 128, 129, 130, 131, 132, 133, 134, 135, 136, 137, 138, 139, 140, 141, 142, 143, 144, 145, 146, 147, 148, 149, 150, 151, 152, 153, 154, 155, 156, 157, 158, 159, 160, 161, 162, 163, 164, 165, 166, 167, 168, 169, 170, 171, 172, 173, 174, 175, 176, 177, 178, 179, 180, 181, 182, 183, 184, 185, 186, 187, 188, 189, 190, 191, 192, 193, 194, 195, 196, 197, 198, 199, 200, 201, 202, 203, 204, 205, 206, 207, 208, 209, 210, 211, 24, 212, 213, 214, 215, 216, 217, 218, 219, 220, 221, 222, 223, 224, 225, 226, 227, 228, 229, 230, 231, 232, 233, 234, 235, 236, 237, 238, 239, 240, 241, 242, 243, 244, 245, 246, 247, 248, 249, 250, 251, 252, 253, 254, 255, 256, 257, 258, 259, 260, 261, 262, 263, 264, 265, 266, 267, 268, 269, 270, 271, 272, 273, 274, 275, 276, 277, 278, 279, 280, 281, 282, 283, 284, 285, 286, 287, 288, 289, 290, 291, 292, 293, 294, 295, 296, 297, 298, 299, 300, 301, 302, 303, 304, 305, 306, 307, 308, 309, 310, 311, 312, 313, 314, 315, 316, 317, 318, 319, 320, 321, 322, 323, 324, 325, 326, 327, 328, 329, 330, 331, 332, 333, 334, 335, 336, 337, 338, 339, 340, 341, 342, 343, 344, 345, 346, 356, 357, 358, 359, 360, 361, 362, 363, 364, 365, 366, 367, 368, 369, 370, 371, 347, 348, 349, 350, 351, 352, 353, 354, 355, 372, 373, 374, 375, 376, 377, 378, 379, 380, 381, 382, 383, 384, 385, 386, 387, 388, 389, 390, 391, 392, 393, 394, 395, 396, 397, 398, 399, 400, 401, 402, 403] (by decide +kernel) (by decide +kernel)) (goodIn_sub (fun _ h => List.mem_cons_of_mem _ (List.mem_append_left _ (List.mem_append_left _ (List.mem_append_right _ h)))) (by decide +kernel))) (goodIn_sub (fun _ h => List.mem_cons_of_mem _ (List.mem_append_left _ (List.mem_append_right _ h))) (by decide +kernel))) (goodIn_sub (fun _ h => List.mem_cons_of_mem _ (List.mem_append_right _ h)) (by decide +kernel))
set_option maxRecDepth 20000 in
theorem gX8_ball_X8_carryOut : GoodIn wsX8_ball (wsV RX8 96 RX8 yX8_carryOut wsX8_carryOut) := goodIn_app (goodIn_of _ (by decide +kernel)) ggX8_ball_X8_carryOut
theorem dX8_ball_0 : decode cX8_ball 0 = .ok (.iload_n 1, 1) := by decide +kernel
theorem dX8_ball_1 : decode cX8_ball 1 = .ok (.iconst 0, 1) := by decide +kernel
theorem dX8_ball_2 : decode cX8_ball 2 = .ok (.iconst 4, 1) := by decide +kernel
theorem dX8_ball_3 : decode cX8_ball 3 = .ok (.invokestatic 56, 3) := by decide +kernel
theorem dX8_ball_6 : decode cX8_ball 6 = .ok (.ifCond .eq 30, 3) := by decide +kernel
theorem dX8_ball_9 : decode cX8_ball 9 = .ok (.iload_n 2, 1) := by decide +kernel
theorem dX8_ball_10 : decode cX8_ball 10 = .ok (.iload_n 1, 1) := by decide +kernel
theorem dX8_ball_11 : decode cX8_ball 11 = .ok (.invokestatic 100, 3) := by decide +kernel
theorem dX8_ball_14 : decode cX8_ball 14 = .ok (.iload_n 1, 1) := by decide +kernel
theorem dX8_ball_15 : decode cX8_ball 15 = .ok (.invokestatic 103, 3) := by decide +kernel
theorem dX8_ball_18 : decode cX8_ball 18 = .ok (.invokestatic 56, 3) := by decide +kernel
theorem dX8_ball_21 : decode cX8_ball 21 = .ok (.ifCond .eq 15, 3) := by decide +kernel
theorem dX8_ball_24 : decode cX8_ball 24 = .ok (.iload_n 3, 1) := by decide +kernel
theorem dX8_ball_25 : decode cX8_ball 25 = .ok (.ifCond .eq 21, 3) := by decide +kernel
theorem dX8_ball_28 : decode cX8_ball 28 = .ok (.iload_n 1, 1) := by decide +kernel
theorem dX8_ball_29 : decode cX8_ball 29 = .ok (.iload_n 2, 1) := by decide +kernel
theorem dX8_ball_30 : decode cX8_ball 30 = .ok (.invokestatic 106, 3) := by decide +kernel
theorem dX8_ball_33 : decode cX8_ball 33 = .ok (.ifCond .ne 13, 3) := by decide +kernel
theorem dX8_ball_36 : decode cX8_ball 36 = .ok (.new 60, 3) := by decide +kernel
theorem dX8_ball_39 : decode cX8_ball 39 = .ok (.dup, 1) := by decide +kernel
theorem dX8_ball_40 : decode cX8_ball 40 = .ok (.ldc 110, 2) := by decide +kernel
theorem dX8_ball_42 : decode cX8_ball 42 = .ok (.invokespecial 64, 3) := by decide +kernel
theorem dX8_ball_45 : decode cX8_ball 45 = .ok (.athrow, 1) := by decide +kernel
theorem dX8_ball_46 : decode cX8_ball 46 = .ok (.aload_n 0, 1) := by decide +kernel
theorem dX8_ball_47 : decode cX8_ball 47 = .ok (.iload_n 1, 1) := by decide +kernel
theorem dX8_ball_48 : decode cX8_ball 48 = .ok (.iload_n 2, 1) := by decide +kernel
theorem dX8_ball_49 : decode cX8_ball 49 = .ok (.iload_n 3, 1) := by decide +kernel
theorem dX8_ball_50 : decode cX8_ball 50 = .ok (.invokestatic 112, 3) := by decide +kernel
theorem dX8_ball_53 : decode cX8_ball 53 = .ok (.invokevirtual 96, 3) := by decide +kernel
theorem dX8_ball_56 : decode cX8_ball 56 = .ok (.ireturn, 1) := by decide +kernel
set_option maxRecDepth 20000 in
theorem ggX8_wicket_X8_isWithin : GoodIn wsX8_wicket wsX8_isWithin := goodIn_r _ [6] (by decide +kernel) (by decide +kernel)
set_option maxRecDepth 20000 in
theorem gX8_wicket_X8_isWithin : GoodIn wsX8_wicket (va_wsS RX8 56 yX8_isWithin wsX8_isWithin) := goodIn_app (goodIn_of _ (by decide +kernel)) ggX8_wicket_X8_isWithin
set_option maxRecDepth 20000 in
theorem ggX8_wicket_X5_ofWicket : GoodIn wsX8_wicket wsX5_ofWicket := goodIn_r _ [10, 11, 12, 9, 13, 14, 15, 16, 17, 18, 19, 20, 21, 22, 23, 24, 338, 339, 340, 341, 342, 343, 344, 345, 346] (by decide +kernel) (by decide +kernel)
set_option maxRecDepth 20000 in
theorem gX8_wicket_X5_ofWicket : GoodIn wsX8_wicket (va_wsS RX8 118 yX5_ofWicket wsX5_ofWicket) := goodIn_app (goodIn_of _ (by decide +kernel)) ggX8_wicket_X5_ofWicket
set_option maxRecDepth 20000 in
theorem ggX8_wicket_X8_carryOut : GoodIn wsX8_wicket wsX8_carryOut := goodIn_ca (goodIn_ca (goodIn_ca (goodIn_r _ [28, 29, 30, 31, 32, 33, 34, 35, 36, 37, 38, 39, 40, 41, 42, 43, 44, 45, 46, 47, 48, 49, 50, 51, 52, 53, 54, 55, 56, 57, 58, 59, 60, 61, 62, 63, 64, 65, 66, 67, 68, 69, 70, 71, 72, 73, 74, 75, 76, 77, 78, 79, 80, 81, 82, 83, 84, 85, 86, 87, 88, 89, 90, 9, 91, 13, 14, 15, 16, 17, 92, 93, 94, 95, 96, 97, 98, 99, 100, 101, 102, 103, 104, 105, 106, 107, 108, 109, 110, 111, 112, 113, 114, 115, 116, 117, 118, 119, 120, 121, 122, 123, 124, 125, 126, 127, 128, 129, 130, 131, 132, 133, 134, 135, 136, 137, 138, 139, 140, 141, 142, 143, 144, 145, 146, 147, 148, 149, 150, 151, 152, 153, 154, 155, 156, 157, 158, 159, 160, 161, 162, 163, 164, 165, 166, 167, 168, 169, 170, 171, 172, 173, 174, 175, 176, 177, 178, 179, 180, 181, 182, 183, 184, 185, 186, 187, 188, 189, 190, 191, 192, 193, 194, 195, 196, 197, 198, 199, 200, 201, 202, 203, 204, 205, 206, 207, 208, 209, 210, 211, 212, 213, 214, 215, 216, 217, 218, 219, 220, 221, 222, 223, 224, 225, 226, 227, 228, 229, 230, 231, 232, 233, 234, 235, 236, 237, 238, 239, 240, 241, 242, 243, 244, 245, 246, 247, 248, 249, 250, 251, 252, 253, 254, 255, 256, 257, 258, 259, 260, 261, 262, 263, 264, 265, 266, 267, 268, 269, 270, 271, 272, 273, 274, 275, 276, 277, 278, 279, 280, 281, 282, 283, 284, 285, 286, 287, 288, 289, 290, 291, 292, 293, 294, 295, 296, 297, 298, 299, 300, 301, 302, 303, 304, 305, 306, 307, 308, 309, 310, 311, 312, 313, 314, 315, 316, 317, 318, 319, 320, 321, 322, 323, 324, 325, 326, 327, 328, 329, 330, 331, 332, 333, 334, 335, 336, 337, 347, 348, 349, 350, 351, 352, 353, 354, 355, 356, 357, 358, 359, 360, 361, 362, 338, 339, 340, 341, 342, 343, 344, 345, 346, 363, 364, 365, 366, 367, 368, 369, 370, 371, 372, 373, 374, 375, 376, 377, 378, 379, 380, 381, 382, 383, 384, 385, 386, 387, 388, 389, 390, 391, 392, 393, 394] (by decide +kernel) (by decide +kernel)) (goodIn_sub (fun _ h => List.mem_cons_of_mem _ (List.mem_append_left _ (List.mem_append_left _ (List.mem_append_right _ h)))) (by decide +kernel))) (goodIn_sub (fun _ h => List.mem_cons_of_mem _ (List.mem_append_left _ (List.mem_append_right _ h))) (by decide +kernel))) (goodIn_sub (fun _ h => List.mem_cons_of_mem _ (List.mem_append_right _ h)) (by decide +kernel))
set_option maxRecDepth 20000 in
theorem gX8_wicket_X8_carryOut : GoodIn wsX8_wicket (wsV RX8 96 RX8 yX8_carryOut wsX8_carryOut) := goodIn_app (goodIn_of _ (by decide +kernel)) ggX8_wicket_X8_carryOut
theorem dX8_wicket_0 : decode cX8_wicket 0 = .ok (.iload_n 1, 1) := by decide +kernel
theorem dX8_wicket_1 : decode cX8_wicket 1 = .ok (.iconst 0, 1) := by decide +kernel
theorem dX8_wicket_2 : decode cX8_wicket 2 = .ok (.iconst 5, 1) := by decide +kernel
theorem dX8_wicket_3 : decode cX8_wicket 3 = .ok (.invokestatic 56, 3) := by decide +kernel
theorem dX8_wicket_6 : decode cX8_wicket 6 = .ok (.ifCond .eq 22, 3) := by decide +kernel
theorem dX8_wicket_9 : decode cX8_wicket 9 = .ok (.iload_n 2, 1) := by decide +kernel
theorem dX8_wicket_10 : decode cX8_wicket 10 = .ok (.iconst 0, 1) := by decide +kernel
theorem dX8_wicket_11 : decode cX8_wicket 11 = .ok (.iconst 2, 1) := by decide +kernel
theorem dX8_wicket_12 : decode cX8_wicket 12 = .ok (.invokestatic 56, 3) := by decide +kernel
theorem dX8_wicket_15 : decode cX8_wicket 15 = .ok (.ifCond .eq 13, 3) := by decide +kernel
theorem dX8_wicket_18 : decode cX8_wicket 18 = .ok (.iload 4, 2) := by decide +kernel
theorem dX8_wicket_20 : decode cX8_wicket 20 = .ok (.iconst 0, 1) := by decide +kernel
theorem dX8_wicket_21 : decode cX8_wicket 21 = .ok (.iconst 3, 1) := by decide +kernel
theorem dX8_wicket_22 : decode cX8_wicket 22 = .ok (.invokestatic 56, 3) := by decide +kernel
theorem dX8_wicket_25 : decode cX8_wicket 25 = .ok (.ifCond .ne 13, 3) := by decide +kernel
theorem dX8_wicket_28 : decode cX8_wicket 28 = .ok (.new 60, 3) := by decide +kernel
theorem dX8_wicket_31 : decode cX8_wicket 31 = .ok (.dup, 1) := by decide +kernel
theorem dX8_wicket_32 : decode cX8_wicket 32 = .ok (.ldc 116, 2) := by decide +kernel
theorem dX8_wicket_34 : decode cX8_wicket 34 = .ok (.invokespecial 64, 3) := by decide +kernel
theorem dX8_wicket_37 : decode cX8_wicket 37 = .ok (.athrow, 1) := by decide +kernel
theorem dX8_wicket_38 : decode cX8_wicket 38 = .ok (.aload_n 0, 1) := by decide +kernel
theorem dX8_wicket_39 : decode cX8_wicket 39 = .ok (.iload_n 1, 1) := by decide +kernel
theorem dX8_wicket_40 : decode cX8_wicket 40 = .ok (.iload_n 2, 1) := by decide +kernel
theorem dX8_wicket_41 : decode cX8_wicket 41 = .ok (.iload_n 3, 1) := by decide +kernel
theorem dX8_wicket_42 : decode cX8_wicket 42 = .ok (.iload 4, 2) := by decide +kernel
theorem dX8_wicket_44 : decode cX8_wicket 44 = .ok (.iload 5, 2) := by decide +kernel
theorem dX8_wicket_46 : decode cX8_wicket 46 = .ok (.invokestatic 118, 3) := by decide +kernel
theorem dX8_wicket_49 : decode cX8_wicket 49 = .ok (.invokevirtual 96, 3) := by decide +kernel
theorem dX8_wicket_52 : decode cX8_wicket 52 = .ok (.ireturn, 1) := by decide +kernel
set_option maxRecDepth 20000 in
theorem ggX8_retire_X5_ofRetirement : GoodIn wsX8_retire wsX5_ofRetirement := goodIn_r _ [4, 5, 6, 3, 7, 8, 9, 10, 11, 12, 13, 14, 15, 334, 335, 336, 337, 338, 339, 340, 341, 342] (by decide +kernel) (by decide +kernel)
set_option maxRecDepth 20000 in
theorem gX8_retire_X5_ofRetirement : GoodIn wsX8_retire (va_wsS RX8 122 yX5_ofRetirement wsX5_ofRetirement) := goodIn_app (goodIn_of _ (by decide +kernel)) ggX8_retire_X5_ofRetirement
set_option maxRecDepth 20000 in
theorem ggX8_retire_X8_carryOut : GoodIn wsX8_retire wsX8_carryOut := goodIn_ca (goodIn_ca (goodIn_ca (goodIn_r _ [20, 21, 22, 23, 24, 25, 26, 27, 28, 29, 30, 31, 32, 33, 34, 35, 36, 37, 38, 39, 40, 41, 42, 43, 44, 45, 46, 47, 48, 49, 50, 51, 52, 53, 54, 55, 56, 57, 58, 59, 60, 61, 62, 63, 64, 65, 66, 67, 68, 69, 70, 71, 72, 73, 74, 75, 76, 77, 78, 79, 80, 81, 82, 3, 83, 84, 85, 7, 86, 87, 88, 89, 90, 91, 92, 93, 94, 95, 96, 97, 98, 99, 100, 101, 102, 103, 104, 105, 106, 107, 108, 109, 110, 111, 112, 113, 114, 115, 116, 117, 118, 119, 120, 121, 122, 123, 124, 125, 126, 127, 128, 129, 130, 131, 132, 133, 134, 135, 136, 137, 138, 139, 140, 141, 142, 143, 144, 145, 146, 147, 148, 149, 150, 151, 152, 153, 154, 155, 156, 157, 158, 159, 160, 161, 162, 163, 164, 165, 166, 167, 168, 169, 170, 171, 172, 173, 174, 175, 176, 177, 178, 179, 180, 181, 182, 183, 184, 185, 186, 187, 188, 189, 190, 191, 192, 193, 194, 195, 196, 197, 198, 199, 200, 201, 202, 203, 204, 205, 206, 207, 208, 209, 210, 211, 212, 213, 214, 215, 216, 217, 218, 219, 220, 221, 222, 223, 224, 225, 226, 227, 228, 229, 230, 231, 232, 233, 234, 235, 236, 237, 238, 239, 240, 241, 242, 243, 244, 245, 246, 247, 248, 249, 250, 251, 252, 253, 254, 255, 256, 257, 258, 259, 260, 261, 262, 263, 264, 265, 266, 267, 268, 269, 270, 271, 272, 273, 274, 275, 276, 277, 278, 279, 280, 281, 282, 283, 284, 285, 286, 287, 288, 289, 290, 291, 292, 293, 294, 295, 296, 297, 298, 299, 300, 301, 302, 303, 304, 305, 306, 307, 308, 309, 310, 311, 312, 313, 314, 315, 316, 317, 318, 319, 320, 321, 322, 323, 324, 325, 326, 327, 328, 329, 330, 331, 332, 333, 343, 344, 345, 346, 347, 348, 349, 350, 351, 352, 353, 354, 355, 356, 357, 358, 334, 335, 336, 337, 338, 339, 340, 341, 342, 359, 360, 361, 362, 363, 364, 365, 366, 367, 368, 369, 370, 371, 372, 373, 374, 375, 376, 377, 378, 379, 380, 381, 382, 383, 384, 385, 386, 387, 388, 389, 390] (by decide +kernel) (by decide +kernel)) (goodIn_sub (fun _ h => List.mem_cons_of_mem _ (List.mem_append_left _ (List.mem_append_left _ (List.mem_append_right _ h)))) (by decide +kernel))) (goodIn_sub (fun _ h => List.mem_cons_of_mem _ (List.mem_append_left _ (List.mem_append_right _ h))) (by decide +kernel))) (goodIn_sub (fun _ h => List.mem_cons_of_mem _ (List.mem_append_right _ h)) (by decide +kernel))
set_option maxRecDepth 20000 in
theorem gX8_retire_X8_carryOut : GoodIn wsX8_retire (wsV RX8 96 RX8 yX8_carryOut wsX8_carryOut) := goodIn_app (goodIn_of _ (by decide +kernel)) ggX8_retire_X8_carryOut
theorem dX8_retire_0 : decode cX8_retire 0 = .ok (.aload_n 0, 1) := by decide +kernel
theorem dX8_retire_1 : decode cX8_retire 1 = .ok (.iload_n 1, 1) := by decide +kernel
theorem dX8_retire_2 : decode cX8_retire 2 = .ok (.iload_n 2, 1) := by decide +kernel
theorem dX8_retire_3 : decode cX8_retire 3 = .ok (.invokestatic 122, 3) := by decide +kernel
theorem dX8_retire_6 : decode cX8_retire 6 = .ok (.invokevirtual 96, 3) := by decide +kernel
theorem dX8_retire_9 : decode cX8_retire 9 = .ok (.ireturn, 1) := by decide +kernel
set_option maxRecDepth 20000 in
theorem ggX8_choose_X8_isPlayer : GoodIn wsX8_choose wsX8_isPlayer := goodIn_r _ [6, 7, 8, 5, 9] (by decide +kernel) (by decide +kernel)
set_option maxRecDepth 20000 in
theorem gX8_choose_X8_isPlayer : GoodIn wsX8_choose (va_wsS RX8 81 yX8_isPlayer wsX8_isPlayer) := goodIn_app (goodIn_of _ (by decide +kernel)) ggX8_choose_X8_isPlayer
set_option maxRecDepth 20000 in
theorem ggX8_choose_X5_ofNumber : GoodIn wsX8_choose wsX5_ofNumber := goodIn_r _ [13, 14, 15, 12, 16, 17, 18, 19, 20, 21, 22, 23, 342, 343, 344, 345, 346, 347, 348, 349, 350] (by decide +kernel) (by decide +kernel)
set_option maxRecDepth 20000 in
theorem gX8_choose_X5_ofNumber : GoodIn wsX8_choose (va_wsS RX8 92 yX5_ofNumber wsX5_ofNumber) := goodIn_app (goodIn_of _ (by decide +kernel)) ggX8_choose_X5_ofNumber
set_option maxRecDepth 20000 in
theorem ggX8_choose_X8_carryOut : GoodIn wsX8_choose wsX8_carryOut := goodIn_ca (goodIn_ca (goodIn_ca (goodIn_r _ [27, 28, 29, 30, 31, 32, 33, 34, 35, 36, 37, 38, 39, 40, 41, 42, 43, 44, 45, 46, 47, 48, 49, 50, 51, 52, 53, 54, 55, 56, 57, 58, 59, 60, 61, 62, 63, 64, 65, 66, 67, 68, 69, 70, 71, 72, 73, 74, 75, 76, 77, 78, 79, 80, 81, 82, 83, 84, 85, 86, 87, 88, 89, 12, 90, 91, 92, 93, 94, 95, 96, 97, 98, 99, 100, 101, 102, 103, 104, 105, 106, 107, 108, 109, 110, 111, 112, 113, 114, 115, 116, 117, 118, 119, 120, 121, 122, 123, 124, 125, 126, 127, 128, 129, 130, 131, 132, 133, 134, 135, 136, 137, 138, 139, 140, 141, 142, 143, 144, 145, 146, 147, 148, 149, 150, 151, 152, 153, 154, 155, 156, 157, 158, 159, 160, 161, 162, 163, 164, 165, 166, 167, 168, 169, 170, 171, 172, 173, 174, 175, 176, 177, 178, 179, 180, 181, 182, 183, 184, 185, 186, 187, 188, 189, 190, 191, 192, 193, 194, 195, 196, 197, 198, 199, 200, 201, 202, 203, 204, 205, 206, 207, 208, 209, 210, 211, 212, 213, 214, 215, 216, 217, 218, 219, 220, 221, 222, 223, 224, 225, 226, 227, 228, 229, 230, 231, 232, 233, 234, 235, 236, 237, 238, 239, 240, 241, 242, 243, 244, 245, 246, 247, 248, 249, 250, 251, 252, 253, 254, 255, 256, 257, 258, 259, 260, 261, 262, 263, 264, 265, 266, 267, 268, 269, 270, 271, 272, 273, 274, 275, 276, 277, 278, 279, 280, 281, 282, 283, 284, 285, 286, 287, 288, 289, 290, 291, 292, 293, 294, 295, 296, 297, 298, 299, 300, 301, 302, 303, 304, 305, 306, 307, 308, 309, 310, 311, 312, 313, 314, 315, 316, 317, 318, 319, 320, 321, 322, 323, 324, 325, 326, 327, 328, 329, 330, 331, 332, 333, 334, 335, 336, 337, 338, 339, 340, 341, 351, 352, 353, 354, 355, 356, 357, 358, 359, 360, 361, 362, 363, 364, 365, 366, 342, 343, 344, 345, 346, 347, 348, 349, 350, 367, 368, 369, 370, 371, 372, 373, 374, 375, 376, 377, 378, 379, 380, 381, 382, 383, 384, 385, 386, 387, 388, 389, 390, 391, 392, 393, 394, 395, 396, 397, 398] (by decide +kernel) (by decide +kernel)) (goodIn_sub (fun _ h => List.mem_cons_of_mem _ (List.mem_append_left _ (List.mem_append_left _ (List.mem_append_right _ h)))) (by decide +kernel))) (goodIn_sub (fun _ h => List.mem_cons_of_mem _ (List.mem_append_left _ (List.mem_append_right _ h))) (by decide +kernel))) (goodIn_sub (fun _ h => List.mem_cons_of_mem _ (List.mem_append_right _ h)) (by decide +kernel))
set_option maxRecDepth 20000 in
theorem gX8_choose_X8_carryOut : GoodIn wsX8_choose (wsV RX8 96 RX8 yX8_carryOut wsX8_carryOut) := goodIn_app (goodIn_of _ (by decide +kernel)) ggX8_choose_X8_carryOut
theorem dX8_choose_0 : decode cX8_choose 0 = .ok (.iload_n 1, 1) := by decide +kernel
theorem dX8_choose_1 : decode cX8_choose 1 = .ok (.invokestatic 81, 3) := by decide +kernel
theorem dX8_choose_4 : decode cX8_choose 4 = .ok (.ifCond .ne 13, 3) := by decide +kernel
theorem dX8_choose_7 : decode cX8_choose 7 = .ok (.new 85, 3) := by decide +kernel
theorem dX8_choose_10 : decode cX8_choose 10 = .ok (.dup, 1) := by decide +kernel
theorem dX8_choose_11 : decode cX8_choose 11 = .ok (.ldc 87, 2) := by decide +kernel
theorem dX8_choose_13 : decode cX8_choose 13 = .ok (.invokespecial 89, 3) := by decide +kernel
theorem dX8_choose_16 : decode cX8_choose 16 = .ok (.athrow, 1) := by decide +kernel
theorem dX8_choose_17 : decode cX8_choose 17 = .ok (.aload_n 0, 1) := by decide +kernel
theorem dX8_choose_18 : decode cX8_choose 18 = .ok (.iconst 5, 1) := by decide +kernel
theorem dX8_choose_19 : decode cX8_choose 19 = .ok (.iload_n 1, 1) := by decide +kernel
theorem dX8_choose_20 : decode cX8_choose 20 = .ok (.invokestatic 92, 3) := by decide +kernel
theorem dX8_choose_23 : decode cX8_choose 23 = .ok (.invokevirtual 96, 3) := by decide +kernel
theorem dX8_choose_26 : decode cX8_choose 26 = .ok (.ireturn, 1) := by decide +kernel
set_option maxRecDepth 20000 in
theorem ggX8_declare_X5_ofNumber : GoodIn wsX8_declare wsX5_ofNumber := goodIn_r _ [4, 5, 6, 3, 7, 8, 9, 10, 11, 12, 13, 14, 334, 335, 336, 337, 338, 339, 340, 341, 342] (by decide +kernel) (by decide +kernel)
set_option maxRecDepth 20000 in
theorem gX8_declare_X5_ofNumber : GoodIn wsX8_declare (va_wsS RX8 92 yX5_ofNumber wsX5_ofNumber) := goodIn_app (goodIn_of _ (by decide +kernel)) ggX8_declare_X5_ofNumber
set_option maxRecDepth 20000 in
theorem ggX8_declare_X8_carryOut : GoodIn wsX8_declare wsX8_carryOut := goodIn_ca (goodIn_ca (goodIn_ca (goodIn_r _ [19, 20, 21, 22, 23, 24, 25, 26, 27, 28, 29, 30, 31, 32, 33, 34, 35, 36, 37, 38, 39, 40, 41, 42, 43, 44, 45, 46, 47, 48, 49, 50, 51, 52, 53, 54, 55, 56, 57, 58, 59, 60, 61, 62, 63, 64, 65, 66, 67, 68, 69, 70, 71, 72, 73, 74, 75, 76, 77, 78, 79, 80, 81, 3, 82, 83, 84, 85, 86, 87, 88, 89, 90, 91, 92, 93, 94, 95, 96, 97, 98, 99, 100, 101, 102, 103, 104, 105, 106, 107, 108, 109, 110, 111, 112, 113, 114, 115, 116, 117, 118, 119, 120, 121, 122, 123, 124, 125, 126, 127, 128, 129, 130, 131, 132, 133, 134, 135, 136, 137, 138, 139, 140, 141, 142, 143, 144, 145, 146, 147, 148, 149, 150, 151, 152, 153, 154, 155, 156, 157, 158, 159, 160, 161, 162, 163, 164, 165, 166, 167, 168, 169, 170, 171, 172, 173, 174, 175, 176, 177, 178, 179, 180, 181, 182, 183, 184, 185, 186, 187, 188, 189, 190, 191, 192, 193, 194, 195, 196, 197, 198, 199, 200, 201, 202, 203, 204, 205, 206, 207, 208, 209, 210, 211, 212, 213, 214, 215, 216, 217, 218, 219, 220, 221, 222, 223, 224, 225, 226, 227, 228, 229, 230, 231, 232, 233, 234, 235, 236, 237, 238, 239, 240, 241, 242, 243, 244, 245, 246, 247, 248, 249, 250, 251, 252, 253, 254, 255, 256, 257, 258, 259, 260, 261, 262, 263, 264, 265, 266, 267, 268, 269, 270, 271, 272, 273, 274, 275, 276, 277, 278, 279, 280, 281, 282, 283, 284, 285, 286, 287, 288, 289, 290, 291, 292, 293, 294, 295, 296, 297, 298, 299, 300, 301, 302, 303, 304, 305, 306, 307, 308, 309, 310, 311, 312, 313, 314, 315, 316, 317, 318, 319, 320, 321, 322, 323, 324, 325, 326, 327, 328, 329, 330, 331, 332, 333, 343, 344, 345, 346, 347, 348, 349, 350, 351, 352, 353, 354, 355, 356, 357, 358, 334, 335, 336, 337, 338, 339, 340, 341, 342, 359, 360, 361, 362, 363, 364, 365, 366, 367, 368, 369, 370, 371, 372, 373, 374, 375, 376, 377, 378, 379, 380, 381, 382, 383, 384, 385, 386, 387, 388, 389, 390] (by decide +kernel) (by decide +kernel)) (goodIn_sub (fun _ h => List.mem_cons_of_mem _ (List.mem_append_left _ (List.mem_append_left _ (List.mem_append_right _ h)))) (by decide +kernel))) (goodIn_sub (fun _ h => List.mem_cons_of_mem _ (List.mem_append_left _ (List.mem_append_right _ h))) (by decide +kernel))) (goodIn_sub (fun _ h => List.mem_cons_of_mem _ (List.mem_append_right _ h)) (by decide +kernel))
set_option maxRecDepth 20000 in
theorem gX8_declare_X8_carryOut : GoodIn wsX8_declare (wsV RX8 96 RX8 yX8_carryOut wsX8_carryOut) := goodIn_app (goodIn_of _ (by decide +kernel)) ggX8_declare_X8_carryOut
theorem dX8_declare_0 : decode cX8_declare 0 = .ok (.aload_n 0, 1) := by decide +kernel
theorem dX8_declare_1 : decode cX8_declare 1 = .ok (.bipush 6, 2) := by decide +kernel
theorem dX8_declare_3 : decode cX8_declare 3 = .ok (.iconst 0, 1) := by decide +kernel
theorem dX8_declare_4 : decode cX8_declare 4 = .ok (.invokestatic 92, 3) := by decide +kernel
theorem dX8_declare_7 : decode cX8_declare 7 = .ok (.invokevirtual 96, 3) := by decide +kernel
theorem dX8_declare_10 : decode cX8_declare 10 = .ok (.ireturn, 1) := by decide +kernel
set_option maxRecDepth 20000 in
theorem ggX8_loseOvers_X8_isWithin : GoodIn wsX8_loseOvers wsX8_isWithin := goodIn_r _ [6] (by decide +kernel) (by decide +kernel)
set_option maxRecDepth 20000 in
theorem gX8_loseOvers_X8_isWithin : GoodIn wsX8_loseOvers (va_wsS RX8 56 yX8_isWithin wsX8_isWithin) := goodIn_app (goodIn_of _ (by decide +kernel)) ggX8_loseOvers_X8_isWithin
set_option maxRecDepth 20000 in
theorem ggX8_loseOvers_X5_ofNumber : GoodIn wsX8_loseOvers wsX5_ofNumber := goodIn_r _ [10, 11, 12, 9, 13, 14, 15, 16, 17, 18, 19, 20, 339, 340, 341, 342, 343, 344, 345, 346, 347] (by decide +kernel) (by decide +kernel)
set_option maxRecDepth 20000 in
theorem gX8_loseOvers_X5_ofNumber : GoodIn wsX8_loseOvers (va_wsS RX8 92 yX5_ofNumber wsX5_ofNumber) := goodIn_app (goodIn_of _ (by decide +kernel)) ggX8_loseOvers_X5_ofNumber
set_option maxRecDepth 20000 in
theorem ggX8_loseOvers_X8_carryOut : GoodIn wsX8_loseOvers wsX8_carryOut := goodIn_ca (goodIn_ca (goodIn_ca (goodIn_r _ [24, 25, 26, 27, 28, 29, 30, 31, 32, 33, 34, 35, 36, 37, 38, 39, 40, 41, 42, 43, 44, 45, 46, 47, 48, 49, 50, 51, 52, 53, 54, 55, 56, 57, 58, 59, 60, 61, 62, 63, 64, 65, 66, 67, 68, 69, 70, 71, 72, 73, 74, 75, 76, 77, 78, 79, 80, 81, 82, 83, 84, 85, 86, 9, 87, 88, 89, 90, 91, 92, 93, 94, 95, 96, 97, 98, 99, 100, 101, 102, 103, 104, 105, 106, 107, 108, 109, 110, 111, 112, 113, 114, 115, 116, 117, 118, 119, 120, 121, 122, 123, 124, 125, 126, 127, 128, 129, 130, 131, 132, 133, 134, 135, 136, 137, 138, 139, 140, 141, 142, 143, 144, 145, 146, 147, 148, 149, 150, 151, 152, 153, 154, 155, 156, 157, 158, 159, 160, 161, 162, 163, 164, 165, 166, 167, 168, 169, 170, 171, 172, 173, 174, 175, 176, 177, 178, 179, 180, 181, 182, 183, 184, 185, 186, 187, 188, 189, 190, 191, 192, 193, 194, 195, 196, 197, 198, 199, 200, 201, 202, 203, 204, 205, 206, 207, 208, 209, 210, 211, 212, 213, 214, 215, 216, 217, 218, 219, 220, 221, 222, 223, 224, 225, 226, 227, 228, 229, 230, 231, 232, 233, 234, 235, 236, 237, 238, 239, 240, 241, 242, 243, 244, 245, 246, 247, 248, 249, 250, 251, 252, 253, 254, 255, 256, 257, 258, 259, 260, 261, 262, 263, 264, 265, 266, 267, 268, 269, 270, 271, 272, 273, 274, 275, 276, 277, 278, 279, 280, 281, 282, 283, 284, 285, 286, 287, 288, 289, 290, 291, 292, 293, 294, 295, 296, 297, 298, 299, 300, 301, 302, 303, 304, 305, 306, 307, 308, 309, 310, 311, 312, 313, 314, 315, 316, 317, 318, 319, 320, 321, 322, 323, 324, 325, 326, 327, 328, 329, 330, 331, 332, 333, 334, 335, 336, 337, 338, 348, 349, 350, 351, 352, 353, 354, 355, 356, 357, 358, 359, 360, 361, 362, 363, 339, 340, 341, 342, 343, 344, 345, 346, 347, 364, 365, 366, 367, 368, 369, 370, 371, 372, 373, 374, 375, 376, 377, 378, 379, 380, 381, 382, 383, 384, 385, 386, 387, 388, 389, 390, 391, 392, 393, 394, 395] (by decide +kernel) (by decide +kernel)) (goodIn_sub (fun _ h => List.mem_cons_of_mem _ (List.mem_append_left _ (List.mem_append_left _ (List.mem_append_right _ h)))) (by decide +kernel))) (goodIn_sub (fun _ h => List.mem_cons_of_mem _ (List.mem_append_left _ (List.mem_append_right _ h))) (by decide +kernel))) (goodIn_sub (fun _ h => List.mem_cons_of_mem _ (List.mem_append_right _ h)) (by decide +kernel))
set_option maxRecDepth 20000 in
theorem gX8_loseOvers_X8_carryOut : GoodIn wsX8_loseOvers (wsV RX8 96 RX8 yX8_carryOut wsX8_carryOut) := goodIn_app (goodIn_of _ (by decide +kernel)) ggX8_loseOvers_X8_carryOut
theorem dX8_loseOvers_0 : decode cX8_loseOvers 0 = .ok (.iload_n 1, 1) := by decide +kernel
theorem dX8_loseOvers_1 : decode cX8_loseOvers 1 = .ok (.iconst 1, 1) := by decide +kernel
theorem dX8_loseOvers_2 : decode cX8_loseOvers 2 = .ok (.bipush 19, 2) := by decide +kernel
theorem dX8_loseOvers_4 : decode cX8_loseOvers 4 = .ok (.invokestatic 56, 3) := by decide +kernel
theorem dX8_loseOvers_7 : decode cX8_loseOvers 7 = .ok (.ifCond .ne 13, 3) := by decide +kernel
theorem dX8_loseOvers_10 : decode cX8_loseOvers 10 = .ok (.new 60, 3) := by decide +kernel
theorem dX8_loseOvers_13 : decode cX8_loseOvers 13 = .ok (.dup, 1) := by decide +kernel
theorem dX8_loseOvers_14 : decode cX8_loseOvers 14 = .ok (.ldc 126, 2) := by decide +kernel
theorem dX8_loseOvers_16 : decode cX8_loseOvers 16 = .ok (.invokespecial 64, 3) := by decide +kernel
theorem dX8_loseOvers_19 : decode cX8_loseOvers 19 = .ok (.athrow, 1) := by decide +kernel
theorem dX8_loseOvers_20 : decode cX8_loseOvers 20 = .ok (.aload_n 0, 1) := by decide +kernel
theorem dX8_loseOvers_21 : decode cX8_loseOvers 21 = .ok (.bipush 7, 2) := by decide +kernel
theorem dX8_loseOvers_23 : decode cX8_loseOvers 23 = .ok (.iload_n 1, 1) := by decide +kernel
theorem dX8_loseOvers_24 : decode cX8_loseOvers 24 = .ok (.invokestatic 92, 3) := by decide +kernel
theorem dX8_loseOvers_27 : decode cX8_loseOvers 27 = .ok (.invokevirtual 96, 3) := by decide +kernel
theorem dX8_loseOvers_30 : decode cX8_loseOvers 30 = .ok (.ireturn, 1) := by decide +kernel
set_option maxRecDepth 20000 in
theorem ggX8_carryOut_X2_refusal : GoodIn wsX8_carryOut wsX2_refusal := goodIn_ca (goodIn_r _ [10, 11, 12, 13, 14, 15, 16, 17, 18, 19, 9, 20, 21, 22, 23, 24, 25, 26, 27, 28, 29, 30, 31, 32, 33, 34, 35, 36, 37, 38, 39, 40, 41, 42, 43, 44, 45, 46, 47, 48, 49, 50, 51, 52, 53, 54, 55, 56, 57, 58, 59, 60, 61, 62, 63, 64, 65, 66, 67, 68, 69, 70, 71, 72, 73, 74, 75, 76, 77, 78, 79, 80, 81, 82, 83, 84, 85, 86, 87, 88, 89, 90, 326, 327, 328, 329, 330, 331, 332, 333, 334, 335, 336, 337, 338, 339, 340, 341, 342, 343, 344, 345, 346, 347, 348, 349, 350, 351, 352, 353, 354, 355, 356, 357, 358, 359, 360, 361, 362, 363] (by decide +kernel) (by decide +kernel)) (goodIn_sub (fun _ h => List.mem_cons_of_mem _ (List.mem_append_left _ (List.mem_append_right _ h))) (by decide +kernel))
set_option maxRecDepth 20000 in
theorem gX8_carryOut_X2_refusal : GoodIn wsX8_carryOut (wsV RX8 128 RX2 yX2_refusal wsX2_refusal) := goodIn_app (goodIn_of _ (by decide +kernel)) ggX8_carryOut_X2_refusal
set_option maxRecDepth 20000 in
theorem ggX8_carryOut_X1_hasRoom : GoodIn wsX8_carryOut wsX1_hasRoom := goodIn_r _ [95, 96, 97, 98, 99, 364, 365, 366, 367, 368, 369, 370, 371, 372] (by decide +kernel) (by decide +kernel)
set_option maxRecDepth 20000 in
theorem gX8_carryOut_X1_hasRoom : GoodIn wsX8_carryOut (wsV RX8 136 RX1 yX1_hasRoom wsX1_hasRoom) := goodIn_app (goodIn_of _ (by decide +kernel)) ggX8_carryOut_X1_hasRoom
set_option maxRecDepth 20000 in
theorem ggX8_carryOut_X1_add : GoodIn wsX8_carryOut wsX1_add := goodIn_r _ [103, 96, 97, 364, 365, 366, 367, 368, 369, 370, 371, 372] (by decide +kernel) (by decide +kernel)
set_option maxRecDepth 20000 in
theorem gX8_carryOut_X1_add : GoodIn wsX8_carryOut (wsV RX8 139 RX1 yX1_add wsX1_add) := goodIn_app (goodIn_of _ (by decide +kernel)) ggX8_carryOut_X1_add
set_option maxRecDepth 20000 in
theorem ggX8_carryOut_X1_endCommand : GoodIn wsX8_carryOut wsX1_endCommand := goodIn_ca (goodIn_r _ [107, 98, 99, 96, 108, 109, 27, 28, 29, 364, 365, 366, 367, 368, 369, 370, 371, 372] (by decide +kernel) (by decide +kernel)) (goodIn_sub (fun _ h => List.mem_cons_of_mem _ (List.mem_append_left _ (List.mem_append_right _ h))) (by decide +kernel))
set_option maxRecDepth 20000 in
theorem gX8_carryOut_X1_endCommand : GoodIn wsX8_carryOut (wsV RX8 143 RX1 yX1_endCommand wsX1_endCommand) := goodIn_app (goodIn_of _ (by decide +kernel)) ggX8_carryOut_X1_endCommand
set_option maxRecDepth 20000 in
theorem ggX8_carryOut_X2_perform : GoodIn wsX8_carryOut wsX2_perform := goodIn_ca (goodIn_ca (goodIn_r _ [113, 13, 14, 17, 18, 19, 9, 20, 21, 22, 23, 24, 25, 26, 27, 28, 29, 30, 31, 32, 33, 114, 115, 116, 37, 117, 39, 40, 43, 44, 45, 46, 47, 48, 49, 50, 51, 52, 53, 54, 55, 118, 119, 120, 121, 122, 123, 124, 125, 126, 127, 128, 129, 63, 130, 66, 68, 131, 132, 133, 134, 135, 136, 137, 138, 139, 140, 141, 142, 143, 144, 145, 146, 147, 148, 149, 150, 151, 152, 153, 154, 155, 156, 157, 158, 159, 74, 160, 161, 162, 163, 164, 165, 166, 167, 168, 169, 170, 171, 172, 173, 174, 175, 176, 177, 178, 179, 180, 181, 182, 183, 184, 185, 186, 187, 188, 189, 190, 191, 192, 193, 194, 195, 58, 196, 90, 197, 198, 199, 200, 201, 202, 203, 204, 205, 89, 206, 207, 208, 209, 210, 211, 212, 213, 214, 215, 216, 217, 218, 219, 220, 221, 222, 223, 224, 225, 226, 227, 228, 229, 230, 231, 232, 233, 234, 235, 236, 237, 238, 239, 240, 241, 242, 243, 244, 245, 246, 247, 248, 249, 250, 251, 252, 253, 254, 255, 256, 257, 258, 259, 84, 260, 261, 262, 263, 264, 265, 266, 267, 268, 269, 270, 271, 272, 273, 274, 275, 276, 79, 277, 278, 279, 280, 281, 75, 76, 77, 78, 282, 283, 284, 285, 286, 287, 288, 289, 290, 291, 292, 293, 294, 295, 296, 297, 298, 299, 12, 15, 300, 301, 302, 303, 304, 305, 306, 307, 308, 309, 310, 311, 312, 313, 314, 315, 332, 333, 334, 335, 336, 337, 338, 339, 340, 326, 327, 328, 329, 330, 331, 341, 342, 343, 344, 345, 346, 347, 348, 349, 350, 351, 352, 353, 354, 355, 356, 357, 358, 359, 360, 361, 362, 363] (by decide +kernel) (by decide +kernel)) (goodIn_sub (fun _ h => List.mem_cons_of_mem _ (List.mem_append_left _ (List.mem_append_right _ h))) (by decide +kernel))) (goodIn_sub (fun _ h => List.mem_cons_of_mem _ (List.mem_append_right _ h)) (by decide +kernel))
set_option maxRecDepth 20000 in
theorem gX8_carryOut_X2_perform : GoodIn wsX8_carryOut (wsV RX8 146 RX2 yX2_perform wsX2_perform) := goodIn_app (goodIn_of _ (by decide +kernel)) ggX8_carryOut_X2_perform
theorem dX8_carryOut_0 : decode cX8_carryOut 0 = .ok (.aload_n 0, 1) := by decide +kernel
theorem dX8_carryOut_1 : decode cX8_carryOut 1 = .ok (.getfield 10, 3) := by decide +kernel
theorem dX8_carryOut_4 : decode cX8_carryOut 4 = .ok (.aload_n 1, 1) := by decide +kernel
theorem dX8_carryOut_5 : decode cX8_carryOut 5 = .ok (.invokevirtual 128, 3) := by decide +kernel
theorem dX8_carryOut_8 : decode cX8_carryOut 8 = .ok (.istore_n 2, 1) := by decide +kernel
theorem dX8_carryOut_9 : decode cX8_carryOut 9 = .ok (.iload_n 2, 1) := by decide +kernel
theorem dX8_carryOut_10 : decode cX8_carryOut 10 = .ok (.ifCond .eq 18, 3) := by decide +kernel
theorem dX8_carryOut_13 : decode cX8_carryOut 13 = .ok (.aload_n 0, 1) := by decide +kernel
theorem dX8_carryOut_14 : decode cX8_carryOut 14 = .ok (.iload_n 2, 1) := by decide +kernel
theorem dX8_carryOut_15 : decode cX8_carryOut 15 = .ok (.putfield 53, 3) := by decide +kernel
theorem dX8_carryOut_18 : decode cX8_carryOut 18 = .ok (.new 131, 3) := by decide +kernel
theorem dX8_carryOut_21 : decode cX8_carryOut 21 = .ok (.dup, 1) := by decide +kernel
theorem dX8_carryOut_22 : decode cX8_carryOut 22 = .ok (.ldc 133, 2) := by decide +kernel
theorem dX8_carryOut_24 : decode cX8_carryOut 24 = .ok (.invokespecial 135, 3) := by decide +kernel
theorem dX8_carryOut_27 : decode cX8_carryOut 27 = .ok (.athrow, 1) := by decide +kernel
theorem dX8_carryOut_28 : decode cX8_carryOut 28 = .ok (.aload_n 0, 1) := by decide +kernel
theorem dX8_carryOut_29 : decode cX8_carryOut 29 = .ok (.getfield 22, 3) := by decide +kernel
theorem dX8_carryOut_32 : decode cX8_carryOut 32 = .ok (.iconst 1, 1) := by decide +kernel
theorem dX8_carryOut_33 : decode cX8_carryOut 33 = .ok (.invokevirtual 136, 3) := by decide +kernel
theorem dX8_carryOut_36 : decode cX8_carryOut 36 = .ok (.ifCond .ne 5, 3) := by decide +kernel
theorem dX8_carryOut_39 : decode cX8_carryOut 39 = .ok (.iconst 0, 1) := by decide +kernel
theorem dX8_carryOut_40 : decode cX8_carryOut 40 = .ok (.ireturn, 1) := by decide +kernel
theorem dX8_carryOut_41 : decode cX8_carryOut 41 = .ok (.aload_n 0, 1) := by decide +kernel
theorem dX8_carryOut_42 : decode cX8_carryOut 42 = .ok (.getfield 22, 3) := by decide +kernel
theorem dX8_carryOut_45 : decode cX8_carryOut 45 = .ok (.aload_n 1, 1) := by decide +kernel
theorem dX8_carryOut_46 : decode cX8_carryOut 46 = .ok (.invokevirtual 139, 3) := by decide +kernel
theorem dX8_carryOut_49 : decode cX8_carryOut 49 = .ok (.aload_n 0, 1) := by decide +kernel
theorem dX8_carryOut_50 : decode cX8_carryOut 50 = .ok (.getfield 22, 3) := by decide +kernel
theorem dX8_carryOut_53 : decode cX8_carryOut 53 = .ok (.invokevirtual 143, 3) := by decide +kernel
theorem dX8_carryOut_56 : decode cX8_carryOut 56 = .ok (.aload_n 0, 1) := by decide +kernel
theorem dX8_carryOut_57 : decode cX8_carryOut 57 = .ok (.getfield 10, 3) := by decide +kernel
theorem dX8_carryOut_60 : decode cX8_carryOut 60 = .ok (.aload_n 1, 1) := by decide +kernel
theorem dX8_carryOut_61 : decode cX8_carryOut 61 = .ok (.invokevirtual 146, 3) := by decide +kernel
theorem dX8_carryOut_64 : decode cX8_carryOut 64 = .ok (.ireturn, 1) := by decide +kernel
set_option maxRecDepth 20000 in
theorem ggX8_append_X8_isWithin : GoodIn wsX8_append wsX8_isWithin := goodIn_r _ [9] (by decide +kernel) (by decide +kernel)
set_option maxRecDepth 20000 in
theorem gX8_append_X8_isWithin : GoodIn wsX8_append (va_wsS RX8 56 yX8_isWithin wsX8_isWithin) := goodIn_app (goodIn_of _ (by decide +kernel)) ggX8_append_X8_isWithin
set_option maxRecDepth 20000 in
theorem ggX8_append_X7_isFull : GoodIn wsX8_append wsX7_isFull := goodIn_r _ [14, 15, 16, 31, 32, 33, 34, 35] (by decide +kernel) (by decide +kernel)
set_option maxRecDepth 20000 in
theorem gX8_append_X7_isFull : GoodIn wsX8_append (wsV RX8 151 RX7 yX7_isFull wsX7_isFull) := goodIn_app (goodIn_of _ (by decide +kernel)) ggX8_append_X7_isFull
set_option maxRecDepth 20000 in
theorem ggX8_append_X7_put : GoodIn wsX8_append wsX7_put := goodIn_ca (goodIn_r _ [20, 15, 16, 31, 32, 33, 34, 35] (by decide +kernel) (by decide +kernel)) (goodIn_sub (fun _ h => List.mem_cons_of_mem _ (List.mem_append_right _ h)) (by decide +kernel))
set_option maxRecDepth 20000 in
theorem gX8_append_X7_put : GoodIn wsX8_append (wsV RX8 160 RX7 yX7_put wsX7_put) := goodIn_app (goodIn_of _ (by decide +kernel)) ggX8_append_X7_put
theorem dX8_append_0 : decode cX8_append 0 = .ok (.iload_n 1, 1) := by decide +kernel
theorem dX8_append_1 : decode cX8_append 1 = .ok (.bipush 32, 2) := by decide +kernel
theorem dX8_append_3 : decode cX8_append 3 = .ok (.bipush 126, 2) := by decide +kernel
theorem dX8_append_5 : decode cX8_append 5 = .ok (.invokestatic 56, 3) := by decide +kernel
theorem dX8_append_8 : decode cX8_append 8 = .ok (.ifCond .ne 13, 3) := by decide +kernel
theorem dX8_append_11 : decode cX8_append 11 = .ok (.new 60, 3) := by decide +kernel
theorem dX8_append_14 : decode cX8_append 14 = .ok (.dup, 1) := by decide +kernel
theorem dX8_append_15 : decode cX8_append 15 = .ok (.ldc 149, 2) := by decide +kernel
theorem dX8_append_17 : decode cX8_append 17 = .ok (.invokespecial 64, 3) := by decide +kernel
theorem dX8_append_20 : decode cX8_append 20 = .ok (.athrow, 1) := by decide +kernel
theorem dX8_append_21 : decode cX8_append 21 = .ok (.aload_n 0, 1) := by decide +kernel
theorem dX8_append_22 : decode cX8_append 22 = .ok (.getfield 32, 3) := by decide +kernel
theorem dX8_append_25 : decode cX8_append 25 = .ok (.invokevirtual 151, 3) := by decide +kernel
theorem dX8_append_28 : decode cX8_append 28 = .ok (.ifCond .eq 13, 3) := by decide +kernel
theorem dX8_append_31 : decode cX8_append 31 = .ok (.new 155, 3) := by decide +kernel
theorem dX8_append_34 : decode cX8_append 34 = .ok (.dup, 1) := by decide +kernel
theorem dX8_append_35 : decode cX8_append 35 = .ok (.ldc 157, 2) := by decide +kernel
theorem dX8_append_37 : decode cX8_append 37 = .ok (.invokespecial 159, 3) := by decide +kernel
theorem dX8_append_40 : decode cX8_append 40 = .ok (.athrow, 1) := by decide +kernel
theorem dX8_append_41 : decode cX8_append 41 = .ok (.aload_n 0, 1) := by decide +kernel
theorem dX8_append_42 : decode cX8_append 42 = .ok (.getfield 32, 3) := by decide +kernel
theorem dX8_append_45 : decode cX8_append 45 = .ok (.iload_n 1, 1) := by decide +kernel
theorem dX8_append_46 : decode cX8_append 46 = .ok (.invokevirtual 160, 3) := by decide +kernel
theorem dX8_append_49 : decode cX8_append 49 = .ok (.ireturn, 1) := by decide +kernel
set_option maxRecDepth 20000 in
theorem ggX8_play_X7_parse : GoodIn wsX8_play wsX7_parse := goodIn_ca (goodIn_r _ [14, 15, 16, 17, 18, 19, 13, 20, 21, 22, 23, 24, 25, 26, 27, 28, 29, 30, 31, 32, 33, 34, 35, 36, 37, 38, 39, 40, 41, 42, 43, 44, 45, 46, 47, 48, 49, 50, 51, 52, 53, 54, 55, 56, 57, 58, 59, 60, 61, 62, 63, 64, 65, 66, 67, 68, 69, 70, 71, 72, 73, 74, 75, 427, 428, 429, 430, 431, 432, 433, 434, 435, 436, 437, 438, 439, 440] (by decide +kernel) (by decide +kernel)) (goodIn_sub (fun _ h => List.mem_cons_of_mem _ (List.mem_append_left _ (List.mem_append_right _ h))) (by decide +kernel))
set_option maxRecDepth 20000 in
theorem gX8_play_X7_parse : GoodIn wsX8_play (wsV RX8 164 RX7 yX7_parse wsX7_parse) := goodIn_app (goodIn_of _ (by decide +kernel)) ggX8_play_X7_parse
set_option maxRecDepth 20000 in
theorem ggX8_play_X7_clear : GoodIn wsX8_play wsX7_clear := goodIn_r _ [79, 16, 427, 428, 429, 430, 431] (by decide +kernel) (by decide +kernel)
set_option maxRecDepth 20000 in
theorem gX8_play_X7_clear : GoodIn wsX8_play (wsV RX8 168 RX7 yX7_clear wsX7_clear) := goodIn_app (goodIn_of _ (by decide +kernel)) ggX8_play_X7_clear
set_option maxRecDepth 20000 in
theorem ggX8_play_X7_elements : GoodIn wsX8_play wsX7_elements := goodIn_r _ [83, 15, 427, 428, 429, 430, 431] (by decide +kernel) (by decide +kernel)
set_option maxRecDepth 20000 in
theorem gX8_play_X7_elements : GoodIn wsX8_play (wsV RX8 173 RX7 yX7_elements wsX7_elements) := goodIn_app (goodIn_of _ (by decide +kernel)) ggX8_play_X7_elements
set_option maxRecDepth 20000 in
theorem ggX8_play_X1_hasRoom : GoodIn wsX8_play wsX1_hasRoom := goodIn_r _ [88, 89, 90, 91, 92, 441, 442, 443, 444, 445, 446, 447, 448, 449] (by decide +kernel) (by decide +kernel)
set_option maxRecDepth 20000 in
theorem gX8_play_X1_hasRoom : GoodIn wsX8_play (wsV RX8 136 RX1 yX1_hasRoom wsX1_hasRoom) := goodIn_app (goodIn_of _ (by decide +kernel)) ggX8_play_X1_hasRoom
set_option maxRecDepth 20000 in
theorem ggX8_play_X8_carryOutElements : GoodIn wsX8_play wsX8_carryOutElements := goodIn_ca (goodIn_ca (goodIn_r _ [96, 5, 8, 97, 7, 80, 81, 82, 13, 83, 15, 98, 99, 100, 101, 75, 102, 103, 104, 105, 106, 107, 108, 109, 110, 111, 112, 113, 114, 115, 116, 117, 118, 119, 120, 121, 122, 123, 124, 125, 126, 127, 128, 129, 130, 131, 132, 133, 134, 135, 136, 137, 138, 139, 140, 141, 142, 143, 144, 145, 146, 147, 148, 149, 150, 151, 152, 153, 154, 155, 156, 157, 158, 159, 42, 160, 68, 57, 69, 58, 70, 161, 162, 163, 164, 165, 166, 167, 168, 169, 170, 171, 172, 173, 174, 175, 176, 177, 178, 179, 180, 181, 182, 183, 184, 185, 186, 187, 188, 189, 190, 191, 192, 193, 194, 195, 196, 197, 198, 199, 200, 201, 202, 203, 204, 205, 206, 207, 208, 209, 210, 211, 212, 213, 214, 215, 216, 217, 218, 219, 220, 221, 222, 223, 224, 225, 226, 227, 228, 229, 230, 231, 232, 233, 234, 235, 236, 237, 238, 239, 240, 241, 242, 243, 244, 245, 246, 247, 248, 249, 250, 251, 59, 252, 253, 254, 255, 256, 257, 258, 259, 260, 261, 262, 263, 264, 265, 266, 267, 268, 269, 270, 271, 272, 273, 274, 275, 276, 277, 278, 279, 280, 281, 282, 283, 284, 285, 286, 287, 288, 289, 290, 291, 292, 293, 294, 295, 296, 297, 298, 299, 300, 301, 302, 303, 304, 305, 306, 307, 308, 309, 310, 311, 312, 313, 314, 315, 316, 317, 318, 319, 320, 321, 322, 323, 324, 325, 326, 327, 328, 329, 330, 331, 332, 333, 334, 335, 336, 337, 338, 339, 340, 341, 342, 343, 344, 345, 346, 347, 348, 349, 350, 351, 352, 353, 354, 355, 356, 357, 358, 359, 360, 361, 362, 363, 364, 365, 366, 367, 368, 369, 370, 371, 372, 373, 374, 375, 376, 377, 378, 379, 380, 381, 382, 383, 384, 385, 386, 387, 388, 389, 87, 390, 89, 90, 391, 392, 393, 394, 91, 92, 395, 396, 417, 418, 419, 420, 421, 422, 423, 424, 425, 426, 427, 428, 429, 430, 431, 450, 451, 452, 453, 454, 455, 432, 433, 434, 435, 436, 437, 438, 439, 440, 456, 457, 458, 459, 460, 461, 462, 463, 464, 465, 466, 467, 468, 469, 470, 471, 472, 473, 474, 475, 476, 477, 478, 441, 442, 443, 444, 445, 446, 447, 448, 449] (by decide +kernel) (by decide +kernel)) (goodIn_sub (fun _ h => List.mem_cons_of_mem _ (List.mem_append_left _ (List.mem_append_right _ h))) (by decide +kernel))) (goodIn_sub (fun _ h => List.mem_cons_of_mem _ (List.mem_append_right _ h)) (by decide +kernel))
set_option maxRecDepth 20000 in
theorem gX8_play_X8_carryOutElements : GoodIn wsX8_play (wsV RX8 176 RX8 yX8_carryOutElements wsX8_carryOutElements) := goodIn_app (goodIn_of _ (by decide +kernel)) ggX8_play_X8_carryOutElements
set_option maxRecDepth 20000 in
theorem ggX8_play_X2_follow : GoodIn wsX8_play wsX2_follow := goodIn_ca (goodIn_ca (goodIn_r _ [400, 108, 109, 401, 170, 402, 403, 118, 404, 405, 406, 407, 408, 87, 409, 410, 114, 115, 116, 106, 117, 119, 120, 121, 122, 123, 124, 125, 126, 127, 128, 129, 130, 166, 167, 168, 169, 372, 373, 374, 134, 375, 198, 165, 144, 242, 297, 136, 331, 232, 243, 288, 310, 376, 377, 378, 148, 379, 151, 380, 299, 300, 301, 150, 152, 381, 382, 383, 155, 384, 385, 386, 181, 270, 271, 272, 273, 274, 269, 275, 276, 180, 302, 303, 304, 305, 332, 333, 334, 335, 175, 145, 146, 147, 149, 311, 312, 313, 314, 315, 316, 298, 244, 245, 246, 247, 411, 412, 413, 414, 89, 90, 415, 416, 183, 184, 185, 110, 111, 186, 187, 188, 189, 137, 140, 141, 142, 143, 190, 191, 192, 193, 194, 195, 196, 197, 199, 200, 201, 42, 202, 57, 58, 203, 204, 205, 206, 207, 208, 209, 210, 211, 212, 213, 214, 215, 216, 217, 218, 219, 220, 221, 222, 223, 224, 225, 226, 227, 228, 229, 230, 231, 233, 234, 235, 236, 237, 238, 239, 240, 241, 248, 249, 250, 251, 59, 252, 253, 254, 255, 256, 257, 258, 259, 260, 261, 262, 263, 264, 265, 266, 267, 268, 277, 278, 279, 280, 281, 282, 283, 284, 285, 286, 287, 289, 290, 291, 292, 293, 294, 295, 296, 306, 307, 308, 309, 317, 318, 319, 320, 321, 322, 323, 324, 325, 326, 327, 328, 329, 330, 336, 337, 338, 339, 340, 341, 342, 343, 344, 345, 346, 347, 348, 349, 350, 351, 352, 353, 354, 355, 356, 357, 358, 359, 360, 361, 362, 363, 364, 365, 366, 367, 368, 369, 370, 112, 371, 450, 451, 452, 453, 454, 455, 441, 442, 443, 444, 445, 446, 447, 448, 449, 456, 457, 458, 459, 460, 461, 462, 463, 464, 465, 466, 476, 477, 478, 467, 468, 469, 470, 471, 472, 473, 474, 475, 432, 433, 434, 435, 436, 437, 438, 439, 440] (by decide +kernel) (by decide +kernel)) (goodIn_sub (fun _ h => List.mem_cons_of_mem _ (List.mem_append_left _ (List.mem_append_right _ h))) (by decide +kernel))) (goodIn_sub (fun _ h => List.mem_cons_of_mem _ (List.mem_append_right _ h)) (by decide +kernel))
set_option maxRecDepth 20000 in
theorem gX8_play_X2_follow : GoodIn wsX8_play (wsV RX8 71 RX2 yX2_follow wsX2_follow) := goodIn_app (goodIn_of _ (by decide +kernel)) ggX8_play_X2_follow
theorem dX8_play_0 : decode cX8_play 0 = .ok (.aload_n 0, 1) := by decide +kernel
theorem dX8_play_1 : decode cX8_play 1 = .ok (.getfield 32, 3) := by decide +kernel
theorem dX8_play_4 : decode cX8_play 4 = .ok (.invokevirtual 164, 3) := by decide +kernel
theorem dX8_play_7 : decode cX8_play 7 = .ok (.istore_n 1, 1) := by decide +kernel
theorem dX8_play_8 : decode cX8_play 8 = .ok (.aload_n 0, 1) := by decide +kernel
theorem dX8_play_9 : decode cX8_play 9 = .ok (.getfield 32, 3) := by decide +kernel
theorem dX8_play_12 : decode cX8_play 12 = .ok (.invokevirtual 168, 3) := by decide +kernel
theorem dX8_play_15 : decode cX8_play 15 = .ok (.iload_n 1, 1) := by decide +kernel
theorem dX8_play_16 : decode cX8_play 16 = .ok (.ifCond .lt 18, 3) := by decide +kernel
theorem dX8_play_19 : decode cX8_play 19 = .ok (.aload_n 0, 1) := by decide +kernel
theorem dX8_play_20 : decode cX8_play 20 = .ok (.iload_n 1, 1) := by decide +kernel
theorem dX8_play_21 : decode cX8_play 21 = .ok (.putfield 46, 3) := by decide +kernel
theorem dX8_play_24 : decode cX8_play 24 = .ok (.new 60, 3) := by decide +kernel
theorem dX8_play_27 : decode cX8_play 27 = .ok (.dup, 1) := by decide +kernel
theorem dX8_play_28 : decode cX8_play 28 = .ok (.ldc 171, 2) := by decide +kernel
theorem dX8_play_30 : decode cX8_play 30 = .ok (.invokespecial 64, 3) := by decide +kernel
theorem dX8_play_33 : decode cX8_play 33 = .ok (.athrow, 1) := by decide +kernel
theorem dX8_play_34 : decode cX8_play 34 = .ok (.aload_n 0, 1) := by decide +kernel
theorem dX8_play_35 : decode cX8_play 35 = .ok (.getfield 22, 3) := by decide +kernel
theorem dX8_play_38 : decode cX8_play 38 = .ok (.aload_n 0, 1) := by decide +kernel
theorem dX8_play_39 : decode cX8_play 39 = .ok (.getfield 32, 3) := by decide +kernel
theorem dX8_play_42 : decode cX8_play 42 = .ok (.invokevirtual 173, 3) := by decide +kernel
theorem dX8_play_45 : decode cX8_play 45 = .ok (.invokevirtual 136, 3) := by decide +kernel
theorem dX8_play_48 : decode cX8_play 48 = .ok (.ifCond .ne 5, 3) := by decide +kernel
theorem dX8_play_51 : decode cX8_play 51 = .ok (.iconst 0, 1) := by decide +kernel
theorem dX8_play_52 : decode cX8_play 52 = .ok (.ireturn, 1) := by decide +kernel
theorem dX8_play_53 : decode cX8_play 53 = .ok (.aload_n 0, 1) := by decide +kernel
theorem dX8_play_54 : decode cX8_play 54 = .ok (.invokevirtual 176, 3) := by decide +kernel
theorem dX8_play_57 : decode cX8_play 57 = .ok (.istore_n 2, 1) := by decide +kernel
theorem dX8_play_58 : decode cX8_play 58 = .ok (.iload_n 2, 1) := by decide +kernel
theorem dX8_play_59 : decode cX8_play 59 = .ok (.ifCond .lt 29, 3) := by decide +kernel
theorem dX8_play_62 : decode cX8_play 62 = .ok (.aload_n 0, 1) := by decide +kernel
theorem dX8_play_63 : decode cX8_play 63 = .ok (.getfield 10, 3) := by decide +kernel
theorem dX8_play_66 : decode cX8_play 66 = .ok (.aload_n 0, 1) := by decide +kernel
theorem dX8_play_67 : decode cX8_play 67 = .ok (.getfield 22, 3) := by decide +kernel
theorem dX8_play_70 : decode cX8_play 70 = .ok (.invokevirtual 71, 3) := by decide +kernel
theorem dX8_play_73 : decode cX8_play 73 = .ok (.aload_n 0, 1) := by decide +kernel
theorem dX8_play_74 : decode cX8_play 74 = .ok (.iload_n 2, 1) := by decide +kernel
theorem dX8_play_75 : decode cX8_play 75 = .ok (.putfield 50, 3) := by decide +kernel
theorem dX8_play_78 : decode cX8_play 78 = .ok (.new 155, 3) := by decide +kernel
theorem dX8_play_81 : decode cX8_play 81 = .ok (.dup, 1) := by decide +kernel
theorem dX8_play_82 : decode cX8_play 82 = .ok (.ldc 179, 2) := by decide +kernel
theorem dX8_play_84 : decode cX8_play 84 = .ok (.invokespecial 159, 3) := by decide +kernel
theorem dX8_play_87 : decode cX8_play 87 = .ok (.athrow, 1) := by decide +kernel
theorem dX8_play_88 : decode cX8_play 88 = .ok (.aload_n 0, 1) := by decide +kernel
theorem dX8_play_89 : decode cX8_play 89 = .ok (.getfield 32, 3) := by decide +kernel
theorem dX8_play_92 : decode cX8_play 92 = .ok (.invokevirtual 173, 3) := by decide +kernel
theorem dX8_play_95 : decode cX8_play 95 = .ok (.ireturn, 1) := by decide +kernel
set_option maxRecDepth 20000 in
theorem ggX8_carryOutElements_X7_elements : GoodIn wsX8_carryOutElements wsX7_elements := goodIn_r _ [9, 10, 333, 334, 335, 336, 337] (by decide +kernel) (by decide +kernel)
set_option maxRecDepth 20000 in
theorem gX8_carryOutElements_X7_elements : GoodIn wsX8_carryOutElements (wsV RX8 173 RX7 yX7_elements wsX7_elements) := goodIn_app (goodIn_of _ (by decide +kernel)) ggX8_carryOutElements_X7_elements
set_option maxRecDepth 20000 in
theorem ggX8_carryOutElements_X7_element : GoodIn wsX8_carryOutElements wsX7_element := goodIn_r _ [14, 15, 16, 333, 334, 335, 336, 337] (by decide +kernel) (by decide +kernel)
set_option maxRecDepth 20000 in
theorem gX8_carryOutElements_X7_element : GoodIn wsX8_carryOutElements (wsV RX8 181 RX7 yX7_element wsX7_element) := goodIn_app (goodIn_of _ (by decide +kernel)) ggX8_carryOutElements_X7_element
set_option maxRecDepth 20000 in
theorem ggX8_carryOutElements_X2_refusal : GoodIn wsX8_carryOutElements wsX2_refusal := goodIn_ca (goodIn_r _ [21, 22, 23, 24, 25, 26, 27, 28, 29, 30, 20, 31, 32, 33, 34, 35, 36, 37, 38, 39, 40, 41, 42, 43, 44, 45, 46, 47, 48, 49, 50, 51, 52, 53, 54, 55, 56, 57, 58, 59, 60, 61, 62, 63, 64, 65, 66, 67, 68, 69, 70, 71, 72, 73, 74, 75, 76, 77, 78, 79, 80, 81, 82, 83, 84, 85, 86, 87, 88, 89, 90, 91, 92, 93, 94, 95, 96, 97, 98, 99, 100, 101, 338, 339, 340, 341, 342, 343, 344, 345, 346, 347, 348, 349, 350, 351, 352, 353, 354, 355, 356, 357, 358, 359, 360, 361, 362, 363, 364, 365, 366, 367, 368, 369, 370, 371, 372, 373, 374, 375] (by decide +kernel) (by decide +kernel)) (goodIn_sub (fun _ h => List.mem_cons_of_mem _ (List.mem_append_left _ (List.mem_append_right _ h))) (by decide +kernel))
set_option maxRecDepth 20000 in
theorem gX8_carryOutElements_X2_refusal : GoodIn wsX8_carryOutElements (wsV RX8 128 RX2 yX2_refusal wsX2_refusal) := goodIn_app (goodIn_of _ (by decide +kernel)) ggX8_carryOutElements_X2_refusal
set_option maxRecDepth 20000 in
theorem ggX8_carryOutElements_X2_perform : GoodIn wsX8_carryOutElements wsX2_perform := goodIn_ca (goodIn_ca (goodIn_r _ [105, 24, 25, 28, 29, 30, 20, 31, 32, 33, 34, 35, 36, 37, 38, 39, 40, 41, 42, 43, 44, 106, 107, 108, 48, 109, 50, 51, 54, 55, 56, 57, 58, 59, 60, 61, 62, 63, 64, 65, 66, 110, 111, 112, 113, 114, 115, 116, 117, 118, 119, 120, 121, 74, 122, 77, 79, 123, 124, 125, 126, 127, 128, 129, 130, 131, 132, 133, 134, 135, 136, 137, 138, 139, 140, 141, 142, 143, 144, 145, 146, 147, 148, 149, 150, 151, 85, 152, 153, 154, 155, 156, 157, 158, 159, 160, 161, 162, 163, 164, 165, 166, 167, 168, 169, 170, 171, 172, 173, 174, 175, 176, 177, 178, 179, 180, 181, 182, 183, 184, 185, 186, 187, 69, 188, 101, 189, 190, 191, 192, 193, 194, 195, 196, 197, 100, 198, 199, 200, 201, 202, 203, 204, 205, 206, 207, 208, 209, 210, 211, 212, 213, 214, 215, 216, 217, 218, 219, 220, 221, 222, 223, 224, 225, 226, 227, 228, 229, 230, 231, 232, 233, 234, 235, 236, 237, 238, 239, 240, 241, 242, 243, 244, 245, 246, 247, 248, 249, 250, 251, 95, 252, 253, 254, 255, 256, 257, 258, 259, 260, 261, 262, 263, 264, 265, 266, 267, 268, 90, 269, 270, 271, 272, 273, 86, 87, 88, 89, 274, 275, 276, 277, 278, 279, 280, 281, 282, 283, 284, 285, 286, 287, 288, 289, 290, 291, 23, 26, 292, 293, 294, 295, 296, 297, 298, 299, 300, 301, 302, 303, 304, 305, 306, 307, 344, 345, 346, 347, 348, 349, 350, 351, 352, 338, 339, 340, 341, 342, 343, 353, 354, 355, 356, 357, 358, 359, 360, 361, 362, 363, 364, 365, 366, 367, 368, 369, 370, 371, 372, 373, 374, 375] (by decide +kernel) (by decide +kernel)) (goodIn_sub (fun _ h => List.mem_cons_of_mem _ (List.mem_append_left _ (List.mem_append_right _ h))) (by decide +kernel))) (goodIn_sub (fun _ h => List.mem_cons_of_mem _ (List.mem_append_right _ h)) (by decide +kernel))
set_option maxRecDepth 20000 in
theorem gX8_carryOutElements_X2_perform : GoodIn wsX8_carryOutElements (wsV RX8 146 RX2 yX2_perform wsX2_perform) := goodIn_app (goodIn_of _ (by decide +kernel)) ggX8_carryOutElements_X2_perform
set_option maxRecDepth 20000 in
theorem ggX8_carryOutElements_X1_add : GoodIn wsX8_carryOutElements wsX1_add := goodIn_r _ [312, 313, 314, 376, 377, 378, 379, 380, 381, 382, 383, 384] (by decide +kernel) (by decide +kernel)
set_option maxRecDepth 20000 in
theorem gX8_carryOutElements_X1_add : GoodIn wsX8_carryOutElements (wsV RX8 139 RX1 yX1_add wsX1_add) := goodIn_app (goodIn_of _ (by decide +kernel)) ggX8_carryOutElements_X1_add
set_option maxRecDepth 20000 in
theorem ggX8_carryOutElements_X1_endCommand : GoodIn wsX8_carryOutElements wsX1_endCommand := goodIn_ca (goodIn_r _ [318, 319, 320, 313, 321, 322, 38, 39, 40, 376, 377, 378, 379, 380, 381, 382, 383, 384] (by decide +kernel) (by decide +kernel)) (goodIn_sub (fun _ h => List.mem_cons_of_mem _ (List.mem_append_left _ (List.mem_append_right _ h))) (by decide +kernel))
set_option maxRecDepth 20000 in
theorem gX8_carryOutElements_X1_endCommand : GoodIn wsX8_carryOutElements (wsV RX8 143 RX1 yX1_endCommand wsX1_endCommand) := goodIn_app (goodIn_of _ (by decide +kernel)) ggX8_carryOutElements_X1_endCommand
theorem dX8_carryOutElements_0 : decode cX8_carryOutElements 0 = .ok (.aload_n 0, 1) := by decide +kernel
theorem dX8_carryOutElements_1 : decode cX8_carryOutElements 1 = .ok (.getfield 32, 3) := by decide +kernel
theorem dX8_carryOutElements_4 : decode cX8_carryOutElements 4 = .ok (.invokevirtual 173, 3) := by decide +kernel
theorem dX8_carryOutElements_7 : decode cX8_carryOutElements 7 = .ok (.istore_n 1, 1) := by decide +kernel
theorem dX8_carryOutElements_8 : decode cX8_carryOutElements 8 = .ok (.iconst 0, 1) := by decide +kernel
theorem dX8_carryOutElements_9 : decode cX8_carryOutElements 9 = .ok (.istore_n 2, 1) := by decide +kernel
theorem dX8_carryOutElements_10 : decode cX8_carryOutElements 10 = .ok (.iload_n 2, 1) := by decide +kernel
theorem dX8_carryOutElements_11 : decode cX8_carryOutElements 11 = .ok (.iload_n 1, 1) := by decide +kernel
theorem dX8_carryOutElements_12 : decode cX8_carryOutElements 12 = .ok (.if_icmp .ge 52, 3) := by decide +kernel
theorem dX8_carryOutElements_15 : decode cX8_carryOutElements 15 = .ok (.aload_n 0, 1) := by decide +kernel
theorem dX8_carryOutElements_16 : decode cX8_carryOutElements 16 = .ok (.getfield 10, 3) := by decide +kernel
theorem dX8_carryOutElements_19 : decode cX8_carryOutElements 19 = .ok (.aload_n 0, 1) := by decide +kernel
theorem dX8_carryOutElements_20 : decode cX8_carryOutElements 20 = .ok (.getfield 32, 3) := by decide +kernel
theorem dX8_carryOutElements_23 : decode cX8_carryOutElements 23 = .ok (.iload_n 2, 1) := by decide +kernel
theorem dX8_carryOutElements_24 : decode cX8_carryOutElements 24 = .ok (.invokevirtual 181, 3) := by decide +kernel
theorem dX8_carryOutElements_27 : decode cX8_carryOutElements 27 = .ok (.invokevirtual 128, 3) := by decide +kernel
theorem dX8_carryOutElements_30 : decode cX8_carryOutElements 30 = .ok (.istore_n 3, 1) := by decide +kernel
theorem dX8_carryOutElements_31 : decode cX8_carryOutElements 31 = .ok (.iload_n 3, 1) := by decide +kernel
theorem dX8_carryOutElements_32 : decode cX8_carryOutElements 32 = .ok (.ifCond .eq 10, 3) := by decide +kernel
theorem dX8_carryOutElements_35 : decode cX8_carryOutElements 35 = .ok (.aload_n 0, 1) := by decide +kernel
theorem dX8_carryOutElements_36 : decode cX8_carryOutElements 36 = .ok (.iload_n 3, 1) := by decide +kernel
theorem dX8_carryOutElements_37 : decode cX8_carryOutElements 37 = .ok (.putfield 53, 3) := by decide +kernel
theorem dX8_carryOutElements_40 : decode cX8_carryOutElements 40 = .ok (.iload_n 2, 1) := by decide +kernel
theorem dX8_carryOutElements_41 : decode cX8_carryOutElements 41 = .ok (.ireturn, 1) := by decide +kernel
theorem dX8_carryOutElements_42 : decode cX8_carryOutElements 42 = .ok (.aload_n 0, 1) := by decide +kernel
theorem dX8_carryOutElements_43 : decode cX8_carryOutElements 43 = .ok (.getfield 10, 3) := by decide +kernel
theorem dX8_carryOutElements_46 : decode cX8_carryOutElements 46 = .ok (.aload_n 0, 1) := by decide +kernel
theorem dX8_carryOutElements_47 : decode cX8_carryOutElements 47 = .ok (.getfield 32, 3) := by decide +kernel
theorem dX8_carryOutElements_50 : decode cX8_carryOutElements 50 = .ok (.iload_n 2, 1) := by decide +kernel
theorem dX8_carryOutElements_51 : decode cX8_carryOutElements 51 = .ok (.invokevirtual 181, 3) := by decide +kernel
theorem dX8_carryOutElements_54 : decode cX8_carryOutElements 54 = .ok (.invokevirtual 146, 3) := by decide +kernel
theorem dX8_carryOutElements_57 : decode cX8_carryOutElements 57 = .ok (.pop, 1) := by decide +kernel
theorem dX8_carryOutElements_58 : decode cX8_carryOutElements 58 = .ok (.iinc 2 1, 3) := by decide +kernel
theorem dX8_carryOutElements_61 : decode cX8_carryOutElements 61 = .ok (.goto (-51), 3) := by decide +kernel
theorem dX8_carryOutElements_64 : decode cX8_carryOutElements 64 = .ok (.iconst 0, 1) := by decide +kernel
theorem dX8_carryOutElements_65 : decode cX8_carryOutElements 65 = .ok (.istore_n 2, 1) := by decide +kernel
theorem dX8_carryOutElements_66 : decode cX8_carryOutElements 66 = .ok (.iload_n 2, 1) := by decide +kernel
theorem dX8_carryOutElements_67 : decode cX8_carryOutElements 67 = .ok (.iload_n 1, 1) := by decide +kernel
theorem dX8_carryOutElements_68 : decode cX8_carryOutElements 68 = .ok (.if_icmp .ge 24, 3) := by decide +kernel
theorem dX8_carryOutElements_71 : decode cX8_carryOutElements 71 = .ok (.aload_n 0, 1) := by decide +kernel
theorem dX8_carryOutElements_72 : decode cX8_carryOutElements 72 = .ok (.getfield 22, 3) := by decide +kernel
theorem dX8_carryOutElements_75 : decode cX8_carryOutElements 75 = .ok (.aload_n 0, 1) := by decide +kernel
theorem dX8_carryOutElements_76 : decode cX8_carryOutElements 76 = .ok (.getfield 32, 3) := by decide +kernel
theorem dX8_carryOutElements_79 : decode cX8_carryOutElements 79 = .ok (.iload_n 2, 1) := by decide +kernel
theorem dX8_carryOutElements_80 : decode cX8_carryOutElements 80 = .ok (.invokevirtual 181, 3) := by decide +kernel
theorem dX8_carryOutElements_83 : decode cX8_carryOutElements 83 = .ok (.invokevirtual 139, 3) := by decide +kernel
theorem dX8_carryOutElements_86 : decode cX8_carryOutElements 86 = .ok (.iinc 2 1, 3) := by decide +kernel
theorem dX8_carryOutElements_89 : decode cX8_carryOutElements 89 = .ok (.goto (-23), 3) := by decide +kernel
theorem dX8_carryOutElements_92 : decode cX8_carryOutElements 92 = .ok (.aload_n 0, 1) := by decide +kernel
theorem dX8_carryOutElements_93 : decode cX8_carryOutElements 93 = .ok (.getfield 22, 3) := by decide +kernel
theorem dX8_carryOutElements_96 : decode cX8_carryOutElements 96 = .ok (.invokevirtual 143, 3) := by decide +kernel
theorem dX8_carryOutElements_99 : decode cX8_carryOutElements 99 = .ok (.iconst (-1), 1) := by decide +kernel
theorem dX8_carryOutElements_100 : decode cX8_carryOutElements 100 = .ok (.ireturn, 1) := by decide +kernel
theorem dX8_errorPosition_0 : decode cX8_errorPosition 0 = .ok (.aload_n 0, 1) := by decide +kernel
theorem dX8_errorPosition_1 : decode cX8_errorPosition 1 = .ok (.getfield 46, 3) := by decide +kernel
theorem dX8_errorPosition_4 : decode cX8_errorPosition 4 = .ok (.ifCond .ge 13, 3) := by decide +kernel
theorem dX8_errorPosition_7 : decode cX8_errorPosition 7 = .ok (.new 185, 3) := by decide +kernel
theorem dX8_errorPosition_10 : decode cX8_errorPosition 10 = .ok (.dup, 1) := by decide +kernel
theorem dX8_errorPosition_11 : decode cX8_errorPosition 11 = .ok (.ldc 187, 2) := by decide +kernel
theorem dX8_errorPosition_13 : decode cX8_errorPosition 13 = .ok (.invokespecial 189, 3) := by decide +kernel
theorem dX8_errorPosition_16 : decode cX8_errorPosition 16 = .ok (.athrow, 1) := by decide +kernel
theorem dX8_errorPosition_17 : decode cX8_errorPosition 17 = .ok (.aload_n 0, 1) := by decide +kernel
theorem dX8_errorPosition_18 : decode cX8_errorPosition 18 = .ok (.getfield 46, 3) := by decide +kernel
theorem dX8_errorPosition_21 : decode cX8_errorPosition 21 = .ok (.ireturn, 1) := by decide +kernel
theorem dX8_refused_0 : decode cX8_refused 0 = .ok (.aload_n 0, 1) := by decide +kernel
theorem dX8_refused_1 : decode cX8_refused 1 = .ok (.getfield 50, 3) := by decide +kernel
theorem dX8_refused_4 : decode cX8_refused 4 = .ok (.ifCond .ge 13, 3) := by decide +kernel
theorem dX8_refused_7 : decode cX8_refused 7 = .ok (.new 185, 3) := by decide +kernel
theorem dX8_refused_10 : decode cX8_refused 10 = .ok (.dup, 1) := by decide +kernel
theorem dX8_refused_11 : decode cX8_refused 11 = .ok (.ldc 190, 2) := by decide +kernel
theorem dX8_refused_13 : decode cX8_refused 13 = .ok (.invokespecial 189, 3) := by decide +kernel
theorem dX8_refused_16 : decode cX8_refused 16 = .ok (.athrow, 1) := by decide +kernel
theorem dX8_refused_17 : decode cX8_refused 17 = .ok (.aload_n 0, 1) := by decide +kernel
theorem dX8_refused_18 : decode cX8_refused 18 = .ok (.getfield 50, 3) := by decide +kernel
theorem dX8_refused_21 : decode cX8_refused 21 = .ok (.ireturn, 1) := by decide +kernel
set_option maxRecDepth 20000 in
theorem ggX8_now_X8_isWithin : GoodIn wsX8_now wsX8_isWithin := goodIn_r _ [7] (by decide +kernel) (by decide +kernel)
set_option maxRecDepth 20000 in
theorem gX8_now_X8_isWithin : GoodIn wsX8_now (va_wsS RX8 56 yX8_isWithin wsX8_isWithin) := goodIn_app (goodIn_of _ (by decide +kernel)) ggX8_now_X8_isWithin
set_option maxRecDepth 20000 in
theorem ggX8_now_X8_demandMatch : GoodIn wsX8_now wsX8_demandMatch := goodIn_ca (goodIn_r _ [11, 12, 13, 14, 15, 16, 17, 18, 19, 20, 21, 77, 78, 79, 80, 81, 82, 83, 84, 85, 86, 87, 88, 89, 90, 91, 92, 93, 94, 95] (by decide +kernel) (by decide +kernel)) (goodIn_sub (fun _ h => List.mem_cons_of_mem _ (List.mem_append_left _ (List.mem_append_right _ h))) (by decide +kernel))
set_option maxRecDepth 20000 in
theorem gX8_now_X8_demandMatch : GoodIn wsX8_now (wsV RX8 194 RX8 yX8_demandMatch wsX8_demandMatch) := goodIn_app (goodIn_of _ (by decide +kernel)) ggX8_now_X8_demandMatch
set_option maxRecDepth 20000 in
theorem ggX8_now_X2_numberOfPresent : GoodIn wsX8_now wsX2_numberOfPresent := goodIn_ca (goodIn_r _ [26, 27, 28, 29, 30, 31, 32, 33, 34, 35, 36, 37, 38, 39, 25, 40, 41, 42, 43, 44, 45, 46, 47, 48, 49, 50, 51, 52, 53, 54, 55, 56, 57, 58, 59, 60, 61, 62, 63, 64, 65, 66, 67, 68, 69, 70, 71, 72, 73, 74, 75, 76, 96, 97, 98, 99, 100, 101, 102, 103, 104, 105, 106, 107, 108, 109, 110, 111, 112, 113, 114, 115, 116, 117, 118, 119, 120, 121, 122, 123, 124] (by decide +kernel) (by decide +kernel)) (goodIn_sub (fun _ h => List.mem_cons_of_mem _ (List.mem_append_right _ h)) (by decide +kernel))
set_option maxRecDepth 20000 in
theorem gX8_now_X2_numberOfPresent : GoodIn wsX8_now (wsV RX8 197 RX2 yX2_numberOfPresent wsX2_numberOfPresent) := goodIn_app (goodIn_of _ (by decide +kernel)) ggX8_now_X2_numberOfPresent
theorem dX8_now_0 : decode cX8_now 0 = .ok (.iload_n 1, 1) := by decide +kernel
theorem dX8_now_1 : decode cX8_now 1 = .ok (.iconst 0, 1) := by decide +kernel
theorem dX8_now_2 : decode cX8_now 2 = .ok (.bipush 8, 2) := by decide +kernel
theorem dX8_now_4 : decode cX8_now 4 = .ok (.invokestatic 56, 3) := by decide +kernel
theorem dX8_now_7 : decode cX8_now 7 = .ok (.ifCond .ne 13, 3) := by decide +kernel
theorem dX8_now_10 : decode cX8_now 10 = .ok (.new 60, 3) := by decide +kernel
theorem dX8_now_13 : decode cX8_now 13 = .ok (.dup, 1) := by decide +kernel
theorem dX8_now_14 : decode cX8_now 14 = .ok (.ldc 192, 2) := by decide +kernel
theorem dX8_now_16 : decode cX8_now 16 = .ok (.invokespecial 64, 3) := by decide +kernel
theorem dX8_now_19 : decode cX8_now 19 = .ok (.athrow, 1) := by decide +kernel
theorem dX8_now_20 : decode cX8_now 20 = .ok (.aload_n 0, 1) := by decide +kernel
theorem dX8_now_21 : decode cX8_now 21 = .ok (.invokevirtual 194, 3) := by decide +kernel
theorem dX8_now_24 : decode cX8_now 24 = .ok (.aload_n 0, 1) := by decide +kernel
theorem dX8_now_25 : decode cX8_now 25 = .ok (.getfield 10, 3) := by decide +kernel
theorem dX8_now_28 : decode cX8_now 28 = .ok (.iload_n 1, 1) := by decide +kernel
theorem dX8_now_29 : decode cX8_now 29 = .ok (.invokevirtual 197, 3) := by decide +kernel
theorem dX8_now_32 : decode cX8_now 32 = .ok (.ireturn, 1) := by decide +kernel
set_option maxRecDepth 20000 in
theorem ggX8_innings_X8_demandInnings : GoodIn wsX8_innings wsX8_demandInnings := goodIn_ca (goodIn_r _ [8, 9, 10, 3, 11, 12, 13, 14, 15, 16, 17, 47, 48, 49, 50, 51, 52, 53, 54, 55, 56, 57, 58, 59, 60, 61, 62] (by decide +kernel) (by decide +kernel)) (goodIn_sub (fun _ h => List.mem_cons_of_mem _ (List.mem_append_left _ (List.mem_append_right _ h))) (by decide +kernel))
set_option maxRecDepth 20000 in
theorem gX8_innings_X8_demandInnings : GoodIn wsX8_innings (wsV RX8 200 RX8 yX8_demandInnings wsX8_demandInnings) := goodIn_app (goodIn_of _ (by decide +kernel)) ggX8_innings_X8_demandInnings
set_option maxRecDepth 20000 in
theorem ggX8_innings_X8_isWithin : GoodIn wsX8_innings wsX8_isWithin := goodIn_r _ [20] (by decide +kernel) (by decide +kernel)
set_option maxRecDepth 20000 in
theorem gX8_innings_X8_isWithin : GoodIn wsX8_innings (va_wsS RX8 56 yX8_isWithin wsX8_isWithin) := goodIn_app (goodIn_of _ (by decide +kernel)) ggX8_innings_X8_isWithin
set_option maxRecDepth 20000 in
theorem ggX8_innings_X2_at : GoodIn wsX8_innings wsX2_at := goodIn_r _ [24, 25, 26, 27, 28, 29, 30, 31, 32, 57, 58, 59, 60, 61, 62] (by decide +kernel) (by decide +kernel)
set_option maxRecDepth 20000 in
theorem gX8_innings_X2_at : GoodIn wsX8_innings (wsV RX8 206 RX2 yX2_at wsX2_at) := goodIn_app (goodIn_of _ (by decide +kernel)) ggX8_innings_X2_at
set_option maxRecDepth 20000 in
theorem ggX8_innings_X0_total : GoodIn wsX8_innings wsX0_total := goodIn_ca (goodIn_r _ [37, 38, 39, 40, 41, 42, 43, 44, 45, 46, 63, 64, 65, 66, 67, 68, 69, 70, 71, 72, 73, 74, 75, 76] (by decide +kernel) (by decide +kernel)) (goodIn_sub (fun _ h => List.mem_cons_of_mem _ (List.mem_append_right _ h)) (by decide +kernel))
set_option maxRecDepth 20000 in
theorem gX8_innings_X0_total : GoodIn wsX8_innings (wsV RX8 210 RX0 yX0_total wsX0_total) := goodIn_app (goodIn_of _ (by decide +kernel)) ggX8_innings_X0_total
theorem dX8_innings_0 : decode cX8_innings 0 = .ok (.aload_n 0, 1) := by decide +kernel
theorem dX8_innings_1 : decode cX8_innings 1 = .ok (.iload_n 1, 1) := by decide +kernel
theorem dX8_innings_2 : decode cX8_innings 2 = .ok (.invokevirtual 200, 3) := by decide +kernel
theorem dX8_innings_5 : decode cX8_innings 5 = .ok (.iload_n 2, 1) := by decide +kernel
theorem dX8_innings_6 : decode cX8_innings 6 = .ok (.iconst 0, 1) := by decide +kernel
theorem dX8_innings_7 : decode cX8_innings 7 = .ok (.bipush 7, 2) := by decide +kernel
theorem dX8_innings_9 : decode cX8_innings 9 = .ok (.invokestatic 56, 3) := by decide +kernel
theorem dX8_innings_12 : decode cX8_innings 12 = .ok (.ifCond .ne 13, 3) := by decide +kernel
theorem dX8_innings_15 : decode cX8_innings 15 = .ok (.new 60, 3) := by decide +kernel
theorem dX8_innings_18 : decode cX8_innings 18 = .ok (.dup, 1) := by decide +kernel
theorem dX8_innings_19 : decode cX8_innings 19 = .ok (.ldc 192, 2) := by decide +kernel
theorem dX8_innings_21 : decode cX8_innings 21 = .ok (.invokespecial 64, 3) := by decide +kernel
theorem dX8_innings_24 : decode cX8_innings 24 = .ok (.athrow, 1) := by decide +kernel
theorem dX8_innings_25 : decode cX8_innings 25 = .ok (.aload_n 0, 1) := by decide +kernel
theorem dX8_innings_26 : decode cX8_innings 26 = .ok (.getfield 10, 3) := by decide +kernel
theorem dX8_innings_29 : decode cX8_innings 29 = .ok (.iload_n 1, 1) := by decide +kernel
theorem dX8_innings_30 : decode cX8_innings 30 = .ok (.invokevirtual 206, 3) := by decide +kernel
theorem dX8_innings_33 : decode cX8_innings 33 = .ok (.iload_n 2, 1) := by decide +kernel
theorem dX8_innings_34 : decode cX8_innings 34 = .ok (.invokevirtual 210, 3) := by decide +kernel
theorem dX8_innings_37 : decode cX8_innings 37 = .ok (.ireturn, 1) := by decide +kernel
set_option maxRecDepth 20000 in
theorem ggX8_batter_X8_demandPlayer : GoodIn wsX8_batter wsX8_demandPlayer := goodIn_ca (goodIn_r _ [9, 10, 11, 3, 12, 13, 14, 15, 16, 17, 18, 19, 20, 8, 21, 22, 23, 24, 45, 46, 47, 48, 49, 50, 51, 52, 53, 54, 66, 67, 68, 69, 70, 71] (by decide +kernel) (by decide +kernel)) (goodIn_sub (fun _ h => List.mem_cons_of_mem _ (List.mem_append_left _ (List.mem_append_right _ h))) (by decide +kernel))
set_option maxRecDepth 20000 in
theorem gX8_batter_X8_demandPlayer : GoodIn wsX8_batter (wsV RX8 213 RX8 yX8_demandPlayer wsX8_demandPlayer) := goodIn_app (goodIn_of _ (by decide +kernel)) ggX8_batter_X8_demandPlayer
set_option maxRecDepth 20000 in
theorem ggX8_batter_X8_isWithin : GoodIn wsX8_batter wsX8_isWithin := goodIn_r _ [24] (by decide +kernel) (by decide +kernel)
set_option maxRecDepth 20000 in
theorem gX8_batter_X8_isWithin : GoodIn wsX8_batter (va_wsS RX8 56 yX8_isWithin wsX8_isWithin) := goodIn_app (goodIn_of _ (by decide +kernel)) ggX8_batter_X8_isWithin
set_option maxRecDepth 20000 in
theorem ggX8_batter_X2_at : GoodIn wsX8_batter wsX2_at := goodIn_r _ [28, 29, 30, 31, 32, 33, 34, 35, 36, 66, 67, 68, 69, 70, 71] (by decide +kernel) (by decide +kernel)
set_option maxRecDepth 20000 in
theorem gX8_batter_X2_at : GoodIn wsX8_batter (wsV RX8 206 RX2 yX2_at wsX2_at) := goodIn_app (goodIn_of _ (by decide +kernel)) ggX8_batter_X2_at
set_option maxRecDepth 20000 in
theorem ggX8_batter_X6_get : GoodIn wsX8_batter wsX6_get := goodIn_ca (goodIn_r _ [41, 42, 43, 44, 72, 73, 74] (by decide +kernel) (by decide +kernel)) (goodIn_sub (fun _ h => List.mem_cons_of_mem _ (List.mem_append_right _ h)) (by decide +kernel))
set_option maxRecDepth 20000 in
theorem gX8_batter_X6_get : GoodIn wsX8_batter (wsV RX8 221 RX6 yX6_get wsX6_get) := goodIn_app (goodIn_of _ (by decide +kernel)) ggX8_batter_X6_get
theorem dX8_batter_0 : decode cX8_batter 0 = .ok (.aload_n 0, 1) := by decide +kernel
theorem dX8_batter_1 : decode cX8_batter 1 = .ok (.iload_n 1, 1) := by decide +kernel
theorem dX8_batter_2 : decode cX8_batter 2 = .ok (.iload_n 2, 1) := by decide +kernel
theorem dX8_batter_3 : decode cX8_batter 3 = .ok (.invokevirtual 213, 3) := by decide +kernel
theorem dX8_batter_6 : decode cX8_batter 6 = .ok (.iload_n 3, 1) := by decide +kernel
theorem dX8_batter_7 : decode cX8_batter 7 = .ok (.iconst 0, 1) := by decide +kernel
theorem dX8_batter_8 : decode cX8_batter 8 = .ok (.iconst 5, 1) := by decide +kernel
theorem dX8_batter_9 : decode cX8_batter 9 = .ok (.invokestatic 56, 3) := by decide +kernel
theorem dX8_batter_12 : decode cX8_batter 12 = .ok (.ifCond .ne 13, 3) := by decide +kernel
theorem dX8_batter_15 : decode cX8_batter 15 = .ok (.new 60, 3) := by decide +kernel
theorem dX8_batter_18 : decode cX8_batter 18 = .ok (.dup, 1) := by decide +kernel
theorem dX8_batter_19 : decode cX8_batter 19 = .ok (.ldc 192, 2) := by decide +kernel
theorem dX8_batter_21 : decode cX8_batter 21 = .ok (.invokespecial 64, 3) := by decide +kernel
theorem dX8_batter_24 : decode cX8_batter 24 = .ok (.athrow, 1) := by decide +kernel
theorem dX8_batter_25 : decode cX8_batter 25 = .ok (.aload_n 0, 1) := by decide +kernel
theorem dX8_batter_26 : decode cX8_batter 26 = .ok (.getfield 10, 3) := by decide +kernel
theorem dX8_batter_29 : decode cX8_batter 29 = .ok (.iload_n 1, 1) := by decide +kernel
theorem dX8_batter_30 : decode cX8_batter 30 = .ok (.invokevirtual 206, 3) := by decide +kernel
theorem dX8_batter_33 : decode cX8_batter 33 = .ok (.getfield 217, 3) := by decide +kernel
theorem dX8_batter_36 : decode cX8_batter 36 = .ok (.iload_n 2, 1) := by decide +kernel
theorem dX8_batter_37 : decode cX8_batter 37 = .ok (.iload_n 3, 1) := by decide +kernel
theorem dX8_batter_38 : decode cX8_batter 38 = .ok (.invokevirtual 221, 3) := by decide +kernel
theorem dX8_batter_41 : decode cX8_batter 41 = .ok (.ireturn, 1) := by decide +kernel
set_option maxRecDepth 20000 in
theorem ggX8_bowler_X8_demandPlayer : GoodIn wsX8_bowler wsX8_demandPlayer := goodIn_ca (goodIn_r _ [9, 10, 11, 3, 12, 13, 14, 15, 16, 17, 18, 19, 20, 8, 21, 22, 23, 24, 45, 46, 47, 48, 49, 50, 51, 52, 53, 54, 66, 67, 68, 69, 70, 71] (by decide +kernel) (by decide +kernel)) (goodIn_sub (fun _ h => List.mem_cons_of_mem _ (List.mem_append_left _ (List.mem_append_right _ h))) (by decide +kernel))
set_option maxRecDepth 20000 in
theorem gX8_bowler_X8_demandPlayer : GoodIn wsX8_bowler (wsV RX8 213 RX8 yX8_demandPlayer wsX8_demandPlayer) := goodIn_app (goodIn_of _ (by decide +kernel)) ggX8_bowler_X8_demandPlayer
set_option maxRecDepth 20000 in
theorem ggX8_bowler_X8_isWithin : GoodIn wsX8_bowler wsX8_isWithin := goodIn_r _ [24] (by decide +kernel) (by decide +kernel)
set_option maxRecDepth 20000 in
theorem gX8_bowler_X8_isWithin : GoodIn wsX8_bowler (va_wsS RX8 56 yX8_isWithin wsX8_isWithin) := goodIn_app (goodIn_of _ (by decide +kernel)) ggX8_bowler_X8_isWithin
set_option maxRecDepth 20000 in
theorem ggX8_bowler_X2_at : GoodIn wsX8_bowler wsX2_at := goodIn_r _ [28, 29, 30, 31, 32, 33, 34, 35, 36, 66, 67, 68, 69, 70, 71] (by decide +kernel) (by decide +kernel)
set_option maxRecDepth 20000 in
theorem gX8_bowler_X2_at : GoodIn wsX8_bowler (wsV RX8 206 RX2 yX2_at wsX2_at) := goodIn_app (goodIn_of _ (by decide +kernel)) ggX8_bowler_X2_at
set_option maxRecDepth 20000 in
theorem ggX8_bowler_X6_get : GoodIn wsX8_bowler wsX6_get := goodIn_ca (goodIn_r _ [41, 42, 43, 44, 72, 73, 74] (by decide +kernel) (by decide +kernel)) (goodIn_sub (fun _ h => List.mem_cons_of_mem _ (List.mem_append_right _ h)) (by decide +kernel))
set_option maxRecDepth 20000 in
theorem gX8_bowler_X6_get : GoodIn wsX8_bowler (wsV RX8 221 RX6 yX6_get wsX6_get) := goodIn_app (goodIn_of _ (by decide +kernel)) ggX8_bowler_X6_get
theorem dX8_bowler_0 : decode cX8_bowler 0 = .ok (.aload_n 0, 1) := by decide +kernel
theorem dX8_bowler_1 : decode cX8_bowler 1 = .ok (.iload_n 1, 1) := by decide +kernel
theorem dX8_bowler_2 : decode cX8_bowler 2 = .ok (.iload_n 2, 1) := by decide +kernel
theorem dX8_bowler_3 : decode cX8_bowler 3 = .ok (.invokevirtual 213, 3) := by decide +kernel
theorem dX8_bowler_6 : decode cX8_bowler 6 = .ok (.iload_n 3, 1) := by decide +kernel
theorem dX8_bowler_7 : decode cX8_bowler 7 = .ok (.iconst 0, 1) := by decide +kernel
theorem dX8_bowler_8 : decode cX8_bowler 8 = .ok (.bipush 6, 2) := by decide +kernel
theorem dX8_bowler_10 : decode cX8_bowler 10 = .ok (.invokestatic 56, 3) := by decide +kernel
theorem dX8_bowler_13 : decode cX8_bowler 13 = .ok (.ifCond .ne 13, 3) := by decide +kernel
theorem dX8_bowler_16 : decode cX8_bowler 16 = .ok (.new 60, 3) := by decide +kernel
theorem dX8_bowler_19 : decode cX8_bowler 19 = .ok (.dup, 1) := by decide +kernel
theorem dX8_bowler_20 : decode cX8_bowler 20 = .ok (.ldc 192, 2) := by decide +kernel
theorem dX8_bowler_22 : decode cX8_bowler 22 = .ok (.invokespecial 64, 3) := by decide +kernel
theorem dX8_bowler_25 : decode cX8_bowler 25 = .ok (.athrow, 1) := by decide +kernel
theorem dX8_bowler_26 : decode cX8_bowler 26 = .ok (.aload_n 0, 1) := by decide +kernel
theorem dX8_bowler_27 : decode cX8_bowler 27 = .ok (.getfield 10, 3) := by decide +kernel
theorem dX8_bowler_30 : decode cX8_bowler 30 = .ok (.iload_n 1, 1) := by decide +kernel
theorem dX8_bowler_31 : decode cX8_bowler 31 = .ok (.invokevirtual 206, 3) := by decide +kernel
theorem dX8_bowler_34 : decode cX8_bowler 34 = .ok (.getfield 227, 3) := by decide +kernel
theorem dX8_bowler_37 : decode cX8_bowler 37 = .ok (.iload_n 2, 1) := by decide +kernel
theorem dX8_bowler_38 : decode cX8_bowler 38 = .ok (.iload_n 3, 1) := by decide +kernel
theorem dX8_bowler_39 : decode cX8_bowler 39 = .ok (.invokevirtual 221, 3) := by decide +kernel
theorem dX8_bowler_42 : decode cX8_bowler 42 = .ok (.ireturn, 1) := by decide +kernel
set_option maxRecDepth 20000 in
theorem ggX8_partnership_X8_demandInnings : GoodIn wsX8_partnership wsX8_demandInnings := goodIn_ca (goodIn_r _ [7, 8, 9, 1, 10, 11, 12, 13, 14, 15, 16, 52, 53, 54, 55, 56, 57, 58, 59, 60, 61, 73, 74, 75, 76, 77, 78] (by decide +kernel) (by decide +kernel)) (goodIn_sub (fun _ h => List.mem_cons_of_mem _ (List.mem_append_left _ (List.mem_append_left _ (List.mem_append_left _ (List.mem_append_right _ h))))) (by decide +kernel))
set_option maxRecDepth 20000 in
theorem gX8_partnership_X8_demandInnings : GoodIn wsX8_partnership (wsV RX8 200 RX8 yX8_demandInnings wsX8_demandInnings) := goodIn_app (goodIn_of _ (by decide +kernel)) ggX8_partnership_X8_demandInnings
set_option maxRecDepth 20000 in
theorem ggX8_partnership_X2_at : GoodIn wsX8_partnership wsX2_at := goodIn_r _ [20, 21, 22, 23, 24, 25, 26, 27, 28, 73, 74, 75, 76, 77, 78] (by decide +kernel) (by decide +kernel)
set_option maxRecDepth 20000 in
theorem gX8_partnership_X2_at : GoodIn wsX8_partnership (wsV RX8 206 RX2 yX2_at wsX2_at) := goodIn_app (goodIn_of _ (by decide +kernel)) ggX8_partnership_X2_at
set_option maxRecDepth 20000 in
theorem ggX8_partnership_X8_tableNumber : GoodIn wsX8_partnership wsX8_tableNumber := goodIn_ca (goodIn_ca (goodIn_ca (goodIn_r _ [31, 32, 33, 34, 35, 36, 37, 38, 39, 40, 41, 42, 43, 44, 45, 46, 47, 48, 49, 50, 51, 79, 80, 81] (by decide +kernel) (by decide +kernel)) (goodIn_sub (fun _ h => List.mem_cons_of_mem _ (List.mem_append_left _ (List.mem_append_left _ (List.mem_append_right _ h)))) (by decide +kernel))) (goodIn_sub (fun _ h => List.mem_cons_of_mem _ (List.mem_append_left _ (List.mem_append_right _ h))) (by decide +kernel))) (goodIn_sub (fun _ h => List.mem_cons_of_mem _ (List.mem_append_right _ h)) (by decide +kernel))
set_option maxRecDepth 20000 in
theorem gX8_partnership_X8_tableNumber : GoodIn wsX8_partnership (va_wsS RX8 233 yX8_tableNumber wsX8_tableNumber) := goodIn_app (goodIn_of _ (by decide +kernel)) ggX8_partnership_X8_tableNumber
theorem dX8_partnership_0 : decode cX8_partnership 0 = .ok (.aload_n 0, 1) := by decide +kernel
theorem dX8_partnership_1 : decode cX8_partnership 1 = .ok (.iload_n 1, 1) := by decide +kernel
theorem dX8_partnership_2 : decode cX8_partnership 2 = .ok (.invokevirtual 200, 3) := by decide +kernel
theorem dX8_partnership_5 : decode cX8_partnership 5 = .ok (.aload_n 0, 1) := by decide +kernel
theorem dX8_partnership_6 : decode cX8_partnership 6 = .ok (.getfield 10, 3) := by decide +kernel
theorem dX8_partnership_9 : decode cX8_partnership 9 = .ok (.iload_n 1, 1) := by decide +kernel
theorem dX8_partnership_10 : decode cX8_partnership 10 = .ok (.invokevirtual 206, 3) := by decide +kernel
theorem dX8_partnership_13 : decode cX8_partnership 13 = .ok (.getfield 230, 3) := by decide +kernel
theorem dX8_partnership_16 : decode cX8_partnership 16 = .ok (.iload_n 2, 1) := by decide +kernel
theorem dX8_partnership_17 : decode cX8_partnership 17 = .ok (.iload_n 3, 1) := by decide +kernel
theorem dX8_partnership_18 : decode cX8_partnership 18 = .ok (.invokestatic 233, 3) := by decide +kernel
theorem dX8_partnership_21 : decode cX8_partnership 21 = .ok (.ireturn, 1) := by decide +kernel
set_option maxRecDepth 20000 in
theorem ggX8_fall_X8_demandInnings : GoodIn wsX8_fall wsX8_demandInnings := goodIn_ca (goodIn_r _ [7, 8, 9, 1, 10, 11, 12, 13, 14, 15, 16, 52, 53, 54, 55, 56, 57, 58, 59, 60, 61, 73, 74, 75, 76, 77, 78] (by decide +kernel) (by decide +kernel)) (goodIn_sub (fun _ h => List.mem_cons_of_mem _ (List.mem_append_left _ (List.mem_append_left _ (List.mem_append_left _ (List.mem_append_right _ h))))) (by decide +kernel))
set_option maxRecDepth 20000 in
theorem gX8_fall_X8_demandInnings : GoodIn wsX8_fall (wsV RX8 200 RX8 yX8_demandInnings wsX8_demandInnings) := goodIn_app (goodIn_of _ (by decide +kernel)) ggX8_fall_X8_demandInnings
set_option maxRecDepth 20000 in
theorem ggX8_fall_X2_at : GoodIn wsX8_fall wsX2_at := goodIn_r _ [20, 21, 22, 23, 24, 25, 26, 27, 28, 73, 74, 75, 76, 77, 78] (by decide +kernel) (by decide +kernel)
set_option maxRecDepth 20000 in
theorem gX8_fall_X2_at : GoodIn wsX8_fall (wsV RX8 206 RX2 yX2_at wsX2_at) := goodIn_app (goodIn_of _ (by decide +kernel)) ggX8_fall_X2_at
set_option maxRecDepth 20000 in
theorem ggX8_fall_X8_tableNumber : GoodIn wsX8_fall wsX8_tableNumber := goodIn_ca (goodIn_ca (goodIn_ca (goodIn_r _ [31, 32, 33, 34, 35, 36, 37, 38, 39, 40, 41, 42, 43, 44, 45, 46, 47, 48, 49, 50, 51, 79, 80, 81] (by decide +kernel) (by decide +kernel)) (goodIn_sub (fun _ h => List.mem_cons_of_mem _ (List.mem_append_left _ (List.mem_append_left _ (List.mem_append_right _ h)))) (by decide +kernel))) (goodIn_sub (fun _ h => List.mem_cons_of_mem _ (List.mem_append_left _ (List.mem_append_right _ h))) (by decide +kernel))) (goodIn_sub (fun _ h => List.mem_cons_of_mem _ (List.mem_append_right _ h)) (by decide +kernel))
set_option maxRecDepth 20000 in
theorem gX8_fall_X8_tableNumber : GoodIn wsX8_fall (va_wsS RX8 233 yX8_tableNumber wsX8_tableNumber) := goodIn_app (goodIn_of _ (by decide +kernel)) ggX8_fall_X8_tableNumber
theorem dX8_fall_0 : decode cX8_fall 0 = .ok (.aload_n 0, 1) := by decide +kernel
theorem dX8_fall_1 : decode cX8_fall 1 = .ok (.iload_n 1, 1) := by decide +kernel
theorem dX8_fall_2 : decode cX8_fall 2 = .ok (.invokevirtual 200, 3) := by decide +kernel
theorem dX8_fall_5 : decode cX8_fall 5 = .ok (.aload_n 0, 1) := by decide +kernel
theorem dX8_fall_6 : decode cX8_fall 6 = .ok (.getfield 10, 3) := by decide +kernel
theorem dX8_fall_9 : decode cX8_fall 9 = .ok (.iload_n 1, 1) := by decide +kernel
theorem dX8_fall_10 : decode cX8_fall 10 = .ok (.invokevirtual 206, 3) := by decide +kernel
theorem dX8_fall_13 : decode cX8_fall 13 = .ok (.getfield 237, 3) := by decide +kernel
theorem dX8_fall_16 : decode cX8_fall 16 = .ok (.iload_n 2, 1) := by decide +kernel
theorem dX8_fall_17 : decode cX8_fall 17 = .ok (.iload_n 3, 1) := by decide +kernel
theorem dX8_fall_18 : decode cX8_fall 18 = .ok (.invokestatic 233, 3) := by decide +kernel
theorem dX8_fall_21 : decode cX8_fall 21 = .ok (.ireturn, 1) := by decide +kernel
set_option maxRecDepth 20000 in
theorem ggX8_tableNumber_X6_hasRow : GoodIn wsX8_tableNumber wsX6_hasRow := goodIn_r _ [9, 10, 21, 22, 23] (by decide +kernel) (by decide +kernel)
set_option maxRecDepth 20000 in
theorem gX8_tableNumber_X6_hasRow : GoodIn wsX8_tableNumber (wsV RX8 240 RX6 yX6_hasRow wsX6_hasRow) := goodIn_app (goodIn_of _ (by decide +kernel)) ggX8_tableNumber_X6_hasRow
set_option maxRecDepth 20000 in
theorem ggX8_tableNumber_X6_hasColumn : GoodIn wsX8_tableNumber wsX6_hasColumn := goodIn_r _ [14, 15, 21, 22, 23] (by decide +kernel) (by decide +kernel)
set_option maxRecDepth 20000 in
theorem gX8_tableNumber_X6_hasColumn : GoodIn wsX8_tableNumber (wsV RX8 245 RX6 yX6_hasColumn wsX6_hasColumn) := goodIn_app (goodIn_of _ (by decide +kernel)) ggX8_tableNumber_X6_hasColumn
set_option maxRecDepth 20000 in
theorem ggX8_tableNumber_X6_get : GoodIn wsX8_tableNumber wsX6_get := goodIn_ca (goodIn_r _ [19, 15, 10, 20, 21, 22, 23] (by decide +kernel) (by decide +kernel)) (goodIn_sub (fun _ h => List.mem_cons_of_mem _ (List.mem_append_right _ h)) (by decide +kernel))
set_option maxRecDepth 20000 in
theorem gX8_tableNumber_X6_get : GoodIn wsX8_tableNumber (wsV RX8 221 RX6 yX6_get wsX6_get) := goodIn_app (goodIn_of _ (by decide +kernel)) ggX8_tableNumber_X6_get
theorem dX8_tableNumber_0 : decode cX8_tableNumber 0 = .ok (.aload_n 0, 1) := by decide +kernel
theorem dX8_tableNumber_1 : decode cX8_tableNumber 1 = .ok (.iload_n 1, 1) := by decide +kernel
theorem dX8_tableNumber_2 : decode cX8_tableNumber 2 = .ok (.invokevirtual 240, 3) := by decide +kernel
theorem dX8_tableNumber_5 : decode cX8_tableNumber 5 = .ok (.ifCond .ne 13, 3) := by decide +kernel
theorem dX8_tableNumber_8 : decode cX8_tableNumber 8 = .ok (.new 185, 3) := by decide +kernel
theorem dX8_tableNumber_11 : decode cX8_tableNumber 11 = .ok (.dup, 1) := by decide +kernel
theorem dX8_tableNumber_12 : decode cX8_tableNumber 12 = .ok (.ldc 243, 2) := by decide +kernel
theorem dX8_tableNumber_14 : decode cX8_tableNumber 14 = .ok (.invokespecial 189, 3) := by decide +kernel
theorem dX8_tableNumber_17 : decode cX8_tableNumber 17 = .ok (.athrow, 1) := by decide +kernel
theorem dX8_tableNumber_18 : decode cX8_tableNumber 18 = .ok (.aload_n 0, 1) := by decide +kernel
theorem dX8_tableNumber_19 : decode cX8_tableNumber 19 = .ok (.iload_n 2, 1) := by decide +kernel
theorem dX8_tableNumber_20 : decode cX8_tableNumber 20 = .ok (.invokevirtual 245, 3) := by decide +kernel
theorem dX8_tableNumber_23 : decode cX8_tableNumber 23 = .ok (.ifCond .ne 13, 3) := by decide +kernel
theorem dX8_tableNumber_26 : decode cX8_tableNumber 26 = .ok (.new 60, 3) := by decide +kernel
theorem dX8_tableNumber_29 : decode cX8_tableNumber 29 = .ok (.dup, 1) := by decide +kernel
theorem dX8_tableNumber_30 : decode cX8_tableNumber 30 = .ok (.ldc 192, 2) := by decide +kernel
theorem dX8_tableNumber_32 : decode cX8_tableNumber 32 = .ok (.invokespecial 64, 3) := by decide +kernel
theorem dX8_tableNumber_35 : decode cX8_tableNumber 35 = .ok (.athrow, 1) := by decide +kernel
theorem dX8_tableNumber_36 : decode cX8_tableNumber 36 = .ok (.aload_n 0, 1) := by decide +kernel
theorem dX8_tableNumber_37 : decode cX8_tableNumber 37 = .ok (.iload_n 1, 1) := by decide +kernel
theorem dX8_tableNumber_38 : decode cX8_tableNumber 38 = .ok (.iload_n 2, 1) := by decide +kernel
theorem dX8_tableNumber_39 : decode cX8_tableNumber 39 = .ok (.invokevirtual 221, 3) := by decide +kernel
theorem dX8_tableNumber_42 : decode cX8_tableNumber 42 = .ok (.ireturn, 1) := by decide +kernel
set_option maxRecDepth 20000 in
theorem ggX8_needed_X8_demandMatch : GoodIn wsX8_needed wsX8_demandMatch := goodIn_ca (goodIn_r _ [12, 13, 14, 15, 16, 17, 18, 19, 20, 21, 22, 76, 77, 78, 79, 80, 81, 82, 83, 84, 85, 86, 87, 88, 89, 90, 91, 92, 93, 94] (by decide +kernel) (by decide +kernel)) (goodIn_sub (fun _ h => List.mem_cons_of_mem _ (List.mem_append_left _ (List.mem_append_left _ (List.mem_append_right _ h)))) (by decide +kernel))
set_option maxRecDepth 20000 in
theorem gX8_needed_X8_demandMatch : GoodIn wsX8_needed (wsV RX8 194 RX8 yX8_demandMatch wsX8_demandMatch) := goodIn_app (goodIn_of _ (by decide +kernel)) ggX8_needed_X8_demandMatch
set_option maxRecDepth 20000 in
theorem ggX8_needed_X2_isLastPlayed : GoodIn wsX8_needed wsX2_isLastPlayed := goodIn_r _ [27, 28, 29, 30, 31, 26, 32, 33, 95, 96, 97, 98, 99, 100] (by decide +kernel) (by decide +kernel)
set_option maxRecDepth 20000 in
theorem gX8_needed_X2_isLastPlayed : GoodIn wsX8_needed (wsV RX8 248 RX2 yX2_isLastPlayed wsX2_isLastPlayed) := goodIn_app (goodIn_of _ (by decide +kernel)) ggX8_needed_X2_isLastPlayed
set_option maxRecDepth 20000 in
theorem ggX8_needed_X2_target : GoodIn wsX8_needed wsX2_target := goodIn_ca (goodIn_ca (goodIn_r _ [37, 38, 39, 40, 41, 26, 42, 43, 44, 6, 45, 46, 5, 7, 47, 48, 49, 50, 51, 52, 53, 54, 55, 56, 57, 58, 59, 60, 61, 62, 63, 64, 65, 33, 66, 67, 68, 69, 70, 101, 102, 103, 104, 105, 106, 107, 108, 109, 110, 111, 95, 96, 97, 98, 99, 100, 112, 113, 114] (by decide +kernel) (by decide +kernel)) (goodIn_sub (fun _ h => List.mem_cons_of_mem _ (List.mem_append_left _ (List.mem_append_right _ h))) (by decide +kernel))) (goodIn_sub (fun _ h => List.mem_cons_of_mem _ (List.mem_append_right _ h)) (by decide +kernel))
set_option maxRecDepth 20000 in
theorem gX8_needed_X2_target : GoodIn wsX8_needed (wsV RX8 253 RX2 yX2_target wsX2_target) := goodIn_app (goodIn_of _ (by decide +kernel)) ggX8_needed_X2_target
set_option maxRecDepth 20000 in
theorem ggX8_needed_X2_present : GoodIn wsX8_needed wsX2_present := goodIn_r _ [74, 28, 39, 40, 41, 26, 42, 43, 44, 6, 45, 46, 5, 7, 47, 95, 96, 97, 98, 99, 100] (by decide +kernel) (by decide +kernel)
set_option maxRecDepth 20000 in
theorem gX8_needed_X2_present : GoodIn wsX8_needed (wsV RX8 256 RX2 yX2_present wsX2_present) := goodIn_app (goodIn_of _ (by decide +kernel)) ggX8_needed_X2_present
set_option maxRecDepth 20000 in
theorem ggX8_needed_X0_total : GoodIn wsX8_needed wsX0_total := goodIn_ca (goodIn_r _ [52, 53, 54, 55, 56, 57, 58, 59, 60, 61, 101, 102, 103, 104, 105, 106, 107, 108, 109, 110, 111, 112, 113, 114] (by decide +kernel) (by decide +kernel)) (goodIn_sub (fun _ h => List.mem_cons_of_mem _ (List.mem_append_left _ (List.mem_append_right _ h))) (by decide +kernel))
set_option maxRecDepth 20000 in
theorem gX8_needed_X0_total : GoodIn wsX8_needed (wsV RX8 210 RX0 yX0_total wsX0_total) := goodIn_app (goodIn_of _ (by decide +kernel)) ggX8_needed_X0_total
theorem dX8_needed_0 : decode cX8_needed 0 = .ok (.aload_n 0, 1) := by decide +kernel
theorem dX8_needed_1 : decode cX8_needed 1 = .ok (.invokevirtual 194, 3) := by decide +kernel
theorem dX8_needed_4 : decode cX8_needed 4 = .ok (.aload_n 0, 1) := by decide +kernel
theorem dX8_needed_5 : decode cX8_needed 5 = .ok (.getfield 10, 3) := by decide +kernel
theorem dX8_needed_8 : decode cX8_needed 8 = .ok (.invokevirtual 248, 3) := by decide +kernel
theorem dX8_needed_11 : decode cX8_needed 11 = .ok (.ifCond .ne 13, 3) := by decide +kernel
theorem dX8_needed_14 : decode cX8_needed 14 = .ok (.new 185, 3) := by decide +kernel
theorem dX8_needed_17 : decode cX8_needed 17 = .ok (.dup, 1) := by decide +kernel
theorem dX8_needed_18 : decode cX8_needed 18 = .ok (.ldc 251, 2) := by decide +kernel
theorem dX8_needed_20 : decode cX8_needed 20 = .ok (.invokespecial 189, 3) := by decide +kernel
theorem dX8_needed_23 : decode cX8_needed 23 = .ok (.athrow, 1) := by decide +kernel
theorem dX8_needed_24 : decode cX8_needed 24 = .ok (.aload_n 0, 1) := by decide +kernel
theorem dX8_needed_25 : decode cX8_needed 25 = .ok (.getfield 10, 3) := by decide +kernel
theorem dX8_needed_28 : decode cX8_needed 28 = .ok (.invokevirtual 253, 3) := by decide +kernel
theorem dX8_needed_31 : decode cX8_needed 31 = .ok (.istore_n 2, 1) := by decide +kernel
theorem dX8_needed_32 : decode cX8_needed 32 = .ok (.iload_n 1, 1) := by decide +kernel
theorem dX8_needed_33 : decode cX8_needed 33 = .ok (.ifCond .eq 7, 3) := by decide +kernel
theorem dX8_needed_36 : decode cX8_needed 36 = .ok (.iload_n 2, 1) := by decide +kernel
theorem dX8_needed_37 : decode cX8_needed 37 = .ok (.goto 20, 3) := by decide +kernel
theorem dX8_needed_40 : decode cX8_needed 40 = .ok (.iconst 0, 1) := by decide +kernel
theorem dX8_needed_41 : decode cX8_needed 41 = .ok (.iload_n 2, 1) := by decide +kernel
theorem dX8_needed_42 : decode cX8_needed 42 = .ok (.aload_n 0, 1) := by decide +kernel
theorem dX8_needed_43 : decode cX8_needed 43 = .ok (.getfield 10, 3) := by decide +kernel
theorem dX8_needed_46 : decode cX8_needed 46 = .ok (.invokevirtual 256, 3) := by decide +kernel
theorem dX8_needed_49 : decode cX8_needed 49 = .ok (.iconst 0, 1) := by decide +kernel
theorem dX8_needed_50 : decode cX8_needed 50 = .ok (.invokevirtual 210, 3) := by decide +kernel
theorem dX8_needed_53 : decode cX8_needed 53 = .ok (.isub, 1) := by decide +kernel
theorem dX8_needed_54 : decode cX8_needed 54 = .ok (.invokestatic 260, 3) := by decide +kernel
theorem dX8_needed_57 : decode cX8_needed 57 = .ok (.ireturn, 1) := by decide +kernel
set_option maxRecDepth 20000 in
theorem ggX8_result_X2_outcome : GoodIn wsX8_result wsX2_outcome := goodIn_ca (goodIn_ca (goodIn_r _ [6, 7, 8, 9, 10, 11, 5, 12, 13, 14, 15, 16, 17, 18, 19, 20, 21, 22, 23, 24, 25, 26, 27, 28, 29, 30, 31, 32, 33, 34, 35, 36, 37, 38, 39, 40, 41, 42, 43, 44, 45, 46, 47, 48, 49, 50, 51, 52, 53, 54, 55, 56, 57, 58, 59, 60, 61, 62, 63, 64, 65, 66, 67, 78, 79, 80, 81, 82, 83, 84, 85, 86, 87, 88, 89, 90, 91, 92, 93, 94, 95, 96, 97] (by decide +kernel) (by decide +kernel)) (goodIn_sub (fun _ h => List.mem_cons_of_mem _ (List.mem_append_left _ (List.mem_append_right _ h))) (by decide +kernel))) (goodIn_sub (fun _ h => List.mem_cons_of_mem _ (List.mem_append_right _ h)) (by decide +kernel))
set_option maxRecDepth 20000 in
theorem gX8_result_X2_outcome : GoodIn wsX8_result (wsV RX8 265 RX2 yX2_outcome wsX2_outcome) := goodIn_app (goodIn_of _ (by decide +kernel)) ggX8_result_X2_outcome
theorem dX8_result_0 : decode cX8_result 0 = .ok (.aload_n 0, 1) := by decide +kernel
theorem dX8_result_1 : decode cX8_result 1 = .ok (.getfield 10, 3) := by decide +kernel
theorem dX8_result_4 : decode cX8_result 4 = .ok (.invokevirtual 265, 3) := by decide +kernel
theorem dX8_result_7 : decode cX8_result 7 = .ok (.ireturn, 1) := by decide +kernel
set_option maxRecDepth 20000 in
theorem ggX8_runRate_X8_demandInnings : GoodIn wsX8_runRate wsX8_demandInnings := goodIn_ca (goodIn_r _ [8, 9, 10, 3, 11, 12, 13, 14, 15, 16, 17, 44, 45, 46, 47, 48, 49, 50, 51, 52, 53, 54, 55, 56, 57, 58, 59] (by decide +kernel) (by decide +kernel)) (goodIn_sub (fun _ h => List.mem_cons_of_mem _ (List.mem_append_left _ (List.mem_append_right _ h))) (by decide +kernel))
set_option maxRecDepth 20000 in
theorem gX8_runRate_X8_demandInnings : GoodIn wsX8_runRate (wsV RX8 200 RX8 yX8_demandInnings wsX8_demandInnings) := goodIn_app (goodIn_of _ (by decide +kernel)) ggX8_runRate_X8_demandInnings
set_option maxRecDepth 20000 in
theorem ggX8_runRate_X2_at : GoodIn wsX8_runRate wsX2_at := goodIn_r _ [21, 22, 23, 24, 25, 26, 27, 28, 29, 54, 55, 56, 57, 58, 59] (by decide +kernel) (by decide +kernel)
set_option maxRecDepth 20000 in
theorem gX8_runRate_X2_at : GoodIn wsX8_runRate (wsV RX8 206 RX2 yX2_at wsX2_at) := goodIn_app (goodIn_of _ (by decide +kernel)) ggX8_runRate_X2_at
set_option maxRecDepth 20000 in
theorem ggX8_runRate_X0_total : GoodIn wsX8_runRate wsX0_total := goodIn_ca (goodIn_r _ [34, 35, 36, 37, 38, 39, 40, 41, 42, 43, 60, 61, 62, 63, 64, 65, 66, 67, 68, 69, 70, 71, 72, 73] (by decide +kernel) (by decide +kernel)) (goodIn_sub (fun _ h => List.mem_cons_of_mem _ (List.mem_append_right _ h)) (by decide +kernel))
set_option maxRecDepth 20000 in
theorem gX8_runRate_X0_total : GoodIn wsX8_runRate (wsV RX8 210 RX0 yX0_total wsX0_total) := goodIn_app (goodIn_of _ (by decide +kernel)) ggX8_runRate_X0_total
theorem dX8_runRate_0 : decode cX8_runRate 0 = .ok (.aload_n 0, 1) := by decide +kernel
theorem dX8_runRate_1 : decode cX8_runRate 1 = .ok (.iload_n 1, 1) := by decide +kernel
theorem dX8_runRate_2 : decode cX8_runRate 2 = .ok (.invokevirtual 200, 3) := by decide +kernel
theorem dX8_runRate_5 : decode cX8_runRate 5 = .ok (.aload_n 0, 1) := by decide +kernel
theorem dX8_runRate_6 : decode cX8_runRate 6 = .ok (.getfield 10, 3) := by decide +kernel
theorem dX8_runRate_9 : decode cX8_runRate 9 = .ok (.iload_n 1, 1) := by decide +kernel
theorem dX8_runRate_10 : decode cX8_runRate 10 = .ok (.invokevirtual 206, 3) := by decide +kernel
theorem dX8_runRate_13 : decode cX8_runRate 13 = .ok (.iconst 2, 1) := by decide +kernel
theorem dX8_runRate_14 : decode cX8_runRate 14 = .ok (.invokevirtual 210, 3) := by decide +kernel
theorem dX8_runRate_17 : decode cX8_runRate 17 = .ok (.istore_n 2, 1) := by decide +kernel
theorem dX8_runRate_18 : decode cX8_runRate 18 = .ok (.iload_n 2, 1) := by decide +kernel
theorem dX8_runRate_19 : decode cX8_runRate 19 = .ok (.ifCond .ne 14, 3) := by decide +kernel
theorem dX8_runRate_22 : decode cX8_runRate 22 = .ok (.new 268, 3) := by decide +kernel
theorem dX8_runRate_25 : decode cX8_runRate 25 = .ok (.dup, 1) := by decide +kernel
theorem dX8_runRate_26 : decode cX8_runRate 26 = .ok (.ldc_w 270, 3) := by decide +kernel
theorem dX8_runRate_29 : decode cX8_runRate 29 = .ok (.invokespecial 272, 3) := by decide +kernel
theorem dX8_runRate_32 : decode cX8_runRate 32 = .ok (.athrow, 1) := by decide +kernel
theorem dX8_runRate_33 : decode cX8_runRate 33 = .ok (.aload_n 0, 1) := by decide +kernel
theorem dX8_runRate_34 : decode cX8_runRate 34 = .ok (.getfield 10, 3) := by decide +kernel
theorem dX8_runRate_37 : decode cX8_runRate 37 = .ok (.iload_n 1, 1) := by decide +kernel
theorem dX8_runRate_38 : decode cX8_runRate 38 = .ok (.invokevirtual 206, 3) := by decide +kernel
theorem dX8_runRate_41 : decode cX8_runRate 41 = .ok (.iconst 0, 1) := by decide +kernel
theorem dX8_runRate_42 : decode cX8_runRate 42 = .ok (.invokevirtual 210, 3) := by decide +kernel
theorem dX8_runRate_45 : decode cX8_runRate 45 = .ok (.bipush 6, 2) := by decide +kernel
theorem dX8_runRate_47 : decode cX8_runRate 47 = .ok (.imul, 1) := by decide +kernel
theorem dX8_runRate_48 : decode cX8_runRate 48 = .ok (.i2d, 1) := by decide +kernel
theorem dX8_runRate_49 : decode cX8_runRate 49 = .ok (.iload_n 2, 1) := by decide +kernel
theorem dX8_runRate_50 : decode cX8_runRate 50 = .ok (.i2d, 1) := by decide +kernel
theorem dX8_runRate_51 : decode cX8_runRate 51 = .ok (.ddiv, 1) := by decide +kernel
theorem dX8_runRate_52 : decode cX8_runRate 52 = .ok (.dreturn, 1) := by decide +kernel
set_option maxRecDepth 20000 in
theorem ggX8_strikeRate_X8_demandPlayer : GoodIn wsX8_strikeRate wsX8_demandPlayer := goodIn_ca (goodIn_r _ [9, 10, 11, 3, 12, 13, 14, 15, 16, 17, 18, 19, 20, 8, 21, 22, 23, 24, 45, 46, 47, 48, 49, 50, 51, 52, 53, 54, 66, 67, 68, 69, 70, 71] (by decide +kernel) (by decide +kernel)) (goodIn_sub (fun _ h => List.mem_cons_of_mem _ (List.mem_append_left _ (List.mem_append_right _ h))) (by decide +kernel))
set_option maxRecDepth 20000 in
theorem gX8_strikeRate_X8_demandPlayer : GoodIn wsX8_strikeRate (wsV RX8 213 RX8 yX8_demandPlayer wsX8_demandPlayer) := goodIn_app (goodIn_of _ (by decide +kernel)) ggX8_strikeRate_X8_demandPlayer
set_option maxRecDepth 20000 in
theorem ggX8_strikeRate_X2_at : GoodIn wsX8_strikeRate wsX2_at := goodIn_r _ [28, 29, 30, 31, 32, 33, 34, 35, 36, 66, 67, 68, 69, 70, 71] (by decide +kernel) (by decide +kernel)
set_option maxRecDepth 20000 in
theorem gX8_strikeRate_X2_at : GoodIn wsX8_strikeRate (wsV RX8 206 RX2 yX2_at wsX2_at) := goodIn_app (goodIn_of _ (by decide +kernel)) ggX8_strikeRate_X2_at
set_option maxRecDepth 20000 in
theorem ggX8_strikeRate_X6_get : GoodIn wsX8_strikeRate wsX6_get := goodIn_ca (goodIn_r _ [41, 42, 43, 44, 72, 73, 74] (by decide +kernel) (by decide +kernel)) (goodIn_sub (fun _ h => List.mem_cons_of_mem _ (List.mem_append_right _ h)) (by decide +kernel))
set_option maxRecDepth 20000 in
theorem gX8_strikeRate_X6_get : GoodIn wsX8_strikeRate (wsV RX8 221 RX6 yX6_get wsX6_get) := goodIn_app (goodIn_of _ (by decide +kernel)) ggX8_strikeRate_X6_get
theorem dX8_strikeRate_0 : decode cX8_strikeRate 0 = .ok (.aload_n 0, 1) := by decide +kernel
theorem dX8_strikeRate_1 : decode cX8_strikeRate 1 = .ok (.iload_n 1, 1) := by decide +kernel
theorem dX8_strikeRate_2 : decode cX8_strikeRate 2 = .ok (.iload_n 2, 1) := by decide +kernel
theorem dX8_strikeRate_3 : decode cX8_strikeRate 3 = .ok (.invokevirtual 213, 3) := by decide +kernel
theorem dX8_strikeRate_6 : decode cX8_strikeRate 6 = .ok (.aload_n 0, 1) := by decide +kernel
theorem dX8_strikeRate_7 : decode cX8_strikeRate 7 = .ok (.getfield 10, 3) := by decide +kernel
theorem dX8_strikeRate_10 : decode cX8_strikeRate 10 = .ok (.iload_n 1, 1) := by decide +kernel
theorem dX8_strikeRate_11 : decode cX8_strikeRate 11 = .ok (.invokevirtual 206, 3) := by decide +kernel
theorem dX8_strikeRate_14 : decode cX8_strikeRate 14 = .ok (.getfield 217, 3) := by decide +kernel
theorem dX8_strikeRate_17 : decode cX8_strikeRate 17 = .ok (.astore_n 3, 1) := by decide +kernel
theorem dX8_strikeRate_18 : decode cX8_strikeRate 18 = .ok (.aload_n 3, 1) := by decide +kernel
theorem dX8_strikeRate_19 : decode cX8_strikeRate 19 = .ok (.iload_n 2, 1) := by decide +kernel
theorem dX8_strikeRate_20 : decode cX8_strikeRate 20 = .ok (.iconst 1, 1) := by decide +kernel
theorem dX8_strikeRate_21 : decode cX8_strikeRate 21 = .ok (.invokevirtual 221, 3) := by decide +kernel
theorem dX8_strikeRate_24 : decode cX8_strikeRate 24 = .ok (.istore 4, 2) := by decide +kernel
theorem dX8_strikeRate_26 : decode cX8_strikeRate 26 = .ok (.iload 4, 2) := by decide +kernel
theorem dX8_strikeRate_28 : decode cX8_strikeRate 28 = .ok (.ifCond .ne 14, 3) := by decide +kernel
theorem dX8_strikeRate_31 : decode cX8_strikeRate 31 = .ok (.new 268, 3) := by decide +kernel
theorem dX8_strikeRate_34 : decode cX8_strikeRate 34 = .ok (.dup, 1) := by decide +kernel
theorem dX8_strikeRate_35 : decode cX8_strikeRate 35 = .ok (.ldc_w 273, 3) := by decide +kernel
theorem dX8_strikeRate_38 : decode cX8_strikeRate 38 = .ok (.invokespecial 272, 3) := by decide +kernel
theorem dX8_strikeRate_41 : decode cX8_strikeRate 41 = .ok (.athrow, 1) := by decide +kernel
theorem dX8_strikeRate_42 : decode cX8_strikeRate 42 = .ok (.aload_n 3, 1) := by decide +kernel
theorem dX8_strikeRate_43 : decode cX8_strikeRate 43 = .ok (.iload_n 2, 1) := by decide +kernel
theorem dX8_strikeRate_44 : decode cX8_strikeRate 44 = .ok (.iconst 0, 1) := by decide +kernel
theorem dX8_strikeRate_45 : decode cX8_strikeRate 45 = .ok (.invokevirtual 221, 3) := by decide +kernel
theorem dX8_strikeRate_48 : decode cX8_strikeRate 48 = .ok (.bipush 100, 2) := by decide +kernel
theorem dX8_strikeRate_50 : decode cX8_strikeRate 50 = .ok (.imul, 1) := by decide +kernel
theorem dX8_strikeRate_51 : decode cX8_strikeRate 51 = .ok (.i2f, 1) := by decide +kernel
theorem dX8_strikeRate_52 : decode cX8_strikeRate 52 = .ok (.iload 4, 2) := by decide +kernel
theorem dX8_strikeRate_54 : decode cX8_strikeRate 54 = .ok (.i2f, 1) := by decide +kernel
theorem dX8_strikeRate_55 : decode cX8_strikeRate 55 = .ok (.fdiv, 1) := by decide +kernel
theorem dX8_strikeRate_56 : decode cX8_strikeRate 56 = .ok (.freturn, 1) := by decide +kernel
set_option maxRecDepth 20000 in
theorem ggX8_storeOvers_X8_demandRow : GoodIn wsX8_storeOvers wsX8_demandRow := goodIn_ca (goodIn_r _ [5, 6, 7, 8, 9, 4, 10] (by decide +kernel) (by decide +kernel)) (goodIn_sub (fun _ h => List.mem_cons_of_mem _ (List.mem_append_left _ (List.mem_append_right _ h))) (by decide +kernel))
set_option maxRecDepth 20000 in
theorem gX8_storeOvers_X8_demandRow : GoodIn wsX8_storeOvers (va_wsS RX8 275 yX8_demandRow wsX8_demandRow) := goodIn_app (goodIn_of _ (by decide +kernel)) ggX8_storeOvers_X8_demandRow
set_option maxRecDepth 20000 in
theorem ggX8_storeOvers_X8_demandInnings : GoodIn wsX8_storeOvers wsX8_demandInnings := goodIn_ca (goodIn_r _ [14, 6, 7, 1, 15, 16, 17, 18, 19, 20, 21, 76, 77, 78, 79, 80, 81, 82, 83, 84, 85, 86, 87, 88, 89, 90, 91] (by decide +kernel) (by decide +kernel)) (goodIn_sub (fun _ h => List.mem_cons_of_mem _ (List.mem_append_left _ (List.mem_append_right _ h))) (by decide +kernel))
set_option maxRecDepth 20000 in
theorem gX8_storeOvers_X8_demandInnings : GoodIn wsX8_storeOvers (wsV RX8 200 RX8 yX8_demandInnings wsX8_demandInnings) := goodIn_app (goodIn_of _ (by decide +kernel)) ggX8_storeOvers_X8_demandInnings
set_option maxRecDepth 20000 in
theorem ggX8_storeOvers_X8_rowAt : GoodIn wsX8_storeOvers wsX8_rowAt := goodIn_r _ [25, 26, 27, 76, 77, 78, 79, 80, 81, 82, 83, 84, 85] (by decide +kernel) (by decide +kernel)
set_option maxRecDepth 20000 in
theorem gX8_storeOvers_X8_rowAt : GoodIn wsX8_storeOvers (wsV RX8 278 RX8 yX8_rowAt wsX8_rowAt) := goodIn_app (goodIn_of _ (by decide +kernel)) ggX8_storeOvers_X8_rowAt
set_option maxRecDepth 20000 in
theorem ggX8_storeOvers_X2_at : GoodIn wsX8_storeOvers wsX2_at := goodIn_r _ [31, 32, 33, 34, 35, 36, 37, 38, 39, 86, 87, 88, 89, 90, 91] (by decide +kernel) (by decide +kernel)
set_option maxRecDepth 20000 in
theorem gX8_storeOvers_X2_at : GoodIn wsX8_storeOvers (wsV RX8 206 RX2 yX2_at wsX2_at) := goodIn_app (goodIn_of _ (by decide +kernel)) ggX8_storeOvers_X2_at
set_option maxRecDepth 20000 in
theorem ggX8_storeOvers_X4_store : GoodIn wsX8_storeOvers wsX4_store := goodIn_ca (goodIn_r _ [44, 45, 46, 47, 48, 49, 50, 51, 52, 53, 54, 55, 56, 57, 58, 59, 60, 61, 62, 63, 64, 65, 66, 67, 68, 69, 70, 71, 72, 73, 74, 75, 92, 93, 94, 95, 96, 97, 98, 99, 100, 101, 102, 103, 104, 105, 106, 107, 108, 109, 110, 111, 112, 113, 114, 115, 116, 117, 118] (by decide +kernel) (by decide +kernel)) (goodIn_sub (fun _ h => List.mem_cons_of_mem _ (List.mem_append_right _ h)) (by decide +kernel))
set_option maxRecDepth 20000 in
theorem gX8_storeOvers_X4_store : GoodIn wsX8_storeOvers (wsV RX8 282 RX4 yX4_store wsX4_store) := goodIn_app (goodIn_of _ (by decide +kernel)) ggX8_storeOvers_X4_store
theorem dX8_storeOvers_0 : decode cX8_storeOvers 0 = .ok (.iload_n 1, 1) := by decide +kernel
theorem dX8_storeOvers_1 : decode cX8_storeOvers 1 = .ok (.invokestatic 275, 3) := by decide +kernel
theorem dX8_storeOvers_4 : decode cX8_storeOvers 4 = .ok (.aload_n 0, 1) := by decide +kernel
theorem dX8_storeOvers_5 : decode cX8_storeOvers 5 = .ok (.iload_n 2, 1) := by decide +kernel
theorem dX8_storeOvers_6 : decode cX8_storeOvers 6 = .ok (.invokevirtual 200, 3) := by decide +kernel
theorem dX8_storeOvers_9 : decode cX8_storeOvers 9 = .ok (.aload_n 0, 1) := by decide +kernel
theorem dX8_storeOvers_10 : decode cX8_storeOvers 10 = .ok (.iload_n 1, 1) := by decide +kernel
theorem dX8_storeOvers_11 : decode cX8_storeOvers 11 = .ok (.invokevirtual 278, 3) := by decide +kernel
theorem dX8_storeOvers_14 : decode cX8_storeOvers 14 = .ok (.aload_n 0, 1) := by decide +kernel
theorem dX8_storeOvers_15 : decode cX8_storeOvers 15 = .ok (.getfield 10, 3) := by decide +kernel
theorem dX8_storeOvers_18 : decode cX8_storeOvers 18 = .ok (.iload_n 2, 1) := by decide +kernel
theorem dX8_storeOvers_19 : decode cX8_storeOvers 19 = .ok (.invokevirtual 206, 3) := by decide +kernel
theorem dX8_storeOvers_22 : decode cX8_storeOvers 22 = .ok (.iload_n 3, 1) := by decide +kernel
theorem dX8_storeOvers_23 : decode cX8_storeOvers 23 = .ok (.invokevirtual 282, 3) := by decide +kernel
theorem dX8_storeOvers_26 : decode cX8_storeOvers 26 = .ok (.ireturn, 1) := by decide +kernel
set_option maxRecDepth 20000 in
theorem ggX8_copyOvers_X8_demandRow : GoodIn wsX8_copyOvers wsX8_demandRow := goodIn_ca (goodIn_r _ [13, 14, 15, 16, 17, 12, 18] (by decide +kernel) (by decide +kernel)) (goodIn_sub (fun _ h => List.mem_cons_of_mem _ (List.mem_append_left _ (List.mem_append_right _ h))) (by decide +kernel))
set_option maxRecDepth 20000 in
theorem gX8_copyOvers_X8_demandRow : GoodIn wsX8_copyOvers (va_wsS RX8 275 yX8_demandRow wsX8_demandRow) := goodIn_app (goodIn_of _ (by decide +kernel)) ggX8_copyOvers_X8_demandRow
set_option maxRecDepth 20000 in
theorem ggX8_copyOvers_X8_rowAt : GoodIn wsX8_copyOvers wsX8_rowAt := goodIn_r _ [22, 23, 24, 39, 40, 41, 42, 43, 44, 45, 46, 47, 48] (by decide +kernel) (by decide +kernel)
set_option maxRecDepth 20000 in
theorem gX8_copyOvers_X8_rowAt : GoodIn wsX8_copyOvers (wsV RX8 278 RX8 yX8_rowAt wsX8_rowAt) := goodIn_app (goodIn_of _ (by decide +kernel)) ggX8_copyOvers_X8_rowAt
set_option maxRecDepth 20000 in
theorem ggX8_copyOvers_X4_take : GoodIn wsX8_copyOvers wsX4_take := goodIn_ca (goodIn_r _ [29, 30, 31, 32, 33, 28, 34, 35, 36, 37, 38] (by decide +kernel) (by decide +kernel)) (goodIn_sub (fun _ h => List.mem_cons_of_mem _ (List.mem_append_right _ h)) (by decide +kernel))
set_option maxRecDepth 20000 in
theorem gX8_copyOvers_X4_take : GoodIn wsX8_copyOvers (wsV RX8 302 RX4 yX4_take wsX4_take) := goodIn_app (goodIn_of _ (by decide +kernel)) ggX8_copyOvers_X4_take
theorem dX8_copyOvers_0 : decode cX8_copyOvers 0 = .ok (.iload_n 1, 1) := by decide +kernel
theorem dX8_copyOvers_1 : decode cX8_copyOvers 1 = .ok (.invokestatic 275, 3) := by decide +kernel
theorem dX8_copyOvers_4 : decode cX8_copyOvers 4 = .ok (.aload_n 0, 1) := by decide +kernel
theorem dX8_copyOvers_5 : decode cX8_copyOvers 5 = .ok (.iload_n 1, 1) := by decide +kernel
theorem dX8_copyOvers_6 : decode cX8_copyOvers 6 = .ok (.invokevirtual 278, 3) := by decide +kernel
theorem dX8_copyOvers_9 : decode cX8_copyOvers 9 = .ok (.astore_n 3, 1) := by decide +kernel
theorem dX8_copyOvers_10 : decode cX8_copyOvers 10 = .ok (.aload_n 0, 1) := by decide +kernel
theorem dX8_copyOvers_11 : decode cX8_copyOvers 11 = .ok (.iconst 1, 1) := by decide +kernel
theorem dX8_copyOvers_12 : decode cX8_copyOvers 12 = .ok (.iload_n 1, 1) := by decide +kernel
theorem dX8_copyOvers_13 : decode cX8_copyOvers 13 = .ok (.isub, 1) := by decide +kernel
theorem dX8_copyOvers_14 : decode cX8_copyOvers 14 = .ok (.invokevirtual 278, 3) := by decide +kernel
theorem dX8_copyOvers_17 : decode cX8_copyOvers 17 = .ok (.astore 4, 2) := by decide +kernel
theorem dX8_copyOvers_19 : decode cX8_copyOvers 19 = .ok (.aload_n 3, 1) := by decide +kernel
theorem dX8_copyOvers_20 : decode cX8_copyOvers 20 = .ok (.getfield 286, 3) := by decide +kernel
theorem dX8_copyOvers_23 : decode cX8_copyOvers 23 = .ok (.ifCond .eq 11, 3) := by decide +kernel
theorem dX8_copyOvers_26 : decode cX8_copyOvers 26 = .ok (.aload 4, 2) := by decide +kernel
theorem dX8_copyOvers_28 : decode cX8_copyOvers 28 = .ok (.getfield 286, 3) := by decide +kernel
theorem dX8_copyOvers_31 : decode cX8_copyOvers 31 = .ok (.ifCond .ne 14, 3) := by decide +kernel
theorem dX8_copyOvers_34 : decode cX8_copyOvers 34 = .ok (.new 185, 3) := by decide +kernel
theorem dX8_copyOvers_37 : decode cX8_copyOvers 37 = .ok (.dup, 1) := by decide +kernel
theorem dX8_copyOvers_38 : decode cX8_copyOvers 38 = .ok (.ldc_w 290, 3) := by decide +kernel
theorem dX8_copyOvers_41 : decode cX8_copyOvers 41 = .ok (.invokespecial 189, 3) := by decide +kernel
theorem dX8_copyOvers_44 : decode cX8_copyOvers 44 = .ok (.athrow, 1) := by decide +kernel
theorem dX8_copyOvers_45 : decode cX8_copyOvers 45 = .ok (.aload_n 3, 1) := by decide +kernel
theorem dX8_copyOvers_46 : decode cX8_copyOvers 46 = .ok (.getfield 292, 3) := by decide +kernel
theorem dX8_copyOvers_49 : decode cX8_copyOvers 49 = .ok (.aload 4, 2) := by decide +kernel
theorem dX8_copyOvers_51 : decode cX8_copyOvers 51 = .ok (.getfield 292, 3) := by decide +kernel
theorem dX8_copyOvers_54 : decode cX8_copyOvers 54 = .ok (.if_icmp .eq 14, 3) := by decide +kernel
theorem dX8_copyOvers_57 : decode cX8_copyOvers 57 = .ok (.new 155, 3) := by decide +kernel
theorem dX8_copyOvers_60 : decode cX8_copyOvers 60 = .ok (.dup, 1) := by decide +kernel
theorem dX8_copyOvers_61 : decode cX8_copyOvers 61 = .ok (.ldc_w 295, 3) := by decide +kernel
theorem dX8_copyOvers_64 : decode cX8_copyOvers 64 = .ok (.invokespecial 159, 3) := by decide +kernel
theorem dX8_copyOvers_67 : decode cX8_copyOvers 67 = .ok (.athrow, 1) := by decide +kernel
theorem dX8_copyOvers_68 : decode cX8_copyOvers 68 = .ok (.iload_n 2, 1) := by decide +kernel
theorem dX8_copyOvers_69 : decode cX8_copyOvers 69 = .ok (.ifCond .lt 20, 3) := by decide +kernel
theorem dX8_copyOvers_72 : decode cX8_copyOvers 72 = .ok (.iload_n 2, 1) := by decide +kernel
theorem dX8_copyOvers_73 : decode cX8_copyOvers 73 = .ok (.aload_n 3, 1) := by decide +kernel
theorem dX8_copyOvers_74 : decode cX8_copyOvers 74 = .ok (.getfield 297, 3) := by decide +kernel
theorem dX8_copyOvers_77 : decode cX8_copyOvers 77 = .ok (.if_icmp .gt 12, 3) := by decide +kernel
theorem dX8_copyOvers_80 : decode cX8_copyOvers 80 = .ok (.iload_n 2, 1) := by decide +kernel
theorem dX8_copyOvers_81 : decode cX8_copyOvers 81 = .ok (.aload 4, 2) := by decide +kernel
theorem dX8_copyOvers_83 : decode cX8_copyOvers 83 = .ok (.getfield 297, 3) := by decide +kernel
theorem dX8_copyOvers_86 : decode cX8_copyOvers 86 = .ok (.if_icmp .le 14, 3) := by decide +kernel
theorem dX8_copyOvers_89 : decode cX8_copyOvers 89 = .ok (.new 60, 3) := by decide +kernel
theorem dX8_copyOvers_92 : decode cX8_copyOvers 92 = .ok (.dup, 1) := by decide +kernel
theorem dX8_copyOvers_93 : decode cX8_copyOvers 93 = .ok (.ldc_w 300, 3) := by decide +kernel
theorem dX8_copyOvers_96 : decode cX8_copyOvers 96 = .ok (.invokespecial 64, 3) := by decide +kernel
theorem dX8_copyOvers_99 : decode cX8_copyOvers 99 = .ok (.athrow, 1) := by decide +kernel
theorem dX8_copyOvers_100 : decode cX8_copyOvers 100 = .ok (.aload 4, 2) := by decide +kernel
theorem dX8_copyOvers_102 : decode cX8_copyOvers 102 = .ok (.aload_n 3, 1) := by decide +kernel
theorem dX8_copyOvers_103 : decode cX8_copyOvers 103 = .ok (.iload_n 2, 1) := by decide +kernel
theorem dX8_copyOvers_104 : decode cX8_copyOvers 104 = .ok (.invokevirtual 302, 3) := by decide +kernel
theorem dX8_copyOvers_107 : decode cX8_copyOvers 107 = .ok (.ireturn, 1) := by decide +kernel
set_option maxRecDepth 20000 in
theorem ggX8_storedOvers_X8_demandRow : GoodIn wsX8_storedOvers wsX8_demandRow := goodIn_ca (goodIn_r _ [6, 7, 8, 9, 10, 5, 11] (by decide +kernel) (by decide +kernel)) (goodIn_sub (fun _ h => List.mem_cons_of_mem _ (List.mem_append_left _ (List.mem_append_right _ h))) (by decide +kernel))
set_option maxRecDepth 20000 in
theorem gX8_storedOvers_X8_demandRow : GoodIn wsX8_storedOvers (va_wsS RX8 275 yX8_demandRow wsX8_demandRow) := goodIn_app (goodIn_of _ (by decide +kernel)) ggX8_storedOvers_X8_demandRow
set_option maxRecDepth 20000 in
theorem ggX8_storedOvers_X8_rowAt : GoodIn wsX8_storedOvers wsX8_rowAt := goodIn_r _ [15, 16, 17, 30, 31, 32, 33, 34, 35, 36, 37, 38, 39] (by decide +kernel) (by decide +kernel)
set_option maxRecDepth 20000 in
theorem gX8_storedOvers_X8_rowAt : GoodIn wsX8_storedOvers (wsV RX8 278 RX8 yX8_rowAt wsX8_rowAt) := goodIn_app (goodIn_of _ (by decide +kernel)) ggX8_storedOvers_X8_rowAt
set_option maxRecDepth 20000 in
theorem ggX8_storedOvers_X4_has : GoodIn wsX8_storedOvers wsX4_has := goodIn_r _ [22, 23, 24, 40, 41, 42, 43] (by decide +kernel) (by decide +kernel)
set_option maxRecDepth 20000 in
theorem gX8_storedOvers_X4_has : GoodIn wsX8_storedOvers (wsV RX8 306 RX4 yX4_has wsX4_has) := goodIn_app (goodIn_of _ (by decide +kernel)) ggX8_storedOvers_X4_has
set_option maxRecDepth 20000 in
theorem ggX8_storedOvers_X4_get : GoodIn wsX8_storedOvers wsX4_get := goodIn_ca (goodIn_r _ [28, 29, 40, 41, 42, 43] (by decide +kernel) (by decide +kernel)) (goodIn_sub (fun _ h => List.mem_cons_of_mem _ (List.mem_append_right _ h)) (by decide +kernel))
set_option maxRecDepth 20000 in
theorem gX8_storedOvers_X4_get : GoodIn wsX8_storedOvers (wsV RX8 311 RX4 yX4_get wsX4_get) := goodIn_app (goodIn_of _ (by decide +kernel)) ggX8_storedOvers_X4_get
theorem dX8_storedOvers_0 : decode cX8_storedOvers 0 = .ok (.iload_n 1, 1) := by decide +kernel
theorem dX8_storedOvers_1 : decode cX8_storedOvers 1 = .ok (.invokestatic 275, 3) := by decide +kernel
theorem dX8_storedOvers_4 : decode cX8_storedOvers 4 = .ok (.aload_n 0, 1) := by decide +kernel
theorem dX8_storedOvers_5 : decode cX8_storedOvers 5 = .ok (.iload_n 1, 1) := by decide +kernel
theorem dX8_storedOvers_6 : decode cX8_storedOvers 6 = .ok (.invokevirtual 278, 3) := by decide +kernel
theorem dX8_storedOvers_9 : decode cX8_storedOvers 9 = .ok (.iload_n 2, 1) := by decide +kernel
theorem dX8_storedOvers_10 : decode cX8_storedOvers 10 = .ok (.invokevirtual 306, 3) := by decide +kernel
theorem dX8_storedOvers_13 : decode cX8_storedOvers 13 = .ok (.ifCond .ne 14, 3) := by decide +kernel
theorem dX8_storedOvers_16 : decode cX8_storedOvers 16 = .ok (.new 185, 3) := by decide +kernel
theorem dX8_storedOvers_19 : decode cX8_storedOvers 19 = .ok (.dup, 1) := by decide +kernel
theorem dX8_storedOvers_20 : decode cX8_storedOvers 20 = .ok (.ldc_w 309, 3) := by decide +kernel
theorem dX8_storedOvers_23 : decode cX8_storedOvers 23 = .ok (.invokespecial 189, 3) := by decide +kernel
theorem dX8_storedOvers_26 : decode cX8_storedOvers 26 = .ok (.athrow, 1) := by decide +kernel
theorem dX8_storedOvers_27 : decode cX8_storedOvers 27 = .ok (.aload_n 0, 1) := by decide +kernel
theorem dX8_storedOvers_28 : decode cX8_storedOvers 28 = .ok (.iload_n 1, 1) := by decide +kernel
theorem dX8_storedOvers_29 : decode cX8_storedOvers 29 = .ok (.invokevirtual 278, 3) := by decide +kernel
theorem dX8_storedOvers_32 : decode cX8_storedOvers 32 = .ok (.iload_n 2, 1) := by decide +kernel
theorem dX8_storedOvers_33 : decode cX8_storedOvers 33 = .ok (.invokevirtual 311, 3) := by decide +kernel
theorem dX8_storedOvers_36 : decode cX8_storedOvers 36 = .ok (.freturn, 1) := by decide +kernel
theorem dX8_reason_0 : decode cX8_reason 0 = .ok (.aload_n 0, 1) := by decide +kernel
theorem dX8_reason_1 : decode cX8_reason 1 = .ok (.getfield 53, 3) := by decide +kernel
theorem dX8_reason_4 : decode cX8_reason 4 = .ok (.ireturn, 1) := by decide +kernel
theorem dX8_commandCount_0 : decode cX8_commandCount 0 = .ok (.aload_n 0, 1) := by decide +kernel
theorem dX8_commandCount_1 : decode cX8_commandCount 1 = .ok (.getfield 22, 3) := by decide +kernel
theorem dX8_commandCount_4 : decode cX8_commandCount 4 = .ok (.getfield 314, 3) := by decide +kernel
theorem dX8_commandCount_7 : decode cX8_commandCount 7 = .ok (.ireturn, 1) := by decide +kernel
set_option maxRecDepth 20000 in
theorem ggX8_undo_X1_dropCommand : GoodIn wsX8_undo wsX1_dropCommand := goodIn_ca (goodIn_r _ [11, 12, 13, 14, 15, 304, 305, 306, 307, 308, 309, 310, 311, 312] (by decide +kernel) (by decide +kernel)) (goodIn_sub (fun _ h => List.mem_cons_of_mem _ (List.mem_append_left _ (List.mem_append_right _ h))) (by decide +kernel))
set_option maxRecDepth 20000 in
theorem gX8_undo_X1_dropCommand : GoodIn wsX8_undo (wsV RX8 322 RX1 yX1_dropCommand wsX1_dropCommand) := goodIn_app (goodIn_of _ (by decide +kernel)) ggX8_undo_X1_dropCommand
set_option maxRecDepth 20000 in
theorem ggX8_undo_X2_follow : GoodIn wsX8_undo wsX2_follow := goodIn_ca (goodIn_ca (goodIn_r _ [20, 21, 22, 23, 24, 25, 26, 27, 28, 29, 30, 31, 32, 10, 33, 34, 35, 36, 37, 19, 38, 39, 40, 41, 42, 43, 44, 45, 46, 47, 48, 49, 50, 51, 52, 53, 54, 55, 56, 57, 58, 59, 60, 61, 62, 63, 64, 65, 66, 67, 68, 69, 70, 71, 72, 73, 74, 75, 76, 77, 78, 79, 80, 81, 82, 83, 84, 85, 86, 87, 88, 89, 90, 91, 92, 93, 94, 95, 96, 97, 98, 99, 100, 101, 102, 103, 104, 105, 106, 107, 108, 109, 110, 111, 112, 113, 114, 115, 116, 117, 118, 119, 120, 121, 122, 123, 124, 125, 126, 127, 15, 128, 129, 130, 131, 132, 133, 134, 135, 136, 137, 138, 139, 140, 141, 142, 143, 144, 145, 146, 147, 148, 149, 150, 151, 152, 153, 154, 155, 156, 157, 158, 159, 160, 161, 162, 163, 164, 165, 166, 167, 168, 169, 170, 171, 172, 173, 174, 175, 176, 177, 178, 179, 180, 181, 182, 183, 184, 185, 186, 187, 188, 189, 190, 191, 192, 193, 194, 195, 196, 197, 198, 199, 200, 201, 202, 203, 204, 205, 206, 207, 208, 209, 210, 211, 212, 213, 214, 215, 216, 217, 218, 219, 220, 221, 222, 223, 224, 225, 226, 227, 228, 229, 230, 231, 232, 233, 234, 235, 236, 237, 238, 239, 240, 241, 242, 243, 244, 245, 246, 247, 248, 249, 250, 251, 252, 253, 254, 255, 256, 257, 258, 259, 260, 261, 262, 263, 264, 265, 266, 267, 268, 269, 270, 271, 272, 273, 274, 275, 276, 277, 278, 279, 280, 281, 282, 283, 284, 285, 286, 287, 288, 289, 290, 291, 292, 293, 313, 314, 315, 316, 317, 318, 304, 305, 306, 307, 308, 309, 310, 311, 312, 319, 320, 321, 322, 323, 324, 325, 326, 327, 328, 329, 330, 331, 332, 333, 334, 335, 336, 337, 338, 339, 340, 341, 342, 343, 344, 345, 346, 347, 348, 349, 350] (by decide +kernel) (by decide +kernel)) (goodIn_sub (fun _ h => List.mem_cons_of_mem _ (List.mem_append_left _ (List.mem_append_right _ h))) (by decide +kernel))) (goodIn_sub (fun _ h => List.mem_cons_of_mem _ (List.mem_append_right _ h)) (by decide +kernel))
set_option maxRecDepth 20000 in
theorem gX8_undo_X2_follow : GoodIn wsX8_undo (wsV RX8 71 RX2 yX2_follow wsX2_follow) := goodIn_app (goodIn_of _ (by decide +kernel)) ggX8_undo_X2_follow
theorem dX8_undo_0 : decode cX8_undo 0 = .ok (.aload_n 0, 1) := by decide +kernel
theorem dX8_undo_1 : decode cX8_undo 1 = .ok (.getfield 22, 3) := by decide +kernel
theorem dX8_undo_4 : decode cX8_undo 4 = .ok (.getfield 317, 3) := by decide +kernel
theorem dX8_undo_7 : decode cX8_undo 7 = .ok (.ifCond .ne 20, 3) := by decide +kernel
theorem dX8_undo_10 : decode cX8_undo 10 = .ok (.aload_n 0, 1) := by decide +kernel
theorem dX8_undo_11 : decode cX8_undo 11 = .ok (.bipush 7, 2) := by decide +kernel
theorem dX8_undo_13 : decode cX8_undo 13 = .ok (.putfield 53, 3) := by decide +kernel
theorem dX8_undo_16 : decode cX8_undo 16 = .ok (.new 131, 3) := by decide +kernel
theorem dX8_undo_19 : decode cX8_undo 19 = .ok (.dup, 1) := by decide +kernel
theorem dX8_undo_20 : decode cX8_undo 20 = .ok (.ldc_w 320, 3) := by decide +kernel
theorem dX8_undo_23 : decode cX8_undo 23 = .ok (.invokespecial 135, 3) := by decide +kernel
theorem dX8_undo_26 : decode cX8_undo 26 = .ok (.athrow, 1) := by decide +kernel
theorem dX8_undo_27 : decode cX8_undo 27 = .ok (.aload_n 0, 1) := by decide +kernel
theorem dX8_undo_28 : decode cX8_undo 28 = .ok (.getfield 22, 3) := by decide +kernel
theorem dX8_undo_31 : decode cX8_undo 31 = .ok (.invokevirtual 322, 3) := by decide +kernel
theorem dX8_undo_34 : decode cX8_undo 34 = .ok (.aload_n 0, 1) := by decide +kernel
theorem dX8_undo_35 : decode cX8_undo 35 = .ok (.getfield 10, 3) := by decide +kernel
theorem dX8_undo_38 : decode cX8_undo 38 = .ok (.aload_n 0, 1) := by decide +kernel
theorem dX8_undo_39 : decode cX8_undo 39 = .ok (.getfield 22, 3) := by decide +kernel
theorem dX8_undo_42 : decode cX8_undo 42 = .ok (.invokevirtual 71, 3) := by decide +kernel
theorem dX8_undo_45 : decode cX8_undo 45 = .ok (.aload_n 0, 1) := by decide +kernel
theorem dX8_undo_46 : decode cX8_undo 46 = .ok (.getfield 22, 3) := by decide +kernel
theorem dX8_undo_49 : decode cX8_undo 49 = .ok (.getfield 317, 3) := by decide +kernel
theorem dX8_undo_52 : decode cX8_undo 52 = .ok (.ireturn, 1) := by decide +kernel
set_option maxRecDepth 20000 in
theorem ggX8_isReplayed_X8_demandMatch : GoodIn wsX8_isReplayed wsX8_demandMatch := goodIn_ca (goodIn_r _ [8, 9, 10, 2, 11, 12, 13, 14, 15, 16, 17, 314, 315, 316, 317, 318, 319, 320, 321, 322, 323, 324, 325, 326, 327, 328, 329, 330, 331, 332] (by decide +kernel) (by decide +kernel)) (goodIn_sub (fun _ h => List.mem_cons_of_mem _ (List.mem_append_left _ (List.mem_append_left _ (List.mem_append_right _ h)))) (by decide +kernel))
set_option maxRecDepth 20000 in
theorem gX8_isReplayed_X8_demandMatch : GoodIn wsX8_isReplayed (wsV RX8 194 RX8 yX8_demandMatch wsX8_demandMatch) := goodIn_app (goodIn_of _ (by decide +kernel)) ggX8_isReplayed_X8_demandMatch
set_option maxRecDepth 20000 in
theorem ggX8_isReplayed_X2_follow : GoodIn wsX8_isReplayed wsX2_follow := goodIn_ca (goodIn_ca (goodIn_r _ [22, 23, 24, 25, 26, 27, 28, 29, 30, 31, 32, 13, 14, 15, 16, 17, 33, 34, 35, 21, 36, 37, 38, 39, 40, 41, 42, 43, 44, 45, 46, 47, 48, 49, 50, 51, 52, 53, 54, 55, 56, 57, 58, 59, 60, 61, 62, 63, 64, 65, 66, 67, 68, 69, 70, 71, 72, 73, 74, 75, 76, 77, 78, 79, 80, 81, 82, 83, 84, 85, 86, 87, 88, 89, 90, 91, 92, 93, 94, 95, 96, 97, 98, 99, 100, 101, 102, 103, 104, 105, 106, 107, 108, 109, 110, 111, 112, 113, 114, 115, 116, 117, 118, 119, 120, 121, 122, 123, 124, 125, 126, 127, 128, 129, 130, 131, 132, 133, 134, 135, 136, 137, 138, 139, 140, 141, 142, 143, 144, 145, 146, 147, 148, 149, 150, 151, 152, 153, 154, 155, 156, 157, 158, 159, 160, 161, 162, 163, 164, 165, 166, 167, 168, 169, 170, 171, 172, 173, 174, 175, 176, 177, 178, 179, 180, 181, 182, 183, 184, 185, 186, 187, 188, 189, 190, 191, 192, 193, 194, 195, 196, 197, 198, 199, 200, 201, 202, 203, 204, 205, 206, 207, 208, 209, 210, 211, 212, 213, 214, 215, 216, 217, 218, 219, 220, 221, 222, 223, 224, 225, 226, 227, 228, 229, 230, 231, 232, 233, 234, 235, 236, 237, 238, 239, 240, 241, 242, 243, 244, 245, 246, 247, 248, 249, 250, 251, 252, 253, 254, 255, 256, 257, 258, 259, 260, 261, 262, 263, 264, 265, 266, 267, 268, 269, 270, 271, 272, 273, 274, 275, 276, 277, 278, 279, 280, 281, 282, 283, 284, 285, 286, 287, 288, 289, 290, 291, 292, 333, 334, 335, 336, 337, 338, 324, 325, 326, 327, 328, 329, 330, 331, 332, 339, 340, 341, 342, 343, 344, 345, 346, 347, 348, 349, 350, 351, 352, 353, 354, 355, 356, 357, 358, 359, 360, 361, 362, 363, 364, 365, 366, 367, 368, 369, 370] (by decide +kernel) (by decide +kernel)) (goodIn_sub (fun _ h => List.mem_cons_of_mem _ (List.mem_append_left _ (List.mem_append_right _ h))) (by decide +kernel))) (goodIn_sub (fun _ h => List.mem_cons_of_mem _ (List.mem_append_right _ h)) (by decide +kernel))
set_option maxRecDepth 20000 in
theorem gX8_isReplayed_X2_follow : GoodIn wsX8_isReplayed (wsV RX8 71 RX2 yX2_follow wsX2_follow) := goodIn_app (goodIn_of _ (by decide +kernel)) ggX8_isReplayed_X2_follow
set_option maxRecDepth 20000 in
theorem ggX8_isReplayed_X2_isLike : GoodIn wsX8_isReplayed wsX2_isLike := goodIn_ca (goodIn_r _ [296, 23, 24, 26, 28, 29, 37, 38, 39, 21, 40, 41, 42, 43, 44, 45, 46, 47, 48, 297, 298, 299, 56, 300, 58, 59, 60, 61, 62, 63, 64, 65, 66, 67, 68, 301, 302, 303, 72, 304, 74, 79, 305, 108, 109, 110, 80, 306, 307, 308, 84, 309, 88, 86, 87, 94, 89, 95, 96, 97, 310, 311, 312, 313, 218, 333, 334, 335, 336, 337, 338, 339, 340, 341, 342, 343, 344, 345, 346, 347, 348, 349, 350, 351, 352, 353, 354, 355, 356, 357, 358, 359, 360, 361] (by decide +kernel) (by decide +kernel)) (goodIn_sub (fun _ h => List.mem_cons_of_mem _ (List.mem_append_left _ (List.mem_append_right _ h))) (by decide +kernel))
set_option maxRecDepth 20000 in
theorem gX8_isReplayed_X2_isLike : GoodIn wsX8_isReplayed (wsV RX8 325 RX2 yX2_isLike wsX2_isLike) := goodIn_app (goodIn_of _ (by decide +kernel)) ggX8_isReplayed_X2_isLike
theorem dX8_isReplayed_0 : decode cX8_isReplayed 0 = .ok (.aload_n 0, 1) := by decide +kernel
theorem dX8_isReplayed_1 : decode cX8_isReplayed 1 = .ok (.invokevirtual 194, 3) := by decide +kernel
theorem dX8_isReplayed_4 : decode cX8_isReplayed 4 = .ok (.aload_n 0, 1) := by decide +kernel
theorem dX8_isReplayed_5 : decode cX8_isReplayed 5 = .ok (.getfield 16, 3) := by decide +kernel
theorem dX8_isReplayed_8 : decode cX8_isReplayed 8 = .ok (.aload_n 0, 1) := by decide +kernel
theorem dX8_isReplayed_9 : decode cX8_isReplayed 9 = .ok (.getfield 22, 3) := by decide +kernel
theorem dX8_isReplayed_12 : decode cX8_isReplayed 12 = .ok (.invokevirtual 71, 3) := by decide +kernel
theorem dX8_isReplayed_15 : decode cX8_isReplayed 15 = .ok (.aload_n 0, 1) := by decide +kernel
theorem dX8_isReplayed_16 : decode cX8_isReplayed 16 = .ok (.getfield 16, 3) := by decide +kernel
theorem dX8_isReplayed_19 : decode cX8_isReplayed 19 = .ok (.aload_n 0, 1) := by decide +kernel
theorem dX8_isReplayed_20 : decode cX8_isReplayed 20 = .ok (.getfield 10, 3) := by decide +kernel
theorem dX8_isReplayed_23 : decode cX8_isReplayed 23 = .ok (.invokevirtual 325, 3) := by decide +kernel
theorem dX8_isReplayed_26 : decode cX8_isReplayed 26 = .ok (.ireturn, 1) := by decide +kernel
set_option maxRecDepth 20000 in
theorem ggX8_snapshot_X8_demandMatch : GoodIn wsX8_snapshot wsX8_demandMatch := goodIn_ca (goodIn_r _ [8, 9, 10, 2, 11, 12, 13, 14, 15, 16, 17, 46, 47, 48, 49, 50, 51, 52, 53, 54, 55, 56, 57, 58, 59, 60, 61, 62, 63, 64] (by decide +kernel) (by decide +kernel)) (goodIn_sub (fun _ h => List.mem_cons_of_mem _ (List.mem_append_right _ h)) (by decide +kernel))
set_option maxRecDepth 20000 in
theorem gX8_snapshot_X8_demandMatch : GoodIn wsX8_snapshot (wsV RX8 194 RX8 yX8_demandMatch wsX8_demandMatch) := goodIn_app (goodIn_of _ (by decide +kernel)) ggX8_snapshot_X8_demandMatch
set_option maxRecDepth 20000 in
theorem ggX8_snapshot_X1_copy : GoodIn wsX8_snapshot wsX1_copy := goodIn_r _ [21, 22, 17, 23, 24, 25, 26, 27, 28, 29, 30, 31, 32, 33, 15, 34, 35, 36, 37, 38, 39, 40, 41, 42, 43, 44, 45, 56, 57, 58, 59, 60, 61, 62, 63, 64] (by decide +kernel) (by decide +kernel)
set_option maxRecDepth 20000 in
theorem gX8_snapshot_X1_copy : GoodIn wsX8_snapshot (wsV RX8 329 RX1 yX1_copy wsX1_copy) := goodIn_app (goodIn_of _ (by decide +kernel)) ggX8_snapshot_X1_copy
theorem dX8_snapshot_0 : decode cX8_snapshot 0 = .ok (.aload_n 0, 1) := by decide +kernel
theorem dX8_snapshot_1 : decode cX8_snapshot 1 = .ok (.invokevirtual 194, 3) := by decide +kernel
theorem dX8_snapshot_4 : decode cX8_snapshot 4 = .ok (.aload_n 0, 1) := by decide +kernel
theorem dX8_snapshot_5 : decode cX8_snapshot 5 = .ok (.getfield 26, 3) := by decide +kernel
theorem dX8_snapshot_8 : decode cX8_snapshot 8 = .ok (.aload_n 0, 1) := by decide +kernel
theorem dX8_snapshot_9 : decode cX8_snapshot 9 = .ok (.getfield 22, 3) := by decide +kernel
theorem dX8_snapshot_12 : decode cX8_snapshot 12 = .ok (.invokevirtual 329, 3) := by decide +kernel
theorem dX8_snapshot_15 : decode cX8_snapshot 15 = .ok (.aload_n 0, 1) := by decide +kernel
theorem dX8_snapshot_16 : decode cX8_snapshot 16 = .ok (.getfield 26, 3) := by decide +kernel
theorem dX8_snapshot_19 : decode cX8_snapshot 19 = .ok (.getfield 314, 3) := by decide +kernel
theorem dX8_snapshot_22 : decode cX8_snapshot 22 = .ok (.ireturn, 1) := by decide +kernel
set_option maxRecDepth 20000 in
theorem ggX8_restore_X1_hasMatch : GoodIn wsX8_restore wsX1_hasMatch := goodIn_r _ [12, 13, 321, 322, 323, 324, 325, 326, 327, 328, 329] (by decide +kernel) (by decide +kernel)
set_option maxRecDepth 20000 in
theorem gX8_restore_X1_hasMatch : GoodIn wsX8_restore (wsV RX8 332 RX1 yX1_hasMatch wsX1_hasMatch) := goodIn_app (goodIn_of _ (by decide +kernel)) ggX8_restore_X1_hasMatch
set_option maxRecDepth 20000 in
theorem ggX8_restore_X1_copy : GoodIn wsX8_restore wsX1_copy := goodIn_r _ [17, 18, 13, 19, 20, 21, 22, 23, 24, 25, 26, 27, 28, 29, 11, 30, 31, 32, 33, 34, 35, 36, 37, 38, 39, 40, 41, 321, 322, 323, 324, 325, 326, 327, 328, 329] (by decide +kernel) (by decide +kernel)
set_option maxRecDepth 20000 in
theorem gX8_restore_X1_copy : GoodIn wsX8_restore (wsV RX8 329 RX1 yX1_copy wsX1_copy) := goodIn_app (goodIn_of _ (by decide +kernel)) ggX8_restore_X1_copy
set_option maxRecDepth 20000 in
theorem ggX8_restore_X2_follow : GoodIn wsX8_restore wsX2_follow := goodIn_ca (goodIn_ca (goodIn_r _ [46, 47, 48, 49, 50, 51, 52, 53, 54, 55, 56, 9, 10, 11, 12, 13, 57, 58, 59, 45, 60, 61, 62, 63, 64, 65, 66, 67, 68, 69, 70, 71, 72, 73, 74, 75, 76, 77, 78, 79, 80, 81, 82, 83, 84, 85, 86, 87, 88, 89, 90, 91, 92, 93, 94, 95, 96, 97, 98, 99, 100, 101, 102, 103, 104, 105, 106, 107, 108, 109, 110, 111, 112, 113, 114, 115, 116, 117, 118, 119, 120, 121, 122, 123, 124, 125, 126, 127, 128, 129, 130, 131, 132, 133, 134, 135, 136, 137, 138, 139, 140, 141, 142, 143, 144, 145, 146, 33, 34, 35, 20, 36, 37, 147, 148, 149, 150, 151, 152, 153, 154, 155, 156, 157, 158, 159, 160, 161, 162, 163, 164, 165, 166, 167, 168, 169, 170, 171, 172, 173, 174, 175, 176, 177, 178, 179, 180, 181, 182, 183, 184, 185, 186, 187, 188, 189, 190, 191, 192, 193, 194, 195, 196, 197, 198, 199, 200, 201, 202, 203, 204, 205, 206, 207, 208, 209, 210, 211, 212, 213, 214, 215, 216, 217, 218, 219, 220, 221, 222, 223, 224, 225, 226, 227, 228, 229, 230, 231, 232, 233, 234, 235, 236, 237, 238, 239, 240, 241, 242, 243, 244, 245, 246, 247, 248, 249, 250, 251, 252, 253, 254, 255, 256, 257, 258, 259, 260, 261, 262, 263, 264, 265, 266, 267, 268, 269, 270, 271, 272, 273, 274, 275, 276, 277, 278, 279, 280, 281, 282, 283, 284, 285, 286, 287, 288, 289, 290, 291, 292, 293, 294, 295, 296, 297, 298, 299, 300, 301, 302, 303, 304, 305, 306, 307, 308, 309, 310, 330, 331, 332, 333, 334, 335, 321, 322, 323, 324, 325, 326, 327, 328, 329, 336, 337, 338, 339, 340, 341, 342, 343, 344, 345, 346, 347, 348, 349, 350, 351, 352, 353, 354, 355, 356, 357, 358, 359, 360, 361, 362, 363, 364, 365, 366, 367] (by decide +kernel) (by decide +kernel)) (goodIn_sub (fun _ h => List.mem_cons_of_mem _ (List.mem_append_left _ (List.mem_append_right _ h))) (by decide +kernel))) (goodIn_sub (fun _ h => List.mem_cons_of_mem _ (List.mem_append_right _ h)) (by decide +kernel))
set_option maxRecDepth 20000 in
theorem gX8_restore_X2_follow : GoodIn wsX8_restore (wsV RX8 71 RX2 yX2_follow wsX2_follow) := goodIn_app (goodIn_of _ (by decide +kernel)) ggX8_restore_X2_follow
theorem dX8_restore_0 : decode cX8_restore 0 = .ok (.aload_n 0, 1) := by decide +kernel
theorem dX8_restore_1 : decode cX8_restore 1 = .ok (.getfield 26, 3) := by decide +kernel
theorem dX8_restore_4 : decode cX8_restore 4 = .ok (.invokevirtual 332, 3) := by decide +kernel
theorem dX8_restore_7 : decode cX8_restore 7 = .ok (.ifCond .ne 20, 3) := by decide +kernel
theorem dX8_restore_10 : decode cX8_restore 10 = .ok (.aload_n 0, 1) := by decide +kernel
theorem dX8_restore_11 : decode cX8_restore 11 = .ok (.bipush 7, 2) := by decide +kernel
theorem dX8_restore_13 : decode cX8_restore 13 = .ok (.putfield 53, 3) := by decide +kernel
theorem dX8_restore_16 : decode cX8_restore 16 = .ok (.new 131, 3) := by decide +kernel
theorem dX8_restore_19 : decode cX8_restore 19 = .ok (.dup, 1) := by decide +kernel
theorem dX8_restore_20 : decode cX8_restore 20 = .ok (.ldc_w 335, 3) := by decide +kernel
theorem dX8_restore_23 : decode cX8_restore 23 = .ok (.invokespecial 135, 3) := by decide +kernel
theorem dX8_restore_26 : decode cX8_restore 26 = .ok (.athrow, 1) := by decide +kernel
theorem dX8_restore_27 : decode cX8_restore 27 = .ok (.aload_n 0, 1) := by decide +kernel
theorem dX8_restore_28 : decode cX8_restore 28 = .ok (.getfield 22, 3) := by decide +kernel
theorem dX8_restore_31 : decode cX8_restore 31 = .ok (.aload_n 0, 1) := by decide +kernel
theorem dX8_restore_32 : decode cX8_restore 32 = .ok (.getfield 26, 3) := by decide +kernel
theorem dX8_restore_35 : decode cX8_restore 35 = .ok (.invokevirtual 329, 3) := by decide +kernel
theorem dX8_restore_38 : decode cX8_restore 38 = .ok (.aload_n 0, 1) := by decide +kernel
theorem dX8_restore_39 : decode cX8_restore 39 = .ok (.getfield 10, 3) := by decide +kernel
theorem dX8_restore_42 : decode cX8_restore 42 = .ok (.aload_n 0, 1) := by decide +kernel
theorem dX8_restore_43 : decode cX8_restore 43 = .ok (.getfield 22, 3) := by decide +kernel
theorem dX8_restore_46 : decode cX8_restore 46 = .ok (.invokevirtual 71, 3) := by decide +kernel
theorem dX8_restore_49 : decode cX8_restore 49 = .ok (.aload_n 0, 1) := by decide +kernel
theorem dX8_restore_50 : decode cX8_restore 50 = .ok (.getfield 22, 3) := by decide +kernel
theorem dX8_restore_53 : decode cX8_restore 53 = .ok (.getfield 314, 3) := by decide +kernel
theorem dX8_restore_56 : decode cX8_restore 56 = .ok (.ireturn, 1) := by decide +kernel
set_option maxRecDepth 20000 in
theorem ggX8_demandMatch_X1_hasMatch : GoodIn wsX8_demandMatch wsX1_hasMatch := goodIn_r _ [9, 10, 21, 22, 23, 24, 25, 26, 27, 28, 29] (by decide +kernel) (by decide +kernel)
set_option maxRecDepth 20000 in
theorem gX8_demandMatch_X1_hasMatch : GoodIn wsX8_demandMatch (wsV RX8 332 RX1 yX1_hasMatch wsX1_hasMatch) := goodIn_app (goodIn_of _ (by decide +kernel)) ggX8_demandMatch_X1_hasMatch
theorem dX8_demandMatch_0 : decode cX8_demandMatch 0 = .ok (.aload_n 0, 1) := by decide +kernel
theorem dX8_demandMatch_1 : decode cX8_demandMatch 1 = .ok (.getfield 22, 3) := by decide +kernel
theorem dX8_demandMatch_4 : decode cX8_demandMatch 4 = .ok (.invokevirtual 332, 3) := by decide +kernel
theorem dX8_demandMatch_7 : decode cX8_demandMatch 7 = .ok (.ifCond .ne 19, 3) := by decide +kernel
theorem dX8_demandMatch_10 : decode cX8_demandMatch 10 = .ok (.aload_n 0, 1) := by decide +kernel
theorem dX8_demandMatch_11 : decode cX8_demandMatch 11 = .ok (.iconst 1, 1) := by decide +kernel
theorem dX8_demandMatch_12 : decode cX8_demandMatch 12 = .ok (.putfield 53, 3) := by decide +kernel
theorem dX8_demandMatch_15 : decode cX8_demandMatch 15 = .ok (.new 131, 3) := by decide +kernel
theorem dX8_demandMatch_18 : decode cX8_demandMatch 18 = .ok (.dup, 1) := by decide +kernel
theorem dX8_demandMatch_19 : decode cX8_demandMatch 19 = .ok (.ldc_w 337, 3) := by decide +kernel
theorem dX8_demandMatch_22 : decode cX8_demandMatch 22 = .ok (.invokespecial 135, 3) := by decide +kernel
theorem dX8_demandMatch_25 : decode cX8_demandMatch 25 = .ok (.athrow, 1) := by decide +kernel
theorem dX8_demandMatch_26 : decode cX8_demandMatch 26 = .ok (.return_, 1) := by decide +kernel
set_option maxRecDepth 20000 in
theorem ggX8_demandInnings_X2_hasBegun : GoodIn wsX8_demandInnings wsX2_hasBegun := goodIn_r _ [8, 9, 10, 21, 22, 23, 24, 25, 26] (by decide +kernel) (by decide +kernel)
set_option maxRecDepth 20000 in
theorem gX8_demandInnings_X2_hasBegun : GoodIn wsX8_demandInnings (wsV RX8 339 RX2 yX2_hasBegun wsX2_hasBegun) := goodIn_app (goodIn_of _ (by decide +kernel)) ggX8_demandInnings_X2_hasBegun
theorem dX8_demandInnings_0 : decode cX8_demandInnings 0 = .ok (.aload_n 0, 1) := by decide +kernel
theorem dX8_demandInnings_1 : decode cX8_demandInnings 1 = .ok (.getfield 10, 3) := by decide +kernel
theorem dX8_demandInnings_4 : decode cX8_demandInnings 4 = .ok (.iload_n 1, 1) := by decide +kernel
theorem dX8_demandInnings_5 : decode cX8_demandInnings 5 = .ok (.invokevirtual 339, 3) := by decide +kernel
theorem dX8_demandInnings_8 : decode cX8_demandInnings 8 = .ok (.ifCond .ne 14, 3) := by decide +kernel
theorem dX8_demandInnings_11 : decode cX8_demandInnings 11 = .ok (.new 85, 3) := by decide +kernel
theorem dX8_demandInnings_14 : decode cX8_demandInnings 14 = .ok (.dup, 1) := by decide +kernel
theorem dX8_demandInnings_15 : decode cX8_demandInnings 15 = .ok (.ldc_w 342, 3) := by decide +kernel
theorem dX8_demandInnings_18 : decode cX8_demandInnings 18 = .ok (.invokespecial 89, 3) := by decide +kernel
theorem dX8_demandInnings_21 : decode cX8_demandInnings 21 = .ok (.athrow, 1) := by decide +kernel
theorem dX8_demandInnings_22 : decode cX8_demandInnings 22 = .ok (.return_, 1) := by decide +kernel
set_option maxRecDepth 20000 in
theorem ggX8_demandPlayer_X2_hasBegun : GoodIn wsX8_demandPlayer wsX2_hasBegun := goodIn_r _ [8, 9, 10, 28, 29, 30, 31, 32, 33] (by decide +kernel) (by decide +kernel)
set_option maxRecDepth 20000 in
theorem gX8_demandPlayer_X2_hasBegun : GoodIn wsX8_demandPlayer (wsV RX8 339 RX2 yX2_hasBegun wsX2_hasBegun) := goodIn_app (goodIn_of _ (by decide +kernel)) ggX8_demandPlayer_X2_hasBegun
set_option maxRecDepth 20000 in
theorem ggX8_demandPlayer_X8_isPlayer : GoodIn wsX8_demandPlayer wsX8_isPlayer := goodIn_r _ [14, 15, 16, 13, 17] (by decide +kernel) (by decide +kernel)
set_option maxRecDepth 20000 in
theorem gX8_demandPlayer_X8_isPlayer : GoodIn wsX8_demandPlayer (va_wsS RX8 81 yX8_isPlayer wsX8_isPlayer) := goodIn_app (goodIn_of _ (by decide +kernel)) ggX8_demandPlayer_X8_isPlayer
theorem dX8_demandPlayer_0 : decode cX8_demandPlayer 0 = .ok (.aload_n 0, 1) := by decide +kernel
theorem dX8_demandPlayer_1 : decode cX8_demandPlayer 1 = .ok (.getfield 10, 3) := by decide +kernel
theorem dX8_demandPlayer_4 : decode cX8_demandPlayer 4 = .ok (.iload_n 1, 1) := by decide +kernel
theorem dX8_demandPlayer_5 : decode cX8_demandPlayer 5 = .ok (.invokevirtual 339, 3) := by decide +kernel
theorem dX8_demandPlayer_8 : decode cX8_demandPlayer 8 = .ok (.ifCond .eq 10, 3) := by decide +kernel
theorem dX8_demandPlayer_11 : decode cX8_demandPlayer 11 = .ok (.iload_n 2, 1) := by decide +kernel
theorem dX8_demandPlayer_12 : decode cX8_demandPlayer 12 = .ok (.invokestatic 81, 3) := by decide +kernel
theorem dX8_demandPlayer_15 : decode cX8_demandPlayer 15 = .ok (.ifCond .ne 14, 3) := by decide +kernel
theorem dX8_demandPlayer_18 : decode cX8_demandPlayer 18 = .ok (.new 85, 3) := by decide +kernel
theorem dX8_demandPlayer_21 : decode cX8_demandPlayer 21 = .ok (.dup, 1) := by decide +kernel
theorem dX8_demandPlayer_22 : decode cX8_demandPlayer 22 = .ok (.ldc_w 344, 3) := by decide +kernel
theorem dX8_demandPlayer_25 : decode cX8_demandPlayer 25 = .ok (.invokespecial 89, 3) := by decide +kernel
theorem dX8_demandPlayer_28 : decode cX8_demandPlayer 28 = .ok (.athrow, 1) := by decide +kernel
theorem dX8_demandPlayer_29 : decode cX8_demandPlayer 29 = .ok (.return_, 1) := by decide +kernel
set_option maxRecDepth 20000 in
theorem ggX8_demandRow_X8_isWithin : GoodIn wsX8_demandRow wsX8_isWithin := goodIn_r _ [6] (by decide +kernel) (by decide +kernel)
set_option maxRecDepth 20000 in
theorem gX8_demandRow_X8_isWithin : GoodIn wsX8_demandRow (va_wsS RX8 56 yX8_isWithin wsX8_isWithin) := goodIn_app (goodIn_of _ (by decide +kernel)) ggX8_demandRow_X8_isWithin
theorem dX8_demandRow_0 : decode cX8_demandRow 0 = .ok (.iload_n 0, 1) := by decide +kernel
theorem dX8_demandRow_1 : decode cX8_demandRow 1 = .ok (.iconst 0, 1) := by decide +kernel
theorem dX8_demandRow_2 : decode cX8_demandRow 2 = .ok (.iconst 1, 1) := by decide +kernel
theorem dX8_demandRow_3 : decode cX8_demandRow 3 = .ok (.invokestatic 56, 3) := by decide +kernel
theorem dX8_demandRow_6 : decode cX8_demandRow 6 = .ok (.ifCond .ne 14, 3) := by decide +kernel
theorem dX8_demandRow_9 : decode cX8_demandRow 9 = .ok (.new 85, 3) := by decide +kernel
theorem dX8_demandRow_12 : decode cX8_demandRow 12 = .ok (.dup, 1) := by decide +kernel
theorem dX8_demandRow_13 : decode cX8_demandRow 13 = .ok (.ldc_w 346, 3) := by decide +kernel
theorem dX8_demandRow_16 : decode cX8_demandRow 16 = .ok (.invokespecial 89, 3) := by decide +kernel
theorem dX8_demandRow_19 : decode cX8_demandRow 19 = .ok (.athrow, 1) := by decide +kernel
theorem dX8_demandRow_20 : decode cX8_demandRow 20 = .ok (.return_, 1) := by decide +kernel
theorem dX8_rowAt_0 : decode cX8_rowAt 0 = .ok (.iload_n 1, 1) := by decide +kernel
theorem dX8_rowAt_1 : decode cX8_rowAt 1 = .ok (.ifCond .ne 10, 3) := by decide +kernel
theorem dX8_rowAt_4 : decode cX8_rowAt 4 = .ok (.aload_n 0, 1) := by decide +kernel
theorem dX8_rowAt_5 : decode cX8_rowAt 5 = .ok (.getfield 39, 3) := by decide +kernel
theorem dX8_rowAt_8 : decode cX8_rowAt 8 = .ok (.goto 7, 3) := by decide +kernel
theorem dX8_rowAt_11 : decode cX8_rowAt 11 = .ok (.aload_n 0, 1) := by decide +kernel
theorem dX8_rowAt_12 : decode cX8_rowAt 12 = .ok (.getfield 43, 3) := by decide +kernel
theorem dX8_rowAt_15 : decode cX8_rowAt 15 = .ok (.areturn, 1) := by decide +kernel
theorem dX8_isWithin_0 : decode cX8_isWithin 0 = .ok (.iload_n 1, 1) := by decide +kernel
theorem dX8_isWithin_1 : decode cX8_isWithin 1 = .ok (.iload_n 0, 1) := by decide +kernel
theorem dX8_isWithin_2 : decode cX8_isWithin 2 = .ok (.if_icmp .gt 12, 3) := by decide +kernel
theorem dX8_isWithin_5 : decode cX8_isWithin 5 = .ok (.iload_n 0, 1) := by decide +kernel
theorem dX8_isWithin_6 : decode cX8_isWithin 6 = .ok (.iload_n 2, 1) := by decide +kernel
theorem dX8_isWithin_7 : decode cX8_isWithin 7 = .ok (.if_icmp .gt 7, 3) := by decide +kernel
theorem dX8_isWithin_10 : decode cX8_isWithin 10 = .ok (.iconst 1, 1) := by decide +kernel
theorem dX8_isWithin_11 : decode cX8_isWithin 11 = .ok (.goto 4, 3) := by decide +kernel
theorem dX8_isWithin_14 : decode cX8_isWithin 14 = .ok (.iconst 0, 1) := by decide +kernel
theorem dX8_isWithin_15 : decode cX8_isWithin 15 = .ok (.ireturn, 1) := by decide +kernel
set_option maxRecDepth 20000 in
theorem ggX8_isPlayer_X8_isWithin : GoodIn wsX8_isPlayer wsX8_isWithin := goodIn_r _ [4] (by decide +kernel) (by decide +kernel)
set_option maxRecDepth 20000 in
theorem gX8_isPlayer_X8_isWithin : GoodIn wsX8_isPlayer (va_wsS RX8 56 yX8_isWithin wsX8_isWithin) := goodIn_app (goodIn_of _ (by decide +kernel)) ggX8_isPlayer_X8_isWithin
theorem dX8_isPlayer_0 : decode cX8_isPlayer 0 = .ok (.iload_n 0, 1) := by decide +kernel
theorem dX8_isPlayer_1 : decode cX8_isPlayer 1 = .ok (.iconst 0, 1) := by decide +kernel
theorem dX8_isPlayer_2 : decode cX8_isPlayer 2 = .ok (.bipush 10, 2) := by decide +kernel
theorem dX8_isPlayer_4 : decode cX8_isPlayer 4 = .ok (.invokestatic 56, 3) := by decide +kernel
theorem dX8_isPlayer_7 : decode cX8_isPlayer 7 = .ok (.ireturn, 1) := by decide +kernel
theorem dX8_leastRuns_0 : decode cX8_leastRuns 0 = .ok (.iload_n 0, 1) := by decide +kernel
theorem dX8_leastRuns_1 : decode cX8_leastRuns 1 = .ok (.iconst 3, 1) := by decide +kernel
theorem dX8_leastRuns_2 : decode cX8_leastRuns 2 = .ok (.if_icmp .eq 8, 3) := by decide +kernel
theorem dX8_leastRuns_5 : decode cX8_leastRuns 5 = .ok (.iload_n 0, 1) := by decide +kernel
theorem dX8_leastRuns_6 : decode cX8_leastRuns 6 = .ok (.iconst 4, 1) := by decide +kernel
theorem dX8_leastRuns_7 : decode cX8_leastRuns 7 = .ok (.if_icmp .ne 7, 3) := by decide +kernel
theorem dX8_leastRuns_10 : decode cX8_leastRuns 10 = .ok (.iconst 1, 1) := by decide +kernel
theorem dX8_leastRuns_11 : decode cX8_leastRuns 11 = .ok (.goto 4, 3) := by decide +kernel
theorem dX8_leastRuns_14 : decode cX8_leastRuns 14 = .ok (.iconst 0, 1) := by decide +kernel
theorem dX8_leastRuns_15 : decode cX8_leastRuns 15 = .ok (.ireturn, 1) := by decide +kernel
theorem dX8_mostRuns_0 : decode cX8_mostRuns 0 = .ok (.iload_n 0, 1) := by decide +kernel
theorem dX8_mostRuns_1 : decode cX8_mostRuns 1 = .ok (.ifCond .eq 8, 3) := by decide +kernel
theorem dX8_mostRuns_4 : decode cX8_mostRuns 4 = .ok (.iload_n 0, 1) := by decide +kernel
theorem dX8_mostRuns_5 : decode cX8_mostRuns 5 = .ok (.iconst 2, 1) := by decide +kernel
theorem dX8_mostRuns_6 : decode cX8_mostRuns 6 = .ok (.if_icmp .ne 8, 3) := by decide +kernel
theorem dX8_mostRuns_9 : decode cX8_mostRuns 9 = .ok (.bipush 6, 2) := by decide +kernel
theorem dX8_mostRuns_11 : decode cX8_mostRuns 11 = .ok (.goto 4, 3) := by decide +kernel
theorem dX8_mostRuns_14 : decode cX8_mostRuns 14 = .ok (.iconst 4, 1) := by decide +kernel
theorem dX8_mostRuns_15 : decode cX8_mostRuns 15 = .ok (.ireturn, 1) := by decide +kernel
theorem dX8_canBeBoundary_0 : decode cX8_canBeBoundary 0 = .ok (.iload_n 0, 1) := by decide +kernel
theorem dX8_canBeBoundary_1 : decode cX8_canBeBoundary 1 = .ok (.ifCond .eq 8, 3) := by decide +kernel
theorem dX8_canBeBoundary_4 : decode cX8_canBeBoundary 4 = .ok (.iload_n 0, 1) := by decide +kernel
theorem dX8_canBeBoundary_5 : decode cX8_canBeBoundary 5 = .ok (.iconst 2, 1) := by decide +kernel
theorem dX8_canBeBoundary_6 : decode cX8_canBeBoundary 6 = .ok (.if_icmp .ne 18, 3) := by decide +kernel
theorem dX8_canBeBoundary_9 : decode cX8_canBeBoundary 9 = .ok (.iload_n 1, 1) := by decide +kernel
theorem dX8_canBeBoundary_10 : decode cX8_canBeBoundary 10 = .ok (.iconst 4, 1) := by decide +kernel
theorem dX8_canBeBoundary_11 : decode cX8_canBeBoundary 11 = .ok (.if_icmp .eq 9, 3) := by decide +kernel
theorem dX8_canBeBoundary_14 : decode cX8_canBeBoundary 14 = .ok (.iload_n 1, 1) := by decide +kernel
theorem dX8_canBeBoundary_15 : decode cX8_canBeBoundary 15 = .ok (.bipush 6, 2) := by decide +kernel
theorem dX8_canBeBoundary_17 : decode cX8_canBeBoundary 17 = .ok (.if_icmp .ne 7, 3) := by decide +kernel
theorem dX8_canBeBoundary_20 : decode cX8_canBeBoundary 20 = .ok (.iconst 1, 1) := by decide +kernel
theorem dX8_canBeBoundary_21 : decode cX8_canBeBoundary 21 = .ok (.goto 4, 3) := by decide +kernel
theorem dX8_canBeBoundary_24 : decode cX8_canBeBoundary 24 = .ok (.iconst 0, 1) := by decide +kernel
theorem dX8_canBeBoundary_25 : decode cX8_canBeBoundary 25 = .ok (.ireturn, 1) := by decide +kernel
