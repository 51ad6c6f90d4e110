set_option maxRecDepth 20000 in
theorem ggX8_init_X1_init : GoodIn wsX8_init wsX1_init := goodIn_r _ [41, 42, 2, 3, 43, 44, 45, 46, 91, 92, 93, 94] (by decide +kernel) (by decide +kernel)
set_option maxRecDepth 20000 in
theorem gX8_init_X1_init_n9 : GoodIn wsX8_init (wsX1_init) := ggX8_init_X1_init
set_option maxRecDepth 20000 in
theorem ggX8_init_X3_init : GoodIn wsX8_init wsX3_init := goodIn_r _ [48, 49, 2, 3, 43, 50, 51, 107, 108, 109] (by decide +kernel) (by decide +kernel)
set_option maxRecDepth 20000 in
theorem gX8_init_X3_init_n18 : GoodIn wsX8_init (wsX3_init) := ggX8_init_X3_init
set_option maxRecDepth 20000 in
theorem ggX8_init_X2_init : GoodIn wsX8_init wsX2_init := goodIn_r _ [53, 54, 2, 3, 43, 55, 56, 57, 58, 59, 110, 111, 112, 113, 114, 115] (by decide +kernel) (by decide +kernel)
set_option maxRecDepth 20000 in
theorem gX8_init_X2_init_n25 : GoodIn wsX8_init (wsX2_init) := ggX8_init_X2_init
set_option maxRecDepth 20000 in
theorem ggX8_init_X7_init : GoodIn wsX8_init wsX7_init := goodIn_r _ [61, 62, 2, 3, 43, 63, 64, 65, 116, 117, 118] (by decide +kernel) (by decide +kernel)
set_option maxRecDepth 20000 in
theorem gX8_init_X7_init_n32 : GoodIn wsX8_init (wsX7_init) := ggX8_init_X7_init
set_option maxRecDepth 20000 in
theorem ggX8_init_X6_init : GoodIn wsX8_init wsX6_init := goodIn_r _ [67, 68, 2, 3, 43, 69, 70, 71, 72, 73, 29, 30, 74, 75, 76, 77, 119, 120, 121, 122, 123, 124, 131, 132, 133, 134] (by decide +kernel) (by decide +kernel)
set_option maxRecDepth 20000 in
theorem gX8_init_X6_init_n39 : GoodIn wsX8_init (wsX6_init) := ggX8_init_X6_init
set_option maxRecDepth 20000 in
theorem ggX8_init_X4_init : GoodIn wsX8_init wsX4_init := goodIn_r _ [79, 80, 2, 3, 81, 29, 30, 82, 43, 83, 84, 85, 75, 76, 77, 131, 132, 133, 134, 125, 126, 127, 128, 129, 130] (by decide +kernel) (by decide +kernel)
set_option maxRecDepth 20000 in
theorem gX8_init_X4_init_n46 : GoodIn wsX8_init (wsX4_init) := ggX8_init_X4_init
set_option maxRecDepth 20000 in
theorem ggX8_init_X0_init : GoodIn wsX8_init wsX0_init := goodIn_r _ [76, 77, 2, 3] (by decide +kernel) (by decide +kernel)
set_option maxRecDepth 20000 in
theorem gX8_init_X0_init_n53 : GoodIn wsX8_init (wsX0_init) := ggX8_init_X0_init
set_option maxRecDepth 20000 in
theorem ggX8_init_X5_init : GoodIn wsX8_init wsX5_init := goodIn_r _ [87, 88, 2, 3, 89, 90, 135, 136] (by decide +kernel) (by decide +kernel)
set_option maxRecDepth 20000 in
theorem gX8_init_X5_init_n60 : GoodIn wsX8_init (wsX5_init) := ggX8_init_X5_init
theorem dX8_init_0 : decode cX8_init 0 = .ok (.aload_n 0, 1) := by decide +kernel
theorem dX8_init_1 : decode cX8_init 1 = .ok (.invokespecial 1, 3) := by decide +kernel
theorem dX8_init_4 : decode cX8_init 4 = .ok (.aload_n 0, 1) := by decide +kernel
theorem dX8_init_5 : decode cX8_init 5 = .ok (.new 7, 3) := by decide +kernel
theorem dX8_init_8 : decode cX8_init 8 = .ok (.dup, 1) := by decide +kernel
theorem dX8_init_9 : decode cX8_init 9 = .ok (.invokespecial 9, 3) := by decide +kernel
theorem dX8_init_12 : decode cX8_init 12 = .ok (.putfield 10, 3) := by decide +kernel
theorem dX8_init_15 : decode cX8_init 15 = .ok (.aload_n 0, 1) := by decide +kernel
theorem dX8_init_16 : decode cX8_init 16 = .ok (.new 16, 3) := by decide +kernel
theorem dX8_init_19 : decode cX8_init 19 = .ok (.dup, 1) := by decide +kernel
theorem dX8_init_20 : decode cX8_init 20 = .ok (.invokespecial 18, 3) := by decide +kernel
theorem dX8_init_23 : decode cX8_init 23 = .ok (.putfield 19, 3) := by decide +kernel
theorem dX8_init_26 : decode cX8_init 26 = .ok (.aload_n 0, 1) := by decide +kernel
theorem dX8_init_27 : decode cX8_init 27 = .ok (.new 23, 3) := by decide +kernel
theorem dX8_init_30 : decode cX8_init 30 = .ok (.dup, 1) := by decide +kernel
theorem dX8_init_31 : decode cX8_init 31 = .ok (.invokespecial 25, 3) := by decide +kernel
theorem dX8_init_34 : decode cX8_init 34 = .ok (.putfield 26, 3) := by decide +kernel
theorem dX8_init_37 : decode cX8_init 37 = .ok (.aload_n 0, 1) := by decide +kernel
theorem dX8_init_38 : decode cX8_init 38 = .ok (.new 30, 3) := by decide +kernel
theorem dX8_init_41 : decode cX8_init 41 = .ok (.dup, 1) := by decide +kernel
theorem dX8_init_42 : decode cX8_init 42 = .ok (.invokespecial 32, 3) := by decide +kernel
theorem dX8_init_45 : decode cX8_init 45 = .ok (.putfield 33, 3) := by decide +kernel
theorem dX8_init_48 : decode cX8_init 48 = .ok (.aload_n 0, 1) := by decide +kernel
theorem dX8_init_49 : decode cX8_init 49 = .ok (.new 37, 3) := by decide +kernel
theorem dX8_init_52 : decode cX8_init 52 = .ok (.dup, 1) := by decide +kernel
theorem dX8_init_53 : decode cX8_init 53 = .ok (.invokespecial 39, 3) := by decide +kernel
theorem dX8_init_56 : decode cX8_init 56 = .ok (.putfield 40, 3) := by decide +kernel
theorem dX8_init_59 : decode cX8_init 59 = .ok (.aload_n 0, 1) := by decide +kernel
theorem dX8_init_60 : decode cX8_init 60 = .ok (.new 44, 3) := by decide +kernel
theorem dX8_init_63 : decode cX8_init 63 = .ok (.dup, 1) := by decide +kernel
theorem dX8_init_64 : decode cX8_init 64 = .ok (.invokespecial 46, 3) := by decide +kernel
theorem dX8_init_67 : decode cX8_init 67 = .ok (.putfield 47, 3) := by decide +kernel
theorem dX8_init_70 : decode cX8_init 70 = .ok (.aload_n 0, 1) := by decide +kernel
theorem dX8_init_71 : decode cX8_init 71 = .ok (.new 51, 3) := by decide +kernel
theorem dX8_init_74 : decode cX8_init 74 = .ok (.dup, 1) := by decide +kernel
theorem dX8_init_75 : decode cX8_init 75 = .ok (.invokespecial 53, 3) := by decide +kernel
theorem dX8_init_78 : decode cX8_init 78 = .ok (.putfield 54, 3) := by decide +kernel
theorem dX8_init_81 : decode cX8_init 81 = .ok (.aload_n 0, 1) := by decide +kernel
theorem dX8_init_82 : decode cX8_init 82 = .ok (.new 58, 3) := by decide +kernel
theorem dX8_init_85 : decode cX8_init 85 = .ok (.dup, 1) := by decide +kernel
theorem dX8_init_86 : decode cX8_init 86 = .ok (.invokespecial 60, 3) := by decide +kernel
theorem dX8_init_89 : decode cX8_init 89 = .ok (.putfield 61, 3) := by decide +kernel
theorem dX8_init_92 : decode cX8_init 92 = .ok (.aload_n 0, 1) := by decide +kernel
theorem dX8_init_93 : decode cX8_init 93 = .ok (.bipush 50, 2) := by decide +kernel
theorem dX8_init_95 : decode cX8_init 95 = .ok (.putfield 65, 3) := by decide +kernel
theorem dX8_init_98 : decode cX8_init 98 = .ok (.aload_n 0, 1) := by decide +kernel
theorem dX8_init_99 : decode cX8_init 99 = .ok (.iconst 0, 1) := by decide +kernel
theorem dX8_init_100 : decode cX8_init 100 = .ok (.putfield 69, 3) := by decide +kernel
theorem dX8_init_103 : decode cX8_init 103 = .ok (.aload_n 0, 1) := by decide +kernel
theorem dX8_init_104 : decode cX8_init 104 = .ok (.bipush 100, 2) := by decide +kernel
theorem dX8_init_106 : decode cX8_init 106 = .ok (.putfield 72, 3) := by decide +kernel
theorem dX8_init_109 : decode cX8_init 109 = .ok (.aload_n 0, 1) := by decide +kernel
theorem dX8_init_110 : decode cX8_init 110 = .ok (.iconst 0, 1) := by decide +kernel
theorem dX8_init_111 : decode cX8_init 111 = .ok (.putfield 75, 3) := by decide +kernel
theorem dX8_init_114 : decode cX8_init 114 = .ok (.return_, 1) := by decide +kernel
set_option maxRecDepth 20000 in
theorem ggX8_addGround_X8_checkRange : GoodIn wsX8_addGround wsX8_checkRange := goodIn_ca (goodIn_r _ [8, 9, 10] (by decide +kernel) (by decide +kernel)) (goodIn_sub (fun _ h => List.mem_cons_of_mem _ (List.mem_append_left _ (List.mem_append_right _ h))) (by decide +kernel))
set_option maxRecDepth 20000 in
theorem gX8_addGround_X8_checkRange : GoodIn wsX8_addGround (va_wsS RX8 78 yX8_checkRange wsX8_checkRange) := goodIn_app (goodIn_of _ (by decide +kernel)) ggX8_addGround_X8_checkRange
set_option maxRecDepth 20000 in
theorem ggX8_addGround_X1_extend : GoodIn wsX8_addGround wsX1_extend := goodIn_ca (goodIn_r _ [15, 16, 17, 18, 19, 20, 21, 22, 35, 36, 37, 38] (by decide +kernel) (by decide +kernel)) (goodIn_sub (fun _ h => List.mem_cons_of_mem _ (List.mem_append_right _ h)) (by decide +kernel))
set_option maxRecDepth 20000 in
theorem gX8_addGround_X1_extend : GoodIn wsX8_addGround (wsV RX8 92 RX1 yX1_extend wsX1_extend) := goodIn_app (goodIn_of _ (by decide +kernel)) ggX8_addGround_X1_extend
theorem dX8_addGround_0 : decode cX8_addGround 0 = .ok (.iload_n 1, 1) := by decide +kernel
theorem dX8_addGround_1 : decode cX8_addGround 1 = .ok (.iconst 1, 1) := by decide +kernel
theorem dX8_addGround_2 : decode cX8_addGround 2 = .ok (.bipush 50, 2) := by decide +kernel
theorem dX8_addGround_4 : decode cX8_addGround 4 = .ok (.invokestatic 78, 3) := by decide +kernel
theorem dX8_addGround_7 : decode cX8_addGround 7 = .ok (.iload_n 2, 1) := by decide +kernel
theorem dX8_addGround_8 : decode cX8_addGround 8 = .ok (.iconst 0, 1) := by decide +kernel
theorem dX8_addGround_9 : decode cX8_addGround 9 = .ok (.bipush 100, 2) := by decide +kernel
theorem dX8_addGround_11 : decode cX8_addGround 11 = .ok (.invokestatic 78, 3) := by decide +kernel
theorem dX8_addGround_14 : decode cX8_addGround 14 = .ok (.iload_n 3, 1) := by decide +kernel
theorem dX8_addGround_15 : decode cX8_addGround 15 = .ok (.iconst 0, 1) := by decide +kernel
theorem dX8_addGround_16 : decode cX8_addGround 16 = .ok (.bipush 20, 2) := by decide +kernel
theorem dX8_addGround_18 : decode cX8_addGround 18 = .ok (.invokestatic 78, 3) := by decide +kernel
theorem dX8_addGround_21 : decode cX8_addGround 21 = .ok (.aload_n 0, 1) := by decide +kernel
theorem dX8_addGround_22 : decode cX8_addGround 22 = .ok (.getfield 10, 3) := by decide +kernel
theorem dX8_addGround_25 : decode cX8_addGround 25 = .ok (.getfield 82, 3) := by decide +kernel
theorem dX8_addGround_28 : decode cX8_addGround 28 = .ok (.iload_n 1, 1) := by decide +kernel
theorem dX8_addGround_29 : decode cX8_addGround 29 = .ok (.iadd, 1) := by decide +kernel
theorem dX8_addGround_30 : decode cX8_addGround 30 = .ok (.sipush 200, 3) := by decide +kernel
theorem dX8_addGround_33 : decode cX8_addGround 33 = .ok (.if_icmp .le 13, 3) := by decide +kernel
theorem dX8_addGround_36 : decode cX8_addGround 36 = .ok (.new 85, 3) := by decide +kernel
theorem dX8_addGround_39 : decode cX8_addGround 39 = .ok (.dup, 1) := by decide +kernel
theorem dX8_addGround_40 : decode cX8_addGround 40 = .ok (.ldc 87, 2) := by decide +kernel
theorem dX8_addGround_42 : decode cX8_addGround 42 = .ok (.invokespecial 89, 3) := by decide +kernel
theorem dX8_addGround_45 : decode cX8_addGround 45 = .ok (.athrow, 1) := by decide +kernel
theorem dX8_addGround_46 : decode cX8_addGround 46 = .ok (.aload_n 0, 1) := by decide +kernel
theorem dX8_addGround_47 : decode cX8_addGround 47 = .ok (.getfield 10, 3) := by decide +kernel
theorem dX8_addGround_50 : decode cX8_addGround 50 = .ok (.iload_n 1, 1) := by decide +kernel
theorem dX8_addGround_51 : decode cX8_addGround 51 = .ok (.iload_n 2, 1) := by decide +kernel
theorem dX8_addGround_52 : decode cX8_addGround 52 = .ok (.iload_n 3, 1) := by decide +kernel
theorem dX8_addGround_53 : decode cX8_addGround 53 = .ok (.invokevirtual 92, 3) := by decide +kernel
theorem dX8_addGround_56 : decode cX8_addGround 56 = .ok (.aload_n 0, 1) := by decide +kernel
theorem dX8_addGround_57 : decode cX8_addGround 57 = .ok (.getfield 10, 3) := by decide +kernel
theorem dX8_addGround_60 : decode cX8_addGround 60 = .ok (.getfield 82, 3) := by decide +kernel
theorem dX8_addGround_63 : decode cX8_addGround 63 = .ok (.ireturn, 1) := by decide +kernel
set_option maxRecDepth 20000 in
theorem ggX8_addCurve_X8_checkRange : GoodIn wsX8_addCurve wsX8_checkRange := goodIn_ca (goodIn_r _ [8, 9, 10] (by decide +kernel) (by decide +kernel)) (goodIn_sub (fun _ h => List.mem_cons_of_mem _ (List.mem_append_left _ (List.mem_append_right _ h))) (by decide +kernel))
set_option maxRecDepth 20000 in
theorem gX8_addCurve_X8_checkRange : GoodIn wsX8_addCurve (va_wsS RX8 78 yX8_checkRange wsX8_checkRange) := goodIn_app (goodIn_of _ (by decide +kernel)) ggX8_addCurve_X8_checkRange
set_option maxRecDepth 20000 in
theorem ggX8_addCurve_X3_extend : GoodIn wsX8_addCurve wsX3_extend := goodIn_ca (goodIn_r _ [15, 16, 17, 18, 19, 20, 21, 22, 35, 36, 37] (by decide +kernel) (by decide +kernel)) (goodIn_sub (fun _ h => List.mem_cons_of_mem _ (List.mem_append_right _ h)) (by decide +kernel))
set_option maxRecDepth 20000 in
theorem gX8_addCurve_X3_extend : GoodIn wsX8_addCurve (wsV RX8 100 RX3 yX3_extend wsX3_extend) := goodIn_app (goodIn_of _ (by decide +kernel)) ggX8_addCurve_X3_extend
theorem dX8_addCurve_0 : decode cX8_addCurve 0 = .ok (.iload_n 1, 1) := by decide +kernel
theorem dX8_addCurve_1 : decode cX8_addCurve 1 = .ok (.iconst 1, 1) := by decide +kernel
theorem dX8_addCurve_2 : decode cX8_addCurve 2 = .ok (.bipush 50, 2) := by decide +kernel
theorem dX8_addCurve_4 : decode cX8_addCurve 4 = .ok (.invokestatic 78, 3) := by decide +kernel
theorem dX8_addCurve_7 : decode cX8_addCurve 7 = .ok (.iload_n 2, 1) := by decide +kernel
theorem dX8_addCurve_8 : decode cX8_addCurve 8 = .ok (.bipush (-5), 2) := by decide +kernel
theorem dX8_addCurve_10 : decode cX8_addCurve 10 = .ok (.iconst 5, 1) := by decide +kernel
theorem dX8_addCurve_11 : decode cX8_addCurve 11 = .ok (.invokestatic 78, 3) := by decide +kernel
theorem dX8_addCurve_14 : decode cX8_addCurve 14 = .ok (.iload_n 3, 1) := by decide +kernel
theorem dX8_addCurve_15 : decode cX8_addCurve 15 = .ok (.bipush (-5), 2) := by decide +kernel
theorem dX8_addCurve_17 : decode cX8_addCurve 17 = .ok (.iconst 5, 1) := by decide +kernel
theorem dX8_addCurve_18 : decode cX8_addCurve 18 = .ok (.invokestatic 78, 3) := by decide +kernel
theorem dX8_addCurve_21 : decode cX8_addCurve 21 = .ok (.aload_n 0, 1) := by decide +kernel
theorem dX8_addCurve_22 : decode cX8_addCurve 22 = .ok (.getfield 19, 3) := by decide +kernel
theorem dX8_addCurve_25 : decode cX8_addCurve 25 = .ok (.getfield 95, 3) := by decide +kernel
theorem dX8_addCurve_28 : decode cX8_addCurve 28 = .ok (.iload_n 1, 1) := by decide +kernel
theorem dX8_addCurve_29 : decode cX8_addCurve 29 = .ok (.iadd, 1) := by decide +kernel
theorem dX8_addCurve_30 : decode cX8_addCurve 30 = .ok (.sipush 200, 3) := by decide +kernel
theorem dX8_addCurve_33 : decode cX8_addCurve 33 = .ok (.if_icmp .le 13, 3) := by decide +kernel
theorem dX8_addCurve_36 : decode cX8_addCurve 36 = .ok (.new 85, 3) := by decide +kernel
theorem dX8_addCurve_39 : decode cX8_addCurve 39 = .ok (.dup, 1) := by decide +kernel
theorem dX8_addCurve_40 : decode cX8_addCurve 40 = .ok (.ldc 98, 2) := by decide +kernel
theorem dX8_addCurve_42 : decode cX8_addCurve 42 = .ok (.invokespecial 89, 3) := by decide +kernel
theorem dX8_addCurve_45 : decode cX8_addCurve 45 = .ok (.athrow, 1) := by decide +kernel
theorem dX8_addCurve_46 : decode cX8_addCurve 46 = .ok (.aload_n 0, 1) := by decide +kernel
theorem dX8_addCurve_47 : decode cX8_addCurve 47 = .ok (.getfield 19, 3) := by decide +kernel
theorem dX8_addCurve_50 : decode cX8_addCurve 50 = .ok (.iload_n 1, 1) := by decide +kernel
theorem dX8_addCurve_51 : decode cX8_addCurve 51 = .ok (.iload_n 2, 1) := by decide +kernel
theorem dX8_addCurve_52 : decode cX8_addCurve 52 = .ok (.iload_n 3, 1) := by decide +kernel
theorem dX8_addCurve_53 : decode cX8_addCurve 53 = .ok (.invokevirtual 100, 3) := by decide +kernel
theorem dX8_addCurve_56 : decode cX8_addCurve 56 = .ok (.aload_n 0, 1) := by decide +kernel
theorem dX8_addCurve_57 : decode cX8_addCurve 57 = .ok (.getfield 19, 3) := by decide +kernel
theorem dX8_addCurve_60 : decode cX8_addCurve 60 = .ok (.getfield 95, 3) := by decide +kernel
theorem dX8_addCurve_63 : decode cX8_addCurve 63 = .ok (.ireturn, 1) := by decide +kernel
set_option maxRecDepth 20000 in
theorem ggX8_addHouse_X8_checkGround : GoodIn wsX8_addHouse wsX8_checkGround := goodIn_ca (goodIn_r _ [11, 12, 13, 14, 15, 16, 17, 18, 19, 20, 34, 35, 36, 37, 38, 39, 40, 41, 42, 43, 44, 45, 52, 53, 54, 55] (by decide +kernel) (by decide +kernel)) (goodIn_sub (fun _ h => List.mem_cons_of_mem _ (List.mem_append_left _ (List.mem_append_right _ h))) (by decide +kernel))
set_option maxRecDepth 20000 in
theorem gX8_addHouse_X8_checkGround : GoodIn wsX8_addHouse (wsV RX8 101 RX8 yX8_checkGround wsX8_checkGround) := goodIn_app (goodIn_of _ (by decide +kernel)) ggX8_addHouse_X8_checkGround
set_option maxRecDepth 20000 in
theorem ggX8_addHouse_X8_checkRange : GoodIn wsX8_addHouse wsX8_checkRange := goodIn_ca (goodIn_r _ [23, 1, 2] (by decide +kernel) (by decide +kernel)) (goodIn_sub (fun _ h => List.mem_cons_of_mem _ (List.mem_append_left _ (List.mem_append_left _ (List.mem_append_left _ (List.mem_append_right _ h))))) (by decide +kernel))
set_option maxRecDepth 20000 in
theorem gX8_addHouse_X8_checkRange : GoodIn wsX8_addHouse (va_wsS RX8 78 yX8_checkRange wsX8_checkRange) := goodIn_app (goodIn_of _ (by decide +kernel)) ggX8_addHouse_X8_checkRange
set_option maxRecDepth 20000 in
theorem ggX8_addHouse_X2_build : GoodIn wsX8_addHouse wsX2_build := goodIn_ca (goodIn_r _ [28, 29, 30, 31, 32, 33, 46, 47, 48, 49, 50, 51] (by decide +kernel) (by decide +kernel)) (goodIn_sub (fun _ h => List.mem_cons_of_mem _ (List.mem_append_right _ h)) (by decide +kernel))
set_option maxRecDepth 20000 in
theorem gX8_addHouse_X2_build : GoodIn wsX8_addHouse (wsV RX8 122 RX2 yX2_build wsX2_build) := goodIn_app (goodIn_of _ (by decide +kernel)) ggX8_addHouse_X2_build
theorem dX8_addHouse_0 : decode cX8_addHouse 0 = .ok (.aload_n 0, 1) := by decide +kernel
theorem dX8_addHouse_1 : decode cX8_addHouse 1 = .ok (.iload_n 1, 1) := by decide +kernel
theorem dX8_addHouse_2 : decode cX8_addHouse 2 = .ok (.invokevirtual 101, 3) := by decide +kernel
theorem dX8_addHouse_5 : decode cX8_addHouse 5 = .ok (.aload_n 0, 1) := by decide +kernel
theorem dX8_addHouse_6 : decode cX8_addHouse 6 = .ok (.iload_n 2, 1) := by decide +kernel
theorem dX8_addHouse_7 : decode cX8_addHouse 7 = .ok (.invokevirtual 101, 3) := by decide +kernel
theorem dX8_addHouse_10 : decode cX8_addHouse 10 = .ok (.iload_n 2, 1) := by decide +kernel
theorem dX8_addHouse_11 : decode cX8_addHouse 11 = .ok (.iload_n 1, 1) := by decide +kernel
theorem dX8_addHouse_12 : decode cX8_addHouse 12 = .ok (.if_icmp .ge 13, 3) := by decide +kernel
theorem dX8_addHouse_15 : decode cX8_addHouse 15 = .ok (.new 112, 3) := by decide +kernel
theorem dX8_addHouse_18 : decode cX8_addHouse 18 = .ok (.dup, 1) := by decide +kernel
theorem dX8_addHouse_19 : decode cX8_addHouse 19 = .ok (.ldc 114, 2) := by decide +kernel
theorem dX8_addHouse_21 : decode cX8_addHouse 21 = .ok (.invokespecial 116, 3) := by decide +kernel
theorem dX8_addHouse_24 : decode cX8_addHouse 24 = .ok (.athrow, 1) := by decide +kernel
theorem dX8_addHouse_25 : decode cX8_addHouse 25 = .ok (.iload_n 3, 1) := by decide +kernel
theorem dX8_addHouse_26 : decode cX8_addHouse 26 = .ok (.iconst 0, 1) := by decide +kernel
theorem dX8_addHouse_27 : decode cX8_addHouse 27 = .ok (.bipush 100, 2) := by decide +kernel
theorem dX8_addHouse_29 : decode cX8_addHouse 29 = .ok (.invokestatic 78, 3) := by decide +kernel
theorem dX8_addHouse_32 : decode cX8_addHouse 32 = .ok (.iload 4, 2) := by decide +kernel
theorem dX8_addHouse_34 : decode cX8_addHouse 34 = .ok (.iconst 1, 1) := by decide +kernel
theorem dX8_addHouse_35 : decode cX8_addHouse 35 = .ok (.bipush 50, 2) := by decide +kernel
theorem dX8_addHouse_37 : decode cX8_addHouse 37 = .ok (.invokestatic 78, 3) := by decide +kernel
theorem dX8_addHouse_40 : decode cX8_addHouse 40 = .ok (.aload_n 0, 1) := by decide +kernel
theorem dX8_addHouse_41 : decode cX8_addHouse 41 = .ok (.getfield 26, 3) := by decide +kernel
theorem dX8_addHouse_44 : decode cX8_addHouse 44 = .ok (.getfield 117, 3) := by decide +kernel
theorem dX8_addHouse_47 : decode cX8_addHouse 47 = .ok (.bipush 8, 2) := by decide +kernel
theorem dX8_addHouse_49 : decode cX8_addHouse 49 = .ok (.if_icmp .lt 13, 3) := by decide +kernel
theorem dX8_addHouse_52 : decode cX8_addHouse 52 = .ok (.new 85, 3) := by decide +kernel
theorem dX8_addHouse_55 : decode cX8_addHouse 55 = .ok (.dup, 1) := by decide +kernel
theorem dX8_addHouse_56 : decode cX8_addHouse 56 = .ok (.ldc 120, 2) := by decide +kernel
theorem dX8_addHouse_58 : decode cX8_addHouse 58 = .ok (.invokespecial 89, 3) := by decide +kernel
theorem dX8_addHouse_61 : decode cX8_addHouse 61 = .ok (.athrow, 1) := by decide +kernel
theorem dX8_addHouse_62 : decode cX8_addHouse 62 = .ok (.aload_n 0, 1) := by decide +kernel
theorem dX8_addHouse_63 : decode cX8_addHouse 63 = .ok (.getfield 26, 3) := by decide +kernel
theorem dX8_addHouse_66 : decode cX8_addHouse 66 = .ok (.iload_n 1, 1) := by decide +kernel
theorem dX8_addHouse_67 : decode cX8_addHouse 67 = .ok (.iload_n 2, 1) := by decide +kernel
theorem dX8_addHouse_68 : decode cX8_addHouse 68 = .ok (.iload_n 3, 1) := by decide +kernel
theorem dX8_addHouse_69 : decode cX8_addHouse 69 = .ok (.iload 4, 2) := by decide +kernel
theorem dX8_addHouse_71 : decode cX8_addHouse 71 = .ok (.invokevirtual 122, 3) := by decide +kernel
theorem dX8_addHouse_74 : decode cX8_addHouse 74 = .ok (.ireturn, 1) := by decide +kernel
set_option maxRecDepth 20000 in
theorem ggX8_cast_X8_checkStack : GoodIn wsX8_cast wsX8_checkStack := goodIn_ca (goodIn_r _ [9, 10, 11] (by decide +kernel) (by decide +kernel)) (goodIn_sub (fun _ h => List.mem_cons_of_mem _ (List.mem_append_left _ (List.mem_append_right _ h))) (by decide +kernel))
set_option maxRecDepth 20000 in
theorem gX8_cast_X8_checkStack : GoodIn wsX8_cast (va_wsS RX8 126 yX8_checkStack wsX8_checkStack) := goodIn_app (goodIn_of _ (by decide +kernel)) ggX8_cast_X8_checkStack
set_option maxRecDepth 20000 in
theorem ggX8_cast_X8_checkRange : GoodIn wsX8_cast wsX8_checkRange := goodIn_ca (goodIn_r _ [14, 15, 16] (by decide +kernel) (by decide +kernel)) (goodIn_sub (fun _ h => List.mem_cons_of_mem _ (List.mem_append_right _ h)) (by decide +kernel))
set_option maxRecDepth 20000 in
theorem gX8_cast_X8_checkRange : GoodIn wsX8_cast (va_wsS RX8 78 yX8_checkRange wsX8_checkRange) := goodIn_app (goodIn_of _ (by decide +kernel)) ggX8_cast_X8_checkRange
set_option maxRecDepth 20000 in
theorem ggX8_cast_X7_isFull : GoodIn wsX8_cast wsX7_isFull := goodIn_ca (goodIn_r _ [21, 22, 41, 42, 43] (by decide +kernel) (by decide +kernel)) (goodIn_sub (fun _ h => List.mem_cons_of_mem _ (List.mem_append_left _ (List.mem_append_left _ (List.mem_append_right _ h)))) (by decide +kernel))
set_option maxRecDepth 20000 in
theorem gX8_cast_X7_isFull : GoodIn wsX8_cast (wsV RX8 129 RX7 yX7_isFull wsX7_isFull) := goodIn_app (goodIn_of _ (by decide +kernel)) ggX8_cast_X7_isFull
set_option maxRecDepth 20000 in
theorem ggX8_cast_X7_put : GoodIn wsX8_cast wsX7_put := goodIn_ca (goodIn_r _ [26, 22, 27, 28, 41, 42, 43] (by decide +kernel) (by decide +kernel)) (goodIn_sub (fun _ h => List.mem_cons_of_mem _ (List.mem_append_left _ (List.mem_append_left _ (List.mem_append_right _ h)))) (by decide +kernel))
set_option maxRecDepth 20000 in
theorem gX8_cast_X7_put : GoodIn wsX8_cast (wsV RX8 135 RX7 yX7_put wsX7_put) := goodIn_app (goodIn_of _ (by decide +kernel)) ggX8_cast_X7_put
theorem dX8_cast_0 : decode cX8_cast 0 = .ok (.iload_n 1, 1) := by decide +kernel
theorem dX8_cast_1 : decode cX8_cast 1 = .ok (.invokestatic 126, 3) := by decide +kernel
theorem dX8_cast_4 : decode cX8_cast 4 = .ok (.iload_n 2, 1) := by decide +kernel
theorem dX8_cast_5 : decode cX8_cast 5 = .ok (.iconst 0, 1) := by decide +kernel
theorem dX8_cast_6 : decode cX8_cast 6 = .ok (.bipush 9, 2) := by decide +kernel
theorem dX8_cast_8 : decode cX8_cast 8 = .ok (.invokestatic 78, 3) := by decide +kernel
theorem dX8_cast_11 : decode cX8_cast 11 = .ok (.aload_n 0, 1) := by decide +kernel
theorem dX8_cast_12 : decode cX8_cast 12 = .ok (.getfield 33, 3) := by decide +kernel
theorem dX8_cast_15 : decode cX8_cast 15 = .ok (.iload_n 1, 1) := by decide +kernel
theorem dX8_cast_16 : decode cX8_cast 16 = .ok (.invokevirtual 129, 3) := by decide +kernel
theorem dX8_cast_19 : decode cX8_cast 19 = .ok (.ifCond .eq 13, 3) := by decide +kernel
theorem dX8_cast_22 : decode cX8_cast 22 = .ok (.new 85, 3) := by decide +kernel
theorem dX8_cast_25 : decode cX8_cast 25 = .ok (.dup, 1) := by decide +kernel
theorem dX8_cast_26 : decode cX8_cast 26 = .ok (.ldc 133, 2) := by decide +kernel
theorem dX8_cast_28 : decode cX8_cast 28 = .ok (.invokespecial 89, 3) := by decide +kernel
theorem dX8_cast_31 : decode cX8_cast 31 = .ok (.athrow, 1) := by decide +kernel
theorem dX8_cast_32 : decode cX8_cast 32 = .ok (.aload_n 0, 1) := by decide +kernel
theorem dX8_cast_33 : decode cX8_cast 33 = .ok (.getfield 33, 3) := by decide +kernel
theorem dX8_cast_36 : decode cX8_cast 36 = .ok (.iload_n 1, 1) := by decide +kernel
theorem dX8_cast_37 : decode cX8_cast 37 = .ok (.iload_n 2, 1) := by decide +kernel
theorem dX8_cast_38 : decode cX8_cast 38 = .ok (.aload_n 0, 1) := by decide +kernel
theorem dX8_cast_39 : decode cX8_cast 39 = .ok (.getfield 75, 3) := by decide +kernel
theorem dX8_cast_42 : decode cX8_cast 42 = .ok (.invokevirtual 135, 3) := by decide +kernel
theorem dX8_cast_45 : decode cX8_cast 45 = .ok (.aload_n 0, 1) := by decide +kernel
theorem dX8_cast_46 : decode cX8_cast 46 = .ok (.getfield 33, 3) := by decide +kernel
theorem dX8_cast_49 : decode cX8_cast 49 = .ok (.getfield 138, 3) := by decide +kernel
theorem dX8_cast_52 : decode cX8_cast 52 = .ok (.iload_n 1, 1) := by decide +kernel
theorem dX8_cast_53 : decode cX8_cast 53 = .ok (.iaload, 1) := by decide +kernel
theorem dX8_cast_54 : decode cX8_cast 54 = .ok (.ireturn, 1) := by decide +kernel
set_option maxRecDepth 20000 in
theorem ggX8_heightOf_X8_checkStack : GoodIn wsX8_heightOf wsX8_checkStack := goodIn_ca (goodIn_r _ [6, 7, 8] (by decide +kernel) (by decide +kernel)) (goodIn_sub (fun _ h => List.mem_cons_of_mem _ (List.mem_append_right _ h)) (by decide +kernel))
set_option maxRecDepth 20000 in
theorem gX8_heightOf_X8_checkStack : GoodIn wsX8_heightOf (va_wsS RX8 126 yX8_checkStack wsX8_checkStack) := goodIn_app (goodIn_of _ (by decide +kernel)) ggX8_heightOf_X8_checkStack
theorem dX8_heightOf_0 : decode cX8_heightOf 0 = .ok (.iload_n 1, 1) := by decide +kernel
theorem dX8_heightOf_1 : decode cX8_heightOf 1 = .ok (.invokestatic 126, 3) := by decide +kernel
theorem dX8_heightOf_4 : decode cX8_heightOf 4 = .ok (.aload_n 0, 1) := by decide +kernel
theorem dX8_heightOf_5 : decode cX8_heightOf 5 = .ok (.getfield 33, 3) := by decide +kernel
theorem dX8_heightOf_8 : decode cX8_heightOf 8 = .ok (.getfield 138, 3) := by decide +kernel
theorem dX8_heightOf_11 : decode cX8_heightOf 11 = .ok (.iload_n 1, 1) := by decide +kernel
theorem dX8_heightOf_12 : decode cX8_heightOf 12 = .ok (.iaload, 1) := by decide +kernel
theorem dX8_heightOf_13 : decode cX8_heightOf 13 = .ok (.ireturn, 1) := by decide +kernel
set_option maxRecDepth 20000 in
theorem ggX8_taperAt_X8_checkStack : GoodIn wsX8_taperAt wsX8_checkStack := goodIn_ca (goodIn_r _ [8, 9, 10] (by decide +kernel) (by decide +kernel)) (goodIn_sub (fun _ h => List.mem_cons_of_mem _ (List.mem_append_right _ h)) (by decide +kernel))
set_option maxRecDepth 20000 in
theorem gX8_taperAt_X8_checkStack : GoodIn wsX8_taperAt (va_wsS RX8 126 yX8_checkStack wsX8_checkStack) := goodIn_app (goodIn_of _ (by decide +kernel)) ggX8_taperAt_X8_checkStack
set_option maxRecDepth 20000 in
theorem ggX8_taperAt_X7_taperIn : GoodIn wsX8_taperAt wsX7_taperIn := goodIn_ca (goodIn_r _ [15, 16, 29, 30, 31] (by decide +kernel) (by decide +kernel)) (goodIn_sub (fun _ h => List.mem_cons_of_mem _ (List.mem_append_left _ (List.mem_append_left _ (List.mem_append_right _ h)))) (by decide +kernel))
set_option maxRecDepth 20000 in
theorem gX8_taperAt_X7_taperIn : GoodIn wsX8_taperAt (wsV RX8 147 RX7 yX7_taperIn wsX7_taperIn) := goodIn_app (goodIn_of _ (by decide +kernel)) ggX8_taperAt_X7_taperIn
theorem dX8_taperAt_0 : decode cX8_taperAt 0 = .ok (.iload_n 1, 1) := by decide +kernel
theorem dX8_taperAt_1 : decode cX8_taperAt 1 = .ok (.invokestatic 126, 3) := by decide +kernel
theorem dX8_taperAt_4 : decode cX8_taperAt 4 = .ok (.iload_n 2, 1) := by decide +kernel
theorem dX8_taperAt_5 : decode cX8_taperAt 5 = .ok (.ifCond .lt 16, 3) := by decide +kernel
theorem dX8_taperAt_8 : decode cX8_taperAt 8 = .ok (.iload_n 2, 1) := by decide +kernel
theorem dX8_taperAt_9 : decode cX8_taperAt 9 = .ok (.aload_n 0, 1) := by decide +kernel
theorem dX8_taperAt_10 : decode cX8_taperAt 10 = .ok (.getfield 33, 3) := by decide +kernel
theorem dX8_taperAt_13 : decode cX8_taperAt 13 = .ok (.getfield 138, 3) := by decide +kernel
theorem dX8_taperAt_16 : decode cX8_taperAt 16 = .ok (.iload_n 1, 1) := by decide +kernel
theorem dX8_taperAt_17 : decode cX8_taperAt 17 = .ok (.iaload, 1) := by decide +kernel
theorem dX8_taperAt_18 : decode cX8_taperAt 18 = .ok (.if_icmp .lt 13, 3) := by decide +kernel
theorem dX8_taperAt_21 : decode cX8_taperAt 21 = .ok (.new 142, 3) := by decide +kernel
theorem dX8_taperAt_24 : decode cX8_taperAt 24 = .ok (.dup, 1) := by decide +kernel
theorem dX8_taperAt_25 : decode cX8_taperAt 25 = .ok (.ldc 144, 2) := by decide +kernel
theorem dX8_taperAt_27 : decode cX8_taperAt 27 = .ok (.invokespecial 146, 3) := by decide +kernel
theorem dX8_taperAt_30 : decode cX8_taperAt 30 = .ok (.athrow, 1) := by decide +kernel
theorem dX8_taperAt_31 : decode cX8_taperAt 31 = .ok (.aload_n 0, 1) := by decide +kernel
theorem dX8_taperAt_32 : decode cX8_taperAt 32 = .ok (.getfield 33, 3) := by decide +kernel
theorem dX8_taperAt_35 : decode cX8_taperAt 35 = .ok (.iload_n 1, 1) := by decide +kernel
theorem dX8_taperAt_36 : decode cX8_taperAt 36 = .ok (.iload_n 2, 1) := by decide +kernel
theorem dX8_taperAt_37 : decode cX8_taperAt 37 = .ok (.invokevirtual 147, 3) := by decide +kernel
theorem dX8_taperAt_40 : decode cX8_taperAt 40 = .ok (.ireturn, 1) := by decide +kernel
set_option maxRecDepth 20000 in
theorem ggX8_hoursToCure_X8_checkStack : GoodIn wsX8_hoursToCure wsX8_checkStack := goodIn_ca (goodIn_r _ [7, 8, 9] (by decide +kernel) (by decide +kernel)) (goodIn_sub (fun _ h => List.mem_cons_of_mem _ (List.mem_append_left _ (List.mem_append_right _ h))) (by decide +kernel))
set_option maxRecDepth 20000 in
theorem gX8_hoursToCure_X8_checkStack : GoodIn wsX8_hoursToCure (va_wsS RX8 126 yX8_checkStack wsX8_checkStack) := goodIn_app (goodIn_of _ (by decide +kernel)) ggX8_hoursToCure_X8_checkStack
set_option maxRecDepth 20000 in
theorem ggX8_hoursToCure_X8_checkRings : GoodIn wsX8_hoursToCure wsX8_checkRings := goodIn_ca (goodIn_ca (goodIn_r _ [13, 14, 15, 1, 2, 26, 27, 28, 29, 30, 31, 32, 33, 34, 35, 36, 37, 38, 39, 40] (by decide +kernel) (by decide +kernel)) (goodIn_sub (fun _ h => List.mem_cons_of_mem _ (List.mem_append_left _ (List.mem_append_left _ (List.mem_append_right _ h)))) (by decide +kernel))) (goodIn_sub (fun _ h => List.mem_cons_of_mem _ (List.mem_append_right _ h)) (by decide +kernel))
set_option maxRecDepth 20000 in
theorem gX8_hoursToCure_X8_checkRings : GoodIn wsX8_hoursToCure (wsV RX8 151 RX8 yX8_checkRings wsX8_checkRings) := goodIn_app (goodIn_of _ (by decide +kernel)) ggX8_hoursToCure_X8_checkRings
set_option maxRecDepth 20000 in
theorem ggX8_hoursToCure_X7_hoursLeft : GoodIn wsX8_hoursToCure wsX7_hoursLeft := goodIn_ca (goodIn_r _ [20, 21, 22, 23, 24, 25, 38, 39, 40] (by decide +kernel) (by decide +kernel)) (goodIn_sub (fun _ h => List.mem_cons_of_mem _ (List.mem_append_left _ (List.mem_append_left _ (List.mem_append_right _ h)))) (by decide +kernel))
set_option maxRecDepth 20000 in
theorem gX8_hoursToCure_X7_hoursLeft : GoodIn wsX8_hoursToCure (wsV RX8 155 RX7 yX7_hoursLeft wsX7_hoursLeft) := goodIn_app (goodIn_of _ (by decide +kernel)) ggX8_hoursToCure_X7_hoursLeft
theorem dX8_hoursToCure_0 : decode cX8_hoursToCure 0 = .ok (.iload_n 1, 1) := by decide +kernel
theorem dX8_hoursToCure_1 : decode cX8_hoursToCure 1 = .ok (.invokestatic 126, 3) := by decide +kernel
theorem dX8_hoursToCure_4 : decode cX8_hoursToCure 4 = .ok (.aload_n 0, 1) := by decide +kernel
theorem dX8_hoursToCure_5 : decode cX8_hoursToCure 5 = .ok (.iload_n 1, 1) := by decide +kernel
theorem dX8_hoursToCure_6 : decode cX8_hoursToCure 6 = .ok (.iconst 1, 1) := by decide +kernel
theorem dX8_hoursToCure_7 : decode cX8_hoursToCure 7 = .ok (.invokevirtual 151, 3) := by decide +kernel
theorem dX8_hoursToCure_10 : decode cX8_hoursToCure 10 = .ok (.aload_n 0, 1) := by decide +kernel
theorem dX8_hoursToCure_11 : decode cX8_hoursToCure 11 = .ok (.getfield 33, 3) := by decide +kernel
theorem dX8_hoursToCure_14 : decode cX8_hoursToCure 14 = .ok (.iload_n 1, 1) := by decide +kernel
theorem dX8_hoursToCure_15 : decode cX8_hoursToCure 15 = .ok (.aload_n 0, 1) := by decide +kernel
theorem dX8_hoursToCure_16 : decode cX8_hoursToCure 16 = .ok (.getfield 33, 3) := by decide +kernel
theorem dX8_hoursToCure_19 : decode cX8_hoursToCure 19 = .ok (.getfield 138, 3) := by decide +kernel
theorem dX8_hoursToCure_22 : decode cX8_hoursToCure 22 = .ok (.iload_n 1, 1) := by decide +kernel
theorem dX8_hoursToCure_23 : decode cX8_hoursToCure 23 = .ok (.iaload, 1) := by decide +kernel
theorem dX8_hoursToCure_24 : decode cX8_hoursToCure 24 = .ok (.iconst 1, 1) := by decide +kernel
theorem dX8_hoursToCure_25 : decode cX8_hoursToCure 25 = .ok (.isub, 1) := by decide +kernel
theorem dX8_hoursToCure_26 : decode cX8_hoursToCure 26 = .ok (.aload_n 0, 1) := by decide +kernel
theorem dX8_hoursToCure_27 : decode cX8_hoursToCure 27 = .ok (.getfield 75, 3) := by decide +kernel
theorem dX8_hoursToCure_30 : decode cX8_hoursToCure 30 = .ok (.invokevirtual 155, 3) := by decide +kernel
theorem dX8_hoursToCure_33 : decode cX8_hoursToCure 33 = .ok (.ireturn, 1) := by decide +kernel
set_option maxRecDepth 20000 in
theorem ggX8_restack_X8_checkStack : GoodIn wsX8_restack wsX8_checkStack := goodIn_ca (goodIn_r _ [8, 9, 10] (by decide +kernel) (by decide +kernel)) (goodIn_sub (fun _ h => List.mem_cons_of_mem _ (List.mem_append_left _ (List.mem_append_right _ h))) (by decide +kernel))
set_option maxRecDepth 20000 in
theorem gX8_restack_X8_checkStack : GoodIn wsX8_restack (va_wsS RX8 126 yX8_checkStack wsX8_checkStack) := goodIn_app (goodIn_of _ (by decide +kernel)) ggX8_restack_X8_checkStack
set_option maxRecDepth 20000 in
theorem ggX8_restack_X8_checkRings : GoodIn wsX8_restack wsX8_checkRings := goodIn_ca (goodIn_ca (goodIn_r _ [14, 15, 16, 3, 4, 37, 38, 39, 40, 41, 42, 43, 44, 45, 46, 47, 48, 49, 50, 51] (by decide +kernel) (by decide +kernel)) (goodIn_sub (fun _ h => List.mem_cons_of_mem _ (List.mem_append_left _ (List.mem_append_left _ (List.mem_append_right _ h)))) (by decide +kernel))) (goodIn_sub (fun _ h => List.mem_cons_of_mem _ (List.mem_append_right _ h)) (by decide +kernel))
set_option maxRecDepth 20000 in
theorem gX8_restack_X8_checkRings : GoodIn wsX8_restack (wsV RX8 151 RX8 yX8_checkRings wsX8_checkRings) := goodIn_app (goodIn_of _ (by decide +kernel)) ggX8_restack_X8_checkRings
set_option maxRecDepth 20000 in
theorem ggX8_restack_X7_isFull : GoodIn wsX8_restack wsX7_isFull := goodIn_ca (goodIn_r _ [21, 22, 49, 50, 51] (by decide +kernel) (by decide +kernel)) (goodIn_sub (fun _ h => List.mem_cons_of_mem _ (List.mem_append_left _ (List.mem_append_left _ (List.mem_append_right _ h)))) (by decide +kernel))
set_option maxRecDepth 20000 in
theorem gX8_restack_X7_isFull : GoodIn wsX8_restack (wsV RX8 129 RX7 yX7_isFull wsX7_isFull) := goodIn_app (goodIn_of _ (by decide +kernel)) ggX8_restack_X7_isFull
set_option maxRecDepth 20000 in
theorem ggX8_restack_X7_move : GoodIn wsX8_restack wsX7_move := goodIn_ca (goodIn_r _ [26, 22, 27, 28, 29, 30, 31, 20, 32, 33, 34, 35, 36, 49, 50, 51] (by decide +kernel) (by decide +kernel)) (goodIn_sub (fun _ h => List.mem_cons_of_mem _ (List.mem_append_left _ (List.mem_append_left _ (List.mem_append_right _ h)))) (by decide +kernel))
set_option maxRecDepth 20000 in
theorem gX8_restack_X7_move : GoodIn wsX8_restack (wsV RX8 161 RX7 yX7_move wsX7_move) := goodIn_app (goodIn_of _ (by decide +kernel)) ggX8_restack_X7_move
theorem dX8_restack_0 : decode cX8_restack 0 = .ok (.iload_n 1, 1) := by decide +kernel
theorem dX8_restack_1 : decode cX8_restack 1 = .ok (.invokestatic 126, 3) := by decide +kernel
theorem dX8_restack_4 : decode cX8_restack 4 = .ok (.iload_n 2, 1) := by decide +kernel
theorem dX8_restack_5 : decode cX8_restack 5 = .ok (.invokestatic 126, 3) := by decide +kernel
theorem dX8_restack_8 : decode cX8_restack 8 = .ok (.aload_n 0, 1) := by decide +kernel
theorem dX8_restack_9 : decode cX8_restack 9 = .ok (.iload_n 1, 1) := by decide +kernel
theorem dX8_restack_10 : decode cX8_restack 10 = .ok (.iconst 1, 1) := by decide +kernel
theorem dX8_restack_11 : decode cX8_restack 11 = .ok (.invokevirtual 151, 3) := by decide +kernel
theorem dX8_restack_14 : decode cX8_restack 14 = .ok (.iload_n 1, 1) := by decide +kernel
theorem dX8_restack_15 : decode cX8_restack 15 = .ok (.iload_n 2, 1) := by decide +kernel
theorem dX8_restack_16 : decode cX8_restack 16 = .ok (.if_icmp .eq 33, 3) := by decide +kernel
theorem dX8_restack_19 : decode cX8_restack 19 = .ok (.aload_n 0, 1) := by decide +kernel
theorem dX8_restack_20 : decode cX8_restack 20 = .ok (.getfield 33, 3) := by decide +kernel
theorem dX8_restack_23 : decode cX8_restack 23 = .ok (.iload_n 2, 1) := by decide +kernel
theorem dX8_restack_24 : decode cX8_restack 24 = .ok (.invokevirtual 129, 3) := by decide +kernel
theorem dX8_restack_27 : decode cX8_restack 27 = .ok (.ifCond .eq 13, 3) := by decide +kernel
theorem dX8_restack_30 : decode cX8_restack 30 = .ok (.new 85, 3) := by decide +kernel
theorem dX8_restack_33 : decode cX8_restack 33 = .ok (.dup, 1) := by decide +kernel
theorem dX8_restack_34 : decode cX8_restack 34 = .ok (.ldc 159, 2) := by decide +kernel
theorem dX8_restack_36 : decode cX8_restack 36 = .ok (.invokespecial 89, 3) := by decide +kernel
theorem dX8_restack_39 : decode cX8_restack 39 = .ok (.athrow, 1) := by decide +kernel
theorem dX8_restack_40 : decode cX8_restack 40 = .ok (.aload_n 0, 1) := by decide +kernel
theorem dX8_restack_41 : decode cX8_restack 41 = .ok (.getfield 33, 3) := by decide +kernel
theorem dX8_restack_44 : decode cX8_restack 44 = .ok (.iload_n 1, 1) := by decide +kernel
theorem dX8_restack_45 : decode cX8_restack 45 = .ok (.iload_n 2, 1) := by decide +kernel
theorem dX8_restack_46 : decode cX8_restack 46 = .ok (.invokevirtual 161, 3) := by decide +kernel
theorem dX8_restack_49 : decode cX8_restack 49 = .ok (.aload_n 0, 1) := by decide +kernel
theorem dX8_restack_50 : decode cX8_restack 50 = .ok (.getfield 33, 3) := by decide +kernel
theorem dX8_restack_53 : decode cX8_restack 53 = .ok (.getfield 138, 3) := by decide +kernel
theorem dX8_restack_56 : decode cX8_restack 56 = .ok (.iload_n 2, 1) := by decide +kernel
theorem dX8_restack_57 : decode cX8_restack 57 = .ok (.iaload, 1) := by decide +kernel
theorem dX8_restack_58 : decode cX8_restack 58 = .ok (.ireturn, 1) := by decide +kernel
set_option maxRecDepth 20000 in
theorem ggX8_curedShare_X7_countRings : GoodIn wsX8_curedShare wsX7_countRings := goodIn_ca (goodIn_r _ [9, 10, 36, 37, 38] (by decide +kernel) (by decide +kernel)) (goodIn_sub (fun _ h => List.mem_cons_of_mem _ (List.mem_append_right _ h)) (by decide +kernel))
set_option maxRecDepth 20000 in
theorem gX8_curedShare_X7_countRings : GoodIn wsX8_curedShare (wsV RX8 164 RX7 yX7_countRings wsX7_countRings) := goodIn_app (goodIn_of _ (by decide +kernel)) ggX8_curedShare_X7_countRings
set_option maxRecDepth 20000 in
theorem ggX8_curedShare_X7_countCured : GoodIn wsX8_curedShare wsX7_countCured := goodIn_ca (goodIn_r _ [14, 10, 15, 16, 17, 8, 18, 19, 20, 21, 22, 23, 36, 37, 38] (by decide +kernel) (by decide +kernel)) (goodIn_sub (fun _ h => List.mem_cons_of_mem _ (List.mem_append_right _ h)) (by decide +kernel))
set_option maxRecDepth 20000 in
theorem gX8_curedShare_X7_countCured : GoodIn wsX8_curedShare (wsV RX8 173 RX7 yX7_countCured wsX7_countCured) := goodIn_app (goodIn_of _ (by decide +kernel)) ggX8_curedShare_X7_countCured
theorem dX8_curedShare_0 : decode cX8_curedShare 0 = .ok (.aload_n 0, 1) := by decide +kernel
theorem dX8_curedShare_1 : decode cX8_curedShare 1 = .ok (.getfield 33, 3) := by decide +kernel
theorem dX8_curedShare_4 : decode cX8_curedShare 4 = .ok (.invokevirtual 164, 3) := by decide +kernel
theorem dX8_curedShare_7 : decode cX8_curedShare 7 = .ok (.istore_n 1, 1) := by decide +kernel
theorem dX8_curedShare_8 : decode cX8_curedShare 8 = .ok (.iload_n 1, 1) := by decide +kernel
theorem dX8_curedShare_9 : decode cX8_curedShare 9 = .ok (.ifCond .ne 13, 3) := by decide +kernel
theorem dX8_curedShare_12 : decode cX8_curedShare 12 = .ok (.new 168, 3) := by decide +kernel
theorem dX8_curedShare_15 : decode cX8_curedShare 15 = .ok (.dup, 1) := by decide +kernel
theorem dX8_curedShare_16 : decode cX8_curedShare 16 = .ok (.ldc 170, 2) := by decide +kernel
theorem dX8_curedShare_18 : decode cX8_curedShare 18 = .ok (.invokespecial 172, 3) := by decide +kernel
theorem dX8_curedShare_21 : decode cX8_curedShare 21 = .ok (.athrow, 1) := by decide +kernel
theorem dX8_curedShare_22 : decode cX8_curedShare 22 = .ok (.aload_n 0, 1) := by decide +kernel
theorem dX8_curedShare_23 : decode cX8_curedShare 23 = .ok (.getfield 33, 3) := by decide +kernel
theorem dX8_curedShare_26 : decode cX8_curedShare 26 = .ok (.aload_n 0, 1) := by decide +kernel
theorem dX8_curedShare_27 : decode cX8_curedShare 27 = .ok (.getfield 75, 3) := by decide +kernel
theorem dX8_curedShare_30 : decode cX8_curedShare 30 = .ok (.invokevirtual 173, 3) := by decide +kernel
theorem dX8_curedShare_33 : decode cX8_curedShare 33 = .ok (.i2f, 1) := by decide +kernel
theorem dX8_curedShare_34 : decode cX8_curedShare 34 = .ok (.iload_n 1, 1) := by decide +kernel
theorem dX8_curedShare_35 : decode cX8_curedShare 35 = .ok (.i2f, 1) := by decide +kernel
theorem dX8_curedShare_36 : decode cX8_curedShare 36 = .ok (.fdiv, 1) := by decide +kernel
theorem dX8_curedShare_37 : decode cX8_curedShare 37 = .ok (.freturn, 1) := by decide +kernel
set_option maxRecDepth 20000 in
theorem ggX8_setPressure_X8_checkRange : GoodIn wsX8_setPressure wsX8_checkRange := goodIn_ca (goodIn_r _ [5, 6, 7] (by decide +kernel) (by decide +kernel)) (goodIn_sub (fun _ h => List.mem_cons_of_mem _ (List.mem_append_right _ h)) (by decide +kernel))
set_option maxRecDepth 20000 in
theorem gX8_setPressure_X8_checkRange : GoodIn wsX8_setPressure (va_wsS RX8 78 yX8_checkRange wsX8_checkRange) := goodIn_app (goodIn_of _ (by decide +kernel)) ggX8_setPressure_X8_checkRange
theorem dX8_setPressure_0 : decode cX8_setPressure 0 = .ok (.iload_n 1, 1) := by decide +kernel
theorem dX8_setPressure_1 : decode cX8_setPressure 1 = .ok (.iconst 0, 1) := by decide +kernel
theorem dX8_setPressure_2 : decode cX8_setPressure 2 = .ok (.bipush 100, 2) := by decide +kernel
theorem dX8_setPressure_4 : decode cX8_setPressure 4 = .ok (.invokestatic 78, 3) := by decide +kernel
theorem dX8_setPressure_7 : decode cX8_setPressure 7 = .ok (.aload_n 0, 1) := by decide +kernel
theorem dX8_setPressure_8 : decode cX8_setPressure 8 = .ok (.getfield 65, 3) := by decide +kernel
theorem dX8_setPressure_11 : decode cX8_setPressure 11 = .ok (.istore_n 2, 1) := by decide +kernel
theorem dX8_setPressure_12 : decode cX8_setPressure 12 = .ok (.aload_n 0, 1) := by decide +kernel
theorem dX8_setPressure_13 : decode cX8_setPressure 13 = .ok (.iload_n 1, 1) := by decide +kernel
theorem dX8_setPressure_14 : decode cX8_setPressure 14 = .ok (.putfield 65, 3) := by decide +kernel
theorem dX8_setPressure_17 : decode cX8_setPressure 17 = .ok (.iload_n 2, 1) := by decide +kernel
theorem dX8_setPressure_18 : decode cX8_setPressure 18 = .ok (.ireturn, 1) := by decide +kernel
set_option maxRecDepth 20000 in
theorem ggX8_addSlurry_X8_checkRange : GoodIn wsX8_addSlurry wsX8_checkRange := goodIn_ca (goodIn_r _ [7, 8, 9] (by decide +kernel) (by decide +kernel)) (goodIn_sub (fun _ h => List.mem_cons_of_mem _ (List.mem_append_right _ h)) (by decide +kernel))
set_option maxRecDepth 20000 in
theorem gX8_addSlurry_X8_checkRange : GoodIn wsX8_addSlurry (va_wsS RX8 78 yX8_checkRange wsX8_checkRange) := goodIn_app (goodIn_of _ (by decide +kernel)) ggX8_addSlurry_X8_checkRange
theorem dX8_addSlurry_0 : decode cX8_addSlurry 0 = .ok (.iload_n 1, 1) := by decide +kernel
theorem dX8_addSlurry_1 : decode cX8_addSlurry 1 = .ok (.iconst 1, 1) := by decide +kernel
theorem dX8_addSlurry_2 : decode cX8_addSlurry 2 = .ok (.sipush 500, 3) := by decide +kernel
theorem dX8_addSlurry_5 : decode cX8_addSlurry 5 = .ok (.invokestatic 78, 3) := by decide +kernel
theorem dX8_addSlurry_8 : decode cX8_addSlurry 8 = .ok (.aload_n 0, 1) := by decide +kernel
theorem dX8_addSlurry_9 : decode cX8_addSlurry 9 = .ok (.getfield 69, 3) := by decide +kernel
theorem dX8_addSlurry_12 : decode cX8_addSlurry 12 = .ok (.iload_n 1, 1) := by decide +kernel
theorem dX8_addSlurry_13 : decode cX8_addSlurry 13 = .ok (.iadd, 1) := by decide +kernel
theorem dX8_addSlurry_14 : decode cX8_addSlurry 14 = .ok (.sipush 1000, 3) := by decide +kernel
theorem dX8_addSlurry_17 : decode cX8_addSlurry 17 = .ok (.if_icmp .le 13, 3) := by decide +kernel
theorem dX8_addSlurry_20 : decode cX8_addSlurry 20 = .ok (.new 85, 3) := by decide +kernel
theorem dX8_addSlurry_23 : decode cX8_addSlurry 23 = .ok (.dup, 1) := by decide +kernel
theorem dX8_addSlurry_24 : decode cX8_addSlurry 24 = .ok (.ldc 176, 2) := by decide +kernel
theorem dX8_addSlurry_26 : decode cX8_addSlurry 26 = .ok (.invokespecial 89, 3) := by decide +kernel
theorem dX8_addSlurry_29 : decode cX8_addSlurry 29 = .ok (.athrow, 1) := by decide +kernel
theorem dX8_addSlurry_30 : decode cX8_addSlurry 30 = .ok (.aload_n 0, 1) := by decide +kernel
theorem dX8_addSlurry_31 : decode cX8_addSlurry 31 = .ok (.dup, 1) := by decide +kernel
theorem dX8_addSlurry_32 : decode cX8_addSlurry 32 = .ok (.getfield 69, 3) := by decide +kernel
theorem dX8_addSlurry_35 : decode cX8_addSlurry 35 = .ok (.iload_n 1, 1) := by decide +kernel
theorem dX8_addSlurry_36 : decode cX8_addSlurry 36 = .ok (.iadd, 1) := by decide +kernel
theorem dX8_addSlurry_37 : decode cX8_addSlurry 37 = .ok (.putfield 69, 3) := by decide +kernel
theorem dX8_addSlurry_40 : decode cX8_addSlurry 40 = .ok (.aload_n 0, 1) := by decide +kernel
theorem dX8_addSlurry_41 : decode cX8_addSlurry 41 = .ok (.getfield 69, 3) := by decide +kernel
theorem dX8_addSlurry_44 : decode cX8_addSlurry 44 = .ok (.ireturn, 1) := by decide +kernel
theorem dX8_slurry_0 : decode cX8_slurry 0 = .ok (.aload_n 0, 1) := by decide +kernel
theorem dX8_slurry_1 : decode cX8_slurry 1 = .ok (.getfield 69, 3) := by decide +kernel
theorem dX8_slurry_4 : decode cX8_slurry 4 = .ok (.ireturn, 1) := by decide +kernel
set_option maxRecDepth 20000 in
theorem ggX8_slurryFor_X1_isKnown : GoodIn wsX8_slurryFor wsX1_isKnown := goodIn_r _ [10, 11, 51, 52, 53, 54] (by decide +kernel) (by decide +kernel)
set_option maxRecDepth 20000 in
theorem gX8_slurryFor_X1_isKnown : GoodIn wsX8_slurryFor (wsV RX8 181 RX1 yX1_isKnown wsX1_isKnown) := goodIn_app (goodIn_of _ (by decide +kernel)) ggX8_slurryFor_X1_isKnown
set_option maxRecDepth 20000 in
theorem ggX8_slurryFor_X8_slurryTaken : GoodIn wsX8_slurryFor wsX8_slurryTaken := goodIn_ca (goodIn_r _ [16, 17, 3, 18, 19, 20, 21, 22, 23, 24, 9, 25, 26, 27, 7, 8, 10, 11, 28, 29, 30, 31, 32, 33, 34, 35, 36, 37, 38, 39, 40, 41, 42, 43, 44, 51, 52, 53, 54] (by decide +kernel) (by decide +kernel)) (goodIn_sub (fun _ h => List.mem_cons_of_mem _ (List.mem_append_right _ h)) (by decide +kernel))
set_option maxRecDepth 20000 in
theorem gX8_slurryFor_X8_slurryTaken : GoodIn wsX8_slurryFor (wsV RX8 186 RX8 yX8_slurryTaken wsX8_slurryTaken) := goodIn_app (goodIn_of _ (by decide +kernel)) ggX8_slurryFor_X8_slurryTaken
theorem dX8_slurryFor_0 : decode cX8_slurryFor 0 = .ok (.aload_n 0, 1) := by decide +kernel
