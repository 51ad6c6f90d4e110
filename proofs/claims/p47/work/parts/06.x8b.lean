theorem dX8_slurryFor_1 : decode cX8_slurryFor 1 = .ok (.getfield 10, 3) := by decide +kernel
theorem dX8_slurryFor_4 : decode cX8_slurryFor 4 = .ok (.aload_n 0, 1) := by decide +kernel
theorem dX8_slurryFor_5 : decode cX8_slurryFor 5 = .ok (.getfield 40, 3) := by decide +kernel
theorem dX8_slurryFor_8 : decode cX8_slurryFor 8 = .ok (.getfield 178, 3) := by decide +kernel
theorem dX8_slurryFor_11 : decode cX8_slurryFor 11 = .ok (.invokevirtual 181, 3) := by decide +kernel
theorem dX8_slurryFor_14 : decode cX8_slurryFor 14 = .ok (.ifCond .ne 13, 3) := by decide +kernel
theorem dX8_slurryFor_17 : decode cX8_slurryFor 17 = .ok (.new 142, 3) := by decide +kernel
theorem dX8_slurryFor_20 : decode cX8_slurryFor 20 = .ok (.dup, 1) := by decide +kernel
theorem dX8_slurryFor_21 : decode cX8_slurryFor 21 = .ok (.ldc 184, 2) := by decide +kernel
theorem dX8_slurryFor_23 : decode cX8_slurryFor 23 = .ok (.invokespecial 146, 3) := by decide +kernel
theorem dX8_slurryFor_26 : decode cX8_slurryFor 26 = .ok (.athrow, 1) := by decide +kernel
theorem dX8_slurryFor_27 : decode cX8_slurryFor 27 = .ok (.aload_n 0, 1) := by decide +kernel
theorem dX8_slurryFor_28 : decode cX8_slurryFor 28 = .ok (.aload_n 0, 1) := by decide +kernel
theorem dX8_slurryFor_29 : decode cX8_slurryFor 29 = .ok (.getfield 40, 3) := by decide +kernel
theorem dX8_slurryFor_32 : decode cX8_slurryFor 32 = .ok (.getfield 178, 3) := by decide +kernel
theorem dX8_slurryFor_35 : decode cX8_slurryFor 35 = .ok (.invokevirtual 186, 3) := by decide +kernel
theorem dX8_slurryFor_38 : decode cX8_slurryFor 38 = .ok (.ireturn, 1) := by decide +kernel
set_option maxRecDepth 20000 in
theorem ggX8_setTolerance_X8_checkRange : GoodIn wsX8_setTolerance wsX8_checkRange := goodIn_ca (goodIn_r _ [5, 6, 7] (by decide +kernel) (by decide +kernel)) (goodIn_sub (fun _ h => List.mem_cons_of_mem _ (List.mem_append_right _ h)) (by decide +kernel))
set_option maxRecDepth 20000 in
theorem gX8_setTolerance_X8_checkRange : GoodIn wsX8_setTolerance (va_wsS RX8 78 yX8_checkRange wsX8_checkRange) := goodIn_app (goodIn_of _ (by decide +kernel)) ggX8_setTolerance_X8_checkRange
theorem dX8_setTolerance_0 : decode cX8_setTolerance 0 = .ok (.iload_n 1, 1) := by decide +kernel
theorem dX8_setTolerance_1 : decode cX8_setTolerance 1 = .ok (.iconst 0, 1) := by decide +kernel
theorem dX8_setTolerance_2 : decode cX8_setTolerance 2 = .ok (.sipush 9999, 3) := by decide +kernel
theorem dX8_setTolerance_5 : decode cX8_setTolerance 5 = .ok (.invokestatic 78, 3) := by decide +kernel
theorem dX8_setTolerance_8 : decode cX8_setTolerance 8 = .ok (.aload_n 0, 1) := by decide +kernel
theorem dX8_setTolerance_9 : decode cX8_setTolerance 9 = .ok (.getfield 72, 3) := by decide +kernel
theorem dX8_setTolerance_12 : decode cX8_setTolerance 12 = .ok (.istore_n 2, 1) := by decide +kernel
theorem dX8_setTolerance_13 : decode cX8_setTolerance 13 = .ok (.aload_n 0, 1) := by decide +kernel
theorem dX8_setTolerance_14 : decode cX8_setTolerance 14 = .ok (.iload_n 1, 1) := by decide +kernel
theorem dX8_setTolerance_15 : decode cX8_setTolerance 15 = .ok (.putfield 72, 3) := by decide +kernel
theorem dX8_setTolerance_18 : decode cX8_setTolerance 18 = .ok (.iload_n 2, 1) := by decide +kernel
theorem dX8_setTolerance_19 : decode cX8_setTolerance 19 = .ok (.ireturn, 1) := by decide +kernel
set_option maxRecDepth 20000 in
theorem ggX8_reasonFor_X8_checkStack : GoodIn wsX8_reasonFor wsX8_checkStack := goodIn_ca (goodIn_r _ [4, 5, 6] (by decide +kernel) (by decide +kernel)) (goodIn_sub (fun _ h => List.mem_cons_of_mem _ (List.mem_append_left _ (List.mem_append_left _ (List.mem_append_right _ h)))) (by decide +kernel))
set_option maxRecDepth 20000 in
theorem gX8_reasonFor_X8_checkStack : GoodIn wsX8_reasonFor (va_wsS RX8 126 yX8_checkStack wsX8_checkStack) := goodIn_app (goodIn_of _ (by decide +kernel)) ggX8_reasonFor_X8_checkStack
set_option maxRecDepth 20000 in
theorem ggX8_reasonFor_X8_checkPosition : GoodIn wsX8_reasonFor wsX8_checkPosition := goodIn_ca (goodIn_r _ [9, 10, 11, 12] (by decide +kernel) (by decide +kernel)) (goodIn_sub (fun _ h => List.mem_cons_of_mem _ (List.mem_append_left _ (List.mem_append_right _ h))) (by decide +kernel))
set_option maxRecDepth 20000 in
theorem gX8_reasonFor_X8_checkPosition : GoodIn wsX8_reasonFor (va_wsS RX8 189 yX8_checkPosition wsX8_checkPosition) := goodIn_app (goodIn_of _ (by decide +kernel)) ggX8_reasonFor_X8_checkPosition
set_option maxRecDepth 20000 in
theorem ggX8_reasonFor_X8_firstReason : GoodIn wsX8_reasonFor wsX8_firstReason := goodIn_ca (goodIn_r _ [16, 17, 18, 19, 20, 21, 22, 23, 24, 25, 26, 27, 28, 29, 30, 31, 32, 33, 34, 35, 36, 37, 38, 39, 40, 41, 42, 43, 44, 45, 46, 47, 48, 49, 50, 3, 51, 52, 53, 54, 55, 56, 57, 58, 59, 60, 61, 62, 63, 64, 65, 66, 67, 68, 69, 70, 71, 72, 73, 74, 75, 76, 77, 78, 79, 80, 81, 82, 83, 84, 85, 86, 87, 88, 89, 90, 91, 92, 93, 94, 95, 96, 97, 98, 99, 100, 101, 102, 103, 104, 105, 106, 107, 108, 109, 110, 111, 112, 113, 114, 115, 116, 117, 118, 119, 120, 121, 122, 123, 124, 125, 126, 127, 128, 129, 130, 131, 132, 133, 134, 135, 136, 137, 138, 139, 140, 141, 142, 143, 144, 145, 146, 147, 148, 149, 150, 151, 152, 153, 154, 155, 156, 157, 158, 159, 160, 161, 162, 163, 164, 165, 166, 167, 168, 169, 170, 171, 172, 173, 174, 175, 176, 177, 178, 179, 180, 181, 182, 183, 184, 185, 186, 187, 188, 189, 190, 191, 192, 193, 194, 195, 196, 197, 198, 199, 200] (by decide +kernel) (by decide +kernel)) (goodIn_sub (fun _ h => List.mem_cons_of_mem _ (List.mem_append_right _ h)) (by decide +kernel))
set_option maxRecDepth 20000 in
theorem gX8_reasonFor_X8_firstReason : GoodIn wsX8_reasonFor (wsV RX8 192 RX8 yX8_firstReason wsX8_firstReason) := goodIn_app (goodIn_of _ (by decide +kernel)) ggX8_reasonFor_X8_firstReason
theorem dX8_reasonFor_0 : decode cX8_reasonFor 0 = .ok (.iload_n 1, 1) := by decide +kernel
theorem dX8_reasonFor_1 : decode cX8_reasonFor 1 = .ok (.invokestatic 126, 3) := by decide +kernel
theorem dX8_reasonFor_4 : decode cX8_reasonFor 4 = .ok (.iload_n 2, 1) := by decide +kernel
theorem dX8_reasonFor_5 : decode cX8_reasonFor 5 = .ok (.invokestatic 189, 3) := by decide +kernel
theorem dX8_reasonFor_8 : decode cX8_reasonFor 8 = .ok (.aload_n 0, 1) := by decide +kernel
theorem dX8_reasonFor_9 : decode cX8_reasonFor 9 = .ok (.iload_n 1, 1) := by decide +kernel
theorem dX8_reasonFor_10 : decode cX8_reasonFor 10 = .ok (.iload_n 2, 1) := by decide +kernel
theorem dX8_reasonFor_11 : decode cX8_reasonFor 11 = .ok (.invokevirtual 192, 3) := by decide +kernel
theorem dX8_reasonFor_14 : decode cX8_reasonFor 14 = .ok (.ireturn, 1) := by decide +kernel
set_option maxRecDepth 20000 in
theorem ggX8_lay_X8_checkStack : GoodIn wsX8_lay wsX8_checkStack := goodIn_ca (goodIn_r _ [13, 14, 15] (by decide +kernel) (by decide +kernel)) (goodIn_sub (fun _ h => List.mem_cons_of_mem _ (List.mem_append_left _ (List.mem_append_left _ (List.mem_append_right _ h)))) (by decide +kernel))
set_option maxRecDepth 20000 in
theorem gX8_lay_X8_checkStack : GoodIn wsX8_lay (va_wsS RX8 126 yX8_checkStack wsX8_checkStack) := goodIn_app (goodIn_of _ (by decide +kernel)) ggX8_lay_X8_checkStack
set_option maxRecDepth 20000 in
theorem ggX8_lay_X8_checkPosition : GoodIn wsX8_lay wsX8_checkPosition := goodIn_ca (goodIn_r _ [18, 19, 20, 21] (by decide +kernel) (by decide +kernel)) (goodIn_sub (fun _ h => List.mem_cons_of_mem _ (List.mem_append_left _ (List.mem_append_right _ h))) (by decide +kernel))
set_option maxRecDepth 20000 in
theorem gX8_lay_X8_checkPosition : GoodIn wsX8_lay (va_wsS RX8 189 yX8_checkPosition wsX8_checkPosition) := goodIn_app (goodIn_of _ (by decide +kernel)) ggX8_lay_X8_checkPosition
set_option maxRecDepth 20000 in
theorem ggX8_lay_X8_firstReason : GoodIn wsX8_lay wsX8_firstReason := goodIn_ca (goodIn_r _ [25, 6, 7, 26, 9, 27, 5, 8, 28, 29, 30, 31, 32, 33, 34, 35, 36, 37, 38, 39, 40, 41, 42, 43, 44, 45, 46, 47, 48, 49, 50, 51, 52, 53, 54, 12, 55, 56, 57, 58, 59, 60, 61, 62, 63, 64, 65, 66, 67, 68, 69, 70, 71, 72, 73, 74, 75, 76, 77, 78, 79, 80, 81, 82, 83, 84, 85, 86, 87, 88, 89, 90, 91, 92, 93, 94, 95, 96, 97, 98, 99, 100, 101, 102, 103, 104, 105, 106, 107, 108, 109, 110, 111, 112, 113, 114, 115, 116, 117, 118, 119, 120, 121, 122, 123, 124, 125, 126, 127, 128, 129, 130, 131, 132, 133, 134, 135, 136, 137, 138, 139, 140, 141, 142, 143, 144, 145, 146, 147, 148, 149, 150, 151, 152, 153, 154, 155, 156, 157, 158, 159, 160, 161, 162, 163, 164, 165, 166, 207, 208, 209, 210, 211, 212, 213, 214, 215, 216, 217, 218, 219, 220, 221, 222, 223, 224, 225, 226, 227, 228, 229, 230, 231, 232, 233, 234, 235, 236, 237, 238, 239, 240, 241, 242, 243, 244] (by decide +kernel) (by decide +kernel)) (goodIn_sub (fun _ h => List.mem_cons_of_mem _ (List.mem_append_right _ h)) (by decide +kernel))
set_option maxRecDepth 20000 in
theorem gX8_lay_X8_firstReason : GoodIn wsX8_lay (wsV RX8 192 RX8 yX8_firstReason wsX8_firstReason) := goodIn_app (goodIn_of _ (by decide +kernel)) ggX8_lay_X8_firstReason
set_option maxRecDepth 20000 in
theorem ggX8_lay_X8_slurryTaken : GoodIn wsX8_lay wsX8_slurryTaken := goodIn_ca (goodIn_r _ [62, 63, 26, 64, 43, 44, 45, 65, 66, 67, 33, 68, 69, 70, 31, 32, 34, 35, 71, 72, 73, 74, 75, 207, 208, 209, 210, 211, 212, 213, 214, 215, 216, 217, 218, 228, 229, 230, 231] (by decide +kernel) (by decide +kernel)) (goodIn_sub (fun _ h => List.mem_cons_of_mem _ (List.mem_append_right _ h)) (by decide +kernel))
set_option maxRecDepth 20000 in
theorem gX8_lay_X8_slurryTaken : GoodIn wsX8_lay (wsV RX8 186 RX8 yX8_slurryTaken wsX8_slurryTaken) := goodIn_app (goodIn_of _ (by decide +kernel)) ggX8_lay_X8_slurryTaken
set_option maxRecDepth 20000 in
theorem ggX8_lay_X8_sinkWhileLaying : GoodIn wsX8_lay wsX8_sinkWhileLaying := goodIn_ca (goodIn_r _ [170, 26, 63, 171, 172, 173, 33, 174, 175, 43, 44, 45, 176, 66, 67, 68, 69, 70, 31, 32, 34, 35, 71, 72, 73, 74, 75, 177, 178, 179, 180, 181, 207, 208, 209, 210, 211, 212, 213, 214, 215, 216, 217, 218, 228, 229, 230, 231] (by decide +kernel) (by decide +kernel)) (goodIn_sub (fun _ h => List.mem_cons_of_mem _ (List.mem_append_right _ h)) (by decide +kernel))
set_option maxRecDepth 20000 in
theorem gX8_lay_X8_sinkWhileLaying : GoodIn wsX8_lay (wsV RX8 203 RX8 yX8_sinkWhileLaying wsX8_sinkWhileLaying) := goodIn_app (goodIn_of _ (by decide +kernel)) ggX8_lay_X8_sinkWhileLaying
set_option maxRecDepth 20000 in
theorem ggX8_lay_X7_topTaper : GoodIn wsX8_lay wsX7_topTaper := goodIn_ca (goodIn_r _ [185, 186, 187, 126, 127, 39, 128, 129, 225, 226, 227] (by decide +kernel) (by decide +kernel)) (goodIn_sub (fun _ h => List.mem_cons_of_mem _ (List.mem_append_right _ h)) (by decide +kernel))
set_option maxRecDepth 20000 in
theorem gX8_lay_X7_topTaper : GoodIn wsX8_lay (wsV RX8 206 RX7 yX7_topTaper wsX7_topTaper) := goodIn_app (goodIn_of _ (by decide +kernel)) ggX8_lay_X7_topTaper
set_option maxRecDepth 20000 in
theorem ggX8_lay_X6_append : GoodIn wsX8_lay wsX6_append := goodIn_ca (goodIn_r _ [191, 51, 192, 52, 193, 194, 195, 196, 197, 198, 199, 200, 90, 201, 202, 109, 110, 111, 94, 95, 92, 93, 219, 220, 221, 222, 223, 224, 232, 233, 234, 235] (by decide +kernel) (by decide +kernel)) (goodIn_sub (fun _ h => List.mem_cons_of_mem _ (List.mem_append_right _ h)) (by decide +kernel))
set_option maxRecDepth 20000 in
theorem gX8_lay_X6_append : GoodIn wsX8_lay (wsV RX8 209 RX6 yX6_append wsX6_append) := goodIn_app (goodIn_of _ (by decide +kernel)) ggX8_lay_X6_append
set_option maxRecDepth 20000 in
theorem ggX8_lay_X7_takeTop : GoodIn wsX8_lay wsX7_takeTop := goodIn_ca (goodIn_r _ [206, 186, 225, 226, 227] (by decide +kernel) (by decide +kernel)) (goodIn_sub (fun _ h => List.mem_cons_of_mem _ (List.mem_append_right _ h)) (by decide +kernel))
set_option maxRecDepth 20000 in
theorem gX8_lay_X7_takeTop : GoodIn wsX8_lay (wsV RX8 212 RX7 yX7_takeTop wsX7_takeTop) := goodIn_app (goodIn_of _ (by decide +kernel)) ggX8_lay_X7_takeTop
theorem dX8_lay_0 : decode cX8_lay 0 = .ok (.iload_n 1, 1) := by decide +kernel
theorem dX8_lay_1 : decode cX8_lay 1 = .ok (.invokestatic 126, 3) := by decide +kernel
theorem dX8_lay_4 : decode cX8_lay 4 = .ok (.iload_n 2, 1) := by decide +kernel
theorem dX8_lay_5 : decode cX8_lay 5 = .ok (.invokestatic 189, 3) := by decide +kernel
theorem dX8_lay_8 : decode cX8_lay 8 = .ok (.aload_n 0, 1) := by decide +kernel
theorem dX8_lay_9 : decode cX8_lay 9 = .ok (.iload_n 1, 1) := by decide +kernel
theorem dX8_lay_10 : decode cX8_lay 10 = .ok (.iload_n 2, 1) := by decide +kernel
theorem dX8_lay_11 : decode cX8_lay 11 = .ok (.invokevirtual 192, 3) := by decide +kernel
theorem dX8_lay_14 : decode cX8_lay 14 = .ok (.bipush 45, 2) := by decide +kernel
theorem dX8_lay_16 : decode cX8_lay 16 = .ok (.if_icmp .eq 13, 3) := by decide +kernel
theorem dX8_lay_19 : decode cX8_lay 19 = .ok (.new 196, 3) := by decide +kernel
theorem dX8_lay_22 : decode cX8_lay 22 = .ok (.dup, 1) := by decide +kernel
theorem dX8_lay_23 : decode cX8_lay 23 = .ok (.ldc 198, 2) := by decide +kernel
theorem dX8_lay_25 : decode cX8_lay 25 = .ok (.invokespecial 200, 3) := by decide +kernel
theorem dX8_lay_28 : decode cX8_lay 28 = .ok (.athrow, 1) := by decide +kernel
theorem dX8_lay_29 : decode cX8_lay 29 = .ok (.aload_n 0, 1) := by decide +kernel
theorem dX8_lay_30 : decode cX8_lay 30 = .ok (.getfield 75, 3) := by decide +kernel
theorem dX8_lay_33 : decode cX8_lay 33 = .ok (.iconst 2, 1) := by decide +kernel
theorem dX8_lay_34 : decode cX8_lay 34 = .ok (.iadd, 1) := by decide +kernel
theorem dX8_lay_35 : decode cX8_lay 35 = .ok (.sipush 5000, 3) := by decide +kernel
theorem dX8_lay_38 : decode cX8_lay 38 = .ok (.if_icmp .le 13, 3) := by decide +kernel
theorem dX8_lay_41 : decode cX8_lay 41 = .ok (.new 85, 3) := by decide +kernel
theorem dX8_lay_44 : decode cX8_lay 44 = .ok (.dup, 1) := by decide +kernel
theorem dX8_lay_45 : decode cX8_lay 45 = .ok (.ldc 201, 2) := by decide +kernel
theorem dX8_lay_47 : decode cX8_lay 47 = .ok (.invokespecial 89, 3) := by decide +kernel
theorem dX8_lay_50 : decode cX8_lay 50 = .ok (.athrow, 1) := by decide +kernel
theorem dX8_lay_51 : decode cX8_lay 51 = .ok (.aload_n 0, 1) := by decide +kernel
theorem dX8_lay_52 : decode cX8_lay 52 = .ok (.getfield 40, 3) := by decide +kernel
theorem dX8_lay_55 : decode cX8_lay 55 = .ok (.getfield 178, 3) := by decide +kernel
theorem dX8_lay_58 : decode cX8_lay 58 = .ok (.istore_n 3, 1) := by decide +kernel
theorem dX8_lay_59 : decode cX8_lay 59 = .ok (.aload_n 0, 1) := by decide +kernel
theorem dX8_lay_60 : decode cX8_lay 60 = .ok (.dup, 1) := by decide +kernel
theorem dX8_lay_61 : decode cX8_lay 61 = .ok (.getfield 69, 3) := by decide +kernel
theorem dX8_lay_64 : decode cX8_lay 64 = .ok (.aload_n 0, 1) := by decide +kernel
theorem dX8_lay_65 : decode cX8_lay 65 = .ok (.iload_n 3, 1) := by decide +kernel
theorem dX8_lay_66 : decode cX8_lay 66 = .ok (.invokevirtual 186, 3) := by decide +kernel
theorem dX8_lay_69 : decode cX8_lay 69 = .ok (.isub, 1) := by decide +kernel
theorem dX8_lay_70 : decode cX8_lay 70 = .ok (.putfield 69, 3) := by decide +kernel
theorem dX8_lay_73 : decode cX8_lay 73 = .ok (.aload_n 0, 1) := by decide +kernel
theorem dX8_lay_74 : decode cX8_lay 74 = .ok (.iload_n 3, 1) := by decide +kernel
theorem dX8_lay_75 : decode cX8_lay 75 = .ok (.invokevirtual 203, 3) := by decide +kernel
theorem dX8_lay_78 : decode cX8_lay 78 = .ok (.aload_n 0, 1) := by decide +kernel
theorem dX8_lay_79 : decode cX8_lay 79 = .ok (.getfield 40, 3) := by decide +kernel
theorem dX8_lay_82 : decode cX8_lay 82 = .ok (.iload_n 2, 1) := by decide +kernel
theorem dX8_lay_83 : decode cX8_lay 83 = .ok (.aload_n 0, 1) := by decide +kernel
theorem dX8_lay_84 : decode cX8_lay 84 = .ok (.getfield 33, 3) := by decide +kernel
theorem dX8_lay_87 : decode cX8_lay 87 = .ok (.iload_n 1, 1) := by decide +kernel
theorem dX8_lay_88 : decode cX8_lay 88 = .ok (.invokevirtual 206, 3) := by decide +kernel
theorem dX8_lay_91 : decode cX8_lay 91 = .ok (.invokevirtual 209, 3) := by decide +kernel
theorem dX8_lay_94 : decode cX8_lay 94 = .ok (.aload_n 0, 1) := by decide +kernel
theorem dX8_lay_95 : decode cX8_lay 95 = .ok (.getfield 33, 3) := by decide +kernel
theorem dX8_lay_98 : decode cX8_lay 98 = .ok (.iload_n 1, 1) := by decide +kernel
theorem dX8_lay_99 : decode cX8_lay 99 = .ok (.invokevirtual 212, 3) := by decide +kernel
theorem dX8_lay_102 : decode cX8_lay 102 = .ok (.aload_n 0, 1) := by decide +kernel
theorem dX8_lay_103 : decode cX8_lay 103 = .ok (.dup, 1) := by decide +kernel
theorem dX8_lay_104 : decode cX8_lay 104 = .ok (.getfield 75, 3) := by decide +kernel
theorem dX8_lay_107 : decode cX8_lay 107 = .ok (.iconst 2, 1) := by decide +kernel
theorem dX8_lay_108 : decode cX8_lay 108 = .ok (.iadd, 1) := by decide +kernel
theorem dX8_lay_109 : decode cX8_lay 109 = .ok (.putfield 75, 3) := by decide +kernel
theorem dX8_lay_112 : decode cX8_lay 112 = .ok (.iload_n 3, 1) := by decide +kernel
theorem dX8_lay_113 : decode cX8_lay 113 = .ok (.ireturn, 1) := by decide +kernel
set_option maxRecDepth 20000 in
theorem ggX8_stop_X8_checkRange : GoodIn wsX8_stop wsX8_checkRange := goodIn_ca (goodIn_r _ [9, 10, 11] (by decide +kernel) (by decide +kernel)) (goodIn_sub (fun _ h => List.mem_cons_of_mem _ (List.mem_append_left _ (List.mem_append_right _ h))) (by decide +kernel))
set_option maxRecDepth 20000 in
theorem gX8_stop_X8_checkRange : GoodIn wsX8_stop (va_wsS RX8 78 yX8_checkRange wsX8_checkRange) := goodIn_app (goodIn_of _ (by decide +kernel)) ggX8_stop_X8_checkRange
set_option maxRecDepth 20000 in
theorem ggX8_stop_X8_sinkWhileStanding : GoodIn wsX8_stop wsX8_sinkWhileStanding := goodIn_ca (goodIn_r _ [15, 16, 17, 18, 19, 20, 21, 22, 23, 24, 25, 26, 27, 28, 29, 30, 31, 32, 33, 34, 35, 36, 37, 38, 39, 40, 41, 42, 43, 44, 45, 46, 47, 48, 49, 50, 51, 52, 53, 54, 55, 56, 57, 58, 65, 66, 67, 68] (by decide +kernel) (by decide +kernel)) (goodIn_sub (fun _ h => List.mem_cons_of_mem _ (List.mem_append_right _ h)) (by decide +kernel))
set_option maxRecDepth 20000 in
theorem gX8_stop_X8_sinkWhileStanding : GoodIn wsX8_stop (wsV RX8 215 RX8 yX8_sinkWhileStanding wsX8_sinkWhileStanding) := goodIn_app (goodIn_of _ (by decide +kernel)) ggX8_stop_X8_sinkWhileStanding
theorem dX8_stop_0 : decode cX8_stop 0 = .ok (.iload_n 1, 1) := by decide +kernel
theorem dX8_stop_1 : decode cX8_stop 1 = .ok (.iconst 1, 1) := by decide +kernel
theorem dX8_stop_2 : decode cX8_stop 2 = .ok (.bipush 100, 2) := by decide +kernel
theorem dX8_stop_4 : decode cX8_stop 4 = .ok (.invokestatic 78, 3) := by decide +kernel
theorem dX8_stop_7 : decode cX8_stop 7 = .ok (.aload_n 0, 1) := by decide +kernel
theorem dX8_stop_8 : decode cX8_stop 8 = .ok (.getfield 75, 3) := by decide +kernel
theorem dX8_stop_11 : decode cX8_stop 11 = .ok (.iload_n 1, 1) := by decide +kernel
theorem dX8_stop_12 : decode cX8_stop 12 = .ok (.iadd, 1) := by decide +kernel
theorem dX8_stop_13 : decode cX8_stop 13 = .ok (.sipush 5000, 3) := by decide +kernel
theorem dX8_stop_16 : decode cX8_stop 16 = .ok (.if_icmp .le 13, 3) := by decide +kernel
theorem dX8_stop_19 : decode cX8_stop 19 = .ok (.new 85, 3) := by decide +kernel
theorem dX8_stop_22 : decode cX8_stop 22 = .ok (.dup, 1) := by decide +kernel
theorem dX8_stop_23 : decode cX8_stop 23 = .ok (.ldc 201, 2) := by decide +kernel
theorem dX8_stop_25 : decode cX8_stop 25 = .ok (.invokespecial 89, 3) := by decide +kernel
theorem dX8_stop_28 : decode cX8_stop 28 = .ok (.athrow, 1) := by decide +kernel
theorem dX8_stop_29 : decode cX8_stop 29 = .ok (.aload_n 0, 1) := by decide +kernel
theorem dX8_stop_30 : decode cX8_stop 30 = .ok (.aload_n 0, 1) := by decide +kernel
theorem dX8_stop_31 : decode cX8_stop 31 = .ok (.getfield 40, 3) := by decide +kernel
theorem dX8_stop_34 : decode cX8_stop 34 = .ok (.getfield 178, 3) := by decide +kernel
theorem dX8_stop_37 : decode cX8_stop 37 = .ok (.iload_n 1, 1) := by decide +kernel
theorem dX8_stop_38 : decode cX8_stop 38 = .ok (.invokevirtual 215, 3) := by decide +kernel
theorem dX8_stop_41 : decode cX8_stop 41 = .ok (.aload_n 0, 1) := by decide +kernel
theorem dX8_stop_42 : decode cX8_stop 42 = .ok (.dup, 1) := by decide +kernel
theorem dX8_stop_43 : decode cX8_stop 43 = .ok (.getfield 75, 3) := by decide +kernel
theorem dX8_stop_46 : decode cX8_stop 46 = .ok (.iload_n 1, 1) := by decide +kernel
theorem dX8_stop_47 : decode cX8_stop 47 = .ok (.iadd, 1) := by decide +kernel
theorem dX8_stop_48 : decode cX8_stop 48 = .ok (.putfield 75, 3) := by decide +kernel
theorem dX8_stop_51 : decode cX8_stop 51 = .ok (.aload_n 0, 1) := by decide +kernel
theorem dX8_stop_52 : decode cX8_stop 52 = .ok (.getfield 75, 3) := by decide +kernel
theorem dX8_stop_55 : decode cX8_stop 55 = .ok (.ireturn, 1) := by decide +kernel
theorem dX8_clock_0 : decode cX8_clock 0 = .ok (.aload_n 0, 1) := by decide +kernel
theorem dX8_clock_1 : decode cX8_clock 1 = .ok (.getfield 75, 3) := by decide +kernel
theorem dX8_clock_4 : decode cX8_clock 4 = .ok (.ireturn, 1) := by decide +kernel
theorem dX8_ringCount_0 : decode cX8_ringCount 0 = .ok (.aload_n 0, 1) := by decide +kernel
theorem dX8_ringCount_1 : decode cX8_ringCount 1 = .ok (.getfield 40, 3) := by decide +kernel
theorem dX8_ringCount_4 : decode cX8_ringCount 4 = .ok (.getfield 178, 3) := by decide +kernel
theorem dX8_ringCount_7 : decode cX8_ringCount 7 = .ok (.ireturn, 1) := by decide +kernel
set_option maxRecDepth 20000 in
theorem ggX8_positionOf_X8_checkLaid : GoodIn wsX8_positionOf wsX8_checkLaid := goodIn_ca (goodIn_r _ [7, 8, 9, 1, 10, 11, 12, 13, 14, 15, 16, 17, 18, 19, 20, 21, 22, 23, 24, 25, 26, 27, 28] (by decide +kernel) (by decide +kernel)) (goodIn_sub (fun _ h => List.mem_cons_of_mem _ (List.mem_append_right _ h)) (by decide +kernel))
set_option maxRecDepth 20000 in
theorem gX8_positionOf_X8_checkLaid : GoodIn wsX8_positionOf (wsV RX8 218 RX8 yX8_checkLaid wsX8_checkLaid) := goodIn_app (goodIn_of _ (by decide +kernel)) ggX8_positionOf_X8_checkLaid
theorem dX8_positionOf_0 : decode cX8_positionOf 0 = .ok (.aload_n 0, 1) := by decide +kernel
theorem dX8_positionOf_1 : decode cX8_positionOf 1 = .ok (.iload_n 1, 1) := by decide +kernel
theorem dX8_positionOf_2 : decode cX8_positionOf 2 = .ok (.invokevirtual 218, 3) := by decide +kernel
theorem dX8_positionOf_5 : decode cX8_positionOf 5 = .ok (.aload_n 0, 1) := by decide +kernel
theorem dX8_positionOf_6 : decode cX8_positionOf 6 = .ok (.getfield 40, 3) := by decide +kernel
theorem dX8_positionOf_9 : decode cX8_positionOf 9 = .ok (.getfield 221, 3) := by decide +kernel
theorem dX8_positionOf_12 : decode cX8_positionOf 12 = .ok (.iload_n 1, 1) := by decide +kernel
theorem dX8_positionOf_13 : decode cX8_positionOf 13 = .ok (.iaload, 1) := by decide +kernel
theorem dX8_positionOf_14 : decode cX8_positionOf 14 = .ok (.ireturn, 1) := by decide +kernel
set_option maxRecDepth 20000 in
theorem ggX8_taperOf_X8_checkLaid : GoodIn wsX8_taperOf wsX8_checkLaid := goodIn_ca (goodIn_r _ [7, 8, 9, 1, 10, 11, 12, 13, 14, 15, 16, 17, 18, 19, 20, 21, 22, 23, 24, 25, 26, 27, 28] (by decide +kernel) (by decide +kernel)) (goodIn_sub (fun _ h => List.mem_cons_of_mem _ (List.mem_append_right _ h)) (by decide +kernel))
set_option maxRecDepth 20000 in
theorem gX8_taperOf_X8_checkLaid : GoodIn wsX8_taperOf (wsV RX8 218 RX8 yX8_checkLaid wsX8_checkLaid) := goodIn_app (goodIn_of _ (by decide +kernel)) ggX8_taperOf_X8_checkLaid
theorem dX8_taperOf_0 : decode cX8_taperOf 0 = .ok (.aload_n 0, 1) := by decide +kernel
theorem dX8_taperOf_1 : decode cX8_taperOf 1 = .ok (.iload_n 1, 1) := by decide +kernel
theorem dX8_taperOf_2 : decode cX8_taperOf 2 = .ok (.invokevirtual 218, 3) := by decide +kernel
theorem dX8_taperOf_5 : decode cX8_taperOf 5 = .ok (.aload_n 0, 1) := by decide +kernel
theorem dX8_taperOf_6 : decode cX8_taperOf 6 = .ok (.getfield 40, 3) := by decide +kernel
theorem dX8_taperOf_9 : decode cX8_taperOf 9 = .ok (.getfield 224, 3) := by decide +kernel
theorem dX8_taperOf_12 : decode cX8_taperOf 12 = .ok (.iload_n 1, 1) := by decide +kernel
theorem dX8_taperOf_13 : decode cX8_taperOf 13 = .ok (.iaload, 1) := by decide +kernel
theorem dX8_taperOf_14 : decode cX8_taperOf 14 = .ok (.ireturn, 1) := by decide +kernel
set_option maxRecDepth 20000 in
theorem ggX8_xAfter_X8_checkLaid : GoodIn wsX8_xAfter wsX8_checkLaid := goodIn_ca (goodIn_r _ [7, 8, 9, 1, 10, 11, 12, 13, 14, 15, 16, 17, 18, 19, 20, 21, 22, 23, 24, 25, 26, 27, 28] (by decide +kernel) (by decide +kernel)) (goodIn_sub (fun _ h => List.mem_cons_of_mem _ (List.mem_append_right _ h)) (by decide +kernel))
set_option maxRecDepth 20000 in
theorem gX8_xAfter_X8_checkLaid : GoodIn wsX8_xAfter (wsV RX8 218 RX8 yX8_checkLaid wsX8_checkLaid) := goodIn_app (goodIn_of _ (by decide +kernel)) ggX8_xAfter_X8_checkLaid
theorem dX8_xAfter_0 : decode cX8_xAfter 0 = .ok (.aload_n 0, 1) := by decide +kernel
theorem dX8_xAfter_1 : decode cX8_xAfter 1 = .ok (.iload_n 1, 1) := by decide +kernel
theorem dX8_xAfter_2 : decode cX8_xAfter 2 = .ok (.invokevirtual 218, 3) := by decide +kernel
theorem dX8_xAfter_5 : decode cX8_xAfter 5 = .ok (.aload_n 0, 1) := by decide +kernel
theorem dX8_xAfter_6 : decode cX8_xAfter 6 = .ok (.getfield 40, 3) := by decide +kernel
theorem dX8_xAfter_9 : decode cX8_xAfter 9 = .ok (.getfield 227, 3) := by decide +kernel
theorem dX8_xAfter_12 : decode cX8_xAfter 12 = .ok (.iload_n 1, 1) := by decide +kernel
theorem dX8_xAfter_13 : decode cX8_xAfter 13 = .ok (.iaload, 1) := by decide +kernel
theorem dX8_xAfter_14 : decode cX8_xAfter 14 = .ok (.ireturn, 1) := by decide +kernel
set_option maxRecDepth 20000 in
theorem ggX8_yAfter_X8_checkLaid : GoodIn wsX8_yAfter wsX8_checkLaid := goodIn_ca (goodIn_r _ [7, 8, 9, 1, 10, 11, 12, 13, 14, 15, 16, 17, 18, 19, 20, 21, 22, 23, 24, 25, 26, 27, 28] (by decide +kernel) (by decide +kernel)) (goodIn_sub (fun _ h => List.mem_cons_of_mem _ (List.mem_append_right _ h)) (by decide +kernel))
set_option maxRecDepth 20000 in
theorem gX8_yAfter_X8_checkLaid : GoodIn wsX8_yAfter (wsV RX8 218 RX8 yX8_checkLaid wsX8_checkLaid) := goodIn_app (goodIn_of _ (by decide +kernel)) ggX8_yAfter_X8_checkLaid
theorem dX8_yAfter_0 : decode cX8_yAfter 0 = .ok (.aload_n 0, 1) := by decide +kernel
theorem dX8_yAfter_1 : decode cX8_yAfter 1 = .ok (.iload_n 1, 1) := by decide +kernel
theorem dX8_yAfter_2 : decode cX8_yAfter 2 = .ok (.invokevirtual 218, 3) := by decide +kernel
theorem dX8_yAfter_5 : decode cX8_yAfter 5 = .ok (.aload_n 0, 1) := by decide +kernel
theorem dX8_yAfter_6 : decode cX8_yAfter 6 = .ok (.getfield 40, 3) := by decide +kernel
theorem dX8_yAfter_9 : decode cX8_yAfter 9 = .ok (.getfield 230, 3) := by decide +kernel
theorem dX8_yAfter_12 : decode cX8_yAfter 12 = .ok (.iload_n 1, 1) := by decide +kernel
theorem dX8_yAfter_13 : decode cX8_yAfter 13 = .ok (.iaload, 1) := by decide +kernel
theorem dX8_yAfter_14 : decode cX8_yAfter 14 = .ok (.ireturn, 1) := by decide +kernel
set_option maxRecDepth 20000 in
theorem ggX8_xAnew_X8_checkLaid : GoodIn wsX8_xAnew wsX8_checkLaid := goodIn_ca (goodIn_r _ [7, 8, 9, 10, 11, 35, 36, 37, 38, 39, 40, 41, 42, 43, 44, 45, 46, 51, 52, 53, 54, 55, 56] (by decide +kernel) (by decide +kernel)) (goodIn_sub (fun _ h => List.mem_cons_of_mem _ (List.mem_append_left _ (List.mem_append_right _ h))) (by decide +kernel))
set_option maxRecDepth 20000 in
theorem gX8_xAnew_X8_checkLaid : GoodIn wsX8_xAnew (wsV RX8 218 RX8 yX8_checkLaid wsX8_checkLaid) := goodIn_app (goodIn_of _ (by decide +kernel)) ggX8_xAnew_X8_checkLaid
set_option maxRecDepth 20000 in
theorem ggX8_xAnew_X8_followRings : GoodIn wsX8_xAnew wsX8_followRings := goodIn_ca (goodIn_r _ [15, 1, 10, 16, 17, 18, 19, 20, 21, 22, 23, 24, 25, 26, 27, 28, 29, 30, 31, 32, 33, 34, 35, 36, 37, 38, 39, 40, 41, 42, 43, 44, 45, 46, 51, 52, 53, 54, 55, 56, 47, 48, 49, 50] (by decide +kernel) (by decide +kernel)) (goodIn_sub (fun _ h => List.mem_cons_of_mem _ (List.mem_append_right _ h)) (by decide +kernel))
set_option maxRecDepth 20000 in
theorem gX8_xAnew_X8_followRings : GoodIn wsX8_xAnew (wsV RX8 233 RX8 yX8_followRings wsX8_followRings) := goodIn_app (goodIn_of _ (by decide +kernel)) ggX8_xAnew_X8_followRings
theorem dX8_xAnew_0 : decode cX8_xAnew 0 = .ok (.aload_n 0, 1) := by decide +kernel
theorem dX8_xAnew_1 : decode cX8_xAnew 1 = .ok (.iload_n 1, 1) := by decide +kernel
theorem dX8_xAnew_2 : decode cX8_xAnew 2 = .ok (.invokevirtual 218, 3) := by decide +kernel
theorem dX8_xAnew_5 : decode cX8_xAnew 5 = .ok (.aload_n 0, 1) := by decide +kernel
theorem dX8_xAnew_6 : decode cX8_xAnew 6 = .ok (.iload_n 1, 1) := by decide +kernel
theorem dX8_xAnew_7 : decode cX8_xAnew 7 = .ok (.iconst 1, 1) := by decide +kernel
theorem dX8_xAnew_8 : decode cX8_xAnew 8 = .ok (.iadd, 1) := by decide +kernel
theorem dX8_xAnew_9 : decode cX8_xAnew 9 = .ok (.invokevirtual 233, 3) := by decide +kernel
theorem dX8_xAnew_12 : decode cX8_xAnew 12 = .ok (.aload_n 0, 1) := by decide +kernel
theorem dX8_xAnew_13 : decode cX8_xAnew 13 = .ok (.getfield 54, 3) := by decide +kernel
theorem dX8_xAnew_16 : decode cX8_xAnew 16 = .ok (.getfield 236, 3) := by decide +kernel
theorem dX8_xAnew_19 : decode cX8_xAnew 19 = .ok (.ireturn, 1) := by decide +kernel
set_option maxRecDepth 20000 in
theorem ggX8_yAnew_X8_checkLaid : GoodIn wsX8_yAnew wsX8_checkLaid := goodIn_ca (goodIn_r _ [7, 8, 9, 10, 11, 35, 36, 37, 38, 39, 40, 41, 42, 43, 44, 45, 46, 51, 52, 53, 54, 55, 56] (by decide +kernel) (by decide +kernel)) (goodIn_sub (fun _ h => List.mem_cons_of_mem _ (List.mem_append_left _ (List.mem_append_right _ h))) (by decide +kernel))
set_option maxRecDepth 20000 in
theorem gX8_yAnew_X8_checkLaid : GoodIn wsX8_yAnew (wsV RX8 218 RX8 yX8_checkLaid wsX8_checkLaid) := goodIn_app (goodIn_of _ (by decide +kernel)) ggX8_yAnew_X8_checkLaid
set_option maxRecDepth 20000 in
theorem ggX8_yAnew_X8_followRings : GoodIn wsX8_yAnew wsX8_followRings := goodIn_ca (goodIn_r _ [15, 1, 10, 16, 17, 18, 19, 20, 21, 22, 23, 24, 25, 26, 27, 28, 29, 30, 31, 32, 33, 34, 35, 36, 37, 38, 39, 40, 41, 42, 43, 44, 45, 46, 51, 52, 53, 54, 55, 56, 47, 48, 49, 50] (by decide +kernel) (by decide +kernel)) (goodIn_sub (fun _ h => List.mem_cons_of_mem _ (List.mem_append_right _ h)) (by decide +kernel))
set_option maxRecDepth 20000 in
theorem gX8_yAnew_X8_followRings : GoodIn wsX8_yAnew (wsV RX8 233 RX8 yX8_followRings wsX8_followRings) := goodIn_app (goodIn_of _ (by decide +kernel)) ggX8_yAnew_X8_followRings
theorem dX8_yAnew_0 : decode cX8_yAnew 0 = .ok (.aload_n 0, 1) := by decide +kernel
theorem dX8_yAnew_1 : decode cX8_yAnew 1 = .ok (.iload_n 1, 1) := by decide +kernel
theorem dX8_yAnew_2 : decode cX8_yAnew 2 = .ok (.invokevirtual 218, 3) := by decide +kernel
theorem dX8_yAnew_5 : decode cX8_yAnew 5 = .ok (.aload_n 0, 1) := by decide +kernel
theorem dX8_yAnew_6 : decode cX8_yAnew 6 = .ok (.iload_n 1, 1) := by decide +kernel
theorem dX8_yAnew_7 : decode cX8_yAnew 7 = .ok (.iconst 1, 1) := by decide +kernel
theorem dX8_yAnew_8 : decode cX8_yAnew 8 = .ok (.iadd, 1) := by decide +kernel
theorem dX8_yAnew_9 : decode cX8_yAnew 9 = .ok (.invokevirtual 233, 3) := by decide +kernel
theorem dX8_yAnew_12 : decode cX8_yAnew 12 = .ok (.aload_n 0, 1) := by decide +kernel
theorem dX8_yAnew_13 : decode cX8_yAnew 13 = .ok (.getfield 54, 3) := by decide +kernel
theorem dX8_yAnew_16 : decode cX8_yAnew 16 = .ok (.getfield 239, 3) := by decide +kernel
theorem dX8_yAnew_19 : decode cX8_yAnew 19 = .ok (.ireturn, 1) := by decide +kernel
set_option maxRecDepth 20000 in
theorem ggX8_deviationAfter_X8_checkLaid : GoodIn wsX8_deviationAfter wsX8_checkLaid := goodIn_ca (goodIn_r _ [15, 16, 17, 1, 18, 49, 50, 51, 52, 53, 54, 55, 56, 57, 58, 59, 60, 61, 62, 63, 64, 65, 66] (by decide +kernel) (by decide +kernel)) (goodIn_sub (fun _ h => List.mem_cons_of_mem _ (List.mem_append_right _ h)) (by decide +kernel))
set_option maxRecDepth 20000 in
theorem gX8_deviationAfter_X8_checkLaid : GoodIn wsX8_deviationAfter (wsV RX8 218 RX8 yX8_checkLaid wsX8_checkLaid) := goodIn_app (goodIn_of _ (by decide +kernel)) ggX8_deviationAfter_X8_checkLaid
set_option maxRecDepth 20000 in
theorem ggX8_deviationAfter_X8_followPlan : GoodIn wsX8_deviationAfter wsX8_followPlan := goodIn_ca (goodIn_r _ [22, 3, 23, 24, 25, 26, 27, 28, 29, 30, 31, 32, 33, 34, 35, 36, 37, 38, 39, 40, 41, 42, 43, 44, 45, 46, 47, 48, 49, 50, 51, 52, 53, 54, 55, 56, 57, 58, 59, 60, 67, 68, 69, 70, 71, 72, 73] (by decide +kernel) (by decide +kernel)) (goodIn_sub (fun _ h => List.mem_cons_of_mem _ (List.mem_append_left _ (List.mem_append_right _ h))) (by decide +kernel))
set_option maxRecDepth 20000 in
theorem gX8_deviationAfter_X8_followPlan : GoodIn wsX8_deviationAfter (wsV RX8 242 RX8 yX8_followPlan wsX8_followPlan) := goodIn_app (goodIn_of _ (by decide +kernel)) ggX8_deviationAfter_X8_followPlan
theorem dX8_deviationAfter_0 : decode cX8_deviationAfter 0 = .ok (.aload_n 0, 1) := by decide +kernel
theorem dX8_deviationAfter_1 : decode cX8_deviationAfter 1 = .ok (.iload_n 1, 1) := by decide +kernel
theorem dX8_deviationAfter_2 : decode cX8_deviationAfter 2 = .ok (.invokevirtual 218, 3) := by decide +kernel
theorem dX8_deviationAfter_5 : decode cX8_deviationAfter 5 = .ok (.aload_n 0, 1) := by decide +kernel
theorem dX8_deviationAfter_6 : decode cX8_deviationAfter 6 = .ok (.iload_n 1, 1) := by decide +kernel
theorem dX8_deviationAfter_7 : decode cX8_deviationAfter 7 = .ok (.iconst 1, 1) := by decide +kernel
theorem dX8_deviationAfter_8 : decode cX8_deviationAfter 8 = .ok (.iadd, 1) := by decide +kernel
theorem dX8_deviationAfter_9 : decode cX8_deviationAfter 9 = .ok (.invokevirtual 242, 3) := by decide +kernel
theorem dX8_deviationAfter_12 : decode cX8_deviationAfter 12 = .ok (.aload_n 0, 1) := by decide +kernel
theorem dX8_deviationAfter_13 : decode cX8_deviationAfter 13 = .ok (.getfield 40, 3) := by decide +kernel
theorem dX8_deviationAfter_16 : decode cX8_deviationAfter 16 = .ok (.getfield 227, 3) := by decide +kernel
theorem dX8_deviationAfter_19 : decode cX8_deviationAfter 19 = .ok (.iload_n 1, 1) := by decide +kernel
theorem dX8_deviationAfter_20 : decode cX8_deviationAfter 20 = .ok (.iaload, 1) := by decide +kernel
theorem dX8_deviationAfter_21 : decode cX8_deviationAfter 21 = .ok (.aload_n 0, 1) := by decide +kernel
theorem dX8_deviationAfter_22 : decode cX8_deviationAfter 22 = .ok (.getfield 54, 3) := by decide +kernel
theorem dX8_deviationAfter_25 : decode cX8_deviationAfter 25 = .ok (.getfield 236, 3) := by decide +kernel
theorem dX8_deviationAfter_28 : decode cX8_deviationAfter 28 = .ok (.isub, 1) := by decide +kernel
theorem dX8_deviationAfter_29 : decode cX8_deviationAfter 29 = .ok (.invokestatic 245, 3) := by decide +kernel
theorem dX8_deviationAfter_32 : decode cX8_deviationAfter 32 = .ok (.aload_n 0, 1) := by decide +kernel
theorem dX8_deviationAfter_33 : decode cX8_deviationAfter 33 = .ok (.getfield 40, 3) := by decide +kernel
theorem dX8_deviationAfter_36 : decode cX8_deviationAfter 36 = .ok (.getfield 230, 3) := by decide +kernel
theorem dX8_deviationAfter_39 : decode cX8_deviationAfter 39 = .ok (.iload_n 1, 1) := by decide +kernel
theorem dX8_deviationAfter_40 : decode cX8_deviationAfter 40 = .ok (.iaload, 1) := by decide +kernel
theorem dX8_deviationAfter_41 : decode cX8_deviationAfter 41 = .ok (.aload_n 0, 1) := by decide +kernel
theorem dX8_deviationAfter_42 : decode cX8_deviationAfter 42 = .ok (.getfield 54, 3) := by decide +kernel
theorem dX8_deviationAfter_45 : decode cX8_deviationAfter 45 = .ok (.getfield 239, 3) := by decide +kernel
theorem dX8_deviationAfter_48 : decode cX8_deviationAfter 48 = .ok (.isub, 1) := by decide +kernel
theorem dX8_deviationAfter_49 : decode cX8_deviationAfter 49 = .ok (.invokestatic 245, 3) := by decide +kernel
theorem dX8_deviationAfter_52 : decode cX8_deviationAfter 52 = .ok (.iadd, 1) := by decide +kernel
theorem dX8_deviationAfter_53 : decode cX8_deviationAfter 53 = .ok (.ireturn, 1) := by decide +kernel
set_option maxRecDepth 20000 in
theorem ggX8_isConsistent_X0_restart : GoodIn wsX8_isConsistent wsX0_restart := goodIn_r _ [14, 15, 16, 17, 18, 53, 54, 55, 56] (by decide +kernel) (by decide +kernel)
set_option maxRecDepth 20000 in
theorem gX8_isConsistent_X0_restart : GoodIn wsX8_isConsistent (wsV RX8 301 RX0 yX0_restart wsX0_restart) := goodIn_app (goodIn_of _ (by decide +kernel)) ggX8_isConsistent_X0_restart
set_option maxRecDepth 20000 in
theorem ggX8_isConsistent_X0_addRing : GoodIn wsX8_isConsistent wsX0_addRing := goodIn_ca (goodIn_r _ [22, 23, 24, 25, 13, 26, 17, 18, 15, 16, 53, 54, 55, 56] (by decide +kernel) (by decide +kernel)) (goodIn_sub (fun _ h => List.mem_cons_of_mem _ (List.mem_append_right _ h)) (by decide +kernel))
set_option maxRecDepth 20000 in
theorem gX8_isConsistent_X0_addRing : GoodIn wsX8_isConsistent (wsV RX8 304 RX0 yX0_addRing wsX0_addRing) := goodIn_app (goodIn_of _ (by decide +kernel)) ggX8_isConsistent_X0_addRing
set_option maxRecDepth 20000 in
theorem ggX8_isConsistent_X8_fits : GoodIn wsX8_isConsistent wsX8_fits := goodIn_r _ [30, 31, 32, 33, 34] (by decide +kernel) (by decide +kernel)
set_option maxRecDepth 20000 in
theorem gX8_isConsistent_X8_fits : GoodIn wsX8_isConsistent (va_wsS RX8 263 yX8_fits wsX8_fits) := goodIn_app (goodIn_of _ (by decide +kernel)) ggX8_isConsistent_X8_fits
theorem dX8_isConsistent_0 : decode cX8_isConsistent 0 = .ok (.aload_n 0, 1) := by decide +kernel
theorem dX8_isConsistent_1 : decode cX8_isConsistent 1 = .ok (.getfield 54, 3) := by decide +kernel
theorem dX8_isConsistent_4 : decode cX8_isConsistent 4 = .ok (.invokevirtual 301, 3) := by decide +kernel
theorem dX8_isConsistent_7 : decode cX8_isConsistent 7 = .ok (.iconst (-1), 1) := by decide +kernel
theorem dX8_isConsistent_8 : decode cX8_isConsistent 8 = .ok (.istore_n 1, 1) := by decide +kernel
theorem dX8_isConsistent_9 : decode cX8_isConsistent 9 = .ok (.iconst 0, 1) := by decide +kernel
theorem dX8_isConsistent_10 : decode cX8_isConsistent 10 = .ok (.istore_n 2, 1) := by decide +kernel
theorem dX8_isConsistent_11 : decode cX8_isConsistent 11 = .ok (.iload_n 2, 1) := by decide +kernel
theorem dX8_isConsistent_12 : decode cX8_isConsistent 12 = .ok (.aload_n 0, 1) := by decide +kernel
theorem dX8_isConsistent_13 : decode cX8_isConsistent 13 = .ok (.getfield 40, 3) := by decide +kernel
theorem dX8_isConsistent_16 : decode cX8_isConsistent 16 = .ok (.getfield 178, 3) := by decide +kernel
theorem dX8_isConsistent_19 : decode cX8_isConsistent 19 = .ok (.if_icmp .ge 86, 3) := by decide +kernel
theorem dX8_isConsistent_22 : decode cX8_isConsistent 22 = .ok (.aload_n 0, 1) := by decide +kernel
theorem dX8_isConsistent_23 : decode cX8_isConsistent 23 = .ok (.getfield 40, 3) := by decide +kernel
theorem dX8_isConsistent_26 : decode cX8_isConsistent 26 = .ok (.getfield 221, 3) := by decide +kernel
theorem dX8_isConsistent_29 : decode cX8_isConsistent 29 = .ok (.iload_n 2, 1) := by decide +kernel
theorem dX8_isConsistent_30 : decode cX8_isConsistent 30 = .ok (.iaload, 1) := by decide +kernel
theorem dX8_isConsistent_31 : decode cX8_isConsistent 31 = .ok (.istore_n 3, 1) := by decide +kernel
theorem dX8_isConsistent_32 : decode cX8_isConsistent 32 = .ok (.aload_n 0, 1) := by decide +kernel
theorem dX8_isConsistent_33 : decode cX8_isConsistent 33 = .ok (.getfield 54, 3) := by decide +kernel
theorem dX8_isConsistent_36 : decode cX8_isConsistent 36 = .ok (.iload_n 3, 1) := by decide +kernel
theorem dX8_isConsistent_37 : decode cX8_isConsistent 37 = .ok (.aload_n 0, 1) := by decide +kernel
theorem dX8_isConsistent_38 : decode cX8_isConsistent 38 = .ok (.getfield 40, 3) := by decide +kernel
theorem dX8_isConsistent_41 : decode cX8_isConsistent 41 = .ok (.getfield 224, 3) := by decide +kernel
theorem dX8_isConsistent_44 : decode cX8_isConsistent 44 = .ok (.iload_n 2, 1) := by decide +kernel
theorem dX8_isConsistent_45 : decode cX8_isConsistent 45 = .ok (.iaload, 1) := by decide +kernel
theorem dX8_isConsistent_46 : decode cX8_isConsistent 46 = .ok (.invokevirtual 304, 3) := by decide +kernel
theorem dX8_isConsistent_49 : decode cX8_isConsistent 49 = .ok (.aload_n 0, 1) := by decide +kernel
theorem dX8_isConsistent_50 : decode cX8_isConsistent 50 = .ok (.getfield 54, 3) := by decide +kernel
theorem dX8_isConsistent_53 : decode cX8_isConsistent 53 = .ok (.getfield 236, 3) := by decide +kernel
theorem dX8_isConsistent_56 : decode cX8_isConsistent 56 = .ok (.aload_n 0, 1) := by decide +kernel
theorem dX8_isConsistent_57 : decode cX8_isConsistent 57 = .ok (.getfield 40, 3) := by decide +kernel
theorem dX8_isConsistent_60 : decode cX8_isConsistent 60 = .ok (.getfield 227, 3) := by decide +kernel
theorem dX8_isConsistent_63 : decode cX8_isConsistent 63 = .ok (.iload_n 2, 1) := by decide +kernel
theorem dX8_isConsistent_64 : decode cX8_isConsistent 64 = .ok (.iaload, 1) := by decide +kernel
theorem dX8_isConsistent_65 : decode cX8_isConsistent 65 = .ok (.if_icmp .ne 30, 3) := by decide +kernel
theorem dX8_isConsistent_68 : decode cX8_isConsistent 68 = .ok (.aload_n 0, 1) := by decide +kernel
theorem dX8_isConsistent_69 : decode cX8_isConsistent 69 = .ok (.getfield 54, 3) := by decide +kernel
theorem dX8_isConsistent_72 : decode cX8_isConsistent 72 = .ok (.getfield 239, 3) := by decide +kernel
theorem dX8_isConsistent_75 : decode cX8_isConsistent 75 = .ok (.aload_n 0, 1) := by decide +kernel
theorem dX8_isConsistent_76 : decode cX8_isConsistent 76 = .ok (.getfield 40, 3) := by decide +kernel
theorem dX8_isConsistent_79 : decode cX8_isConsistent 79 = .ok (.getfield 230, 3) := by decide +kernel
theorem dX8_isConsistent_82 : decode cX8_isConsistent 82 = .ok (.iload_n 2, 1) := by decide +kernel
theorem dX8_isConsistent_83 : decode cX8_isConsistent 83 = .ok (.iaload, 1) := by decide +kernel
theorem dX8_isConsistent_84 : decode cX8_isConsistent 84 = .ok (.if_icmp .ne 11, 3) := by decide +kernel
theorem dX8_isConsistent_87 : decode cX8_isConsistent 87 = .ok (.iload_n 1, 1) := by decide +kernel
theorem dX8_isConsistent_88 : decode cX8_isConsistent 88 = .ok (.iload_n 3, 1) := by decide +kernel
theorem dX8_isConsistent_89 : decode cX8_isConsistent 89 = .ok (.invokestatic 263, 3) := by decide +kernel
theorem dX8_isConsistent_92 : decode cX8_isConsistent 92 = .ok (.ifCond .ne 5, 3) := by decide +kernel
theorem dX8_isConsistent_95 : decode cX8_isConsistent 95 = .ok (.iconst 0, 1) := by decide +kernel
theorem dX8_isConsistent_96 : decode cX8_isConsistent 96 = .ok (.ireturn, 1) := by decide +kernel
theorem dX8_isConsistent_97 : decode cX8_isConsistent 97 = .ok (.iload_n 3, 1) := by decide +kernel
theorem dX8_isConsistent_98 : decode cX8_isConsistent 98 = .ok (.istore_n 1, 1) := by decide +kernel
theorem dX8_isConsistent_99 : decode cX8_isConsistent 99 = .ok (.iinc 2 1, 3) := by decide +kernel
theorem dX8_isConsistent_102 : decode cX8_isConsistent 102 = .ok (.goto (-91), 3) := by decide +kernel
theorem dX8_isConsistent_105 : decode cX8_isConsistent 105 = .ok (.iconst 1, 1) := by decide +kernel
theorem dX8_isConsistent_106 : decode cX8_isConsistent 106 = .ok (.ireturn, 1) := by decide +kernel
set_option maxRecDepth 20000 in
theorem ggX8_writeRings_X8_checkLaid : GoodIn wsX8_writeRings wsX8_checkLaid := goodIn_ca (goodIn_r _ [15, 16, 17, 1, 2, 34, 35, 36, 37, 38, 39, 40, 41, 42, 43, 44, 45, 46, 47, 48, 49, 50, 51] (by decide +kernel) (by decide +kernel)) (goodIn_sub (fun _ h => List.mem_cons_of_mem _ (List.mem_append_right _ h)) (by decide +kernel))
set_option maxRecDepth 20000 in
theorem gX8_writeRings_X8_checkLaid : GoodIn wsX8_writeRings (wsV RX8 218 RX8 yX8_checkLaid wsX8_checkLaid) := goodIn_app (goodIn_of _ (by decide +kernel)) ggX8_writeRings_X8_checkLaid
set_option maxRecDepth 20000 in
theorem ggX8_writeRings_X5_clear : GoodIn wsX8_writeRings wsX5_clear := goodIn_r _ [22, 23, 52, 53] (by decide +kernel) (by decide +kernel)
set_option maxRecDepth 20000 in
theorem gX8_writeRings_X5_clear : GoodIn wsX8_writeRings (wsV RX8 310 RX5 yX5_clear wsX5_clear) := goodIn_app (goodIn_of _ (by decide +kernel)) ggX8_writeRings_X5_clear
set_option maxRecDepth 20000 in
theorem ggX8_writeRings_X5_put : GoodIn wsX8_writeRings wsX5_put := goodIn_ca (goodIn_r _ [27, 23, 28, 52, 53] (by decide +kernel) (by decide +kernel)) (goodIn_sub (fun _ h => List.mem_cons_of_mem _ (List.mem_append_left _ (List.mem_append_right _ h))) (by decide +kernel))
set_option maxRecDepth 20000 in
theorem gX8_writeRings_X5_put : GoodIn wsX8_writeRings (wsV RX8 313 RX5 yX5_put wsX5_put) := goodIn_app (goodIn_of _ (by decide +kernel)) ggX8_writeRings_X5_put
set_option maxRecDepth 20000 in
theorem ggX8_writeRings_X5_putDigit : GoodIn wsX8_writeRings wsX5_putDigit := goodIn_ca (goodIn_r _ [32, 33, 25, 26, 21, 27, 23, 28, 52, 53] (by decide +kernel) (by decide +kernel)) (goodIn_sub (fun _ h => List.mem_cons_of_mem _ (List.mem_append_left _ (List.mem_append_right _ h))) (by decide +kernel))
set_option maxRecDepth 20000 in
theorem gX8_writeRings_X5_putDigit : GoodIn wsX8_writeRings (wsV RX8 316 RX5 yX5_putDigit wsX5_putDigit) := goodIn_app (goodIn_of _ (by decide +kernel)) ggX8_writeRings_X5_putDigit
theorem dX8_writeRings_0 : decode cX8_writeRings 0 = .ok (.aload_n 0, 1) := by decide +kernel
theorem dX8_writeRings_1 : decode cX8_writeRings 1 = .ok (.iload_n 1, 1) := by decide +kernel
theorem dX8_writeRings_2 : decode cX8_writeRings 2 = .ok (.invokevirtual 218, 3) := by decide +kernel
theorem dX8_writeRings_5 : decode cX8_writeRings 5 = .ok (.aload_n 0, 1) := by decide +kernel
theorem dX8_writeRings_6 : decode cX8_writeRings 6 = .ok (.getfield 40, 3) := by decide +kernel
theorem dX8_writeRings_9 : decode cX8_writeRings 9 = .ok (.getfield 178, 3) := by decide +kernel
theorem dX8_writeRings_12 : decode cX8_writeRings 12 = .ok (.iload_n 1, 1) := by decide +kernel
theorem dX8_writeRings_13 : decode cX8_writeRings 13 = .ok (.bipush 10, 2) := by decide +kernel
theorem dX8_writeRings_15 : decode cX8_writeRings 15 = .ok (.iadd, 1) := by decide +kernel
theorem dX8_writeRings_16 : decode cX8_writeRings 16 = .ok (.invokestatic 307, 3) := by decide +kernel
theorem dX8_writeRings_19 : decode cX8_writeRings 19 = .ok (.istore_n 2, 1) := by decide +kernel
theorem dX8_writeRings_20 : decode cX8_writeRings 20 = .ok (.aload_n 0, 1) := by decide +kernel
theorem dX8_writeRings_21 : decode cX8_writeRings 21 = .ok (.getfield 61, 3) := by decide +kernel
theorem dX8_writeRings_24 : decode cX8_writeRings 24 = .ok (.invokevirtual 310, 3) := by decide +kernel
theorem dX8_writeRings_27 : decode cX8_writeRings 27 = .ok (.iload_n 1, 1) := by decide +kernel
theorem dX8_writeRings_28 : decode cX8_writeRings 28 = .ok (.istore_n 3, 1) := by decide +kernel
theorem dX8_writeRings_29 : decode cX8_writeRings 29 = .ok (.iload_n 3, 1) := by decide +kernel
theorem dX8_writeRings_30 : decode cX8_writeRings 30 = .ok (.iload_n 2, 1) := by decide +kernel
theorem dX8_writeRings_31 : decode cX8_writeRings 31 = .ok (.if_icmp .ge 64, 3) := by decide +kernel
theorem dX8_writeRings_34 : decode cX8_writeRings 34 = .ok (.iload_n 3, 1) := by decide +kernel
theorem dX8_writeRings_35 : decode cX8_writeRings 35 = .ok (.iload_n 1, 1) := by decide +kernel
theorem dX8_writeRings_36 : decode cX8_writeRings 36 = .ok (.if_icmp .le 12, 3) := by decide +kernel
theorem dX8_writeRings_39 : decode cX8_writeRings 39 = .ok (.aload_n 0, 1) := by decide +kernel
theorem dX8_writeRings_40 : decode cX8_writeRings 40 = .ok (.getfield 61, 3) := by decide +kernel
theorem dX8_writeRings_43 : decode cX8_writeRings 43 = .ok (.bipush 32, 2) := by decide +kernel
theorem dX8_writeRings_45 : decode cX8_writeRings 45 = .ok (.invokevirtual 313, 3) := by decide +kernel
theorem dX8_writeRings_48 : decode cX8_writeRings 48 = .ok (.aload_n 0, 1) := by decide +kernel
theorem dX8_writeRings_49 : decode cX8_writeRings 49 = .ok (.getfield 61, 3) := by decide +kernel
theorem dX8_writeRings_52 : decode cX8_writeRings 52 = .ok (.aload_n 0, 1) := by decide +kernel
theorem dX8_writeRings_53 : decode cX8_writeRings 53 = .ok (.getfield 40, 3) := by decide +kernel
theorem dX8_writeRings_56 : decode cX8_writeRings 56 = .ok (.getfield 221, 3) := by decide +kernel
theorem dX8_writeRings_59 : decode cX8_writeRings 59 = .ok (.iload_n 3, 1) := by decide +kernel
theorem dX8_writeRings_60 : decode cX8_writeRings 60 = .ok (.iaload, 1) := by decide +kernel
theorem dX8_writeRings_61 : decode cX8_writeRings 61 = .ok (.invokevirtual 316, 3) := by decide +kernel
theorem dX8_writeRings_64 : decode cX8_writeRings 64 = .ok (.aload_n 0, 1) := by decide +kernel
theorem dX8_writeRings_65 : decode cX8_writeRings 65 = .ok (.getfield 61, 3) := by decide +kernel
theorem dX8_writeRings_68 : decode cX8_writeRings 68 = .ok (.bipush 47, 2) := by decide +kernel
theorem dX8_writeRings_70 : decode cX8_writeRings 70 = .ok (.invokevirtual 313, 3) := by decide +kernel
theorem dX8_writeRings_73 : decode cX8_writeRings 73 = .ok (.aload_n 0, 1) := by decide +kernel
theorem dX8_writeRings_74 : decode cX8_writeRings 74 = .ok (.getfield 61, 3) := by decide +kernel
theorem dX8_writeRings_77 : decode cX8_writeRings 77 = .ok (.aload_n 0, 1) := by decide +kernel
theorem dX8_writeRings_78 : decode cX8_writeRings 78 = .ok (.getfield 40, 3) := by decide +kernel
theorem dX8_writeRings_81 : decode cX8_writeRings 81 = .ok (.getfield 224, 3) := by decide +kernel
theorem dX8_writeRings_84 : decode cX8_writeRings 84 = .ok (.iload_n 3, 1) := by decide +kernel
theorem dX8_writeRings_85 : decode cX8_writeRings 85 = .ok (.iaload, 1) := by decide +kernel
theorem dX8_writeRings_86 : decode cX8_writeRings 86 = .ok (.invokevirtual 316, 3) := by decide +kernel
theorem dX8_writeRings_89 : decode cX8_writeRings 89 = .ok (.iinc 3 1, 3) := by decide +kernel
theorem dX8_writeRings_92 : decode cX8_writeRings 92 = .ok (.goto (-63), 3) := by decide +kernel
theorem dX8_writeRings_95 : decode cX8_writeRings 95 = .ok (.aload_n 0, 1) := by decide +kernel
theorem dX8_writeRings_96 : decode cX8_writeRings 96 = .ok (.getfield 61, 3) := by decide +kernel
