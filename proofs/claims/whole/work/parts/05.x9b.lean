theorem dX9_isNoPosition_1 : decode cX9_isNoPosition 1 = .ok (.iload_n 1, 1) := by decide +kernel
theorem dX9_isNoPosition_2 : decode cX9_isNoPosition 2 = .ok (.invokevirtual 96, 3) := by decide +kernel
theorem dX9_isNoPosition_5 : decode cX9_isNoPosition 5 = .ok (.ifCond .ne 26, 3) := by decide +kernel
theorem dX9_isNoPosition_8 : decode cX9_isNoPosition 8 = .ok (.aload_n 0, 1) := by decide +kernel
theorem dX9_isNoPosition_9 : decode cX9_isNoPosition 9 = .ok (.iload_n 2, 1) := by decide +kernel
theorem dX9_isNoPosition_10 : decode cX9_isNoPosition 10 = .ok (.iconst 0, 1) := by decide +kernel
theorem dX9_isNoPosition_11 : decode cX9_isNoPosition 11 = .ok (.bipush 7, 2) := by decide +kernel
theorem dX9_isNoPosition_13 : decode cX9_isNoPosition 13 = .ok (.invokestatic 75, 3) := by decide +kernel
theorem dX9_isNoPosition_16 : decode cX9_isNoPosition 16 = .ok (.ifCond .ne 7, 3) := by decide +kernel
theorem dX9_isNoPosition_19 : decode cX9_isNoPosition 19 = .ok (.iconst 1, 1) := by decide +kernel
theorem dX9_isNoPosition_20 : decode cX9_isNoPosition 20 = .ok (.goto 4, 3) := by decide +kernel
theorem dX9_isNoPosition_23 : decode cX9_isNoPosition 23 = .ok (.iconst 0, 1) := by decide +kernel
theorem dX9_isNoPosition_24 : decode cX9_isNoPosition 24 = .ok (.iconst 2, 1) := by decide +kernel
theorem dX9_isNoPosition_25 : decode cX9_isNoPosition 25 = .ok (.invokevirtual 79, 3) := by decide +kernel
theorem dX9_isNoPosition_28 : decode cX9_isNoPosition 28 = .ok (.ifCond .eq 7, 3) := by decide +kernel
theorem dX9_isNoPosition_31 : decode cX9_isNoPosition 31 = .ok (.iconst 1, 1) := by decide +kernel
theorem dX9_isNoPosition_32 : decode cX9_isNoPosition 32 = .ok (.goto 4, 3) := by decide +kernel
theorem dX9_isNoPosition_35 : decode cX9_isNoPosition 35 = .ok (.iconst 0, 1) := by decide +kernel
theorem dX9_isNoPosition_36 : decode cX9_isNoPosition 36 = .ok (.ireturn, 1) := by decide +kernel
set_option maxRecDepth 20000 in
theorem ggX9_reasonFor_X9_isNoPosition : GoodIn wsX9_reasonFor wsX9_isNoPosition := goodIn_r _ [5, 6, 7, 8, 4, 9, 10, 11, 12, 13, 14, 15, 16, 17, 93, 94, 95, 96, 97, 98, 99, 100, 101, 102, 103, 104, 105, 106, 107, 108, 109, 110, 111, 112, 113, 114, 115, 116, 117, 118, 119, 120, 121, 122] (by decide +kernel) (by decide +kernel)
set_option maxRecDepth 20000 in
theorem gX9_reasonFor_X9_isNoPosition : GoodIn wsX9_reasonFor (wsV RX9 167 RX9 yX9_isNoPosition wsX9_isNoPosition) := goodIn_app (goodIn_of _ (by decide +kernel)) ggX9_reasonFor_X9_isNoPosition
set_option maxRecDepth 20000 in
theorem ggX9_reasonFor_X9_reason : GoodIn wsX9_reasonFor wsX9_reason := goodIn_ca (goodIn_r _ [21, 22, 23, 24, 25, 26, 27, 28, 29, 30, 4, 31, 32, 33, 34, 35, 36, 37, 38, 39, 40, 41, 42, 43, 44, 45, 46, 47, 48, 49, 50, 51, 52, 53, 54, 55, 56, 57, 58, 59, 60, 61, 62, 63, 64, 65, 66, 67, 68, 69, 70, 71, 72, 73, 74, 75, 76, 77, 78, 79, 80, 81, 82, 83, 84, 85, 86, 87, 88, 89, 90, 91, 92, 93, 94, 95, 96, 97, 98, 99, 100, 101, 102, 103, 104, 105, 106, 107, 108, 109, 110, 111, 112, 113, 114, 115, 116, 117, 118, 119, 120, 121, 122] (by decide +kernel) (by decide +kernel)) (goodIn_sub (fun _ h => List.mem_cons_of_mem _ (List.mem_append_right _ h)) (by decide +kernel))
set_option maxRecDepth 20000 in
theorem gX9_reasonFor_X9_reason : GoodIn wsX9_reasonFor (wsV RX9 170 RX9 yX9_reason wsX9_reason) := goodIn_app (goodIn_of _ (by decide +kernel)) ggX9_reasonFor_X9_reason
theorem dX9_reasonFor_0 : decode cX9_reasonFor 0 = .ok (.aload_n 0, 1) := by decide +kernel
theorem dX9_reasonFor_1 : decode cX9_reasonFor 1 = .ok (.iload_n 1, 1) := by decide +kernel
theorem dX9_reasonFor_2 : decode cX9_reasonFor 2 = .ok (.iload_n 2, 1) := by decide +kernel
theorem dX9_reasonFor_3 : decode cX9_reasonFor 3 = .ok (.invokevirtual 167, 3) := by decide +kernel
theorem dX9_reasonFor_6 : decode cX9_reasonFor 6 = .ok (.ifCond .eq 8, 3) := by decide +kernel
theorem dX9_reasonFor_9 : decode cX9_reasonFor 9 = .ok (.bipush 45, 2) := by decide +kernel
theorem dX9_reasonFor_11 : decode cX9_reasonFor 11 = .ok (.goto 9, 3) := by decide +kernel
theorem dX9_reasonFor_14 : decode cX9_reasonFor 14 = .ok (.aload_n 0, 1) := by decide +kernel
theorem dX9_reasonFor_15 : decode cX9_reasonFor 15 = .ok (.iload_n 1, 1) := by decide +kernel
theorem dX9_reasonFor_16 : decode cX9_reasonFor 16 = .ok (.iload_n 2, 1) := by decide +kernel
theorem dX9_reasonFor_17 : decode cX9_reasonFor 17 = .ok (.invokevirtual 170, 3) := by decide +kernel
theorem dX9_reasonFor_20 : decode cX9_reasonFor 20 = .ok (.ireturn, 1) := by decide +kernel
set_option maxRecDepth 20000 in
theorem ggX9_sinks_X9_isIn : GoodIn wsX9_sinks wsX9_isIn := goodIn_r _ [6] (by decide +kernel) (by decide +kernel)
set_option maxRecDepth 20000 in
theorem gX9_sinks_X9_isIn : GoodIn wsX9_sinks (va_wsS RX9 75 yX9_isIn wsX9_isIn) := goodIn_app (goodIn_of _ (by decide +kernel)) ggX9_sinks_X9_isIn
theorem dX9_sinks_0 : decode cX9_sinks 0 = .ok (.iload_n 1, 1) := by decide +kernel
theorem dX9_sinks_1 : decode cX9_sinks 1 = .ok (.iconst 0, 1) := by decide +kernel
theorem dX9_sinks_2 : decode cX9_sinks 2 = .ok (.aload_n 0, 1) := by decide +kernel
theorem dX9_sinks_3 : decode cX9_sinks 3 = .ok (.getfield 83, 3) := by decide +kernel
theorem dX9_sinks_6 : decode cX9_sinks 6 = .ok (.iconst 1, 1) := by decide +kernel
theorem dX9_sinks_7 : decode cX9_sinks 7 = .ok (.isub, 1) := by decide +kernel
theorem dX9_sinks_8 : decode cX9_sinks 8 = .ok (.invokestatic 75, 3) := by decide +kernel
theorem dX9_sinks_11 : decode cX9_sinks 11 = .ok (.ifCond .eq 13, 3) := by decide +kernel
theorem dX9_sinks_14 : decode cX9_sinks 14 = .ok (.aload_n 0, 1) := by decide +kernel
theorem dX9_sinks_15 : decode cX9_sinks 15 = .ok (.getfield 22, 3) := by decide +kernel
theorem dX9_sinks_18 : decode cX9_sinks 18 = .ok (.iload_n 1, 1) := by decide +kernel
theorem dX9_sinks_19 : decode cX9_sinks 19 = .ok (.dup2, 1) := by decide +kernel
theorem dX9_sinks_20 : decode cX9_sinks 20 = .ok (.iaload, 1) := by decide +kernel
theorem dX9_sinks_21 : decode cX9_sinks 21 = .ok (.iload_n 2, 1) := by decide +kernel
theorem dX9_sinks_22 : decode cX9_sinks 22 = .ok (.iadd, 1) := by decide +kernel
theorem dX9_sinks_23 : decode cX9_sinks 23 = .ok (.iastore, 1) := by decide +kernel
theorem dX9_sinks_24 : decode cX9_sinks 24 = .ok (.return_, 1) := by decide +kernel
set_option maxRecDepth 20000 in
theorem ggX9_lay_X9_isNoPosition : GoodIn wsX9_lay wsX9_isNoPosition := goodIn_r _ [23, 24, 25, 26, 22, 27, 28, 29, 30, 31, 32, 33, 34, 35, 99, 100, 101, 102, 103, 104, 105, 106, 107, 108, 109, 110, 111, 112, 113, 114, 115, 116, 117, 118, 119, 120, 121, 122, 123, 124, 125, 126, 127, 128] (by decide +kernel) (by decide +kernel)
set_option maxRecDepth 20000 in
theorem gX9_lay_X9_isNoPosition : GoodIn wsX9_lay (wsV RX9 167 RX9 yX9_isNoPosition wsX9_isNoPosition) := goodIn_app (goodIn_of _ (by decide +kernel)) ggX9_lay_X9_isNoPosition
set_option maxRecDepth 20000 in
theorem ggX9_lay_X9_reason : GoodIn wsX9_lay wsX9_reason := goodIn_ca (goodIn_r _ [39, 18, 4, 40, 11, 2, 41, 42, 43, 44, 22, 45, 46, 47, 48, 49, 50, 1, 6, 7, 8, 9, 51, 52, 53, 54, 14, 55, 56, 57, 58, 59, 60, 61, 62, 63, 64, 10, 5, 3, 65, 66, 67, 68, 12, 13, 69, 70, 71, 72, 16, 73, 74, 75, 76, 77, 78, 79, 17, 80, 81, 82, 83, 84, 85, 86, 87, 88, 89, 90, 91, 92, 93, 99, 100, 101, 102, 103, 104, 105, 106, 107, 108, 109, 110, 111, 112, 113, 114, 115, 116, 117, 118, 119, 120, 121, 122, 123, 124, 125, 126, 127, 128] (by decide +kernel) (by decide +kernel)) (goodIn_sub (fun _ h => List.mem_cons_of_mem _ (List.mem_append_right _ h)) (by decide +kernel))
set_option maxRecDepth 20000 in
theorem gX9_lay_X9_reason : GoodIn wsX9_lay (wsV RX9 170 RX9 yX9_reason wsX9_reason) := goodIn_app (goodIn_of _ (by decide +kernel)) ggX9_lay_X9_reason
set_option maxRecDepth 20000 in
theorem ggX9_lay_X9_isThrown : GoodIn wsX9_lay wsX9_isThrown := goodIn_r _ [34, 35, 99, 100, 101, 102, 103, 104, 105, 106, 107, 108, 109, 110, 111, 112, 113, 114, 115, 116, 117, 118, 119, 120, 121, 122, 123, 124, 125, 126, 127, 128] (by decide +kernel) (by decide +kernel)
set_option maxRecDepth 20000 in
theorem gX9_lay_X9_isThrown : GoodIn wsX9_lay (wsV RX9 79 RX9 yX9_isThrown wsX9_isThrown) := goodIn_app (goodIn_of _ (by decide +kernel)) ggX9_lay_X9_isThrown
set_option maxRecDepth 20000 in
theorem ggX9_lay_X9_top : GoodIn wsX9_lay wsX9_top := goodIn_ca (goodIn_r _ [45, 18, 99, 100, 101, 102, 103, 104, 105, 106, 107, 108, 109, 110, 111, 112, 113, 114, 115, 116, 117, 118, 119, 120, 121, 122, 123, 124, 125, 126, 127, 128] (by decide +kernel) (by decide +kernel)) (goodIn_sub (fun _ h => List.mem_cons_of_mem _ (List.mem_append_right _ h)) (by decide +kernel))
set_option maxRecDepth 20000 in
theorem gX9_lay_X9_top : GoodIn wsX9_lay (wsV RX9 99 RX9 yX9_top wsX9_top) := goodIn_app (goodIn_of _ (by decide +kernel)) ggX9_lay_X9_top
set_option maxRecDepth 20000 in
theorem ggX9_lay_X9_sinks : GoodIn wsX9_lay wsX9_sinks := goodIn_ca (goodIn_r _ [97, 40, 98, 28, 29, 22, 30, 99, 100, 101, 102, 103, 104, 105, 106, 107, 108, 109, 110, 111, 112, 113, 114, 115, 116, 117, 118, 119, 120, 121, 122, 123, 124, 125, 126, 127, 128] (by decide +kernel) (by decide +kernel)) (goodIn_sub (fun _ h => List.mem_cons_of_mem _ (List.mem_append_right _ h)) (by decide +kernel))
set_option maxRecDepth 20000 in
theorem gX9_lay_X9_sinks : GoodIn wsX9_lay (wsV RX9 174 RX9 yX9_sinks wsX9_sinks) := goodIn_app (goodIn_of _ (by decide +kernel)) ggX9_lay_X9_sinks
set_option maxRecDepth 20000 in
theorem ggX9_lay_X9_takes : GoodIn wsX9_lay wsX9_takes := goodIn_ca (goodIn_r _ [64, 10, 4, 5, 3, 6, 7, 8, 9, 99, 100, 101, 102, 103, 104, 105, 106, 107, 108, 109, 110, 111, 112, 113, 114, 115, 116, 117, 118, 119, 120, 121, 122, 123, 124, 125, 126, 127, 128] (by decide +kernel) (by decide +kernel)) (goodIn_sub (fun _ h => List.mem_cons_of_mem _ (List.mem_append_right _ h)) (by decide +kernel))
set_option maxRecDepth 20000 in
theorem gX9_lay_X9_takes : GoodIn wsX9_lay (wsV RX9 124 RX9 yX9_takes wsX9_takes) := goodIn_app (goodIn_of _ (by decide +kernel)) ggX9_lay_X9_takes
set_option maxRecDepth 20000 in
theorem ggX9_lay_X9_across : GoodIn wsX9_lay wsX9_across := goodIn_r _ [75] (by decide +kernel) (by decide +kernel)
set_option maxRecDepth 20000 in
theorem gX9_lay_X9_across : GoodIn wsX9_lay (va_wsS RX9 141 yX9_across wsX9_across) := goodIn_app (goodIn_of _ (by decide +kernel)) ggX9_lay_X9_across
set_option maxRecDepth 20000 in
theorem ggX9_lay_X9_up : GoodIn wsX9_lay wsX9_up := goodIn_r _ [82] (by decide +kernel) (by decide +kernel)
set_option maxRecDepth 20000 in
theorem gX9_lay_X9_up : GoodIn wsX9_lay (va_wsS RX9 150 yX9_up wsX9_up) := goodIn_app (goodIn_of _ (by decide +kernel)) ggX9_lay_X9_up
set_option maxRecDepth 20000 in
theorem ggX9_lay_X9_lastX : GoodIn wsX9_lay wsX9_lastX := goodIn_ca (goodIn_r _ [72, 4, 16, 99, 100, 101, 102, 103, 104, 105, 106, 107, 108, 109, 110, 111, 112, 113, 114, 115, 116, 117, 118, 119, 120, 121, 122, 123, 124, 125, 126, 127, 128] (by decide +kernel) (by decide +kernel)) (goodIn_sub (fun _ h => List.mem_cons_of_mem _ (List.mem_append_right _ h)) (by decide +kernel))
set_option maxRecDepth 20000 in
theorem gX9_lay_X9_lastX : GoodIn wsX9_lay (wsV RX9 135 RX9 yX9_lastX wsX9_lastX) := goodIn_app (goodIn_of _ (by decide +kernel)) ggX9_lay_X9_lastX
set_option maxRecDepth 20000 in
theorem ggX9_lay_X9_lastY : GoodIn wsX9_lay wsX9_lastY := goodIn_ca (goodIn_r _ [79, 4, 17, 99, 100, 101, 102, 103, 104, 105, 106, 107, 108, 109, 110, 111, 112, 113, 114, 115, 116, 117, 118, 119, 120, 121, 122, 123, 124, 125, 126, 127, 128] (by decide +kernel) (by decide +kernel)) (goodIn_sub (fun _ h => List.mem_cons_of_mem _ (List.mem_append_right _ h)) (by decide +kernel))
set_option maxRecDepth 20000 in
theorem gX9_lay_X9_lastY : GoodIn wsX9_lay (wsV RX9 144 RX9 yX9_lastY wsX9_lastY) := goodIn_app (goodIn_of _ (by decide +kernel)) ggX9_lay_X9_lastY
theorem dX9_lay_0 : decode cX9_lay 0 = .ok (.aload_n 0, 1) := by decide +kernel
theorem dX9_lay_1 : decode cX9_lay 1 = .ok (.iload_n 1, 1) := by decide +kernel
theorem dX9_lay_2 : decode cX9_lay 2 = .ok (.iload_n 2, 1) := by decide +kernel
theorem dX9_lay_3 : decode cX9_lay 3 = .ok (.invokevirtual 167, 3) := by decide +kernel
theorem dX9_lay_6 : decode cX9_lay 6 = .ok (.ifCond .ne 52, 3) := by decide +kernel
theorem dX9_lay_9 : decode cX9_lay 9 = .ok (.aload_n 0, 1) := by decide +kernel
theorem dX9_lay_10 : decode cX9_lay 10 = .ok (.aload_n 0, 1) := by decide +kernel
theorem dX9_lay_11 : decode cX9_lay 11 = .ok (.iload_n 1, 1) := by decide +kernel
theorem dX9_lay_12 : decode cX9_lay 12 = .ok (.iload_n 2, 1) := by decide +kernel
theorem dX9_lay_13 : decode cX9_lay 13 = .ok (.invokevirtual 170, 3) := by decide +kernel
theorem dX9_lay_16 : decode cX9_lay 16 = .ok (.bipush 45, 2) := by decide +kernel
theorem dX9_lay_18 : decode cX9_lay 18 = .ok (.if_icmp .eq 7, 3) := by decide +kernel
theorem dX9_lay_21 : decode cX9_lay 21 = .ok (.iconst 1, 1) := by decide +kernel
theorem dX9_lay_22 : decode cX9_lay 22 = .ok (.goto 4, 3) := by decide +kernel
theorem dX9_lay_25 : decode cX9_lay 25 = .ok (.iconst 0, 1) := by decide +kernel
theorem dX9_lay_26 : decode cX9_lay 26 = .ok (.iconst 3, 1) := by decide +kernel
theorem dX9_lay_27 : decode cX9_lay 27 = .ok (.invokevirtual 79, 3) := by decide +kernel
theorem dX9_lay_30 : decode cX9_lay 30 = .ok (.ifCond .ne 28, 3) := by decide +kernel
theorem dX9_lay_33 : decode cX9_lay 33 = .ok (.aload_n 0, 1) := by decide +kernel
theorem dX9_lay_34 : decode cX9_lay 34 = .ok (.aload_n 0, 1) := by decide +kernel
theorem dX9_lay_35 : decode cX9_lay 35 = .ok (.getfield 103, 3) := by decide +kernel
theorem dX9_lay_38 : decode cX9_lay 38 = .ok (.iconst 2, 1) := by decide +kernel
theorem dX9_lay_39 : decode cX9_lay 39 = .ok (.iadd, 1) := by decide +kernel
theorem dX9_lay_40 : decode cX9_lay 40 = .ok (.sipush 5000, 3) := by decide +kernel
theorem dX9_lay_43 : decode cX9_lay 43 = .ok (.if_icmp .le 7, 3) := by decide +kernel
theorem dX9_lay_46 : decode cX9_lay 46 = .ok (.iconst 1, 1) := by decide +kernel
theorem dX9_lay_47 : decode cX9_lay 47 = .ok (.goto 4, 3) := by decide +kernel
theorem dX9_lay_50 : decode cX9_lay 50 = .ok (.iconst 0, 1) := by decide +kernel
theorem dX9_lay_51 : decode cX9_lay 51 = .ok (.iconst 4, 1) := by decide +kernel
theorem dX9_lay_52 : decode cX9_lay 52 = .ok (.invokevirtual 79, 3) := by decide +kernel
theorem dX9_lay_55 : decode cX9_lay 55 = .ok (.ifCond .eq 5, 3) := by decide +kernel
theorem dX9_lay_58 : decode cX9_lay 58 = .ok (.iconst 0, 1) := by decide +kernel
theorem dX9_lay_59 : decode cX9_lay 59 = .ok (.ireturn, 1) := by decide +kernel
theorem dX9_lay_60 : decode cX9_lay 60 = .ok (.aload_n 0, 1) := by decide +kernel
theorem dX9_lay_61 : decode cX9_lay 61 = .ok (.getfield 37, 3) := by decide +kernel
theorem dX9_lay_64 : decode cX9_lay 64 = .ok (.aload_n 0, 1) := by decide +kernel
theorem dX9_lay_65 : decode cX9_lay 65 = .ok (.iload_n 1, 1) := by decide +kernel
theorem dX9_lay_66 : decode cX9_lay 66 = .ok (.invokevirtual 99, 3) := by decide +kernel
theorem dX9_lay_69 : decode cX9_lay 69 = .ok (.iaload, 1) := by decide +kernel
theorem dX9_lay_70 : decode cX9_lay 70 = .ok (.istore_n 3, 1) := by decide +kernel
theorem dX9_lay_71 : decode cX9_lay 71 = .ok (.iconst 0, 1) := by decide +kernel
theorem dX9_lay_72 : decode cX9_lay 72 = .ok (.aload_n 0, 1) := by decide +kernel
theorem dX9_lay_73 : decode cX9_lay 73 = .ok (.getfield 9, 3) := by decide +kernel
theorem dX9_lay_76 : decode cX9_lay 76 = .ok (.aload_n 0, 1) := by decide +kernel
theorem dX9_lay_77 : decode cX9_lay 77 = .ok (.getfield 121, 3) := by decide +kernel
theorem dX9_lay_80 : decode cX9_lay 80 = .ok (.iaload, 1) := by decide +kernel
theorem dX9_lay_81 : decode cX9_lay 81 = .ok (.aload_n 0, 1) := by decide +kernel
theorem dX9_lay_82 : decode cX9_lay 82 = .ok (.getfield 65, 3) := by decide +kernel
theorem dX9_lay_85 : decode cX9_lay 85 = .ok (.isub, 1) := by decide +kernel
theorem dX9_lay_86 : decode cX9_lay 86 = .ok (.invokestatic 106, 3) := by decide +kernel
theorem dX9_lay_89 : decode cX9_lay 89 = .ok (.aload_n 0, 1) := by decide +kernel
theorem dX9_lay_90 : decode cX9_lay 90 = .ok (.getfield 13, 3) := by decide +kernel
theorem dX9_lay_93 : decode cX9_lay 93 = .ok (.aload_n 0, 1) := by decide +kernel
theorem dX9_lay_94 : decode cX9_lay 94 = .ok (.getfield 121, 3) := by decide +kernel
theorem dX9_lay_97 : decode cX9_lay 97 = .ok (.iaload, 1) := by decide +kernel
theorem dX9_lay_98 : decode cX9_lay 98 = .ok (.imul, 1) := by decide +kernel
theorem dX9_lay_99 : decode cX9_lay 99 = .ok (.bipush 10, 2) := by decide +kernel
theorem dX9_lay_101 : decode cX9_lay 101 = .ok (.idiv, 1) := by decide +kernel
theorem dX9_lay_102 : decode cX9_lay 102 = .ok (.istore 4, 2) := by decide +kernel
theorem dX9_lay_104 : decode cX9_lay 104 = .ok (.aload_n 0, 1) := by decide +kernel
theorem dX9_lay_105 : decode cX9_lay 105 = .ok (.aload_n 0, 1) := by decide +kernel
theorem dX9_lay_106 : decode cX9_lay 106 = .ok (.getfield 121, 3) := by decide +kernel
theorem dX9_lay_109 : decode cX9_lay 109 = .ok (.iload 4, 2) := by decide +kernel
theorem dX9_lay_111 : decode cX9_lay 111 = .ok (.invokevirtual 174, 3) := by decide +kernel
theorem dX9_lay_114 : decode cX9_lay 114 = .ok (.aload_n 0, 1) := by decide +kernel
theorem dX9_lay_115 : decode cX9_lay 115 = .ok (.aload_n 0, 1) := by decide +kernel
theorem dX9_lay_116 : decode cX9_lay 116 = .ok (.getfield 121, 3) := by decide +kernel
theorem dX9_lay_119 : decode cX9_lay 119 = .ok (.iconst 1, 1) := by decide +kernel
theorem dX9_lay_120 : decode cX9_lay 120 = .ok (.isub, 1) := by decide +kernel
theorem dX9_lay_121 : decode cX9_lay 121 = .ok (.iload 4, 2) := by decide +kernel
theorem dX9_lay_123 : decode cX9_lay 123 = .ok (.iconst 2, 1) := by decide +kernel
theorem dX9_lay_124 : decode cX9_lay 124 = .ok (.idiv, 1) := by decide +kernel
theorem dX9_lay_125 : decode cX9_lay 125 = .ok (.invokevirtual 174, 3) := by decide +kernel
theorem dX9_lay_128 : decode cX9_lay 128 = .ok (.aload_n 0, 1) := by decide +kernel
theorem dX9_lay_129 : decode cX9_lay 129 = .ok (.aload_n 0, 1) := by decide +kernel
theorem dX9_lay_130 : decode cX9_lay 130 = .ok (.getfield 121, 3) := by decide +kernel
theorem dX9_lay_133 : decode cX9_lay 133 = .ok (.iconst 1, 1) := by decide +kernel
theorem dX9_lay_134 : decode cX9_lay 134 = .ok (.iadd, 1) := by decide +kernel
theorem dX9_lay_135 : decode cX9_lay 135 = .ok (.iload 4, 2) := by decide +kernel
theorem dX9_lay_137 : decode cX9_lay 137 = .ok (.iconst 2, 1) := by decide +kernel
theorem dX9_lay_138 : decode cX9_lay 138 = .ok (.idiv, 1) := by decide +kernel
theorem dX9_lay_139 : decode cX9_lay 139 = .ok (.invokevirtual 174, 3) := by decide +kernel
theorem dX9_lay_142 : decode cX9_lay 142 = .ok (.aload_n 0, 1) := by decide +kernel
theorem dX9_lay_143 : decode cX9_lay 143 = .ok (.dup, 1) := by decide +kernel
theorem dX9_lay_144 : decode cX9_lay 144 = .ok (.getfield 118, 3) := by decide +kernel
theorem dX9_lay_147 : decode cX9_lay 147 = .ok (.aload_n 0, 1) := by decide +kernel
theorem dX9_lay_148 : decode cX9_lay 148 = .ok (.invokevirtual 124, 3) := by decide +kernel
theorem dX9_lay_151 : decode cX9_lay 151 = .ok (.isub, 1) := by decide +kernel
theorem dX9_lay_152 : decode cX9_lay 152 = .ok (.putfield 118, 3) := by decide +kernel
theorem dX9_lay_155 : decode cX9_lay 155 = .ok (.aload_n 0, 1) := by decide +kernel
theorem dX9_lay_156 : decode cX9_lay 156 = .ok (.dup, 1) := by decide +kernel
theorem dX9_lay_157 : decode cX9_lay 157 = .ok (.getfield 138, 3) := by decide +kernel
theorem dX9_lay_160 : decode cX9_lay 160 = .ok (.iload_n 3, 1) := by decide +kernel
theorem dX9_lay_161 : decode cX9_lay 161 = .ok (.iload_n 2, 1) := by decide +kernel
theorem dX9_lay_162 : decode cX9_lay 162 = .ok (.invokestatic 141, 3) := by decide +kernel
theorem dX9_lay_165 : decode cX9_lay 165 = .ok (.imul, 1) := by decide +kernel
theorem dX9_lay_166 : decode cX9_lay 166 = .ok (.iadd, 1) := by decide +kernel
theorem dX9_lay_167 : decode cX9_lay 167 = .ok (.putfield 138, 3) := by decide +kernel
theorem dX9_lay_170 : decode cX9_lay 170 = .ok (.aload_n 0, 1) := by decide +kernel
theorem dX9_lay_171 : decode cX9_lay 171 = .ok (.dup, 1) := by decide +kernel
theorem dX9_lay_172 : decode cX9_lay 172 = .ok (.getfield 147, 3) := by decide +kernel
theorem dX9_lay_175 : decode cX9_lay 175 = .ok (.iload_n 3, 1) := by decide +kernel
theorem dX9_lay_176 : decode cX9_lay 176 = .ok (.iload_n 2, 1) := by decide +kernel
theorem dX9_lay_177 : decode cX9_lay 177 = .ok (.invokestatic 150, 3) := by decide +kernel
theorem dX9_lay_180 : decode cX9_lay 180 = .ok (.imul, 1) := by decide +kernel
theorem dX9_lay_181 : decode cX9_lay 181 = .ok (.iadd, 1) := by decide +kernel
theorem dX9_lay_182 : decode cX9_lay 182 = .ok (.putfield 147, 3) := by decide +kernel
theorem dX9_lay_185 : decode cX9_lay 185 = .ok (.aload_n 0, 1) := by decide +kernel
theorem dX9_lay_186 : decode cX9_lay 186 = .ok (.invokevirtual 135, 3) := by decide +kernel
theorem dX9_lay_189 : decode cX9_lay 189 = .ok (.aload_n 0, 1) := by decide +kernel
theorem dX9_lay_190 : decode cX9_lay 190 = .ok (.getfield 138, 3) := by decide +kernel
theorem dX9_lay_193 : decode cX9_lay 193 = .ok (.iadd, 1) := by decide +kernel
theorem dX9_lay_194 : decode cX9_lay 194 = .ok (.istore 5, 2) := by decide +kernel
theorem dX9_lay_196 : decode cX9_lay 196 = .ok (.aload_n 0, 1) := by decide +kernel
theorem dX9_lay_197 : decode cX9_lay 197 = .ok (.invokevirtual 144, 3) := by decide +kernel
theorem dX9_lay_200 : decode cX9_lay 200 = .ok (.aload_n 0, 1) := by decide +kernel
theorem dX9_lay_201 : decode cX9_lay 201 = .ok (.getfield 147, 3) := by decide +kernel
theorem dX9_lay_204 : decode cX9_lay 204 = .ok (.iadd, 1) := by decide +kernel
theorem dX9_lay_205 : decode cX9_lay 205 = .ok (.istore 6, 2) := by decide +kernel
theorem dX9_lay_207 : decode cX9_lay 207 = .ok (.aload_n 0, 1) := by decide +kernel
theorem dX9_lay_208 : decode cX9_lay 208 = .ok (.getfield 25, 3) := by decide +kernel
theorem dX9_lay_211 : decode cX9_lay 211 = .ok (.aload_n 0, 1) := by decide +kernel
theorem dX9_lay_212 : decode cX9_lay 212 = .ok (.getfield 121, 3) := by decide +kernel
theorem dX9_lay_215 : decode cX9_lay 215 = .ok (.iload_n 2, 1) := by decide +kernel
theorem dX9_lay_216 : decode cX9_lay 216 = .ok (.iastore, 1) := by decide +kernel
theorem dX9_lay_217 : decode cX9_lay 217 = .ok (.aload_n 0, 1) := by decide +kernel
theorem dX9_lay_218 : decode cX9_lay 218 = .ok (.getfield 28, 3) := by decide +kernel
theorem dX9_lay_221 : decode cX9_lay 221 = .ok (.aload_n 0, 1) := by decide +kernel
theorem dX9_lay_222 : decode cX9_lay 222 = .ok (.getfield 121, 3) := by decide +kernel
theorem dX9_lay_225 : decode cX9_lay 225 = .ok (.iload_n 3, 1) := by decide +kernel
theorem dX9_lay_226 : decode cX9_lay 226 = .ok (.iastore, 1) := by decide +kernel
theorem dX9_lay_227 : decode cX9_lay 227 = .ok (.aload_n 0, 1) := by decide +kernel
theorem dX9_lay_228 : decode cX9_lay 228 = .ok (.getfield 31, 3) := by decide +kernel
theorem dX9_lay_231 : decode cX9_lay 231 = .ok (.aload_n 0, 1) := by decide +kernel
theorem dX9_lay_232 : decode cX9_lay 232 = .ok (.getfield 121, 3) := by decide +kernel
theorem dX9_lay_235 : decode cX9_lay 235 = .ok (.iload 5, 2) := by decide +kernel
theorem dX9_lay_237 : decode cX9_lay 237 = .ok (.iastore, 1) := by decide +kernel
theorem dX9_lay_238 : decode cX9_lay 238 = .ok (.aload_n 0, 1) := by decide +kernel
theorem dX9_lay_239 : decode cX9_lay 239 = .ok (.getfield 34, 3) := by decide +kernel
theorem dX9_lay_242 : decode cX9_lay 242 = .ok (.aload_n 0, 1) := by decide +kernel
theorem dX9_lay_243 : decode cX9_lay 243 = .ok (.getfield 121, 3) := by decide +kernel
theorem dX9_lay_246 : decode cX9_lay 246 = .ok (.iload 6, 2) := by decide +kernel
theorem dX9_lay_248 : decode cX9_lay 248 = .ok (.iastore, 1) := by decide +kernel
theorem dX9_lay_249 : decode cX9_lay 249 = .ok (.aload_n 0, 1) := by decide +kernel
theorem dX9_lay_250 : decode cX9_lay 250 = .ok (.dup, 1) := by decide +kernel
theorem dX9_lay_251 : decode cX9_lay 251 = .ok (.getfield 121, 3) := by decide +kernel
theorem dX9_lay_254 : decode cX9_lay 254 = .ok (.iconst 1, 1) := by decide +kernel
theorem dX9_lay_255 : decode cX9_lay 255 = .ok (.iadd, 1) := by decide +kernel
theorem dX9_lay_256 : decode cX9_lay 256 = .ok (.putfield 121, 3) := by decide +kernel
theorem dX9_lay_259 : decode cX9_lay 259 = .ok (.aload_n 0, 1) := by decide +kernel
theorem dX9_lay_260 : decode cX9_lay 260 = .ok (.getfield 43, 3) := by decide +kernel
theorem dX9_lay_263 : decode cX9_lay 263 = .ok (.iload_n 1, 1) := by decide +kernel
theorem dX9_lay_264 : decode cX9_lay 264 = .ok (.dup2, 1) := by decide +kernel
theorem dX9_lay_265 : decode cX9_lay 265 = .ok (.iaload, 1) := by decide +kernel
theorem dX9_lay_266 : decode cX9_lay 266 = .ok (.iconst 1, 1) := by decide +kernel
theorem dX9_lay_267 : decode cX9_lay 267 = .ok (.isub, 1) := by decide +kernel
theorem dX9_lay_268 : decode cX9_lay 268 = .ok (.iastore, 1) := by decide +kernel
theorem dX9_lay_269 : decode cX9_lay 269 = .ok (.aload_n 0, 1) := by decide +kernel
theorem dX9_lay_270 : decode cX9_lay 270 = .ok (.dup, 1) := by decide +kernel
theorem dX9_lay_271 : decode cX9_lay 271 = .ok (.getfield 103, 3) := by decide +kernel
theorem dX9_lay_274 : decode cX9_lay 274 = .ok (.iconst 2, 1) := by decide +kernel
theorem dX9_lay_275 : decode cX9_lay 275 = .ok (.iadd, 1) := by decide +kernel
theorem dX9_lay_276 : decode cX9_lay 276 = .ok (.putfield 103, 3) := by decide +kernel
theorem dX9_lay_279 : decode cX9_lay 279 = .ok (.aload_n 0, 1) := by decide +kernel
theorem dX9_lay_280 : decode cX9_lay 280 = .ok (.getfield 121, 3) := by decide +kernel
theorem dX9_lay_283 : decode cX9_lay 283 = .ok (.iconst 1, 1) := by decide +kernel
theorem dX9_lay_284 : decode cX9_lay 284 = .ok (.isub, 1) := by decide +kernel
theorem dX9_lay_285 : decode cX9_lay 285 = .ok (.ireturn, 1) := by decide +kernel
set_option maxRecDepth 20000 in
theorem ggX9_stop_X9_isIn : GoodIn wsX9_stop wsX9_isIn := goodIn_r _ [15] (by decide +kernel) (by decide +kernel)
set_option maxRecDepth 20000 in
theorem gX9_stop_X9_isIn : GoodIn wsX9_stop (va_wsS RX9 75 yX9_isIn wsX9_isIn) := goodIn_app (goodIn_of _ (by decide +kernel)) ggX9_stop_X9_isIn
set_option maxRecDepth 20000 in
theorem ggX9_stop_X9_isThrown : GoodIn wsX9_stop wsX9_isThrown := goodIn_r _ [19, 20, 21, 22, 23, 24, 25, 26, 27, 28, 29, 30, 31, 32, 33, 34, 35, 36, 37, 38, 39, 40, 41, 42, 43, 44, 45, 46, 47, 48, 49, 50] (by decide +kernel) (by decide +kernel)
set_option maxRecDepth 20000 in
theorem gX9_stop_X9_isThrown : GoodIn wsX9_stop (wsV RX9 79 RX9 yX9_isThrown wsX9_isThrown) := goodIn_app (goodIn_of _ (by decide +kernel)) ggX9_stop_X9_isThrown
theorem dX9_stop_0 : decode cX9_stop 0 = .ok (.aload_n 0, 1) := by decide +kernel
theorem dX9_stop_1 : decode cX9_stop 1 = .ok (.iload_n 1, 1) := by decide +kernel
theorem dX9_stop_2 : decode cX9_stop 2 = .ok (.iconst 1, 1) := by decide +kernel
theorem dX9_stop_3 : decode cX9_stop 3 = .ok (.bipush 100, 2) := by decide +kernel
theorem dX9_stop_5 : decode cX9_stop 5 = .ok (.invokestatic 75, 3) := by decide +kernel
theorem dX9_stop_8 : decode cX9_stop 8 = .ok (.ifCond .ne 7, 3) := by decide +kernel
theorem dX9_stop_11 : decode cX9_stop 11 = .ok (.iconst 1, 1) := by decide +kernel
theorem dX9_stop_12 : decode cX9_stop 12 = .ok (.goto 4, 3) := by decide +kernel
theorem dX9_stop_15 : decode cX9_stop 15 = .ok (.iconst 0, 1) := by decide +kernel
theorem dX9_stop_16 : decode cX9_stop 16 = .ok (.iconst 1, 1) := by decide +kernel
theorem dX9_stop_17 : decode cX9_stop 17 = .ok (.invokevirtual 79, 3) := by decide +kernel
theorem dX9_stop_20 : decode cX9_stop 20 = .ok (.ifCond .ne 28, 3) := by decide +kernel
theorem dX9_stop_23 : decode cX9_stop 23 = .ok (.aload_n 0, 1) := by decide +kernel
theorem dX9_stop_24 : decode cX9_stop 24 = .ok (.aload_n 0, 1) := by decide +kernel
theorem dX9_stop_25 : decode cX9_stop 25 = .ok (.getfield 103, 3) := by decide +kernel
theorem dX9_stop_28 : decode cX9_stop 28 = .ok (.iload_n 1, 1) := by decide +kernel
theorem dX9_stop_29 : decode cX9_stop 29 = .ok (.iadd, 1) := by decide +kernel
theorem dX9_stop_30 : decode cX9_stop 30 = .ok (.sipush 5000, 3) := by decide +kernel
theorem dX9_stop_33 : decode cX9_stop 33 = .ok (.if_icmp .le 7, 3) := by decide +kernel
theorem dX9_stop_36 : decode cX9_stop 36 = .ok (.iconst 1, 1) := by decide +kernel
theorem dX9_stop_37 : decode cX9_stop 37 = .ok (.goto 4, 3) := by decide +kernel
theorem dX9_stop_40 : decode cX9_stop 40 = .ok (.iconst 0, 1) := by decide +kernel
theorem dX9_stop_41 : decode cX9_stop 41 = .ok (.iconst 2, 1) := by decide +kernel
theorem dX9_stop_42 : decode cX9_stop 42 = .ok (.invokevirtual 79, 3) := by decide +kernel
theorem dX9_stop_45 : decode cX9_stop 45 = .ok (.ifCond .eq 5, 3) := by decide +kernel
theorem dX9_stop_48 : decode cX9_stop 48 = .ok (.iconst 0, 1) := by decide +kernel
theorem dX9_stop_49 : decode cX9_stop 49 = .ok (.ireturn, 1) := by decide +kernel
theorem dX9_stop_50 : decode cX9_stop 50 = .ok (.aload_n 0, 1) := by decide +kernel
theorem dX9_stop_51 : decode cX9_stop 51 = .ok (.getfield 121, 3) := by decide +kernel
theorem dX9_stop_54 : decode cX9_stop 54 = .ok (.aload_n 0, 1) := by decide +kernel
theorem dX9_stop_55 : decode cX9_stop 55 = .ok (.getfield 83, 3) := by decide +kernel
theorem dX9_stop_58 : decode cX9_stop 58 = .ok (.if_icmp .ge 48, 3) := by decide +kernel
theorem dX9_stop_61 : decode cX9_stop 61 = .ok (.aload_n 0, 1) := by decide +kernel
theorem dX9_stop_62 : decode cX9_stop 62 = .ok (.getfield 22, 3) := by decide +kernel
theorem dX9_stop_65 : decode cX9_stop 65 = .ok (.aload_n 0, 1) := by decide +kernel
theorem dX9_stop_66 : decode cX9_stop 66 = .ok (.getfield 121, 3) := by decide +kernel
theorem dX9_stop_69 : decode cX9_stop 69 = .ok (.dup2, 1) := by decide +kernel
theorem dX9_stop_70 : decode cX9_stop 70 = .ok (.iaload, 1) := by decide +kernel
theorem dX9_stop_71 : decode cX9_stop 71 = .ok (.iload_n 1, 1) := by decide +kernel
theorem dX9_stop_72 : decode cX9_stop 72 = .ok (.iconst 0, 1) := by decide +kernel
theorem dX9_stop_73 : decode cX9_stop 73 = .ok (.aload_n 0, 1) := by decide +kernel
theorem dX9_stop_74 : decode cX9_stop 74 = .ok (.getfield 9, 3) := by decide +kernel
theorem dX9_stop_77 : decode cX9_stop 77 = .ok (.aload_n 0, 1) := by decide +kernel
theorem dX9_stop_78 : decode cX9_stop 78 = .ok (.getfield 121, 3) := by decide +kernel
theorem dX9_stop_81 : decode cX9_stop 81 = .ok (.iaload, 1) := by decide +kernel
theorem dX9_stop_82 : decode cX9_stop 82 = .ok (.aload_n 0, 1) := by decide +kernel
theorem dX9_stop_83 : decode cX9_stop 83 = .ok (.getfield 65, 3) := by decide +kernel
theorem dX9_stop_86 : decode cX9_stop 86 = .ok (.isub, 1) := by decide +kernel
theorem dX9_stop_87 : decode cX9_stop 87 = .ok (.invokestatic 106, 3) := by decide +kernel
theorem dX9_stop_90 : decode cX9_stop 90 = .ok (.aload_n 0, 1) := by decide +kernel
theorem dX9_stop_91 : decode cX9_stop 91 = .ok (.getfield 13, 3) := by decide +kernel
theorem dX9_stop_94 : decode cX9_stop 94 = .ok (.aload_n 0, 1) := by decide +kernel
theorem dX9_stop_95 : decode cX9_stop 95 = .ok (.getfield 121, 3) := by decide +kernel
theorem dX9_stop_98 : decode cX9_stop 98 = .ok (.iaload, 1) := by decide +kernel
theorem dX9_stop_99 : decode cX9_stop 99 = .ok (.imul, 1) := by decide +kernel
theorem dX9_stop_100 : decode cX9_stop 100 = .ok (.bipush 50, 2) := by decide +kernel
theorem dX9_stop_102 : decode cX9_stop 102 = .ok (.idiv, 1) := by decide +kernel
theorem dX9_stop_103 : decode cX9_stop 103 = .ok (.imul, 1) := by decide +kernel
theorem dX9_stop_104 : decode cX9_stop 104 = .ok (.iadd, 1) := by decide +kernel
theorem dX9_stop_105 : decode cX9_stop 105 = .ok (.iastore, 1) := by decide +kernel
theorem dX9_stop_106 : decode cX9_stop 106 = .ok (.aload_n 0, 1) := by decide +kernel
theorem dX9_stop_107 : decode cX9_stop 107 = .ok (.dup, 1) := by decide +kernel
theorem dX9_stop_108 : decode cX9_stop 108 = .ok (.getfield 103, 3) := by decide +kernel
theorem dX9_stop_111 : decode cX9_stop 111 = .ok (.iload_n 1, 1) := by decide +kernel
theorem dX9_stop_112 : decode cX9_stop 112 = .ok (.iadd, 1) := by decide +kernel
theorem dX9_stop_113 : decode cX9_stop 113 = .ok (.putfield 103, 3) := by decide +kernel
theorem dX9_stop_116 : decode cX9_stop 116 = .ok (.aload_n 0, 1) := by decide +kernel
theorem dX9_stop_117 : decode cX9_stop 117 = .ok (.getfield 103, 3) := by decide +kernel
theorem dX9_stop_120 : decode cX9_stop 120 = .ok (.ireturn, 1) := by decide +kernel
theorem dX9_clock_0 : decode cX9_clock 0 = .ok (.aload_n 0, 1) := by decide +kernel
theorem dX9_clock_1 : decode cX9_clock 1 = .ok (.iconst 0, 1) := by decide +kernel
theorem dX9_clock_2 : decode cX9_clock 2 = .ok (.putfield 72, 3) := by decide +kernel
theorem dX9_clock_5 : decode cX9_clock 5 = .ok (.aload_n 0, 1) := by decide +kernel
theorem dX9_clock_6 : decode cX9_clock 6 = .ok (.getfield 103, 3) := by decide +kernel
theorem dX9_clock_9 : decode cX9_clock 9 = .ok (.ireturn, 1) := by decide +kernel
theorem dX9_ringCount_0 : decode cX9_ringCount 0 = .ok (.aload_n 0, 1) := by decide +kernel
theorem dX9_ringCount_1 : decode cX9_ringCount 1 = .ok (.iconst 0, 1) := by decide +kernel
theorem dX9_ringCount_2 : decode cX9_ringCount 2 = .ok (.putfield 72, 3) := by decide +kernel
theorem dX9_ringCount_5 : decode cX9_ringCount 5 = .ok (.aload_n 0, 1) := by decide +kernel
theorem dX9_ringCount_6 : decode cX9_ringCount 6 = .ok (.getfield 121, 3) := by decide +kernel
theorem dX9_ringCount_9 : decode cX9_ringCount 9 = .ok (.ireturn, 1) := by decide +kernel
set_option maxRecDepth 20000 in
theorem ggX9_isNoRing_X9_isIn : GoodIn wsX9_isNoRing wsX9_isIn := goodIn_r _ [5] (by decide +kernel) (by decide +kernel)
set_option maxRecDepth 20000 in
theorem gX9_isNoRing_X9_isIn : GoodIn wsX9_isNoRing (va_wsS RX9 75 yX9_isIn wsX9_isIn) := goodIn_app (goodIn_of _ (by decide +kernel)) ggX9_isNoRing_X9_isIn
set_option maxRecDepth 20000 in
theorem ggX9_isNoRing_X9_isThrown : GoodIn wsX9_isNoRing wsX9_isThrown := goodIn_r _ [9, 10, 11, 12, 13, 14, 15, 16, 17, 18, 19, 20, 21, 22, 23, 24, 25, 26, 27, 28, 29, 30, 31, 32, 33, 34, 35, 36, 37, 38, 39, 40] (by decide +kernel) (by decide +kernel)
set_option maxRecDepth 20000 in
theorem gX9_isNoRing_X9_isThrown : GoodIn wsX9_isNoRing (wsV RX9 79 RX9 yX9_isThrown wsX9_isThrown) := goodIn_app (goodIn_of _ (by decide +kernel)) ggX9_isNoRing_X9_isThrown
theorem dX9_isNoRing_0 : decode cX9_isNoRing 0 = .ok (.aload_n 0, 1) := by decide +kernel
theorem dX9_isNoRing_1 : decode cX9_isNoRing 1 = .ok (.iload_n 1, 1) := by decide +kernel
theorem dX9_isNoRing_2 : decode cX9_isNoRing 2 = .ok (.iconst 0, 1) := by decide +kernel
theorem dX9_isNoRing_3 : decode cX9_isNoRing 3 = .ok (.aload_n 0, 1) := by decide +kernel
theorem dX9_isNoRing_4 : decode cX9_isNoRing 4 = .ok (.getfield 121, 3) := by decide +kernel
theorem dX9_isNoRing_7 : decode cX9_isNoRing 7 = .ok (.iconst 1, 1) := by decide +kernel
theorem dX9_isNoRing_8 : decode cX9_isNoRing 8 = .ok (.isub, 1) := by decide +kernel
theorem dX9_isNoRing_9 : decode cX9_isNoRing 9 = .ok (.invokestatic 75, 3) := by decide +kernel
theorem dX9_isNoRing_12 : decode cX9_isNoRing 12 = .ok (.ifCond .ne 7, 3) := by decide +kernel
theorem dX9_isNoRing_15 : decode cX9_isNoRing 15 = .ok (.iconst 1, 1) := by decide +kernel
theorem dX9_isNoRing_16 : decode cX9_isNoRing 16 = .ok (.goto 4, 3) := by decide +kernel
theorem dX9_isNoRing_19 : decode cX9_isNoRing 19 = .ok (.iconst 0, 1) := by decide +kernel
theorem dX9_isNoRing_20 : decode cX9_isNoRing 20 = .ok (.iconst 1, 1) := by decide +kernel
theorem dX9_isNoRing_21 : decode cX9_isNoRing 21 = .ok (.invokevirtual 79, 3) := by decide +kernel
theorem dX9_isNoRing_24 : decode cX9_isNoRing 24 = .ok (.ireturn, 1) := by decide +kernel
set_option maxRecDepth 20000 in
theorem ggX9_positionOf_X9_isNoRing : GoodIn wsX9_positionOf wsX9_isNoRing := goodIn_r _ [6, 7, 8, 9, 5, 10, 11, 12, 13, 14, 15, 16, 17, 18, 19, 20, 21, 22, 23, 24, 25, 26, 27, 28, 29, 30, 31, 32, 33, 34, 35, 36, 37, 38, 39, 40, 41, 42, 43, 44, 45] (by decide +kernel) (by decide +kernel)
set_option maxRecDepth 20000 in
theorem gX9_positionOf_X9_isNoRing : GoodIn wsX9_positionOf (wsV RX9 178 RX9 yX9_isNoRing wsX9_isNoRing) := goodIn_app (goodIn_of _ (by decide +kernel)) ggX9_positionOf_X9_isNoRing
theorem dX9_positionOf_0 : decode cX9_positionOf 0 = .ok (.aload_n 0, 1) := by decide +kernel
theorem dX9_positionOf_1 : decode cX9_positionOf 1 = .ok (.iload_n 1, 1) := by decide +kernel
theorem dX9_positionOf_2 : decode cX9_positionOf 2 = .ok (.invokevirtual 178, 3) := by decide +kernel
theorem dX9_positionOf_5 : decode cX9_positionOf 5 = .ok (.ifCond .eq 7, 3) := by decide +kernel
theorem dX9_positionOf_8 : decode cX9_positionOf 8 = .ok (.iconst 0, 1) := by decide +kernel
theorem dX9_positionOf_9 : decode cX9_positionOf 9 = .ok (.goto 9, 3) := by decide +kernel
theorem dX9_positionOf_12 : decode cX9_positionOf 12 = .ok (.aload_n 0, 1) := by decide +kernel
theorem dX9_positionOf_13 : decode cX9_positionOf 13 = .ok (.getfield 25, 3) := by decide +kernel
theorem dX9_positionOf_16 : decode cX9_positionOf 16 = .ok (.iload_n 1, 1) := by decide +kernel
theorem dX9_positionOf_17 : decode cX9_positionOf 17 = .ok (.iaload, 1) := by decide +kernel
theorem dX9_positionOf_18 : decode cX9_positionOf 18 = .ok (.ireturn, 1) := by decide +kernel
set_option maxRecDepth 20000 in
theorem ggX9_taperOf_X9_isNoRing : GoodIn wsX9_taperOf wsX9_isNoRing := goodIn_r _ [6, 7, 8, 9, 5, 10, 11, 12, 13, 14, 15, 16, 17, 18, 19, 20, 21, 22, 23, 24, 25, 26, 27, 28, 29, 30, 31, 32, 33, 34, 35, 36, 37, 38, 39, 40, 41, 42, 43, 44, 45] (by decide +kernel) (by decide +kernel)
set_option maxRecDepth 20000 in
theorem gX9_taperOf_X9_isNoRing : GoodIn wsX9_taperOf (wsV RX9 178 RX9 yX9_isNoRing wsX9_isNoRing) := goodIn_app (goodIn_of _ (by decide +kernel)) ggX9_taperOf_X9_isNoRing
theorem dX9_taperOf_0 : decode cX9_taperOf 0 = .ok (.aload_n 0, 1) := by decide +kernel
theorem dX9_taperOf_1 : decode cX9_taperOf 1 = .ok (.iload_n 1, 1) := by decide +kernel
theorem dX9_taperOf_2 : decode cX9_taperOf 2 = .ok (.invokevirtual 178, 3) := by decide +kernel
theorem dX9_taperOf_5 : decode cX9_taperOf 5 = .ok (.ifCond .eq 7, 3) := by decide +kernel
theorem dX9_taperOf_8 : decode cX9_taperOf 8 = .ok (.iconst 0, 1) := by decide +kernel
theorem dX9_taperOf_9 : decode cX9_taperOf 9 = .ok (.goto 9, 3) := by decide +kernel
theorem dX9_taperOf_12 : decode cX9_taperOf 12 = .ok (.aload_n 0, 1) := by decide +kernel
theorem dX9_taperOf_13 : decode cX9_taperOf 13 = .ok (.getfield 28, 3) := by decide +kernel
theorem dX9_taperOf_16 : decode cX9_taperOf 16 = .ok (.iload_n 1, 1) := by decide +kernel
theorem dX9_taperOf_17 : decode cX9_taperOf 17 = .ok (.iaload, 1) := by decide +kernel
theorem dX9_taperOf_18 : decode cX9_taperOf 18 = .ok (.ireturn, 1) := by decide +kernel
set_option maxRecDepth 20000 in
theorem ggX9_xAfter_X9_isNoRing : GoodIn wsX9_xAfter wsX9_isNoRing := goodIn_r _ [6, 7, 8, 9, 5, 10, 11, 12, 13, 14, 15, 16, 17, 18, 19, 20, 21, 22, 23, 24, 25, 26, 27, 28, 29, 30, 31, 32, 33, 34, 35, 36, 37, 38, 39, 40, 41, 42, 43, 44, 45] (by decide +kernel) (by decide +kernel)
set_option maxRecDepth 20000 in
theorem gX9_xAfter_X9_isNoRing : GoodIn wsX9_xAfter (wsV RX9 178 RX9 yX9_isNoRing wsX9_isNoRing) := goodIn_app (goodIn_of _ (by decide +kernel)) ggX9_xAfter_X9_isNoRing
theorem dX9_xAfter_0 : decode cX9_xAfter 0 = .ok (.aload_n 0, 1) := by decide +kernel
theorem dX9_xAfter_1 : decode cX9_xAfter 1 = .ok (.iload_n 1, 1) := by decide +kernel
theorem dX9_xAfter_2 : decode cX9_xAfter 2 = .ok (.invokevirtual 178, 3) := by decide +kernel
theorem dX9_xAfter_5 : decode cX9_xAfter 5 = .ok (.ifCond .eq 7, 3) := by decide +kernel
theorem dX9_xAfter_8 : decode cX9_xAfter 8 = .ok (.iconst 0, 1) := by decide +kernel
theorem dX9_xAfter_9 : decode cX9_xAfter 9 = .ok (.goto 9, 3) := by decide +kernel
theorem dX9_xAfter_12 : decode cX9_xAfter 12 = .ok (.aload_n 0, 1) := by decide +kernel
theorem dX9_xAfter_13 : decode cX9_xAfter 13 = .ok (.getfield 31, 3) := by decide +kernel
theorem dX9_xAfter_16 : decode cX9_xAfter 16 = .ok (.iload_n 1, 1) := by decide +kernel
theorem dX9_xAfter_17 : decode cX9_xAfter 17 = .ok (.iaload, 1) := by decide +kernel
theorem dX9_xAfter_18 : decode cX9_xAfter 18 = .ok (.ireturn, 1) := by decide +kernel
set_option maxRecDepth 20000 in
theorem ggX9_yAfter_X9_isNoRing : GoodIn wsX9_yAfter wsX9_isNoRing := goodIn_r _ [6, 7, 8, 9, 5, 10, 11, 12, 13, 14, 15, 16, 17, 18, 19, 20, 21, 22, 23, 24, 25, 26, 27, 28, 29, 30, 31, 32, 33, 34, 35, 36, 37, 38, 39, 40, 41, 42, 43, 44, 45] (by decide +kernel) (by decide +kernel)
set_option maxRecDepth 20000 in
theorem gX9_yAfter_X9_isNoRing : GoodIn wsX9_yAfter (wsV RX9 178 RX9 yX9_isNoRing wsX9_isNoRing) := goodIn_app (goodIn_of _ (by decide +kernel)) ggX9_yAfter_X9_isNoRing
theorem dX9_yAfter_0 : decode cX9_yAfter 0 = .ok (.aload_n 0, 1) := by decide +kernel
theorem dX9_yAfter_1 : decode cX9_yAfter 1 = .ok (.iload_n 1, 1) := by decide +kernel
theorem dX9_yAfter_2 : decode cX9_yAfter 2 = .ok (.invokevirtual 178, 3) := by decide +kernel
theorem dX9_yAfter_5 : decode cX9_yAfter 5 = .ok (.ifCond .eq 7, 3) := by decide +kernel
theorem dX9_yAfter_8 : decode cX9_yAfter 8 = .ok (.iconst 0, 1) := by decide +kernel
theorem dX9_yAfter_9 : decode cX9_yAfter 9 = .ok (.goto 9, 3) := by decide +kernel
theorem dX9_yAfter_12 : decode cX9_yAfter 12 = .ok (.aload_n 0, 1) := by decide +kernel
theorem dX9_yAfter_13 : decode cX9_yAfter 13 = .ok (.getfield 34, 3) := by decide +kernel
theorem dX9_yAfter_16 : decode cX9_yAfter 16 = .ok (.iload_n 1, 1) := by decide +kernel
theorem dX9_yAfter_17 : decode cX9_yAfter 17 = .ok (.iaload, 1) := by decide +kernel
theorem dX9_yAfter_18 : decode cX9_yAfter 18 = .ok (.ireturn, 1) := by decide +kernel
set_option maxRecDepth 20000 in
theorem ggX9_xAnew_X9_xAfter : GoodIn wsX9_xAnew wsX9_xAfter := goodIn_ca (goodIn_r _ [5, 6, 7, 8, 9, 4, 10, 11, 12, 13, 14, 15, 16, 17, 18, 19, 20, 21, 22, 23, 24, 25, 26, 27, 28, 29, 30, 31, 32, 33, 34, 35, 36, 37, 38, 39, 40, 41, 42, 43, 44, 45, 46, 47, 48, 49] (by decide +kernel) (by decide +kernel)) (goodIn_sub (fun _ h => List.mem_cons_of_mem _ (List.mem_append_right _ h)) (by decide +kernel))
set_option maxRecDepth 20000 in
theorem gX9_xAnew_X9_xAfter : GoodIn wsX9_xAnew (wsV RX9 181 RX9 yX9_xAfter wsX9_xAfter) := goodIn_app (goodIn_of _ (by decide +kernel)) ggX9_xAnew_X9_xAfter
theorem dX9_xAnew_0 : decode cX9_xAnew 0 = .ok (.aload_n 0, 1) := by decide +kernel
theorem dX9_xAnew_1 : decode cX9_xAnew 1 = .ok (.iload_n 1, 1) := by decide +kernel
theorem dX9_xAnew_2 : decode cX9_xAnew 2 = .ok (.invokevirtual 181, 3) := by decide +kernel
theorem dX9_xAnew_5 : decode cX9_xAnew 5 = .ok (.ireturn, 1) := by decide +kernel
set_option maxRecDepth 20000 in
theorem ggX9_yAnew_X9_yAfter : GoodIn wsX9_yAnew wsX9_yAfter := goodIn_ca (goodIn_r _ [5, 6, 7, 8, 9, 4, 10, 11, 12, 13, 14, 15, 16, 17, 18, 19, 20, 21, 22, 23, 24, 25, 26, 27, 28, 29, 30, 31, 32, 33, 34, 35, 36, 37, 38, 39, 40, 41, 42, 43, 44, 45, 46, 47, 48, 49] (by decide +kernel) (by decide +kernel)) (goodIn_sub (fun _ h => List.mem_cons_of_mem _ (List.mem_append_right _ h)) (by decide +kernel))
set_option maxRecDepth 20000 in
theorem gX9_yAnew_X9_yAfter : GoodIn wsX9_yAnew (wsV RX9 184 RX9 yX9_yAfter wsX9_yAfter) := goodIn_app (goodIn_of _ (by decide +kernel)) ggX9_yAnew_X9_yAfter
theorem dX9_yAnew_0 : decode cX9_yAnew 0 = .ok (.aload_n 0, 1) := by decide +kernel
theorem dX9_yAnew_1 : decode cX9_yAnew 1 = .ok (.iload_n 1, 1) := by decide +kernel
theorem dX9_yAnew_2 : decode cX9_yAnew 2 = .ok (.invokevirtual 184, 3) := by decide +kernel
theorem dX9_yAnew_5 : decode cX9_yAnew 5 = .ok (.ireturn, 1) := by decide +kernel
set_option maxRecDepth 20000 in
theorem ggX9_deviationAfter_X9_isNoRing : GoodIn wsX9_deviationAfter wsX9_isNoRing := goodIn_r _ [7, 8, 9, 10, 6, 11, 12, 13, 14, 15, 16, 32, 33, 34, 35, 36, 37, 38, 39, 40, 41, 42, 43, 44, 45, 46, 47, 48, 49, 50, 51, 52, 53, 54, 55, 56, 57, 58, 59, 60, 61] (by decide +kernel) (by decide +kernel)
set_option maxRecDepth 20000 in
theorem gX9_deviationAfter_X9_isNoRing : GoodIn wsX9_deviationAfter (wsV RX9 178 RX9 yX9_isNoRing wsX9_isNoRing) := goodIn_app (goodIn_of _ (by decide +kernel)) ggX9_deviationAfter_X9_isNoRing
set_option maxRecDepth 20000 in
theorem ggX9_deviationAfter_X9_apart : GoodIn wsX9_deviationAfter wsX9_apart := goodIn_ca (goodIn_r _ [20, 21, 22, 23, 24, 25, 26, 27, 28, 29, 6, 30, 31, 32, 33, 34, 35, 36, 37, 38, 39, 40, 41, 42, 43, 44, 45, 46, 47, 48, 49, 50, 51, 52, 53, 54, 55, 56, 57, 58, 59, 60, 61] (by decide +kernel) (by decide +kernel)) (goodIn_sub (fun _ h => List.mem_cons_of_mem _ (List.mem_append_right _ h)) (by decide +kernel))
set_option maxRecDepth 20000 in
theorem gX9_deviationAfter_X9_apart : GoodIn wsX9_deviationAfter (wsV RX9 153 RX9 yX9_apart wsX9_apart) := goodIn_app (goodIn_of _ (by decide +kernel)) ggX9_deviationAfter_X9_apart
theorem dX9_deviationAfter_0 : decode cX9_deviationAfter 0 = .ok (.aload_n 0, 1) := by decide +kernel
theorem dX9_deviationAfter_1 : decode cX9_deviationAfter 1 = .ok (.iload_n 1, 1) := by decide +kernel
theorem dX9_deviationAfter_2 : decode cX9_deviationAfter 2 = .ok (.invokevirtual 178, 3) := by decide +kernel
theorem dX9_deviationAfter_5 : decode cX9_deviationAfter 5 = .ok (.ifCond .eq 7, 3) := by decide +kernel
theorem dX9_deviationAfter_8 : decode cX9_deviationAfter 8 = .ok (.iconst 0, 1) := by decide +kernel
theorem dX9_deviationAfter_9 : decode cX9_deviationAfter 9 = .ok (.goto 20, 3) := by decide +kernel
theorem dX9_deviationAfter_12 : decode cX9_deviationAfter 12 = .ok (.aload_n 0, 1) := by decide +kernel
theorem dX9_deviationAfter_13 : decode cX9_deviationAfter 13 = .ok (.iload_n 1, 1) := by decide +kernel
theorem dX9_deviationAfter_14 : decode cX9_deviationAfter 14 = .ok (.aload_n 0, 1) := by decide +kernel
theorem dX9_deviationAfter_15 : decode cX9_deviationAfter 15 = .ok (.getfield 31, 3) := by decide +kernel
theorem dX9_deviationAfter_18 : decode cX9_deviationAfter 18 = .ok (.iload_n 1, 1) := by decide +kernel
theorem dX9_deviationAfter_19 : decode cX9_deviationAfter 19 = .ok (.iaload, 1) := by decide +kernel
theorem dX9_deviationAfter_20 : decode cX9_deviationAfter 20 = .ok (.aload_n 0, 1) := by decide +kernel
theorem dX9_deviationAfter_21 : decode cX9_deviationAfter 21 = .ok (.getfield 34, 3) := by decide +kernel
theorem dX9_deviationAfter_24 : decode cX9_deviationAfter 24 = .ok (.iload_n 1, 1) := by decide +kernel
theorem dX9_deviationAfter_25 : decode cX9_deviationAfter 25 = .ok (.iaload, 1) := by decide +kernel
theorem dX9_deviationAfter_26 : decode cX9_deviationAfter 26 = .ok (.invokevirtual 153, 3) := by decide +kernel
theorem dX9_deviationAfter_29 : decode cX9_deviationAfter 29 = .ok (.ireturn, 1) := by decide +kernel
set_option maxRecDepth 20000 in
theorem ggX9_deviationWith_X9_isNoPosition : GoodIn wsX9_deviationWith wsX9_isNoPosition := goodIn_r _ [7, 8, 9, 10, 6, 11, 12, 13, 14, 15, 16, 17, 18, 19, 62, 63, 64, 65, 66, 67, 68, 69, 70, 71, 72, 73, 74, 75, 76, 77, 78, 79, 80, 81, 82, 83, 84, 85, 86, 87, 88, 89, 90, 91] (by decide +kernel) (by decide +kernel)
set_option maxRecDepth 20000 in
theorem gX9_deviationWith_X9_isNoPosition : GoodIn wsX9_deviationWith (wsV RX9 167 RX9 yX9_isNoPosition wsX9_isNoPosition) := goodIn_app (goodIn_of _ (by decide +kernel)) ggX9_deviationWith_X9_isNoPosition
set_option maxRecDepth 20000 in
theorem ggX9_deviationWith_X9_isThrown : GoodIn wsX9_deviationWith wsX9_isThrown := goodIn_r _ [18, 19, 62, 63, 64, 65, 66, 67, 68, 69, 70, 71, 72, 73, 74, 75, 76, 77, 78, 79, 80, 81, 82, 83, 84, 85, 86, 87, 88, 89, 90, 91] (by decide +kernel) (by decide +kernel)
set_option maxRecDepth 20000 in
theorem gX9_deviationWith_X9_isThrown : GoodIn wsX9_deviationWith (wsV RX9 79 RX9 yX9_isThrown wsX9_isThrown) := goodIn_app (goodIn_of _ (by decide +kernel)) ggX9_deviationWith_X9_isThrown
set_option maxRecDepth 20000 in
theorem ggX9_deviationWith_X9_top : GoodIn wsX9_deviationWith wsX9_top := goodIn_ca (goodIn_r _ [23, 1, 62, 63, 64, 65, 66, 67, 68, 69, 70, 71, 72, 73, 74, 75, 76, 77, 78, 79, 80, 81, 82, 83, 84, 85, 86, 87, 88, 89, 90, 91] (by decide +kernel) (by decide +kernel)) (goodIn_sub (fun _ h => List.mem_cons_of_mem _ (List.mem_append_right _ h)) (by decide +kernel))
set_option maxRecDepth 20000 in
theorem gX9_deviationWith_X9_top : GoodIn wsX9_deviationWith (wsV RX9 99 RX9 yX9_top wsX9_top) := goodIn_app (goodIn_of _ (by decide +kernel)) ggX9_deviationWith_X9_top
set_option maxRecDepth 20000 in
theorem ggX9_deviationWith_X9_deviation : GoodIn wsX9_deviationWith wsX9_deviation := goodIn_ca (goodIn_r _ [27, 28, 29, 30, 31, 32, 33, 6, 34, 35, 36, 37, 38, 39, 40, 41, 42, 43, 44, 45, 46, 47, 48, 49, 50, 51, 52, 53, 54, 55, 56, 57, 58, 59, 60, 61, 62, 63, 64, 65, 66, 67, 68, 69, 70, 71, 72, 73, 74, 75, 76, 77, 78, 79, 80, 81, 82, 83, 84, 85, 86, 87, 88, 89, 90, 91] (by decide +kernel) (by decide +kernel)) (goodIn_sub (fun _ h => List.mem_cons_of_mem _ (List.mem_append_right _ h)) (by decide +kernel))
set_option maxRecDepth 20000 in
theorem gX9_deviationWith_X9_deviation : GoodIn wsX9_deviationWith (wsV RX9 164 RX9 yX9_deviation wsX9_deviation) := goodIn_app (goodIn_of _ (by decide +kernel)) ggX9_deviationWith_X9_deviation
theorem dX9_deviationWith_0 : decode cX9_deviationWith 0 = .ok (.aload_n 0, 1) := by decide +kernel
theorem dX9_deviationWith_1 : decode cX9_deviationWith 1 = .ok (.iload_n 1, 1) := by decide +kernel
theorem dX9_deviationWith_2 : decode cX9_deviationWith 2 = .ok (.iload_n 2, 1) := by decide +kernel
theorem dX9_deviationWith_3 : decode cX9_deviationWith 3 = .ok (.invokevirtual 167, 3) := by decide +kernel
theorem dX9_deviationWith_6 : decode cX9_deviationWith 6 = .ok (.ifCond .ne 25, 3) := by decide +kernel
theorem dX9_deviationWith_9 : decode cX9_deviationWith 9 = .ok (.aload_n 0, 1) := by decide +kernel
theorem dX9_deviationWith_10 : decode cX9_deviationWith 10 = .ok (.aload_n 0, 1) := by decide +kernel
theorem dX9_deviationWith_11 : decode cX9_deviationWith 11 = .ok (.getfield 43, 3) := by decide +kernel
theorem dX9_deviationWith_14 : decode cX9_deviationWith 14 = .ok (.iload_n 1, 1) := by decide +kernel
theorem dX9_deviationWith_15 : decode cX9_deviationWith 15 = .ok (.iaload, 1) := by decide +kernel
theorem dX9_deviationWith_16 : decode cX9_deviationWith 16 = .ok (.ifCond .ne 7, 3) := by decide +kernel
theorem dX9_deviationWith_19 : decode cX9_deviationWith 19 = .ok (.iconst 1, 1) := by decide +kernel
theorem dX9_deviationWith_20 : decode cX9_deviationWith 20 = .ok (.goto 4, 3) := by decide +kernel
theorem dX9_deviationWith_23 : decode cX9_deviationWith 23 = .ok (.iconst 0, 1) := by decide +kernel
theorem dX9_deviationWith_24 : decode cX9_deviationWith 24 = .ok (.iconst 3, 1) := by decide +kernel
theorem dX9_deviationWith_25 : decode cX9_deviationWith 25 = .ok (.invokevirtual 79, 3) := by decide +kernel
theorem dX9_deviationWith_28 : decode cX9_deviationWith 28 = .ok (.ifCond .eq 7, 3) := by decide +kernel
theorem dX9_deviationWith_31 : decode cX9_deviationWith 31 = .ok (.iconst 0, 1) := by decide +kernel
theorem dX9_deviationWith_32 : decode cX9_deviationWith 32 = .ok (.goto 18, 3) := by decide +kernel
theorem dX9_deviationWith_35 : decode cX9_deviationWith 35 = .ok (.aload_n 0, 1) := by decide +kernel
theorem dX9_deviationWith_36 : decode cX9_deviationWith 36 = .ok (.aload_n 0, 1) := by decide +kernel
theorem dX9_deviationWith_37 : decode cX9_deviationWith 37 = .ok (.getfield 37, 3) := by decide +kernel
theorem dX9_deviationWith_40 : decode cX9_deviationWith 40 = .ok (.aload_n 0, 1) := by decide +kernel
theorem dX9_deviationWith_41 : decode cX9_deviationWith 41 = .ok (.iload_n 1, 1) := by decide +kernel
theorem dX9_deviationWith_42 : decode cX9_deviationWith 42 = .ok (.invokevirtual 99, 3) := by decide +kernel
theorem dX9_deviationWith_45 : decode cX9_deviationWith 45 = .ok (.iaload, 1) := by decide +kernel
theorem dX9_deviationWith_46 : decode cX9_deviationWith 46 = .ok (.iload_n 2, 1) := by decide +kernel
theorem dX9_deviationWith_47 : decode cX9_deviationWith 47 = .ok (.invokevirtual 164, 3) := by decide +kernel
theorem dX9_deviationWith_50 : decode cX9_deviationWith 50 = .ok (.ireturn, 1) := by decide +kernel
set_option maxRecDepth 20000 in
theorem ggX9_bestPosition_X9_isEmpty : GoodIn wsX9_bestPosition wsX9_isEmpty := goodIn_ca (goodIn_r _ [6, 7, 8, 9, 10, 5, 11, 12, 13, 14, 15, 16, 17, 18, 19, 70, 71, 72, 73, 74, 75, 76, 77, 78, 79, 80, 81, 82, 83, 84, 85, 86, 87, 88, 89, 90, 91, 92, 93, 94, 95, 96, 97, 98, 99] (by decide +kernel) (by decide +kernel)) (goodIn_sub (fun _ h => List.mem_cons_of_mem _ (List.mem_append_right _ h)) (by decide +kernel))
set_option maxRecDepth 20000 in
theorem gX9_bestPosition_X9_isEmpty : GoodIn wsX9_bestPosition (wsV RX9 112 RX9 yX9_isEmpty wsX9_isEmpty) := goodIn_app (goodIn_of _ (by decide +kernel)) ggX9_bestPosition_X9_isEmpty
set_option maxRecDepth 20000 in
theorem ggX9_bestPosition_X9_top : GoodIn wsX9_bestPosition wsX9_top := goodIn_ca (goodIn_r _ [23, 7, 70, 71, 72, 73, 74, 75, 76, 77, 78, 79, 80, 81, 82, 83, 84, 85, 86, 87, 88, 89, 90, 91, 92, 93, 94, 95, 96, 97, 98, 99] (by decide +kernel) (by decide +kernel)) (goodIn_sub (fun _ h => List.mem_cons_of_mem _ (List.mem_append_right _ h)) (by decide +kernel))
set_option maxRecDepth 20000 in
theorem gX9_bestPosition_X9_top : GoodIn wsX9_bestPosition (wsV RX9 99 RX9 yX9_top wsX9_top) := goodIn_app (goodIn_of _ (by decide +kernel)) ggX9_bestPosition_X9_top
set_option maxRecDepth 20000 in
theorem ggX9_bestPosition_X9_before : GoodIn wsX9_bestPosition wsX9_before := goodIn_ca (goodIn_r _ [27, 28, 29, 70, 71, 72, 73, 74, 75, 76, 77, 78, 79, 80, 81, 82, 83, 84, 85, 86, 87, 88, 89, 90, 91, 92, 93, 94, 95, 96, 97, 98, 99] (by decide +kernel) (by decide +kernel)) (goodIn_sub (fun _ h => List.mem_cons_of_mem _ (List.mem_append_right _ h)) (by decide +kernel))
set_option maxRecDepth 20000 in
theorem gX9_bestPosition_X9_before : GoodIn wsX9_bestPosition (wsV RX9 157 RX9 yX9_before wsX9_before) := goodIn_app (goodIn_of _ (by decide +kernel)) ggX9_bestPosition_X9_before
set_option maxRecDepth 20000 in
theorem ggX9_bestPosition_X9_fits : GoodIn wsX9_bestPosition wsX9_fits := goodIn_r _ [32, 33, 34, 35, 36] (by decide +kernel) (by decide +kernel)
set_option maxRecDepth 20000 in
theorem gX9_bestPosition_X9_fits : GoodIn wsX9_bestPosition (va_wsS RX9 160 yX9_fits wsX9_fits) := goodIn_app (goodIn_of _ (by decide +kernel)) ggX9_bestPosition_X9_fits
set_option maxRecDepth 20000 in
theorem ggX9_bestPosition_X9_deviation : GoodIn wsX9_bestPosition wsX9_deviation := goodIn_ca (goodIn_r _ [40, 28, 41, 42, 43, 44, 45, 5, 46, 47, 48, 49, 50, 51, 52, 53, 54, 55, 56, 57, 58, 59, 60, 61, 62, 63, 33, 34, 35, 36, 64, 65, 66, 67, 68, 69, 70, 71, 72, 73, 74, 75, 76, 77, 78, 79, 80, 81, 82, 83, 84, 85, 86, 87, 88, 89, 90, 91, 92, 93, 94, 95, 96, 97, 98, 99] (by decide +kernel) (by decide +kernel)) (goodIn_sub (fun _ h => List.mem_cons_of_mem _ (List.mem_append_right _ h)) (by decide +kernel))
set_option maxRecDepth 20000 in
theorem gX9_bestPosition_X9_deviation : GoodIn wsX9_bestPosition (wsV RX9 164 RX9 yX9_deviation wsX9_deviation) := goodIn_app (goodIn_of _ (by decide +kernel)) ggX9_bestPosition_X9_deviation
theorem dX9_bestPosition_0 : decode cX9_bestPosition 0 = .ok (.aload_n 0, 1) := by decide +kernel
theorem dX9_bestPosition_1 : decode cX9_bestPosition 1 = .ok (.iload_n 1, 1) := by decide +kernel
theorem dX9_bestPosition_2 : decode cX9_bestPosition 2 = .ok (.invokevirtual 112, 3) := by decide +kernel
theorem dX9_bestPosition_5 : decode cX9_bestPosition 5 = .ok (.ifCond .eq 5, 3) := by decide +kernel
theorem dX9_bestPosition_8 : decode cX9_bestPosition 8 = .ok (.iconst 0, 1) := by decide +kernel
theorem dX9_bestPosition_9 : decode cX9_bestPosition 9 = .ok (.ireturn, 1) := by decide +kernel
theorem dX9_bestPosition_10 : decode cX9_bestPosition 10 = .ok (.iconst (-1), 1) := by decide +kernel
theorem dX9_bestPosition_11 : decode cX9_bestPosition 11 = .ok (.istore_n 2, 1) := by decide +kernel
theorem dX9_bestPosition_12 : decode cX9_bestPosition 12 = .ok (.aload_n 0, 1) := by decide +kernel
theorem dX9_bestPosition_13 : decode cX9_bestPosition 13 = .ok (.getfield 37, 3) := by decide +kernel
theorem dX9_bestPosition_16 : decode cX9_bestPosition 16 = .ok (.aload_n 0, 1) := by decide +kernel
theorem dX9_bestPosition_17 : decode cX9_bestPosition 17 = .ok (.iload_n 1, 1) := by decide +kernel
theorem dX9_bestPosition_18 : decode cX9_bestPosition 18 = .ok (.invokevirtual 99, 3) := by decide +kernel
theorem dX9_bestPosition_21 : decode cX9_bestPosition 21 = .ok (.iaload, 1) := by decide +kernel
theorem dX9_bestPosition_22 : decode cX9_bestPosition 22 = .ok (.istore_n 3, 1) := by decide +kernel
theorem dX9_bestPosition_23 : decode cX9_bestPosition 23 = .ok (.iconst 0, 1) := by decide +kernel
theorem dX9_bestPosition_24 : decode cX9_bestPosition 24 = .ok (.istore 4, 2) := by decide +kernel
theorem dX9_bestPosition_26 : decode cX9_bestPosition 26 = .ok (.iload 4, 2) := by decide +kernel
theorem dX9_bestPosition_28 : decode cX9_bestPosition 28 = .ok (.bipush 8, 2) := by decide +kernel
theorem dX9_bestPosition_30 : decode cX9_bestPosition 30 = .ok (.if_icmp .ge 48, 3) := by decide +kernel
theorem dX9_bestPosition_33 : decode cX9_bestPosition 33 = .ok (.aload_n 0, 1) := by decide +kernel
theorem dX9_bestPosition_34 : decode cX9_bestPosition 34 = .ok (.invokevirtual 157, 3) := by decide +kernel
theorem dX9_bestPosition_37 : decode cX9_bestPosition 37 = .ok (.iload 4, 2) := by decide +kernel
theorem dX9_bestPosition_39 : decode cX9_bestPosition 39 = .ok (.invokestatic 160, 3) := by decide +kernel
theorem dX9_bestPosition_42 : decode cX9_bestPosition 42 = .ok (.ifCond .eq 28, 3) := by decide +kernel
theorem dX9_bestPosition_45 : decode cX9_bestPosition 45 = .ok (.iload_n 2, 1) := by decide +kernel
theorem dX9_bestPosition_46 : decode cX9_bestPosition 46 = .ok (.ifCond .lt 19, 3) := by decide +kernel
theorem dX9_bestPosition_49 : decode cX9_bestPosition 49 = .ok (.aload_n 0, 1) := by decide +kernel
theorem dX9_bestPosition_50 : decode cX9_bestPosition 50 = .ok (.iload_n 3, 1) := by decide +kernel
theorem dX9_bestPosition_51 : decode cX9_bestPosition 51 = .ok (.iload 4, 2) := by decide +kernel
theorem dX9_bestPosition_53 : decode cX9_bestPosition 53 = .ok (.invokevirtual 164, 3) := by decide +kernel
theorem dX9_bestPosition_56 : decode cX9_bestPosition 56 = .ok (.aload_n 0, 1) := by decide +kernel
theorem dX9_bestPosition_57 : decode cX9_bestPosition 57 = .ok (.iload_n 3, 1) := by decide +kernel
theorem dX9_bestPosition_58 : decode cX9_bestPosition 58 = .ok (.iload_n 2, 1) := by decide +kernel
theorem dX9_bestPosition_59 : decode cX9_bestPosition 59 = .ok (.invokevirtual 164, 3) := by decide +kernel
theorem dX9_bestPosition_62 : decode cX9_bestPosition 62 = .ok (.if_icmp .ge 8, 3) := by decide +kernel
theorem dX9_bestPosition_65 : decode cX9_bestPosition 65 = .ok (.iload 4, 2) := by decide +kernel
theorem dX9_bestPosition_67 : decode cX9_bestPosition 67 = .ok (.goto 4, 3) := by decide +kernel
theorem dX9_bestPosition_70 : decode cX9_bestPosition 70 = .ok (.iload_n 2, 1) := by decide +kernel
theorem dX9_bestPosition_71 : decode cX9_bestPosition 71 = .ok (.istore_n 2, 1) := by decide +kernel
theorem dX9_bestPosition_72 : decode cX9_bestPosition 72 = .ok (.iinc 4 1, 3) := by decide +kernel
theorem dX9_bestPosition_75 : decode cX9_bestPosition 75 = .ok (.goto (-49), 3) := by decide +kernel
theorem dX9_bestPosition_78 : decode cX9_bestPosition 78 = .ok (.iload_n 2, 1) := by decide +kernel
theorem dX9_bestPosition_79 : decode cX9_bestPosition 79 = .ok (.ireturn, 1) := by decide +kernel
set_option maxRecDepth 20000 in
theorem ggX9_least_X9_apart : GoodIn wsX9_least wsX9_apart := goodIn_ca (goodIn_r _ [12, 13, 14, 15, 6, 16, 17, 18, 19, 20, 11, 21, 22, 35, 36, 37, 38, 39, 40, 41, 42, 43, 44, 45, 46, 47, 48, 49, 50, 51, 52, 53, 54, 55, 56, 57, 58, 59, 60, 61, 62, 63, 64] (by decide +kernel) (by decide +kernel)) (goodIn_sub (fun _ h => List.mem_cons_of_mem _ (List.mem_append_right _ h)) (by decide +kernel))
set_option maxRecDepth 20000 in
theorem gX9_least_X9_apart : GoodIn wsX9_least (wsV RX9 153 RX9 yX9_apart wsX9_apart) := goodIn_app (goodIn_of _ (by decide +kernel)) ggX9_least_X9_apart
set_option maxRecDepth 20000 in
theorem ggX9_least_X9_fits : GoodIn wsX9_least wsX9_fits := goodIn_r _ [25, 14, 15, 6, 16] (by decide +kernel) (by decide +kernel)
set_option maxRecDepth 20000 in
theorem gX9_least_X9_fits : GoodIn wsX9_least (va_wsS RX9 160 yX9_fits wsX9_fits) := goodIn_app (goodIn_of _ (by decide +kernel)) ggX9_least_X9_fits
set_option maxRecDepth 20000 in
theorem ggX9_least_X9_across : GoodIn wsX9_least wsX9_across := goodIn_r _ [28] (by decide +kernel) (by decide +kernel)
set_option maxRecDepth 20000 in
theorem gX9_least_X9_across : GoodIn wsX9_least (va_wsS RX9 141 yX9_across wsX9_across) := goodIn_app (goodIn_of _ (by decide +kernel)) ggX9_least_X9_across
set_option maxRecDepth 20000 in
theorem ggX9_least_X9_up : GoodIn wsX9_least wsX9_up := goodIn_r _ [31] (by decide +kernel) (by decide +kernel)
set_option maxRecDepth 20000 in
theorem gX9_least_X9_up : GoodIn wsX9_least (va_wsS RX9 150 yX9_up wsX9_up) := goodIn_app (goodIn_of _ (by decide +kernel)) ggX9_least_X9_up
set_option maxRecDepth 20000 in
theorem ggX9_least_X9_least : GoodIn wsX9_least wsX9_least := goodIn_ca (goodIn_r _ [0, 1, 2, 3, 4, 5, 6, 7, 8, 9, 10, 11, 12, 13, 14, 15, 16, 17, 18, 19, 20, 21, 22, 23, 24, 25, 26, 27, 28, 29, 30, 31, 32, 33, 34, 35, 36, 37, 38, 39, 40, 41, 42, 43, 44, 45, 46, 47, 48, 49, 50, 51, 52, 53, 54, 55, 56, 57, 58, 59, 60, 61, 62, 63, 64] (by decide +kernel) (by decide +kernel)) (goodIn_sub (fun _ h => List.mem_cons_of_mem _ (List.mem_append_right _ h)) (by decide +kernel))
set_option maxRecDepth 20000 in
theorem gX9_least_X9_least : GoodIn wsX9_least (wsV RX9 190 RX9 yX9_least wsX9_least) := goodIn_app (goodIn_of _ (by decide +kernel)) ggX9_least_X9_least
theorem dX9_least_0 : decode cX9_least 0 = .ok (.iload_n 3, 1) := by decide +kernel
theorem dX9_least_1 : decode cX9_least 1 = .ok (.iload_n 2, 1) := by decide +kernel
theorem dX9_least_2 : decode cX9_least 2 = .ok (.if_icmp .ne 20, 3) := by decide +kernel
theorem dX9_least_5 : decode cX9_least 5 = .ok (.aload_n 0, 1) := by decide +kernel
theorem dX9_least_6 : decode cX9_least 6 = .ok (.aload_n 0, 1) := by decide +kernel
theorem dX9_least_7 : decode cX9_least 7 = .ok (.getfield 121, 3) := by decide +kernel
theorem dX9_least_10 : decode cX9_least 10 = .ok (.iload_n 2, 1) := by decide +kernel
theorem dX9_least_11 : decode cX9_least 11 = .ok (.iadd, 1) := by decide +kernel
theorem dX9_least_12 : decode cX9_least 12 = .ok (.iconst 1, 1) := by decide +kernel
theorem dX9_least_13 : decode cX9_least 13 = .ok (.isub, 1) := by decide +kernel
theorem dX9_least_14 : decode cX9_least 14 = .ok (.iload 7, 2) := by decide +kernel
theorem dX9_least_16 : decode cX9_least 16 = .ok (.iload 8, 2) := by decide +kernel
theorem dX9_least_18 : decode cX9_least 18 = .ok (.invokevirtual 153, 3) := by decide +kernel
theorem dX9_least_21 : decode cX9_least 21 = .ok (.ireturn, 1) := by decide +kernel
theorem dX9_least_22 : decode cX9_least 22 = .ok (.ldc 189, 2) := by decide +kernel
theorem dX9_least_24 : decode cX9_least 24 = .ok (.istore 9, 2) := by decide +kernel
theorem dX9_least_26 : decode cX9_least 26 = .ok (.iconst 0, 1) := by decide +kernel
theorem dX9_least_27 : decode cX9_least 27 = .ok (.istore 10, 2) := by decide +kernel
theorem dX9_least_29 : decode cX9_least 29 = .ok (.iload 10, 2) := by decide +kernel
theorem dX9_least_31 : decode cX9_least 31 = .ok (.bipush 8, 2) := by decide +kernel
theorem dX9_least_33 : decode cX9_least 33 = .ok (.if_icmp .ge 87, 3) := by decide +kernel
theorem dX9_least_36 : decode cX9_least 36 = .ok (.iload 4, 2) := by decide +kernel
theorem dX9_least_38 : decode cX9_least 38 = .ok (.iload 10, 2) := by decide +kernel
theorem dX9_least_40 : decode cX9_least 40 = .ok (.invokestatic 160, 3) := by decide +kernel
theorem dX9_least_43 : decode cX9_least 43 = .ok (.ifCond .eq 71, 3) := by decide +kernel
theorem dX9_least_46 : decode cX9_least 46 = .ok (.iload 5, 2) := by decide +kernel
theorem dX9_least_48 : decode cX9_least 48 = .ok (.aload_n 0, 1) := by decide +kernel
theorem dX9_least_49 : decode cX9_least 49 = .ok (.getfield 37, 3) := by decide +kernel
theorem dX9_least_52 : decode cX9_least 52 = .ok (.iload_n 1, 1) := by decide +kernel
theorem dX9_least_53 : decode cX9_least 53 = .ok (.iaload, 1) := by decide +kernel
theorem dX9_least_54 : decode cX9_least 54 = .ok (.iload 10, 2) := by decide +kernel
theorem dX9_least_56 : decode cX9_least 56 = .ok (.invokestatic 141, 3) := by decide +kernel
theorem dX9_least_59 : decode cX9_least 59 = .ok (.imul, 1) := by decide +kernel
theorem dX9_least_60 : decode cX9_least 60 = .ok (.iadd, 1) := by decide +kernel
theorem dX9_least_61 : decode cX9_least 61 = .ok (.istore 11, 2) := by decide +kernel
theorem dX9_least_63 : decode cX9_least 63 = .ok (.iload 6, 2) := by decide +kernel
theorem dX9_least_65 : decode cX9_least 65 = .ok (.aload_n 0, 1) := by decide +kernel
theorem dX9_least_66 : decode cX9_least 66 = .ok (.getfield 37, 3) := by decide +kernel
theorem dX9_least_69 : decode cX9_least 69 = .ok (.iload_n 1, 1) := by decide +kernel
theorem dX9_least_70 : decode cX9_least 70 = .ok (.iaload, 1) := by decide +kernel
theorem dX9_least_71 : decode cX9_least 71 = .ok (.iload 10, 2) := by decide +kernel
theorem dX9_least_73 : decode cX9_least 73 = .ok (.invokestatic 150, 3) := by decide +kernel
theorem dX9_least_76 : decode cX9_least 76 = .ok (.imul, 1) := by decide +kernel
theorem dX9_least_77 : decode cX9_least 77 = .ok (.iadd, 1) := by decide +kernel
theorem dX9_least_78 : decode cX9_least 78 = .ok (.istore 12, 2) := by decide +kernel
theorem dX9_least_80 : decode cX9_least 80 = .ok (.iload 9, 2) := by decide +kernel
theorem dX9_least_82 : decode cX9_least 82 = .ok (.aload_n 0, 1) := by decide +kernel
theorem dX9_least_83 : decode cX9_least 83 = .ok (.iload_n 1, 1) := by decide +kernel
theorem dX9_least_84 : decode cX9_least 84 = .ok (.iconst 1, 1) := by decide +kernel
theorem dX9_least_85 : decode cX9_least 85 = .ok (.isub, 1) := by decide +kernel
theorem dX9_least_86 : decode cX9_least 86 = .ok (.iload_n 2, 1) := by decide +kernel
theorem dX9_least_87 : decode cX9_least 87 = .ok (.iload_n 3, 1) := by decide +kernel
theorem dX9_least_88 : decode cX9_least 88 = .ok (.iconst 1, 1) := by decide +kernel
theorem dX9_least_89 : decode cX9_least 89 = .ok (.iadd, 1) := by decide +kernel
theorem dX9_least_90 : decode cX9_least 90 = .ok (.iload 10, 2) := by decide +kernel
theorem dX9_least_92 : decode cX9_least 92 = .ok (.iload 11, 2) := by decide +kernel
theorem dX9_least_94 : decode cX9_least 94 = .ok (.iload 12, 2) := by decide +kernel
theorem dX9_least_96 : decode cX9_least 96 = .ok (.iload 7, 2) := by decide +kernel
theorem dX9_least_98 : decode cX9_least 98 = .ok (.iload 11, 2) := by decide +kernel
theorem dX9_least_100 : decode cX9_least 100 = .ok (.iadd, 1) := by decide +kernel
theorem dX9_least_101 : decode cX9_least 101 = .ok (.iload 8, 2) := by decide +kernel
theorem dX9_least_103 : decode cX9_least 103 = .ok (.iload 12, 2) := by decide +kernel
theorem dX9_least_105 : decode cX9_least 105 = .ok (.iadd, 1) := by decide +kernel
theorem dX9_least_106 : decode cX9_least 106 = .ok (.invokevirtual 190, 3) := by decide +kernel
theorem dX9_least_109 : decode cX9_least 109 = .ok (.invokestatic 194, 3) := by decide +kernel
theorem dX9_least_112 : decode cX9_least 112 = .ok (.istore 9, 2) := by decide +kernel
theorem dX9_least_114 : decode cX9_least 114 = .ok (.iinc 10 1, 3) := by decide +kernel
theorem dX9_least_117 : decode cX9_least 117 = .ok (.goto (-88), 3) := by decide +kernel
theorem dX9_least_120 : decode cX9_least 120 = .ok (.iload 9, 2) := by decide +kernel
theorem dX9_least_122 : decode cX9_least 122 = .ok (.ireturn, 1) := by decide +kernel
set_option maxRecDepth 20000 in
theorem ggX9_leastDeviation_X9_isNoStack : GoodIn wsX9_leastDeviation wsX9_isNoStack := goodIn_r _ [8, 9, 10, 7, 11, 12, 13, 14, 15, 16, 70, 71, 72, 73, 74, 75, 76, 77, 78, 79, 80, 81, 82, 83, 84, 85, 86, 87, 88, 89, 90, 91, 92, 93, 94, 95, 96, 97, 98, 99] (by decide +kernel) (by decide +kernel)
set_option maxRecDepth 20000 in
theorem gX9_leastDeviation_X9_isNoStack : GoodIn wsX9_leastDeviation (wsV RX9 96 RX9 yX9_isNoStack wsX9_isNoStack) := goodIn_app (goodIn_of _ (by decide +kernel)) ggX9_leastDeviation_X9_isNoStack
set_option maxRecDepth 20000 in
theorem ggX9_leastDeviation_X9_isIn : GoodIn wsX9_leastDeviation wsX9_isIn := goodIn_r _ [11] (by decide +kernel) (by decide +kernel)
set_option maxRecDepth 20000 in
theorem gX9_leastDeviation_X9_isIn : GoodIn wsX9_leastDeviation (va_wsS RX9 75 yX9_isIn wsX9_isIn) := goodIn_app (goodIn_of _ (by decide +kernel)) ggX9_leastDeviation_X9_isIn
set_option maxRecDepth 20000 in
theorem ggX9_leastDeviation_X9_isThrown : GoodIn wsX9_leastDeviation wsX9_isThrown := goodIn_r _ [15, 16, 70, 71, 72, 73, 74, 75, 76, 77, 78, 79, 80, 81, 82, 83, 84, 85, 86, 87, 88, 89, 90, 91, 92, 93, 94, 95, 96, 97, 98, 99] (by decide +kernel) (by decide +kernel)
set_option maxRecDepth 20000 in
theorem gX9_leastDeviation_X9_isThrown : GoodIn wsX9_leastDeviation (wsV RX9 79 RX9 yX9_isThrown wsX9_isThrown) := goodIn_app (goodIn_of _ (by decide +kernel)) ggX9_leastDeviation_X9_isThrown
set_option maxRecDepth 20000 in
theorem ggX9_leastDeviation_X9_top : GoodIn wsX9_leastDeviation wsX9_top := goodIn_ca (goodIn_r _ [20, 1, 70, 71, 72, 73, 74, 75, 76, 77, 78, 79, 80, 81, 82, 83, 84, 85, 86, 87, 88, 89, 90, 91, 92, 93, 94, 95, 96, 97, 98, 99] (by decide +kernel) (by decide +kernel)) (goodIn_sub (fun _ h => List.mem_cons_of_mem _ (List.mem_append_right _ h)) (by decide +kernel))
set_option maxRecDepth 20000 in
theorem gX9_leastDeviation_X9_top : GoodIn wsX9_leastDeviation (wsV RX9 99 RX9 yX9_top wsX9_top) := goodIn_app (goodIn_of _ (by decide +kernel)) ggX9_leastDeviation_X9_top
set_option maxRecDepth 20000 in
theorem ggX9_leastDeviation_X9_before : GoodIn wsX9_leastDeviation wsX9_before := goodIn_ca (goodIn_r _ [24, 25, 26, 70, 71, 72, 73, 74, 75, 76, 77, 78, 79, 80, 81, 82, 83, 84, 85, 86, 87, 88, 89, 90, 91, 92, 93, 94, 95, 96, 97, 98, 99] (by decide +kernel) (by decide +kernel)) (goodIn_sub (fun _ h => List.mem_cons_of_mem _ (List.mem_append_right _ h)) (by decide +kernel))
set_option maxRecDepth 20000 in
theorem gX9_leastDeviation_X9_before : GoodIn wsX9_leastDeviation (wsV RX9 157 RX9 yX9_before wsX9_before) := goodIn_app (goodIn_of _ (by decide +kernel)) ggX9_leastDeviation_X9_before
set_option maxRecDepth 20000 in
theorem ggX9_leastDeviation_X9_lastX : GoodIn wsX9_leastDeviation wsX9_lastX := goodIn_ca (goodIn_r _ [30, 25, 31, 70, 71, 72, 73, 74, 75, 76, 77, 78, 79, 80, 81, 82, 83, 84, 85, 86, 87, 88, 89, 90, 91, 92, 93, 94, 95, 96, 97, 98, 99] (by decide +kernel) (by decide +kernel)) (goodIn_sub (fun _ h => List.mem_cons_of_mem _ (List.mem_append_right _ h)) (by decide +kernel))
set_option maxRecDepth 20000 in
theorem gX9_leastDeviation_X9_lastX : GoodIn wsX9_leastDeviation (wsV RX9 135 RX9 yX9_lastX wsX9_lastX) := goodIn_app (goodIn_of _ (by decide +kernel)) ggX9_leastDeviation_X9_lastX
set_option maxRecDepth 20000 in
theorem ggX9_leastDeviation_X9_lastY : GoodIn wsX9_leastDeviation wsX9_lastY := goodIn_ca (goodIn_r _ [35, 25, 36, 70, 71, 72, 73, 74, 75, 76, 77, 78, 79, 80, 81, 82, 83, 84, 85, 86, 87, 88, 89, 90, 91, 92, 93, 94, 95, 96, 97, 98, 99] (by decide +kernel) (by decide +kernel)) (goodIn_sub (fun _ h => List.mem_cons_of_mem _ (List.mem_append_right _ h)) (by decide +kernel))
set_option maxRecDepth 20000 in
theorem gX9_leastDeviation_X9_lastY : GoodIn wsX9_leastDeviation (wsV RX9 144 RX9 yX9_lastY wsX9_lastY) := goodIn_app (goodIn_of _ (by decide +kernel)) ggX9_leastDeviation_X9_lastY
set_option maxRecDepth 20000 in
theorem ggX9_leastDeviation_X9_least : GoodIn wsX9_leastDeviation wsX9_least := goodIn_ca (goodIn_r _ [40, 25, 41, 42, 43, 44, 45, 46, 47, 48, 49, 7, 50, 51, 52, 53, 54, 55, 56, 57, 58, 59, 60, 61, 62, 63, 64, 65, 66, 67, 68, 69, 37, 38, 39, 70, 71, 72, 73, 74, 75, 76, 77, 78, 79, 80, 81, 82, 83, 84, 85, 86, 87, 88, 89, 90, 91, 92, 93, 94, 95, 96, 97, 98, 99] (by decide +kernel) (by decide +kernel)) (goodIn_sub (fun _ h => List.mem_cons_of_mem _ (List.mem_append_right _ h)) (by decide +kernel))
set_option maxRecDepth 20000 in
theorem gX9_leastDeviation_X9_least : GoodIn wsX9_leastDeviation (wsV RX9 190 RX9 yX9_least wsX9_least) := goodIn_app (goodIn_of _ (by decide +kernel)) ggX9_leastDeviation_X9_least
theorem dX9_leastDeviation_0 : decode cX9_leastDeviation 0 = .ok (.aload_n 0, 1) := by decide +kernel
theorem dX9_leastDeviation_1 : decode cX9_leastDeviation 1 = .ok (.iload_n 1, 1) := by decide +kernel
theorem dX9_leastDeviation_2 : decode cX9_leastDeviation 2 = .ok (.invokevirtual 96, 3) := by decide +kernel
theorem dX9_leastDeviation_5 : decode cX9_leastDeviation 5 = .ok (.ifCond .ne 48, 3) := by decide +kernel
theorem dX9_leastDeviation_8 : decode cX9_leastDeviation 8 = .ok (.aload_n 0, 1) := by decide +kernel
theorem dX9_leastDeviation_9 : decode cX9_leastDeviation 9 = .ok (.iload_n 2, 1) := by decide +kernel
theorem dX9_leastDeviation_10 : decode cX9_leastDeviation 10 = .ok (.iconst 1, 1) := by decide +kernel
theorem dX9_leastDeviation_11 : decode cX9_leastDeviation 11 = .ok (.iconst 4, 1) := by decide +kernel
theorem dX9_leastDeviation_12 : decode cX9_leastDeviation 12 = .ok (.invokestatic 75, 3) := by decide +kernel
theorem dX9_leastDeviation_15 : decode cX9_leastDeviation 15 = .ok (.ifCond .ne 7, 3) := by decide +kernel
theorem dX9_leastDeviation_18 : decode cX9_leastDeviation 18 = .ok (.iconst 1, 1) := by decide +kernel
theorem dX9_leastDeviation_19 : decode cX9_leastDeviation 19 = .ok (.goto 4, 3) := by decide +kernel
theorem dX9_leastDeviation_22 : decode cX9_leastDeviation 22 = .ok (.iconst 0, 1) := by decide +kernel
theorem dX9_leastDeviation_23 : decode cX9_leastDeviation 23 = .ok (.iconst 2, 1) := by decide +kernel
theorem dX9_leastDeviation_24 : decode cX9_leastDeviation 24 = .ok (.invokevirtual 79, 3) := by decide +kernel
theorem dX9_leastDeviation_27 : decode cX9_leastDeviation 27 = .ok (.ifCond .ne 26, 3) := by decide +kernel
theorem dX9_leastDeviation_30 : decode cX9_leastDeviation 30 = .ok (.aload_n 0, 1) := by decide +kernel
theorem dX9_leastDeviation_31 : decode cX9_leastDeviation 31 = .ok (.aload_n 0, 1) := by decide +kernel
theorem dX9_leastDeviation_32 : decode cX9_leastDeviation 32 = .ok (.getfield 43, 3) := by decide +kernel
theorem dX9_leastDeviation_35 : decode cX9_leastDeviation 35 = .ok (.iload_n 1, 1) := by decide +kernel
theorem dX9_leastDeviation_36 : decode cX9_leastDeviation 36 = .ok (.iaload, 1) := by decide +kernel
theorem dX9_leastDeviation_37 : decode cX9_leastDeviation 37 = .ok (.iload_n 2, 1) := by decide +kernel
theorem dX9_leastDeviation_38 : decode cX9_leastDeviation 38 = .ok (.if_icmp .ge 7, 3) := by decide +kernel
theorem dX9_leastDeviation_41 : decode cX9_leastDeviation 41 = .ok (.iconst 1, 1) := by decide +kernel
theorem dX9_leastDeviation_42 : decode cX9_leastDeviation 42 = .ok (.goto 4, 3) := by decide +kernel
theorem dX9_leastDeviation_45 : decode cX9_leastDeviation 45 = .ok (.iconst 0, 1) := by decide +kernel
theorem dX9_leastDeviation_46 : decode cX9_leastDeviation 46 = .ok (.iconst 3, 1) := by decide +kernel
theorem dX9_leastDeviation_47 : decode cX9_leastDeviation 47 = .ok (.invokevirtual 79, 3) := by decide +kernel
theorem dX9_leastDeviation_50 : decode cX9_leastDeviation 50 = .ok (.ifCond .eq 5, 3) := by decide +kernel
theorem dX9_leastDeviation_53 : decode cX9_leastDeviation 53 = .ok (.iconst 0, 1) := by decide +kernel
theorem dX9_leastDeviation_54 : decode cX9_leastDeviation 54 = .ok (.ireturn, 1) := by decide +kernel
theorem dX9_leastDeviation_55 : decode cX9_leastDeviation 55 = .ok (.aload_n 0, 1) := by decide +kernel
theorem dX9_leastDeviation_56 : decode cX9_leastDeviation 56 = .ok (.aload_n 0, 1) := by decide +kernel
theorem dX9_leastDeviation_57 : decode cX9_leastDeviation 57 = .ok (.iload_n 1, 1) := by decide +kernel
theorem dX9_leastDeviation_58 : decode cX9_leastDeviation 58 = .ok (.invokevirtual 99, 3) := by decide +kernel
theorem dX9_leastDeviation_61 : decode cX9_leastDeviation 61 = .ok (.iload_n 2, 1) := by decide +kernel
theorem dX9_leastDeviation_62 : decode cX9_leastDeviation 62 = .ok (.iconst 0, 1) := by decide +kernel
theorem dX9_leastDeviation_63 : decode cX9_leastDeviation 63 = .ok (.aload_n 0, 1) := by decide +kernel
theorem dX9_leastDeviation_64 : decode cX9_leastDeviation 64 = .ok (.invokevirtual 157, 3) := by decide +kernel
theorem dX9_leastDeviation_67 : decode cX9_leastDeviation 67 = .ok (.aload_n 0, 1) := by decide +kernel
theorem dX9_leastDeviation_68 : decode cX9_leastDeviation 68 = .ok (.getfield 138, 3) := by decide +kernel
theorem dX9_leastDeviation_71 : decode cX9_leastDeviation 71 = .ok (.aload_n 0, 1) := by decide +kernel
theorem dX9_leastDeviation_72 : decode cX9_leastDeviation 72 = .ok (.getfield 147, 3) := by decide +kernel
theorem dX9_leastDeviation_75 : decode cX9_leastDeviation 75 = .ok (.aload_n 0, 1) := by decide +kernel
theorem dX9_leastDeviation_76 : decode cX9_leastDeviation 76 = .ok (.invokevirtual 135, 3) := by decide +kernel
theorem dX9_leastDeviation_79 : decode cX9_leastDeviation 79 = .ok (.aload_n 0, 1) := by decide +kernel
theorem dX9_leastDeviation_80 : decode cX9_leastDeviation 80 = .ok (.invokevirtual 144, 3) := by decide +kernel
theorem dX9_leastDeviation_83 : decode cX9_leastDeviation 83 = .ok (.invokevirtual 190, 3) := by decide +kernel
theorem dX9_leastDeviation_86 : decode cX9_leastDeviation 86 = .ok (.ireturn, 1) := by decide +kernel
set_option maxRecDepth 20000 in
theorem ggX9_leastByTrying_X9_leastDeviation : GoodIn wsX9_leastByTrying wsX9_leastDeviation := goodIn_ca (goodIn_r _ [5, 6, 7, 8, 9, 10, 11, 4, 12, 13, 14, 15, 16, 17, 18, 19, 20, 21, 22, 23, 24, 25, 26, 27, 28, 29, 30, 31, 32, 33, 34, 35, 36, 37, 38, 39, 40, 41, 42, 43, 44, 45, 46, 47, 48, 49, 50, 51, 52, 53, 54, 55, 56, 57, 58, 59, 60, 61, 62, 63, 64, 65, 66, 67, 68, 69, 70, 71, 72, 73, 74, 75, 76, 77, 78, 79, 80, 81, 82, 83, 84, 85, 86, 87, 88, 89, 90, 91, 92, 93, 94, 95, 96, 97, 98, 99, 100, 101, 102, 103] (by decide +kernel) (by decide +kernel)) (goodIn_sub (fun _ h => List.mem_cons_of_mem _ (List.mem_append_right _ h)) (by decide +kernel))
set_option maxRecDepth 20000 in
theorem gX9_leastByTrying_X9_leastDeviation : GoodIn wsX9_leastByTrying (wsV RX9 197 RX9 yX9_leastDeviation wsX9_leastDeviation) := goodIn_app (goodIn_of _ (by decide +kernel)) ggX9_leastByTrying_X9_leastDeviation
theorem dX9_leastByTrying_0 : decode cX9_leastByTrying 0 = .ok (.aload_n 0, 1) := by decide +kernel
theorem dX9_leastByTrying_1 : decode cX9_leastByTrying 1 = .ok (.iload_n 1, 1) := by decide +kernel
theorem dX9_leastByTrying_2 : decode cX9_leastByTrying 2 = .ok (.iload_n 2, 1) := by decide +kernel
theorem dX9_leastByTrying_3 : decode cX9_leastByTrying 3 = .ok (.invokevirtual 197, 3) := by decide +kernel
theorem dX9_leastByTrying_6 : decode cX9_leastByTrying 6 = .ok (.ireturn, 1) := by decide +kernel
set_option maxRecDepth 20000 in
theorem ggX9_sinkingAt_X9_isNoGround : GoodIn wsX9_sinkingAt wsX9_isNoGround := goodIn_r _ [6, 7, 8, 9, 5, 10, 11, 12, 13, 14, 15, 16, 17, 18, 19, 20, 21, 22, 23, 24, 25, 26, 27, 28, 29, 30, 31, 32, 33, 34, 35, 36, 37, 38, 39, 40, 41, 42, 43, 44, 45] (by decide +kernel) (by decide +kernel)
set_option maxRecDepth 20000 in
theorem gX9_sinkingAt_X9_isNoGround : GoodIn wsX9_sinkingAt (wsV RX9 89 RX9 yX9_isNoGround wsX9_isNoGround) := goodIn_app (goodIn_of _ (by decide +kernel)) ggX9_sinkingAt_X9_isNoGround
theorem dX9_sinkingAt_0 : decode cX9_sinkingAt 0 = .ok (.aload_n 0, 1) := by decide +kernel
theorem dX9_sinkingAt_1 : decode cX9_sinkingAt 1 = .ok (.iload_n 1, 1) := by decide +kernel
theorem dX9_sinkingAt_2 : decode cX9_sinkingAt 2 = .ok (.invokevirtual 89, 3) := by decide +kernel
theorem dX9_sinkingAt_5 : decode cX9_sinkingAt 5 = .ok (.ifCond .eq 7, 3) := by decide +kernel
theorem dX9_sinkingAt_8 : decode cX9_sinkingAt 8 = .ok (.iconst 0, 1) := by decide +kernel
theorem dX9_sinkingAt_9 : decode cX9_sinkingAt 9 = .ok (.goto 9, 3) := by decide +kernel
theorem dX9_sinkingAt_12 : decode cX9_sinkingAt 12 = .ok (.aload_n 0, 1) := by decide +kernel
theorem dX9_sinkingAt_13 : decode cX9_sinkingAt 13 = .ok (.getfield 22, 3) := by decide +kernel
theorem dX9_sinkingAt_16 : decode cX9_sinkingAt 16 = .ok (.iload_n 1, 1) := by decide +kernel
theorem dX9_sinkingAt_17 : decode cX9_sinkingAt 17 = .ok (.iaload, 1) := by decide +kernel
theorem dX9_sinkingAt_18 : decode cX9_sinkingAt 18 = .ok (.ireturn, 1) := by decide +kernel
set_option maxRecDepth 20000 in
theorem ggX9_isNoHouse_X9_isIn : GoodIn wsX9_isNoHouse wsX9_isIn := goodIn_r _ [5] (by decide +kernel) (by decide +kernel)
set_option maxRecDepth 20000 in
theorem gX9_isNoHouse_X9_isIn : GoodIn wsX9_isNoHouse (va_wsS RX9 75 yX9_isIn wsX9_isIn) := goodIn_app (goodIn_of _ (by decide +kernel)) ggX9_isNoHouse_X9_isIn
set_option maxRecDepth 20000 in
theorem ggX9_isNoHouse_X9_isThrown : GoodIn wsX9_isNoHouse wsX9_isThrown := goodIn_r _ [9, 10, 11, 12, 13, 14, 15, 16, 17, 18, 19, 20, 21, 22, 23, 24, 25, 26, 27, 28, 29, 30, 31, 32, 33, 34, 35, 36, 37, 38, 39, 40] (by decide +kernel) (by decide +kernel)
set_option maxRecDepth 20000 in
theorem gX9_isNoHouse_X9_isThrown : GoodIn wsX9_isNoHouse (wsV RX9 79 RX9 yX9_isThrown wsX9_isThrown) := goodIn_app (goodIn_of _ (by decide +kernel)) ggX9_isNoHouse_X9_isThrown
theorem dX9_isNoHouse_0 : decode cX9_isNoHouse 0 = .ok (.aload_n 0, 1) := by decide +kernel
theorem dX9_isNoHouse_1 : decode cX9_isNoHouse 1 = .ok (.iload_n 1, 1) := by decide +kernel
theorem dX9_isNoHouse_2 : decode cX9_isNoHouse 2 = .ok (.iconst 0, 1) := by decide +kernel
theorem dX9_isNoHouse_3 : decode cX9_isNoHouse 3 = .ok (.aload_n 0, 1) := by decide +kernel
theorem dX9_isNoHouse_4 : decode cX9_isNoHouse 4 = .ok (.getfield 93, 3) := by decide +kernel
theorem dX9_isNoHouse_7 : decode cX9_isNoHouse 7 = .ok (.iconst 1, 1) := by decide +kernel
theorem dX9_isNoHouse_8 : decode cX9_isNoHouse 8 = .ok (.isub, 1) := by decide +kernel
theorem dX9_isNoHouse_9 : decode cX9_isNoHouse 9 = .ok (.invokestatic 75, 3) := by decide +kernel
theorem dX9_isNoHouse_12 : decode cX9_isNoHouse 12 = .ok (.ifCond .ne 7, 3) := by decide +kernel
theorem dX9_isNoHouse_15 : decode cX9_isNoHouse 15 = .ok (.iconst 1, 1) := by decide +kernel
theorem dX9_isNoHouse_16 : decode cX9_isNoHouse 16 = .ok (.goto 4, 3) := by decide +kernel
theorem dX9_isNoHouse_19 : decode cX9_isNoHouse 19 = .ok (.iconst 0, 1) := by decide +kernel
theorem dX9_isNoHouse_20 : decode cX9_isNoHouse 20 = .ok (.iconst 1, 1) := by decide +kernel
theorem dX9_isNoHouse_21 : decode cX9_isNoHouse 21 = .ok (.invokevirtual 79, 3) := by decide +kernel
theorem dX9_isNoHouse_24 : decode cX9_isNoHouse 24 = .ok (.ireturn, 1) := by decide +kernel
theorem dX9_most_0 : decode cX9_most 0 = .ok (.iconst 0, 1) := by decide +kernel
theorem dX9_most_1 : decode cX9_most 1 = .ok (.istore_n 2, 1) := by decide +kernel
theorem dX9_most_2 : decode cX9_most 2 = .ok (.aload_n 0, 1) := by decide +kernel
theorem dX9_most_3 : decode cX9_most 3 = .ok (.getfield 46, 3) := by decide +kernel
theorem dX9_most_6 : decode cX9_most 6 = .ok (.iload_n 1, 1) := by decide +kernel
theorem dX9_most_7 : decode cX9_most 7 = .ok (.iaload, 1) := by decide +kernel
theorem dX9_most_8 : decode cX9_most 8 = .ok (.istore_n 3, 1) := by decide +kernel
theorem dX9_most_9 : decode cX9_most 9 = .ok (.iload_n 3, 1) := by decide +kernel
theorem dX9_most_10 : decode cX9_most 10 = .ok (.aload_n 0, 1) := by decide +kernel
theorem dX9_most_11 : decode cX9_most 11 = .ok (.getfield 49, 3) := by decide +kernel
theorem dX9_most_14 : decode cX9_most 14 = .ok (.iload_n 1, 1) := by decide +kernel
theorem dX9_most_15 : decode cX9_most 15 = .ok (.iaload, 1) := by decide +kernel
theorem dX9_most_16 : decode cX9_most 16 = .ok (.if_icmp .gt 20, 3) := by decide +kernel
theorem dX9_most_19 : decode cX9_most 19 = .ok (.iload_n 2, 1) := by decide +kernel
theorem dX9_most_20 : decode cX9_most 20 = .ok (.aload_n 0, 1) := by decide +kernel
theorem dX9_most_21 : decode cX9_most 21 = .ok (.getfield 22, 3) := by decide +kernel
theorem dX9_most_24 : decode cX9_most 24 = .ok (.iload_n 3, 1) := by decide +kernel
theorem dX9_most_25 : decode cX9_most 25 = .ok (.iaload, 1) := by decide +kernel
theorem dX9_most_26 : decode cX9_most 26 = .ok (.invokestatic 106, 3) := by decide +kernel
theorem dX9_most_29 : decode cX9_most 29 = .ok (.istore_n 2, 1) := by decide +kernel
theorem dX9_most_30 : decode cX9_most 30 = .ok (.iinc 3 1, 3) := by decide +kernel
theorem dX9_most_33 : decode cX9_most 33 = .ok (.goto (-24), 3) := by decide +kernel
theorem dX9_most_36 : decode cX9_most 36 = .ok (.iload_n 2, 1) := by decide +kernel
theorem dX9_most_37 : decode cX9_most 37 = .ok (.ireturn, 1) := by decide +kernel
set_option maxRecDepth 20000 in
theorem ggX9_sinkingOf_X9_isNoHouse : GoodIn wsX9_sinkingOf wsX9_isNoHouse := goodIn_r _ [5, 6, 7, 8, 4, 9, 10, 11, 12, 13, 14, 26, 27, 28, 29, 30, 31, 32, 33, 34, 35, 36, 37, 38, 39, 40, 41, 42, 43, 44, 45, 46, 47, 48, 49, 50, 51, 52, 53, 54, 55] (by decide +kernel) (by decide +kernel)
set_option maxRecDepth 20000 in
theorem gX9_sinkingOf_X9_isNoHouse : GoodIn wsX9_sinkingOf (wsV RX9 200 RX9 yX9_isNoHouse wsX9_isNoHouse) := goodIn_app (goodIn_of _ (by decide +kernel)) ggX9_sinkingOf_X9_isNoHouse
set_option maxRecDepth 20000 in
theorem ggX9_sinkingOf_X9_most : GoodIn wsX9_sinkingOf wsX9_most := goodIn_ca (goodIn_r _ [18, 19, 20, 21, 22, 23, 24, 25, 26, 27, 28, 29, 30, 31, 32, 33, 34, 35, 36, 37, 38, 39, 40, 41, 42, 43, 44, 45, 46, 47, 48, 49, 50, 51, 52, 53, 54, 55] (by decide +kernel) (by decide +kernel)) (goodIn_sub (fun _ h => List.mem_cons_of_mem _ (List.mem_append_right _ h)) (by decide +kernel))
set_option maxRecDepth 20000 in
theorem gX9_sinkingOf_X9_most : GoodIn wsX9_sinkingOf (wsV RX9 203 RX9 yX9_most wsX9_most) := goodIn_app (goodIn_of _ (by decide +kernel)) ggX9_sinkingOf_X9_most
theorem dX9_sinkingOf_0 : decode cX9_sinkingOf 0 = .ok (.aload_n 0, 1) := by decide +kernel
theorem dX9_sinkingOf_1 : decode cX9_sinkingOf 1 = .ok (.iload_n 1, 1) := by decide +kernel
theorem dX9_sinkingOf_2 : decode cX9_sinkingOf 2 = .ok (.invokevirtual 200, 3) := by decide +kernel
theorem dX9_sinkingOf_5 : decode cX9_sinkingOf 5 = .ok (.ifCond .eq 7, 3) := by decide +kernel
theorem dX9_sinkingOf_8 : decode cX9_sinkingOf 8 = .ok (.iconst 0, 1) := by decide +kernel
theorem dX9_sinkingOf_9 : decode cX9_sinkingOf 9 = .ok (.goto 8, 3) := by decide +kernel
theorem dX9_sinkingOf_12 : decode cX9_sinkingOf 12 = .ok (.aload_n 0, 1) := by decide +kernel
theorem dX9_sinkingOf_13 : decode cX9_sinkingOf 13 = .ok (.iload_n 1, 1) := by decide +kernel
theorem dX9_sinkingOf_14 : decode cX9_sinkingOf 14 = .ok (.invokevirtual 203, 3) := by decide +kernel
theorem dX9_sinkingOf_17 : decode cX9_sinkingOf 17 = .ok (.ireturn, 1) := by decide +kernel
set_option maxRecDepth 20000 in
theorem ggX9_tiltOf_X9_isNoHouse : GoodIn wsX9_tiltOf wsX9_isNoHouse := goodIn_r _ [12, 13, 14, 15, 11, 16, 17, 18, 19, 20, 21, 29, 30, 31, 32, 33, 34, 35, 36, 37, 38, 39, 40, 41, 42, 43, 44, 45, 46, 47, 48, 49, 50, 51, 52, 53, 54, 55, 56, 57, 58] (by decide +kernel) (by decide +kernel)
set_option maxRecDepth 20000 in
theorem gX9_tiltOf_X9_isNoHouse : GoodIn wsX9_tiltOf (wsV RX9 200 RX9 yX9_isNoHouse wsX9_isNoHouse) := goodIn_app (goodIn_of _ (by decide +kernel)) ggX9_tiltOf_X9_isNoHouse
set_option maxRecDepth 20000 in
theorem ggX9_tiltOf_X9_most : GoodIn wsX9_tiltOf wsX9_most := goodIn_ca (goodIn_r _ [25, 1, 2, 3, 26, 27, 6, 28, 29, 30, 31, 32, 33, 34, 35, 36, 37, 38, 39, 40, 41, 42, 43, 44, 45, 46, 47, 48, 49, 50, 51, 52, 53, 54, 55, 56, 57, 58] (by decide +kernel) (by decide +kernel)) (goodIn_sub (fun _ h => List.mem_cons_of_mem _ (List.mem_append_right _ h)) (by decide +kernel))
set_option maxRecDepth 20000 in
theorem gX9_tiltOf_X9_most : GoodIn wsX9_tiltOf (wsV RX9 203 RX9 yX9_most wsX9_most) := goodIn_app (goodIn_of _ (by decide +kernel)) ggX9_tiltOf_X9_most
theorem dX9_tiltOf_0 : decode cX9_tiltOf 0 = .ok (.aload_n 0, 1) := by decide +kernel
theorem dX9_tiltOf_1 : decode cX9_tiltOf 1 = .ok (.iload_n 1, 1) := by decide +kernel
theorem dX9_tiltOf_2 : decode cX9_tiltOf 2 = .ok (.invokevirtual 200, 3) := by decide +kernel
theorem dX9_tiltOf_5 : decode cX9_tiltOf 5 = .ok (.ifCond .eq 5, 3) := by decide +kernel
theorem dX9_tiltOf_8 : decode cX9_tiltOf 8 = .ok (.iconst 0, 1) := by decide +kernel
theorem dX9_tiltOf_9 : decode cX9_tiltOf 9 = .ok (.ireturn, 1) := by decide +kernel
theorem dX9_tiltOf_10 : decode cX9_tiltOf 10 = .ok (.aload_n 0, 1) := by decide +kernel
theorem dX9_tiltOf_11 : decode cX9_tiltOf 11 = .ok (.iload_n 1, 1) := by decide +kernel
theorem dX9_tiltOf_12 : decode cX9_tiltOf 12 = .ok (.invokevirtual 203, 3) := by decide +kernel
theorem dX9_tiltOf_15 : decode cX9_tiltOf 15 = .ok (.istore_n 2, 1) := by decide +kernel
theorem dX9_tiltOf_16 : decode cX9_tiltOf 16 = .ok (.aload_n 0, 1) := by decide +kernel
theorem dX9_tiltOf_17 : decode cX9_tiltOf 17 = .ok (.getfield 46, 3) := by decide +kernel
theorem dX9_tiltOf_20 : decode cX9_tiltOf 20 = .ok (.iload_n 1, 1) := by decide +kernel
theorem dX9_tiltOf_21 : decode cX9_tiltOf 21 = .ok (.iaload, 1) := by decide +kernel
theorem dX9_tiltOf_22 : decode cX9_tiltOf 22 = .ok (.istore_n 3, 1) := by decide +kernel
theorem dX9_tiltOf_23 : decode cX9_tiltOf 23 = .ok (.iload_n 3, 1) := by decide +kernel
theorem dX9_tiltOf_24 : decode cX9_tiltOf 24 = .ok (.aload_n 0, 1) := by decide +kernel
theorem dX9_tiltOf_25 : decode cX9_tiltOf 25 = .ok (.getfield 49, 3) := by decide +kernel
theorem dX9_tiltOf_28 : decode cX9_tiltOf 28 = .ok (.iload_n 1, 1) := by decide +kernel
theorem dX9_tiltOf_29 : decode cX9_tiltOf 29 = .ok (.iaload, 1) := by decide +kernel
theorem dX9_tiltOf_30 : decode cX9_tiltOf 30 = .ok (.if_icmp .gt 20, 3) := by decide +kernel
theorem dX9_tiltOf_33 : decode cX9_tiltOf 33 = .ok (.iload_n 2, 1) := by decide +kernel
theorem dX9_tiltOf_34 : decode cX9_tiltOf 34 = .ok (.aload_n 0, 1) := by decide +kernel
theorem dX9_tiltOf_35 : decode cX9_tiltOf 35 = .ok (.getfield 22, 3) := by decide +kernel
theorem dX9_tiltOf_38 : decode cX9_tiltOf 38 = .ok (.iload_n 3, 1) := by decide +kernel
theorem dX9_tiltOf_39 : decode cX9_tiltOf 39 = .ok (.iaload, 1) := by decide +kernel
theorem dX9_tiltOf_40 : decode cX9_tiltOf 40 = .ok (.invokestatic 194, 3) := by decide +kernel
theorem dX9_tiltOf_43 : decode cX9_tiltOf 43 = .ok (.istore_n 2, 1) := by decide +kernel
theorem dX9_tiltOf_44 : decode cX9_tiltOf 44 = .ok (.iinc 3 1, 3) := by decide +kernel
theorem dX9_tiltOf_47 : decode cX9_tiltOf 47 = .ok (.goto (-24), 3) := by decide +kernel
theorem dX9_tiltOf_50 : decode cX9_tiltOf 50 = .ok (.aload_n 0, 1) := by decide +kernel
theorem dX9_tiltOf_51 : decode cX9_tiltOf 51 = .ok (.iload_n 1, 1) := by decide +kernel
theorem dX9_tiltOf_52 : decode cX9_tiltOf 52 = .ok (.invokevirtual 203, 3) := by decide +kernel
theorem dX9_tiltOf_55 : decode cX9_tiltOf 55 = .ok (.iload_n 2, 1) := by decide +kernel
theorem dX9_tiltOf_56 : decode cX9_tiltOf 56 = .ok (.isub, 1) := by decide +kernel
theorem dX9_tiltOf_57 : decode cX9_tiltOf 57 = .ok (.ireturn, 1) := by decide +kernel
set_option maxRecDepth 20000 in
theorem ggX9_owed_X9_most : GoodIn wsX9_owed wsX9_most := goodIn_ca (goodIn_r _ [12, 13, 14, 15, 2, 3, 4, 5, 16, 17, 18, 19, 20, 21, 22, 23, 24, 25, 26, 27, 28, 29, 30, 31, 32, 33, 34, 35, 36, 37, 38, 39, 40, 41, 42, 43, 44, 45] (by decide +kernel) (by decide +kernel)) (goodIn_sub (fun _ h => List.mem_cons_of_mem _ (List.mem_append_right _ h)) (by decide +kernel))
set_option maxRecDepth 20000 in
theorem gX9_owed_X9_most : GoodIn wsX9_owed (wsV RX9 203 RX9 yX9_most wsX9_most) := goodIn_app (goodIn_of _ (by decide +kernel)) ggX9_owed_X9_most
theorem dX9_owed_0 : decode cX9_owed 0 = .ok (.iconst 0, 1) := by decide +kernel
theorem dX9_owed_1 : decode cX9_owed 1 = .ok (.aload_n 0, 1) := by decide +kernel
theorem dX9_owed_2 : decode cX9_owed 2 = .ok (.iload_n 1, 1) := by decide +kernel
theorem dX9_owed_3 : decode cX9_owed 3 = .ok (.invokevirtual 203, 3) := by decide +kernel
theorem dX9_owed_6 : decode cX9_owed 6 = .ok (.aload_n 0, 1) := by decide +kernel
theorem dX9_owed_7 : decode cX9_owed 7 = .ok (.getfield 52, 3) := by decide +kernel
theorem dX9_owed_10 : decode cX9_owed 10 = .ok (.iload_n 1, 1) := by decide +kernel
theorem dX9_owed_11 : decode cX9_owed 11 = .ok (.iaload, 1) := by decide +kernel
theorem dX9_owed_12 : decode cX9_owed 12 = .ok (.isub, 1) := by decide +kernel
theorem dX9_owed_13 : decode cX9_owed 13 = .ok (.invokestatic 106, 3) := by decide +kernel
theorem dX9_owed_16 : decode cX9_owed 16 = .ok (.aload_n 0, 1) := by decide +kernel
theorem dX9_owed_17 : decode cX9_owed 17 = .ok (.getfield 55, 3) := by decide +kernel
theorem dX9_owed_20 : decode cX9_owed 20 = .ok (.iload_n 1, 1) := by decide +kernel
theorem dX9_owed_21 : decode cX9_owed 21 = .ok (.iaload, 1) := by decide +kernel
theorem dX9_owed_22 : decode cX9_owed 22 = .ok (.imul, 1) := by decide +kernel
theorem dX9_owed_23 : decode cX9_owed 23 = .ok (.aload_n 0, 1) := by decide +kernel
theorem dX9_owed_24 : decode cX9_owed 24 = .ok (.getfield 58, 3) := by decide +kernel
theorem dX9_owed_27 : decode cX9_owed 27 = .ok (.iload_n 1, 1) := by decide +kernel
theorem dX9_owed_28 : decode cX9_owed 28 = .ok (.iaload, 1) := by decide +kernel
theorem dX9_owed_29 : decode cX9_owed 29 = .ok (.isub, 1) := by decide +kernel
theorem dX9_owed_30 : decode cX9_owed 30 = .ok (.ireturn, 1) := by decide +kernel
set_option maxRecDepth 20000 in
theorem ggX9_claimOf_X9_isNoHouse : GoodIn wsX9_claimOf wsX9_isNoHouse := goodIn_r _ [5, 6, 7, 8, 4, 9, 10, 11, 12, 13, 14, 33, 34, 35, 36, 37, 38, 39, 40, 41, 42, 43, 44, 45, 46, 47, 48, 49, 50, 51, 52, 53, 54, 55, 56, 57, 58, 59, 60, 61, 62] (by decide +kernel) (by decide +kernel)
set_option maxRecDepth 20000 in
theorem gX9_claimOf_X9_isNoHouse : GoodIn wsX9_claimOf (wsV RX9 200 RX9 yX9_isNoHouse wsX9_isNoHouse) := goodIn_app (goodIn_of _ (by decide +kernel)) ggX9_claimOf_X9_isNoHouse
set_option maxRecDepth 20000 in
theorem ggX9_claimOf_X9_owed : GoodIn wsX9_claimOf wsX9_owed := goodIn_ca (goodIn_r _ [18, 19, 20, 21, 22, 23, 24, 25, 26, 27, 28, 4, 29, 30, 31, 32, 33, 34, 35, 36, 37, 38, 39, 40, 41, 42, 43, 44, 45, 46, 47, 48, 49, 50, 51, 52, 53, 54, 55, 56, 57, 58, 59, 60, 61, 62] (by decide +kernel) (by decide +kernel)) (goodIn_sub (fun _ h => List.mem_cons_of_mem _ (List.mem_append_right _ h)) (by decide +kernel))
set_option maxRecDepth 20000 in
theorem gX9_claimOf_X9_owed : GoodIn wsX9_claimOf (wsV RX9 206 RX9 yX9_owed wsX9_owed) := goodIn_app (goodIn_of _ (by decide +kernel)) ggX9_claimOf_X9_owed
theorem dX9_claimOf_0 : decode cX9_claimOf 0 = .ok (.aload_n 0, 1) := by decide +kernel
theorem dX9_claimOf_1 : decode cX9_claimOf 1 = .ok (.iload_n 1, 1) := by decide +kernel
theorem dX9_claimOf_2 : decode cX9_claimOf 2 = .ok (.invokevirtual 200, 3) := by decide +kernel
theorem dX9_claimOf_5 : decode cX9_claimOf 5 = .ok (.ifCond .eq 7, 3) := by decide +kernel
theorem dX9_claimOf_8 : decode cX9_claimOf 8 = .ok (.iconst 0, 1) := by decide +kernel
theorem dX9_claimOf_9 : decode cX9_claimOf 9 = .ok (.goto 8, 3) := by decide +kernel
theorem dX9_claimOf_12 : decode cX9_claimOf 12 = .ok (.aload_n 0, 1) := by decide +kernel
theorem dX9_claimOf_13 : decode cX9_claimOf 13 = .ok (.iload_n 1, 1) := by decide +kernel
theorem dX9_claimOf_14 : decode cX9_claimOf 14 = .ok (.invokevirtual 206, 3) := by decide +kernel
theorem dX9_claimOf_17 : decode cX9_claimOf 17 = .ok (.ireturn, 1) := by decide +kernel
set_option maxRecDepth 20000 in
theorem ggX9_claim_X9_isNoHouse : GoodIn wsX9_claim wsX9_isNoHouse := goodIn_r _ [6, 7, 8, 9, 5, 10, 11, 12, 13, 14, 15, 33, 34, 35, 36, 37, 38, 39, 40, 41, 42, 43, 44, 45, 46, 47, 48, 49, 50, 51, 52, 53, 54, 55, 56, 57, 58, 59, 60, 61, 62] (by decide +kernel) (by decide +kernel)
set_option maxRecDepth 20000 in
theorem gX9_claim_X9_isNoHouse : GoodIn wsX9_claim (wsV RX9 200 RX9 yX9_isNoHouse wsX9_isNoHouse) := goodIn_app (goodIn_of _ (by decide +kernel)) ggX9_claim_X9_isNoHouse
set_option maxRecDepth 20000 in
theorem ggX9_claim_X9_owed : GoodIn wsX9_claim wsX9_owed := goodIn_ca (goodIn_r _ [19, 20, 21, 22, 23, 24, 25, 1, 26, 27, 28, 5, 29, 30, 31, 32, 33, 34, 35, 36, 37, 38, 39, 40, 41, 42, 43, 44, 45, 46, 47, 48, 49, 50, 51, 52, 53, 54, 55, 56, 57, 58, 59, 60, 61, 62] (by decide +kernel) (by decide +kernel)) (goodIn_sub (fun _ h => List.mem_cons_of_mem _ (List.mem_append_right _ h)) (by decide +kernel))
set_option maxRecDepth 20000 in
theorem gX9_claim_X9_owed : GoodIn wsX9_claim (wsV RX9 206 RX9 yX9_owed wsX9_owed) := goodIn_app (goodIn_of _ (by decide +kernel)) ggX9_claim_X9_owed
set_option maxRecDepth 20000 in
theorem ggX9_claim_X9_isThrown : GoodIn wsX9_claim wsX9_isThrown := goodIn_r _ [14, 15, 33, 34, 35, 36, 37, 38, 39, 40, 41, 42, 43, 44, 45, 46, 47, 48, 49, 50, 51, 52, 53, 54, 55, 56, 57, 58, 59, 60, 61, 62] (by decide +kernel) (by decide +kernel)
set_option maxRecDepth 20000 in
theorem gX9_claim_X9_isThrown : GoodIn wsX9_claim (wsV RX9 79 RX9 yX9_isThrown wsX9_isThrown) := goodIn_app (goodIn_of _ (by decide +kernel)) ggX9_claim_X9_isThrown
theorem dX9_claim_0 : decode cX9_claim 0 = .ok (.aload_n 0, 1) := by decide +kernel
theorem dX9_claim_1 : decode cX9_claim 1 = .ok (.iload_n 1, 1) := by decide +kernel
theorem dX9_claim_2 : decode cX9_claim 2 = .ok (.invokevirtual 200, 3) := by decide +kernel
theorem dX9_claim_5 : decode cX9_claim 5 = .ok (.ifCond .ne 24, 3) := by decide +kernel
theorem dX9_claim_8 : decode cX9_claim 8 = .ok (.aload_n 0, 1) := by decide +kernel
theorem dX9_claim_9 : decode cX9_claim 9 = .ok (.aload_n 0, 1) := by decide +kernel
theorem dX9_claim_10 : decode cX9_claim 10 = .ok (.iload_n 1, 1) := by decide +kernel
theorem dX9_claim_11 : decode cX9_claim 11 = .ok (.invokevirtual 206, 3) := by decide +kernel
theorem dX9_claim_14 : decode cX9_claim 14 = .ok (.ifCond .ne 7, 3) := by decide +kernel
theorem dX9_claim_17 : decode cX9_claim 17 = .ok (.iconst 1, 1) := by decide +kernel
theorem dX9_claim_18 : decode cX9_claim 18 = .ok (.goto 4, 3) := by decide +kernel
theorem dX9_claim_21 : decode cX9_claim 21 = .ok (.iconst 0, 1) := by decide +kernel
theorem dX9_claim_22 : decode cX9_claim 22 = .ok (.iconst 2, 1) := by decide +kernel
theorem dX9_claim_23 : decode cX9_claim 23 = .ok (.invokevirtual 79, 3) := by decide +kernel
theorem dX9_claim_26 : decode cX9_claim 26 = .ok (.ifCond .eq 5, 3) := by decide +kernel
theorem dX9_claim_29 : decode cX9_claim 29 = .ok (.iconst 0, 1) := by decide +kernel
theorem dX9_claim_30 : decode cX9_claim 30 = .ok (.ireturn, 1) := by decide +kernel
theorem dX9_claim_31 : decode cX9_claim 31 = .ok (.aload_n 0, 1) := by decide +kernel
theorem dX9_claim_32 : decode cX9_claim 32 = .ok (.iload_n 1, 1) := by decide +kernel
theorem dX9_claim_33 : decode cX9_claim 33 = .ok (.invokevirtual 206, 3) := by decide +kernel
theorem dX9_claim_36 : decode cX9_claim 36 = .ok (.istore_n 2, 1) := by decide +kernel
theorem dX9_claim_37 : decode cX9_claim 37 = .ok (.aload_n 0, 1) := by decide +kernel
theorem dX9_claim_38 : decode cX9_claim 38 = .ok (.getfield 58, 3) := by decide +kernel
theorem dX9_claim_41 : decode cX9_claim 41 = .ok (.iload_n 1, 1) := by decide +kernel
theorem dX9_claim_42 : decode cX9_claim 42 = .ok (.dup2, 1) := by decide +kernel
theorem dX9_claim_43 : decode cX9_claim 43 = .ok (.iaload, 1) := by decide +kernel
theorem dX9_claim_44 : decode cX9_claim 44 = .ok (.iload_n 2, 1) := by decide +kernel
theorem dX9_claim_45 : decode cX9_claim 45 = .ok (.iadd, 1) := by decide +kernel
theorem dX9_claim_46 : decode cX9_claim 46 = .ok (.iastore, 1) := by decide +kernel
theorem dX9_claim_47 : decode cX9_claim 47 = .ok (.iload_n 2, 1) := by decide +kernel
theorem dX9_claim_48 : decode cX9_claim 48 = .ok (.ireturn, 1) := by decide +kernel
set_option maxRecDepth 20000 in
theorem ggX9_paidTo_X9_isNoHouse : GoodIn wsX9_paidTo wsX9_isNoHouse := goodIn_r _ [6, 7, 8, 9, 5, 10, 11, 12, 13, 14, 15, 16, 17, 18, 19, 20, 21, 22, 23, 24, 25, 26, 27, 28, 29, 30, 31, 32, 33, 34, 35, 36, 37, 38, 39, 40, 41, 42, 43, 44, 45] (by decide +kernel) (by decide +kernel)
set_option maxRecDepth 20000 in
theorem gX9_paidTo_X9_isNoHouse : GoodIn wsX9_paidTo (wsV RX9 200 RX9 yX9_isNoHouse wsX9_isNoHouse) := goodIn_app (goodIn_of _ (by decide +kernel)) ggX9_paidTo_X9_isNoHouse
theorem dX9_paidTo_0 : decode cX9_paidTo 0 = .ok (.aload_n 0, 1) := by decide +kernel
theorem dX9_paidTo_1 : decode cX9_paidTo 1 = .ok (.iload_n 1, 1) := by decide +kernel
theorem dX9_paidTo_2 : decode cX9_paidTo 2 = .ok (.invokevirtual 200, 3) := by decide +kernel
theorem dX9_paidTo_5 : decode cX9_paidTo 5 = .ok (.ifCond .eq 7, 3) := by decide +kernel
theorem dX9_paidTo_8 : decode cX9_paidTo 8 = .ok (.iconst 0, 1) := by decide +kernel
theorem dX9_paidTo_9 : decode cX9_paidTo 9 = .ok (.goto 9, 3) := by decide +kernel
theorem dX9_paidTo_12 : decode cX9_paidTo 12 = .ok (.aload_n 0, 1) := by decide +kernel
theorem dX9_paidTo_13 : decode cX9_paidTo 13 = .ok (.getfield 58, 3) := by decide +kernel
theorem dX9_paidTo_16 : decode cX9_paidTo 16 = .ok (.iload_n 1, 1) := by decide +kernel
theorem dX9_paidTo_17 : decode cX9_paidTo 17 = .ok (.iaload, 1) := by decide +kernel
theorem dX9_paidTo_18 : decode cX9_paidTo 18 = .ok (.ireturn, 1) := by decide +kernel
theorem dX9_paidTotal_0 : decode cX9_paidTotal 0 = .ok (.aload_n 0, 1) := by decide +kernel
theorem dX9_paidTotal_1 : decode cX9_paidTotal 1 = .ok (.iconst 0, 1) := by decide +kernel
theorem dX9_paidTotal_2 : decode cX9_paidTotal 2 = .ok (.putfield 72, 3) := by decide +kernel
theorem dX9_paidTotal_5 : decode cX9_paidTotal 5 = .ok (.lconst 0, 1) := by decide +kernel
theorem dX9_paidTotal_6 : decode cX9_paidTotal 6 = .ok (.lstore_n 1, 1) := by decide +kernel
theorem dX9_paidTotal_7 : decode cX9_paidTotal 7 = .ok (.iconst 0, 1) := by decide +kernel
theorem dX9_paidTotal_8 : decode cX9_paidTotal 8 = .ok (.istore_n 3, 1) := by decide +kernel
theorem dX9_paidTotal_9 : decode cX9_paidTotal 9 = .ok (.iload_n 3, 1) := by decide +kernel
theorem dX9_paidTotal_10 : decode cX9_paidTotal 10 = .ok (.aload_n 0, 1) := by decide +kernel
theorem dX9_paidTotal_11 : decode cX9_paidTotal 11 = .ok (.getfield 93, 3) := by decide +kernel
theorem dX9_paidTotal_14 : decode cX9_paidTotal 14 = .ok (.if_icmp .ge 19, 3) := by decide +kernel
theorem dX9_paidTotal_17 : decode cX9_paidTotal 17 = .ok (.lload_n 1, 1) := by decide +kernel
theorem dX9_paidTotal_18 : decode cX9_paidTotal 18 = .ok (.aload_n 0, 1) := by decide +kernel
theorem dX9_paidTotal_19 : decode cX9_paidTotal 19 = .ok (.getfield 58, 3) := by decide +kernel
theorem dX9_paidTotal_22 : decode cX9_paidTotal 22 = .ok (.iload_n 3, 1) := by decide +kernel
theorem dX9_paidTotal_23 : decode cX9_paidTotal 23 = .ok (.iaload, 1) := by decide +kernel
theorem dX9_paidTotal_24 : decode cX9_paidTotal 24 = .ok (.i2l, 1) := by decide +kernel
theorem dX9_paidTotal_25 : decode cX9_paidTotal 25 = .ok (.ladd, 1) := by decide +kernel
theorem dX9_paidTotal_26 : decode cX9_paidTotal 26 = .ok (.lstore_n 1, 1) := by decide +kernel
theorem dX9_paidTotal_27 : decode cX9_paidTotal 27 = .ok (.iinc 3 1, 3) := by decide +kernel
theorem dX9_paidTotal_30 : decode cX9_paidTotal 30 = .ok (.goto (-21), 3) := by decide +kernel
theorem dX9_paidTotal_33 : decode cX9_paidTotal 33 = .ok (.lload_n 1, 1) := by decide +kernel
theorem dX9_paidTotal_34 : decode cX9_paidTotal 34 = .ok (.lreturn, 1) := by decide +kernel
set_option maxRecDepth 20000 in
theorem ggX9_worstHouse_X9_most : GoodIn wsX9_worstHouse wsX9_most := goodIn_ca (goodIn_r _ [6, 7, 8, 9, 10, 11, 12, 13, 19, 20, 21, 22, 23, 24, 25, 26, 27, 28, 29, 30, 31, 32, 33, 34, 35, 36, 37, 38, 39, 40, 41, 42, 43, 44, 45, 46, 47, 48] (by decide +kernel) (by decide +kernel)) (goodIn_sub (fun _ h => List.mem_cons_of_mem _ (List.mem_append_right _ h)) (by decide +kernel))
set_option maxRecDepth 20000 in
theorem gX9_worstHouse_X9_most : GoodIn wsX9_worstHouse (wsV RX9 203 RX9 yX9_most wsX9_most) := goodIn_app (goodIn_of _ (by decide +kernel)) ggX9_worstHouse_X9_most
set_option maxRecDepth 20000 in
theorem ggX9_worstHouse_X9_isThrown : GoodIn wsX9_worstHouse wsX9_isThrown := goodIn_r _ [17, 18, 19, 20, 21, 22, 23, 24, 25, 26, 27, 28, 29, 30, 31, 32, 33, 34, 35, 36, 37, 38, 39, 40, 41, 42, 43, 44, 45, 46, 47, 48] (by decide +kernel) (by decide +kernel)
set_option maxRecDepth 20000 in
theorem gX9_worstHouse_X9_isThrown : GoodIn wsX9_worstHouse (wsV RX9 79 RX9 yX9_isThrown wsX9_isThrown) := goodIn_app (goodIn_of _ (by decide +kernel)) ggX9_worstHouse_X9_isThrown
theorem dX9_worstHouse_0 : decode cX9_worstHouse 0 = .ok (.iconst 0, 1) := by decide +kernel
theorem dX9_worstHouse_1 : decode cX9_worstHouse 1 = .ok (.istore_n 1, 1) := by decide +kernel
theorem dX9_worstHouse_2 : decode cX9_worstHouse 2 = .ok (.iconst 1, 1) := by decide +kernel
theorem dX9_worstHouse_3 : decode cX9_worstHouse 3 = .ok (.istore_n 2, 1) := by decide +kernel
theorem dX9_worstHouse_4 : decode cX9_worstHouse 4 = .ok (.iload_n 2, 1) := by decide +kernel
theorem dX9_worstHouse_5 : decode cX9_worstHouse 5 = .ok (.aload_n 0, 1) := by decide +kernel
theorem dX9_worstHouse_6 : decode cX9_worstHouse 6 = .ok (.getfield 93, 3) := by decide +kernel
theorem dX9_worstHouse_9 : decode cX9_worstHouse 9 = .ok (.if_icmp .ge 28, 3) := by decide +kernel
theorem dX9_worstHouse_12 : decode cX9_worstHouse 12 = .ok (.aload_n 0, 1) := by decide +kernel
theorem dX9_worstHouse_13 : decode cX9_worstHouse 13 = .ok (.iload_n 2, 1) := by decide +kernel
theorem dX9_worstHouse_14 : decode cX9_worstHouse 14 = .ok (.invokevirtual 203, 3) := by decide +kernel
theorem dX9_worstHouse_17 : decode cX9_worstHouse 17 = .ok (.aload_n 0, 1) := by decide +kernel
theorem dX9_worstHouse_18 : decode cX9_worstHouse 18 = .ok (.iload_n 1, 1) := by decide +kernel
theorem dX9_worstHouse_19 : decode cX9_worstHouse 19 = .ok (.invokevirtual 203, 3) := by decide +kernel
theorem dX9_worstHouse_22 : decode cX9_worstHouse 22 = .ok (.if_icmp .le 7, 3) := by decide +kernel
theorem dX9_worstHouse_25 : decode cX9_worstHouse 25 = .ok (.iload_n 2, 1) := by decide +kernel
theorem dX9_worstHouse_26 : decode cX9_worstHouse 26 = .ok (.goto 4, 3) := by decide +kernel
theorem dX9_worstHouse_29 : decode cX9_worstHouse 29 = .ok (.iload_n 1, 1) := by decide +kernel
theorem dX9_worstHouse_30 : decode cX9_worstHouse 30 = .ok (.istore_n 1, 1) := by decide +kernel
theorem dX9_worstHouse_31 : decode cX9_worstHouse 31 = .ok (.iinc 2 1, 3) := by decide +kernel
theorem dX9_worstHouse_34 : decode cX9_worstHouse 34 = .ok (.goto (-30), 3) := by decide +kernel
theorem dX9_worstHouse_37 : decode cX9_worstHouse 37 = .ok (.aload_n 0, 1) := by decide +kernel
theorem dX9_worstHouse_38 : decode cX9_worstHouse 38 = .ok (.aload_n 0, 1) := by decide +kernel
theorem dX9_worstHouse_39 : decode cX9_worstHouse 39 = .ok (.getfield 93, 3) := by decide +kernel
theorem dX9_worstHouse_42 : decode cX9_worstHouse 42 = .ok (.ifCond .ne 7, 3) := by decide +kernel
theorem dX9_worstHouse_45 : decode cX9_worstHouse 45 = .ok (.iconst 1, 1) := by decide +kernel
theorem dX9_worstHouse_46 : decode cX9_worstHouse 46 = .ok (.goto 4, 3) := by decide +kernel
theorem dX9_worstHouse_49 : decode cX9_worstHouse 49 = .ok (.iconst 0, 1) := by decide +kernel
theorem dX9_worstHouse_50 : decode cX9_worstHouse 50 = .ok (.iconst 1, 1) := by decide +kernel
theorem dX9_worstHouse_51 : decode cX9_worstHouse 51 = .ok (.invokevirtual 79, 3) := by decide +kernel
theorem dX9_worstHouse_54 : decode cX9_worstHouse 54 = .ok (.ifCond .eq 7, 3) := by decide +kernel
theorem dX9_worstHouse_57 : decode cX9_worstHouse 57 = .ok (.iconst 0, 1) := by decide +kernel
theorem dX9_worstHouse_58 : decode cX9_worstHouse 58 = .ok (.goto 4, 3) := by decide +kernel
theorem dX9_worstHouse_61 : decode cX9_worstHouse 61 = .ok (.iload_n 1, 1) := by decide +kernel
theorem dX9_worstHouse_62 : decode cX9_worstHouse 62 = .ok (.ireturn, 1) := by decide +kernel
set_option maxRecDepth 20000 in
theorem ggX9_meanSinking_X9_isThrown : GoodIn wsX9_meanSinking wsX9_isThrown := goodIn_r _ [7, 8, 9, 10, 11, 12, 13, 14, 15, 16, 17, 18, 19, 20, 21, 22, 23, 24, 25, 26, 27, 28, 29, 30, 31, 32, 33, 34, 35, 36, 37, 38] (by decide +kernel) (by decide +kernel)
set_option maxRecDepth 20000 in
theorem gX9_meanSinking_X9_isThrown : GoodIn wsX9_meanSinking (wsV RX9 79 RX9 yX9_isThrown wsX9_isThrown) := goodIn_app (goodIn_of _ (by decide +kernel)) ggX9_meanSinking_X9_isThrown
theorem dX9_meanSinking_0 : decode cX9_meanSinking 0 = .ok (.iconst 0, 1) := by decide +kernel
theorem dX9_meanSinking_1 : decode cX9_meanSinking 1 = .ok (.istore_n 1, 1) := by decide +kernel
theorem dX9_meanSinking_2 : decode cX9_meanSinking 2 = .ok (.iconst 0, 1) := by decide +kernel
theorem dX9_meanSinking_3 : decode cX9_meanSinking 3 = .ok (.istore_n 2, 1) := by decide +kernel
theorem dX9_meanSinking_4 : decode cX9_meanSinking 4 = .ok (.iload_n 2, 1) := by decide +kernel
theorem dX9_meanSinking_5 : decode cX9_meanSinking 5 = .ok (.aload_n 0, 1) := by decide +kernel
theorem dX9_meanSinking_6 : decode cX9_meanSinking 6 = .ok (.getfield 121, 3) := by decide +kernel
theorem dX9_meanSinking_9 : decode cX9_meanSinking 9 = .ok (.if_icmp .ge 18, 3) := by decide +kernel
theorem dX9_meanSinking_12 : decode cX9_meanSinking 12 = .ok (.iload_n 1, 1) := by decide +kernel
theorem dX9_meanSinking_13 : decode cX9_meanSinking 13 = .ok (.aload_n 0, 1) := by decide +kernel
theorem dX9_meanSinking_14 : decode cX9_meanSinking 14 = .ok (.getfield 22, 3) := by decide +kernel
theorem dX9_meanSinking_17 : decode cX9_meanSinking 17 = .ok (.iload_n 2, 1) := by decide +kernel
theorem dX9_meanSinking_18 : decode cX9_meanSinking 18 = .ok (.iaload, 1) := by decide +kernel
theorem dX9_meanSinking_19 : decode cX9_meanSinking 19 = .ok (.iadd, 1) := by decide +kernel
theorem dX9_meanSinking_20 : decode cX9_meanSinking 20 = .ok (.istore_n 1, 1) := by decide +kernel
theorem dX9_meanSinking_21 : decode cX9_meanSinking 21 = .ok (.iinc 2 1, 3) := by decide +kernel
theorem dX9_meanSinking_24 : decode cX9_meanSinking 24 = .ok (.goto (-20), 3) := by decide +kernel
theorem dX9_meanSinking_27 : decode cX9_meanSinking 27 = .ok (.aload_n 0, 1) := by decide +kernel
theorem dX9_meanSinking_28 : decode cX9_meanSinking 28 = .ok (.aload_n 0, 1) := by decide +kernel
theorem dX9_meanSinking_29 : decode cX9_meanSinking 29 = .ok (.getfield 121, 3) := by decide +kernel
theorem dX9_meanSinking_32 : decode cX9_meanSinking 32 = .ok (.ifCond .ne 7, 3) := by decide +kernel
theorem dX9_meanSinking_35 : decode cX9_meanSinking 35 = .ok (.iconst 1, 1) := by decide +kernel
theorem dX9_meanSinking_36 : decode cX9_meanSinking 36 = .ok (.goto 4, 3) := by decide +kernel
theorem dX9_meanSinking_39 : decode cX9_meanSinking 39 = .ok (.iconst 0, 1) := by decide +kernel
theorem dX9_meanSinking_40 : decode cX9_meanSinking 40 = .ok (.iconst 1, 1) := by decide +kernel
theorem dX9_meanSinking_41 : decode cX9_meanSinking 41 = .ok (.invokevirtual 79, 3) := by decide +kernel
theorem dX9_meanSinking_44 : decode cX9_meanSinking 44 = .ok (.ifCond .eq 7, 3) := by decide +kernel
theorem dX9_meanSinking_47 : decode cX9_meanSinking 47 = .ok (.dconst 0, 1) := by decide +kernel
theorem dX9_meanSinking_48 : decode cX9_meanSinking 48 = .ok (.goto 11, 3) := by decide +kernel
theorem dX9_meanSinking_51 : decode cX9_meanSinking 51 = .ok (.iload_n 1, 1) := by decide +kernel
theorem dX9_meanSinking_52 : decode cX9_meanSinking 52 = .ok (.i2d, 1) := by decide +kernel
theorem dX9_meanSinking_53 : decode cX9_meanSinking 53 = .ok (.aload_n 0, 1) := by decide +kernel
theorem dX9_meanSinking_54 : decode cX9_meanSinking 54 = .ok (.getfield 121, 3) := by decide +kernel
theorem dX9_meanSinking_57 : decode cX9_meanSinking 57 = .ok (.i2d, 1) := by decide +kernel
theorem dX9_meanSinking_58 : decode cX9_meanSinking 58 = .ok (.ddiv, 1) := by decide +kernel
theorem dX9_meanSinking_59 : decode cX9_meanSinking 59 = .ok (.dreturn, 1) := by decide +kernel
theorem dX9_isConsistent_0 : decode cX9_isConsistent 0 = .ok (.aload_n 0, 1) := by decide +kernel
theorem dX9_isConsistent_1 : decode cX9_isConsistent 1 = .ok (.iconst 0, 1) := by decide +kernel
theorem dX9_isConsistent_2 : decode cX9_isConsistent 2 = .ok (.putfield 72, 3) := by decide +kernel
theorem dX9_isConsistent_5 : decode cX9_isConsistent 5 = .ok (.iconst 1, 1) := by decide +kernel
theorem dX9_isConsistent_6 : decode cX9_isConsistent 6 = .ok (.ireturn, 1) := by decide +kernel
theorem dX9_writes_0 : decode cX9_writes 0 = .ok (.aload_n 0, 1) := by decide +kernel
theorem dX9_writes_1 : decode cX9_writes 1 = .ok (.getfield 61, 3) := by decide +kernel
theorem dX9_writes_4 : decode cX9_writes 4 = .ok (.aload_n 0, 1) := by decide +kernel
theorem dX9_writes_5 : decode cX9_writes 5 = .ok (.getfield 209, 3) := by decide +kernel
theorem dX9_writes_8 : decode cX9_writes 8 = .ok (.iload_n 1, 1) := by decide +kernel
theorem dX9_writes_9 : decode cX9_writes 9 = .ok (.i2c, 1) := by decide +kernel
theorem dX9_writes_10 : decode cX9_writes 10 = .ok (.castore, 1) := by decide +kernel
theorem dX9_writes_11 : decode cX9_writes 11 = .ok (.aload_n 0, 1) := by decide +kernel
theorem dX9_writes_12 : decode cX9_writes 12 = .ok (.dup, 1) := by decide +kernel
theorem dX9_writes_13 : decode cX9_writes 13 = .ok (.getfield 209, 3) := by decide +kernel
theorem dX9_writes_16 : decode cX9_writes 16 = .ok (.iconst 1, 1) := by decide +kernel
theorem dX9_writes_17 : decode cX9_writes 17 = .ok (.iadd, 1) := by decide +kernel
theorem dX9_writes_18 : decode cX9_writes 18 = .ok (.putfield 209, 3) := by decide +kernel
theorem dX9_writes_21 : decode cX9_writes 21 = .ok (.return_, 1) := by decide +kernel
set_option maxRecDepth 20000 in
theorem ggX9_writeRings_X9_isNoRing : GoodIn wsX9_writeRings wsX9_isNoRing := goodIn_r _ [9, 2, 10, 11, 8, 12, 13, 14, 15, 16, 17, 23, 24, 25, 26, 27, 28, 29, 30, 31, 32, 33, 34, 35, 36, 37, 38, 39, 40, 41, 42, 43, 44, 45, 46, 47, 48, 49, 50, 51, 52] (by decide +kernel) (by decide +kernel)
set_option maxRecDepth 20000 in
theorem gX9_writeRings_X9_isNoRing : GoodIn wsX9_writeRings (wsV RX9 178 RX9 yX9_isNoRing wsX9_isNoRing) := goodIn_app (goodIn_of _ (by decide +kernel)) ggX9_writeRings_X9_isNoRing
set_option maxRecDepth 20000 in
theorem ggX9_writeRings_X9_writes : GoodIn wsX9_writeRings wsX9_writes := goodIn_ca (goodIn_r _ [21, 22, 1, 23, 24, 25, 26, 27, 28, 29, 30, 31, 32, 33, 34, 35, 36, 37, 38, 39, 40, 41, 42, 43, 44, 45, 46, 47, 48, 49, 50, 51, 52] (by decide +kernel) (by decide +kernel)) (goodIn_sub (fun _ h => List.mem_cons_of_mem _ (List.mem_append_right _ h)) (by decide +kernel))
set_option maxRecDepth 20000 in
theorem gX9_writeRings_X9_writes : GoodIn wsX9_writeRings (wsV RX9 212 RX9 yX9_writes wsX9_writes) := goodIn_app (goodIn_of _ (by decide +kernel)) ggX9_writeRings_X9_writes
theorem dX9_writeRings_0 : decode cX9_writeRings 0 = .ok (.aload_n 0, 1) := by decide +kernel
theorem dX9_writeRings_1 : decode cX9_writeRings 1 = .ok (.iload_n 1, 1) := by decide +kernel
theorem dX9_writeRings_2 : decode cX9_writeRings 2 = .ok (.invokevirtual 178, 3) := by decide +kernel
theorem dX9_writeRings_5 : decode cX9_writeRings 5 = .ok (.ifCond .eq 5, 3) := by decide +kernel
theorem dX9_writeRings_8 : decode cX9_writeRings 8 = .ok (.iconst 0, 1) := by decide +kernel
theorem dX9_writeRings_9 : decode cX9_writeRings 9 = .ok (.ireturn, 1) := by decide +kernel
theorem dX9_writeRings_10 : decode cX9_writeRings 10 = .ok (.aload_n 0, 1) := by decide +kernel
theorem dX9_writeRings_11 : decode cX9_writeRings 11 = .ok (.iconst 0, 1) := by decide +kernel
theorem dX9_writeRings_12 : decode cX9_writeRings 12 = .ok (.putfield 209, 3) := by decide +kernel
theorem dX9_writeRings_15 : decode cX9_writeRings 15 = .ok (.iload_n 1, 1) := by decide +kernel
theorem dX9_writeRings_16 : decode cX9_writeRings 16 = .ok (.istore_n 2, 1) := by decide +kernel
theorem dX9_writeRings_17 : decode cX9_writeRings 17 = .ok (.iload_n 2, 1) := by decide +kernel
theorem dX9_writeRings_18 : decode cX9_writeRings 18 = .ok (.aload_n 0, 1) := by decide +kernel
theorem dX9_writeRings_19 : decode cX9_writeRings 19 = .ok (.getfield 121, 3) := by decide +kernel
theorem dX9_writeRings_22 : decode cX9_writeRings 22 = .ok (.if_icmp .ge 60, 3) := by decide +kernel
theorem dX9_writeRings_25 : decode cX9_writeRings 25 = .ok (.iload_n 2, 1) := by decide +kernel
theorem dX9_writeRings_26 : decode cX9_writeRings 26 = .ok (.iload_n 1, 1) := by decide +kernel
theorem dX9_writeRings_27 : decode cX9_writeRings 27 = .ok (.bipush 10, 2) := by decide +kernel
theorem dX9_writeRings_29 : decode cX9_writeRings 29 = .ok (.iadd, 1) := by decide +kernel
theorem dX9_writeRings_30 : decode cX9_writeRings 30 = .ok (.if_icmp .ge 52, 3) := by decide +kernel
theorem dX9_writeRings_33 : decode cX9_writeRings 33 = .ok (.iload_n 2, 1) := by decide +kernel
theorem dX9_writeRings_34 : decode cX9_writeRings 34 = .ok (.iload_n 1, 1) := by decide +kernel
theorem dX9_writeRings_35 : decode cX9_writeRings 35 = .ok (.if_icmp .le 9, 3) := by decide +kernel
theorem dX9_writeRings_38 : decode cX9_writeRings 38 = .ok (.aload_n 0, 1) := by decide +kernel
theorem dX9_writeRings_39 : decode cX9_writeRings 39 = .ok (.bipush 32, 2) := by decide +kernel
theorem dX9_writeRings_41 : decode cX9_writeRings 41 = .ok (.invokevirtual 212, 3) := by decide +kernel
theorem dX9_writeRings_44 : decode cX9_writeRings 44 = .ok (.aload_n 0, 1) := by decide +kernel
theorem dX9_writeRings_45 : decode cX9_writeRings 45 = .ok (.bipush 48, 2) := by decide +kernel
theorem dX9_writeRings_47 : decode cX9_writeRings 47 = .ok (.aload_n 0, 1) := by decide +kernel
theorem dX9_writeRings_48 : decode cX9_writeRings 48 = .ok (.getfield 25, 3) := by decide +kernel
theorem dX9_writeRings_51 : decode cX9_writeRings 51 = .ok (.iload_n 2, 1) := by decide +kernel
theorem dX9_writeRings_52 : decode cX9_writeRings 52 = .ok (.iaload, 1) := by decide +kernel
theorem dX9_writeRings_53 : decode cX9_writeRings 53 = .ok (.iadd, 1) := by decide +kernel
theorem dX9_writeRings_54 : decode cX9_writeRings 54 = .ok (.invokevirtual 212, 3) := by decide +kernel
theorem dX9_writeRings_57 : decode cX9_writeRings 57 = .ok (.aload_n 0, 1) := by decide +kernel
theorem dX9_writeRings_58 : decode cX9_writeRings 58 = .ok (.bipush 47, 2) := by decide +kernel
theorem dX9_writeRings_60 : decode cX9_writeRings 60 = .ok (.invokevirtual 212, 3) := by decide +kernel
theorem dX9_writeRings_63 : decode cX9_writeRings 63 = .ok (.aload_n 0, 1) := by decide +kernel
theorem dX9_writeRings_64 : decode cX9_writeRings 64 = .ok (.bipush 48, 2) := by decide +kernel
theorem dX9_writeRings_66 : decode cX9_writeRings 66 = .ok (.aload_n 0, 1) := by decide +kernel
theorem dX9_writeRings_67 : decode cX9_writeRings 67 = .ok (.getfield 28, 3) := by decide +kernel
theorem dX9_writeRings_70 : decode cX9_writeRings 70 = .ok (.iload_n 2, 1) := by decide +kernel
theorem dX9_writeRings_71 : decode cX9_writeRings 71 = .ok (.iaload, 1) := by decide +kernel
theorem dX9_writeRings_72 : decode cX9_writeRings 72 = .ok (.iadd, 1) := by decide +kernel
theorem dX9_writeRings_73 : decode cX9_writeRings 73 = .ok (.invokevirtual 212, 3) := by decide +kernel
theorem dX9_writeRings_76 : decode cX9_writeRings 76 = .ok (.iinc 2 1, 3) := by decide +kernel
theorem dX9_writeRings_79 : decode cX9_writeRings 79 = .ok (.goto (-62), 3) := by decide +kernel
theorem dX9_writeRings_82 : decode cX9_writeRings 82 = .ok (.aload_n 0, 1) := by decide +kernel
theorem dX9_writeRings_83 : decode cX9_writeRings 83 = .ok (.getfield 209, 3) := by decide +kernel
theorem dX9_writeRings_86 : decode cX9_writeRings 86 = .ok (.ireturn, 1) := by decide +kernel
set_option maxRecDepth 20000 in
theorem ggX9_lineAt_X9_isIn : GoodIn wsX9_lineAt wsX9_isIn := goodIn_r _ [6] (by decide +kernel) (by decide +kernel)
set_option maxRecDepth 20000 in
theorem gX9_lineAt_X9_isIn : GoodIn wsX9_lineAt (va_wsS RX9 75 yX9_isIn wsX9_isIn) := goodIn_app (goodIn_of _ (by decide +kernel)) ggX9_lineAt_X9_isIn
set_option maxRecDepth 20000 in
theorem ggX9_lineAt_X9_isThrown : GoodIn wsX9_lineAt wsX9_isThrown := goodIn_r _ [10, 11, 12, 13, 14, 15, 16, 17, 18, 19, 20, 21, 22, 23, 24, 25, 26, 27, 28, 29, 30, 31, 32, 33, 34, 35, 36, 37, 38, 39, 40, 41] (by decide +kernel) (by decide +kernel)
set_option maxRecDepth 20000 in
theorem gX9_lineAt_X9_isThrown : GoodIn wsX9_lineAt (wsV RX9 79 RX9 yX9_isThrown wsX9_isThrown) := goodIn_app (goodIn_of _ (by decide +kernel)) ggX9_lineAt_X9_isThrown
theorem dX9_lineAt_0 : decode cX9_lineAt 0 = .ok (.aload_n 0, 1) := by decide +kernel
theorem dX9_lineAt_1 : decode cX9_lineAt 1 = .ok (.iload_n 1, 1) := by decide +kernel
theorem dX9_lineAt_2 : decode cX9_lineAt 2 = .ok (.iconst 0, 1) := by decide +kernel
theorem dX9_lineAt_3 : decode cX9_lineAt 3 = .ok (.aload_n 0, 1) := by decide +kernel
theorem dX9_lineAt_4 : decode cX9_lineAt 4 = .ok (.getfield 209, 3) := by decide +kernel
theorem dX9_lineAt_7 : decode cX9_lineAt 7 = .ok (.iconst 1, 1) := by decide +kernel
theorem dX9_lineAt_8 : decode cX9_lineAt 8 = .ok (.isub, 1) := by decide +kernel
theorem dX9_lineAt_9 : decode cX9_lineAt 9 = .ok (.invokestatic 75, 3) := by decide +kernel
theorem dX9_lineAt_12 : decode cX9_lineAt 12 = .ok (.ifCond .ne 7, 3) := by decide +kernel
theorem dX9_lineAt_15 : decode cX9_lineAt 15 = .ok (.iconst 1, 1) := by decide +kernel
theorem dX9_lineAt_16 : decode cX9_lineAt 16 = .ok (.goto 4, 3) := by decide +kernel
theorem dX9_lineAt_19 : decode cX9_lineAt 19 = .ok (.iconst 0, 1) := by decide +kernel
theorem dX9_lineAt_20 : decode cX9_lineAt 20 = .ok (.iconst 1, 1) := by decide +kernel
theorem dX9_lineAt_21 : decode cX9_lineAt 21 = .ok (.invokevirtual 79, 3) := by decide +kernel
theorem dX9_lineAt_24 : decode cX9_lineAt 24 = .ok (.ifCond .eq 8, 3) := by decide +kernel
theorem dX9_lineAt_27 : decode cX9_lineAt 27 = .ok (.bipush 45, 2) := by decide +kernel
theorem dX9_lineAt_29 : decode cX9_lineAt 29 = .ok (.goto 9, 3) := by decide +kernel
theorem dX9_lineAt_32 : decode cX9_lineAt 32 = .ok (.aload_n 0, 1) := by decide +kernel
theorem dX9_lineAt_33 : decode cX9_lineAt 33 = .ok (.getfield 61, 3) := by decide +kernel
theorem dX9_lineAt_36 : decode cX9_lineAt 36 = .ok (.iload_n 1, 1) := by decide +kernel
theorem dX9_lineAt_37 : decode cX9_lineAt 37 = .ok (.caload, 1) := by decide +kernel
theorem dX9_lineAt_38 : decode cX9_lineAt 38 = .ok (.ireturn, 1) := by decide +kernel
theorem dJx00060_init_a7421_0 : decode cJx00060_init_a7421 0 = .ok (.aload_n 0, 1) := by decide +kernel
theorem dJx00060_init_a7421_1 : decode cJx00060_init_a7421 1 = .ok (.aload_n 1, 1) := by decide +kernel
theorem dJx00060_init_a7421_2 : decode cJx00060_init_a7421 2 = .ok (.invokespecial 7, 3) := by decide +kernel
theorem dJx00060_init_a7421_5 : decode cJx00060_init_a7421 5 = .ok (.return_, 1) := by decide +kernel
theorem dJ9_abs_0f7a4_0 : decode cJ9_abs_0f7a4 0 = .ok (.iload_n 0, 1) := by decide +kernel
theorem dJ9_abs_0f7a4_1 : decode cJ9_abs_0f7a4 1 = .ok (.ifCond .ge 8, 3) := by decide +kernel
theorem dJ9_abs_0f7a4_4 : decode cJ9_abs_0f7a4 4 = .ok (.iload_n 0, 1) := by decide +kernel
theorem dJ9_abs_0f7a4_5 : decode cJ9_abs_0f7a4 5 = .ok (.ineg, 1) := by decide +kernel
theorem dJ9_abs_0f7a4_6 : decode cJ9_abs_0f7a4 6 = .ok (.goto 4, 3) := by decide +kernel
theorem dJ9_abs_0f7a4_9 : decode cJ9_abs_0f7a4 9 = .ok (.iload_n 0, 1) := by decide +kernel
theorem dJ9_abs_0f7a4_10 : decode cJ9_abs_0f7a4 10 = .ok (.ireturn, 1) := by decide +kernel
theorem dJ9_max_7cf53_0 : decode cJ9_max_7cf53 0 = .ok (.iload_n 0, 1) := by decide +kernel
theorem dJ9_max_7cf53_1 : decode cJ9_max_7cf53 1 = .ok (.iload_n 1, 1) := by decide +kernel
theorem dJ9_max_7cf53_2 : decode cJ9_max_7cf53 2 = .ok (.if_icmp .lt 7, 3) := by decide +kernel
theorem dJ9_max_7cf53_5 : decode cJ9_max_7cf53 5 = .ok (.iload_n 0, 1) := by decide +kernel
theorem dJ9_max_7cf53_6 : decode cJ9_max_7cf53 6 = .ok (.goto 4, 3) := by decide +kernel
theorem dJ9_max_7cf53_9 : decode cJ9_max_7cf53 9 = .ok (.iload_n 1, 1) := by decide +kernel
theorem dJ9_max_7cf53_10 : decode cJ9_max_7cf53 10 = .ok (.ireturn, 1) := by decide +kernel
theorem dJ9_min_7cf53_0 : decode cJ9_min_7cf53 0 = .ok (.iload_n 0, 1) := by decide +kernel
theorem dJ9_min_7cf53_1 : decode cJ9_min_7cf53 1 = .ok (.iload_n 1, 1) := by decide +kernel
theorem dJ9_min_7cf53_2 : decode cJ9_min_7cf53 2 = .ok (.if_icmp .gt 7, 3) := by decide +kernel
theorem dJ9_min_7cf53_5 : decode cJ9_min_7cf53 5 = .ok (.iload_n 0, 1) := by decide +kernel
theorem dJ9_min_7cf53_6 : decode cJ9_min_7cf53 6 = .ok (.goto 4, 3) := by decide +kernel
theorem dJ9_min_7cf53_9 : decode cJ9_min_7cf53 9 = .ok (.iload_n 1, 1) := by decide +kernel
theorem dJ9_min_7cf53_10 : decode cJ9_min_7cf53 10 = .ok (.ireturn, 1) := by decide +kernel
