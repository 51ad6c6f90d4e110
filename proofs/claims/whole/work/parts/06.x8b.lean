theorem dX8_stop_51 : decode cX8_stop 51 = .ok (.aload_n 0, 1) := by decide +kernel
theorem dX8_stop_52 : decode cX8_stop 52 = .ok (.getfield 75, 3) := by decide +kernel
theorem dX8_stop_55 : decode cX8_stop 55 = .ok (.ireturn, 1) := by decide +kernel
theorem dX8_clock_0 : decode cX8_clock 0 = .ok (.aload_n 0, 1) := by decide +kernel
theorem dX8_clock_1 : decode cX8_clock 1 = .ok (.getfield 75, 3) := by decide +kernel
theorem dX8_clock_4 : decode cX8_clock 4 = .ok (.ireturn, 1) := by decide +kernel
theorem dX8_ringCount_0 : decode cX8_ringCount 0 = .ok (.aload_n 0, 1) := by decide +kernel
theorem dX8_ringCount_1 : decode cX8_ringCount 1 = .ok (.getfield 40, 3) := by decide +kernel
theorem dX8_ringCount_4 : decode cX8_ringCount 4 = .ok (.getfield 178, 3) := by decide +kernel
theorem dX8_ringCount_7 : decode cX8_ringCount 7 = .ok (.ireturn, 1) := by decide +kernel
set_option maxRecDepth 20000 in
theorem ggX8_positionOf_X8_checkLaid : GoodIn wsX8_positionOf wsX8_checkLaid := goodIn_ca (goodIn_r _ [7, 8, 9, 1, 10, 11, 12, 13, 14, 15, 16, 17, 18, 19, 20, 21, 22, 23, 24, 25, 26, 27, 28] (by decide +kernel) (by decide +kernel)) (goodIn_sub (fun _ h => List.mem_cons_of_mem _ (List.mem_append_right _ h)) (by decide +kernel))
set_option maxRecDepth 20000 in
theorem gX8_positionOf_X8_checkLaid : GoodIn wsX8_positionOf (wsV RX8 218 RX8 yX8_checkLaid wsX8_checkLaid) := goodIn_app (goodIn_of _ (by decide +kernel)) ggX8_positionOf_X8_checkLaid
theorem dX8_positionOf_0 : decode cX8_positionOf 0 = .ok (.aload_n 0, 1) := by decide +kernel
theorem dX8_positionOf_1 : decode cX8_positionOf 1 = .ok (.iload_n 1, 1) := by decide +kernel
theorem dX8_positionOf_2 : decode cX8_positionOf 2 = .ok (.invokevirtual 218, 3) := by decide +kernel
theorem dX8_positionOf_5 : decode cX8_positionOf 5 = .ok (.aload_n 0, 1) := by decide +kernel
theorem dX8_positionOf_6 : decode cX8_positionOf 6 = .ok (.getfield 40, 3) := by decide +kernel
theorem dX8_positionOf_9 : decode cX8_positionOf 9 = .ok (.getfield 221, 3) := by decide +kernel
theorem dX8_positionOf_12 : decode cX8_positionOf 12 = .ok (.iload_n 1, 1) := by decide +kernel
theorem dX8_positionOf_13 : decode cX8_positionOf 13 = .ok (.iaload, 1) := by decide +kernel
theorem dX8_positionOf_14 : decode cX8_positionOf 14 = .ok (.ireturn, 1) := by decide +kernel
set_option maxRecDepth 20000 in
theorem ggX8_taperOf_X8_checkLaid : GoodIn wsX8_taperOf wsX8_checkLaid := goodIn_ca (goodIn_r _ [7, 8, 9, 1, 10, 11, 12, 13, 14, 15, 16, 17, 18, 19, 20, 21, 22, 23, 24, 25, 26, 27, 28] (by decide +kernel) (by decide +kernel)) (goodIn_sub (fun _ h => List.mem_cons_of_mem _ (List.mem_append_right _ h)) (by decide +kernel))
set_option maxRecDepth 20000 in
theorem gX8_taperOf_X8_checkLaid : GoodIn wsX8_taperOf (wsV RX8 218 RX8 yX8_checkLaid wsX8_checkLaid) := goodIn_app (goodIn_of _ (by decide +kernel)) ggX8_taperOf_X8_checkLaid
theorem dX8_taperOf_0 : decode cX8_taperOf 0 = .ok (.aload_n 0, 1) := by decide +kernel
theorem dX8_taperOf_1 : decode cX8_taperOf 1 = .ok (.iload_n 1, 1) := by decide +kernel
theorem dX8_taperOf_2 : decode cX8_taperOf 2 = .ok (.invokevirtual 218, 3) := by decide +kernel
theorem dX8_taperOf_5 : decode cX8_taperOf 5 = .ok (.aload_n 0, 1) := by decide +kernel
theorem dX8_taperOf_6 : decode cX8_taperOf 6 = .ok (.getfield 40, 3) := by decide +kernel
theorem dX8_taperOf_9 : decode cX8_taperOf 9 = .ok (.getfield 224, 3) := by decide +kernel
theorem dX8_taperOf_12 : decode cX8_taperOf 12 = .ok (.iload_n 1, 1) := by decide +kernel
theorem dX8_taperOf_13 : decode cX8_taperOf 13 = .ok (.iaload, 1) := by decide +kernel
theorem dX8_taperOf_14 : decode cX8_taperOf 14 = .ok (.ireturn, 1) := by decide +kernel
set_option maxRecDepth 20000 in
theorem ggX8_xAfter_X8_checkLaid : GoodIn wsX8_xAfter wsX8_checkLaid := goodIn_ca (goodIn_r _ [7, 8, 9, 1, 10, 11, 12, 13, 14, 15, 16, 17, 18, 19, 20, 21, 22, 23, 24, 25, 26, 27, 28] (by decide +kernel) (by decide +kernel)) (goodIn_sub (fun _ h => List.mem_cons_of_mem _ (List.mem_append_right _ h)) (by decide +kernel))
set_option maxRecDepth 20000 in
theorem gX8_xAfter_X8_checkLaid : GoodIn wsX8_xAfter (wsV RX8 218 RX8 yX8_checkLaid wsX8_checkLaid) := goodIn_app (goodIn_of _ (by decide +kernel)) ggX8_xAfter_X8_checkLaid
theorem dX8_xAfter_0 : decode cX8_xAfter 0 = .ok (.aload_n 0, 1) := by decide +kernel
theorem dX8_xAfter_1 : decode cX8_xAfter 1 = .ok (.iload_n 1, 1) := by decide +kernel
theorem dX8_xAfter_2 : decode cX8_xAfter 2 = .ok (.invokevirtual 218, 3) := by decide +kernel
theorem dX8_xAfter_5 : decode cX8_xAfter 5 = .ok (.aload_n 0, 1) := by decide +kernel
theorem dX8_xAfter_6 : decode cX8_xAfter 6 = .ok (.getfield 40, 3) := by decide +kernel
theorem dX8_xAfter_9 : decode cX8_xAfter 9 = .ok (.getfield 227, 3) := by decide +kernel
theorem dX8_xAfter_12 : decode cX8_xAfter 12 = .ok (.iload_n 1, 1) := by decide +kernel
theorem dX8_xAfter_13 : decode cX8_xAfter 13 = .ok (.iaload, 1) := by decide +kernel
theorem dX8_xAfter_14 : decode cX8_xAfter 14 = .ok (.ireturn, 1) := by decide +kernel
set_option maxRecDepth 20000 in
theorem ggX8_yAfter_X8_checkLaid : GoodIn wsX8_yAfter wsX8_checkLaid := goodIn_ca (goodIn_r _ [7, 8, 9, 1, 10, 11, 12, 13, 14, 15, 16, 17, 18, 19, 20, 21, 22, 23, 24, 25, 26, 27, 28] (by decide +kernel) (by decide +kernel)) (goodIn_sub (fun _ h => List.mem_cons_of_mem _ (List.mem_append_right _ h)) (by decide +kernel))
set_option maxRecDepth 20000 in
theorem gX8_yAfter_X8_checkLaid : GoodIn wsX8_yAfter (wsV RX8 218 RX8 yX8_checkLaid wsX8_checkLaid) := goodIn_app (goodIn_of _ (by decide +kernel)) ggX8_yAfter_X8_checkLaid
theorem dX8_yAfter_0 : decode cX8_yAfter 0 = .ok (.aload_n 0, 1) := by decide +kernel
theorem dX8_yAfter_1 : decode cX8_yAfter 1 = .ok (.iload_n 1, 1) := by decide +kernel
theorem dX8_yAfter_2 : decode cX8_yAfter 2 = .ok (.invokevirtual 218, 3) := by decide +kernel
theorem dX8_yAfter_5 : decode cX8_yAfter 5 = .ok (.aload_n 0, 1) := by decide +kernel
theorem dX8_yAfter_6 : decode cX8_yAfter 6 = .ok (.getfield 40, 3) := by decide +kernel
theorem dX8_yAfter_9 : decode cX8_yAfter 9 = .ok (.getfield 230, 3) := by decide +kernel
theorem dX8_yAfter_12 : decode cX8_yAfter 12 = .ok (.iload_n 1, 1) := by decide +kernel
theorem dX8_yAfter_13 : decode cX8_yAfter 13 = .ok (.iaload, 1) := by decide +kernel
theorem dX8_yAfter_14 : decode cX8_yAfter 14 = .ok (.ireturn, 1) := by decide +kernel
set_option maxRecDepth 20000 in
theorem ggX8_xAnew_X8_checkLaid : GoodIn wsX8_xAnew wsX8_checkLaid := goodIn_ca (goodIn_r _ [7, 8, 9, 10, 11, 35, 36, 37, 38, 39, 40, 41, 42, 43, 44, 45, 46, 51, 52, 53, 54, 55, 56] (by decide +kernel) (by decide +kernel)) (goodIn_sub (fun _ h => List.mem_cons_of_mem _ (List.mem_append_left _ (List.mem_append_right _ h))) (by decide +kernel))
set_option maxRecDepth 20000 in
theorem gX8_xAnew_X8_checkLaid : GoodIn wsX8_xAnew (wsV RX8 218 RX8 yX8_checkLaid wsX8_checkLaid) := goodIn_app (goodIn_of _ (by decide +kernel)) ggX8_xAnew_X8_checkLaid
set_option maxRecDepth 20000 in
theorem ggX8_xAnew_X8_followRings : GoodIn wsX8_xAnew wsX8_followRings := goodIn_ca (goodIn_r _ [15, 1, 10, 16, 17, 18, 19, 20, 21, 22, 23, 24, 25, 26, 27, 28, 29, 30, 31, 32, 33, 34, 35, 36, 37, 38, 39, 40, 41, 42, 43, 44, 45, 46, 51, 52, 53, 54, 55, 56, 47, 48, 49, 50] (by decide +kernel) (by decide +kernel)) (goodIn_sub (fun _ h => List.mem_cons_of_mem _ (List.mem_append_right _ h)) (by decide +kernel))
set_option maxRecDepth 20000 in
theorem gX8_xAnew_X8_followRings : GoodIn wsX8_xAnew (wsV RX8 233 RX8 yX8_followRings wsX8_followRings) := goodIn_app (goodIn_of _ (by decide +kernel)) ggX8_xAnew_X8_followRings
theorem dX8_xAnew_0 : decode cX8_xAnew 0 = .ok (.aload_n 0, 1) := by decide +kernel
theorem dX8_xAnew_1 : decode cX8_xAnew 1 = .ok (.iload_n 1, 1) := by decide +kernel
theorem dX8_xAnew_2 : decode cX8_xAnew 2 = .ok (.invokevirtual 218, 3) := by decide +kernel
theorem dX8_xAnew_5 : decode cX8_xAnew 5 = .ok (.aload_n 0, 1) := by decide +kernel
theorem dX8_xAnew_6 : decode cX8_xAnew 6 = .ok (.iload_n 1, 1) := by decide +kernel
theorem dX8_xAnew_7 : decode cX8_xAnew 7 = .ok (.iconst 1, 1) := by decide +kernel
theorem dX8_xAnew_8 : decode cX8_xAnew 8 = .ok (.iadd, 1) := by decide +kernel
theorem dX8_xAnew_9 : decode cX8_xAnew 9 = .ok (.invokevirtual 233, 3) := by decide +kernel
theorem dX8_xAnew_12 : decode cX8_xAnew 12 = .ok (.aload_n 0, 1) := by decide +kernel
theorem dX8_xAnew_13 : decode cX8_xAnew 13 = .ok (.getfield 54, 3) := by decide +kernel
theorem dX8_xAnew_16 : decode cX8_xAnew 16 = .ok (.getfield 236, 3) := by decide +kernel
theorem dX8_xAnew_19 : decode cX8_xAnew 19 = .ok (.ireturn, 1) := by decide +kernel
set_option maxRecDepth 20000 in
theorem ggX8_yAnew_X8_checkLaid : GoodIn wsX8_yAnew wsX8_checkLaid := goodIn_ca (goodIn_r _ [7, 8, 9, 10, 11, 35, 36, 37, 38, 39, 40, 41, 42, 43, 44, 45, 46, 51, 52, 53, 54, 55, 56] (by decide +kernel) (by decide +kernel)) (goodIn_sub (fun _ h => List.mem_cons_of_mem _ (List.mem_append_left _ (List.mem_append_right _ h))) (by decide +kernel))
set_option maxRecDepth 20000 in
theorem gX8_yAnew_X8_checkLaid : GoodIn wsX8_yAnew (wsV RX8 218 RX8 yX8_checkLaid wsX8_checkLaid) := goodIn_app (goodIn_of _ (by decide +kernel)) ggX8_yAnew_X8_checkLaid
set_option maxRecDepth 20000 in
theorem ggX8_yAnew_X8_followRings : GoodIn wsX8_yAnew wsX8_followRings := goodIn_ca (goodIn_r _ [15, 1, 10, 16, 17, 18, 19, 20, 21, 22, 23, 24, 25, 26, 27, 28, 29, 30, 31, 32, 33, 34, 35, 36, 37, 38, 39, 40, 41, 42, 43, 44, 45, 46, 51, 52, 53, 54, 55, 56, 47, 48, 49, 50] (by decide +kernel) (by decide +kernel)) (goodIn_sub (fun _ h => List.mem_cons_of_mem _ (List.mem_append_right _ h)) (by decide +kernel))
set_option maxRecDepth 20000 in
theorem gX8_yAnew_X8_followRings : GoodIn wsX8_yAnew (wsV RX8 233 RX8 yX8_followRings wsX8_followRings) := goodIn_app (goodIn_of _ (by decide +kernel)) ggX8_yAnew_X8_followRings
theorem dX8_yAnew_0 : decode cX8_yAnew 0 = .ok (.aload_n 0, 1) := by decide +kernel
theorem dX8_yAnew_1 : decode cX8_yAnew 1 = .ok (.iload_n 1, 1) := by decide +kernel
theorem dX8_yAnew_2 : decode cX8_yAnew 2 = .ok (.invokevirtual 218, 3) := by decide +kernel
theorem dX8_yAnew_5 : decode cX8_yAnew 5 = .ok (.aload_n 0, 1) := by decide +kernel
theorem dX8_yAnew_6 : decode cX8_yAnew 6 = .ok (.iload_n 1, 1) := by decide +kernel
theorem dX8_yAnew_7 : decode cX8_yAnew 7 = .ok (.iconst 1, 1) := by decide +kernel
theorem dX8_yAnew_8 : decode cX8_yAnew 8 = .ok (.iadd, 1) := by decide +kernel
theorem dX8_yAnew_9 : decode cX8_yAnew 9 = .ok (.invokevirtual 233, 3) := by decide +kernel
theorem dX8_yAnew_12 : decode cX8_yAnew 12 = .ok (.aload_n 0, 1) := by decide +kernel
theorem dX8_yAnew_13 : decode cX8_yAnew 13 = .ok (.getfield 54, 3) := by decide +kernel
theorem dX8_yAnew_16 : decode cX8_yAnew 16 = .ok (.getfield 239, 3) := by decide +kernel
theorem dX8_yAnew_19 : decode cX8_yAnew 19 = .ok (.ireturn, 1) := by decide +kernel
set_option maxRecDepth 20000 in
theorem ggX8_deviationAfter_X8_checkLaid : GoodIn wsX8_deviationAfter wsX8_checkLaid := goodIn_ca (goodIn_r _ [15, 16, 17, 1, 18, 49, 50, 51, 52, 53, 54, 55, 56, 57, 58, 59, 60, 61, 62, 63, 64, 65, 66] (by decide +kernel) (by decide +kernel)) (goodIn_sub (fun _ h => List.mem_cons_of_mem _ (List.mem_append_right _ h)) (by decide +kernel))
set_option maxRecDepth 20000 in
theorem gX8_deviationAfter_X8_checkLaid : GoodIn wsX8_deviationAfter (wsV RX8 218 RX8 yX8_checkLaid wsX8_checkLaid) := goodIn_app (goodIn_of _ (by decide +kernel)) ggX8_deviationAfter_X8_checkLaid
set_option maxRecDepth 20000 in
theorem ggX8_deviationAfter_X8_followPlan : GoodIn wsX8_deviationAfter wsX8_followPlan := goodIn_ca (goodIn_r _ [22, 3, 23, 24, 25, 26, 27, 28, 29, 30, 31, 32, 33, 34, 35, 36, 37, 38, 39, 40, 41, 42, 43, 44, 45, 46, 47, 48, 49, 50, 51, 52, 53, 54, 55, 56, 57, 58, 59, 60, 67, 68, 69, 70, 71, 72, 73] (by decide +kernel) (by decide +kernel)) (goodIn_sub (fun _ h => List.mem_cons_of_mem _ (List.mem_append_left _ (List.mem_append_right _ h))) (by decide +kernel))
set_option maxRecDepth 20000 in
theorem gX8_deviationAfter_X8_followPlan : GoodIn wsX8_deviationAfter (wsV RX8 242 RX8 yX8_followPlan wsX8_followPlan) := goodIn_app (goodIn_of _ (by decide +kernel)) ggX8_deviationAfter_X8_followPlan
theorem dX8_deviationAfter_0 : decode cX8_deviationAfter 0 = .ok (.aload_n 0, 1) := by decide +kernel
theorem dX8_deviationAfter_1 : decode cX8_deviationAfter 1 = .ok (.iload_n 1, 1) := by decide +kernel
theorem dX8_deviationAfter_2 : decode cX8_deviationAfter 2 = .ok (.invokevirtual 218, 3) := by decide +kernel
theorem dX8_deviationAfter_5 : decode cX8_deviationAfter 5 = .ok (.aload_n 0, 1) := by decide +kernel
theorem dX8_deviationAfter_6 : decode cX8_deviationAfter 6 = .ok (.iload_n 1, 1) := by decide +kernel
theorem dX8_deviationAfter_7 : decode cX8_deviationAfter 7 = .ok (.iconst 1, 1) := by decide +kernel
theorem dX8_deviationAfter_8 : decode cX8_deviationAfter 8 = .ok (.iadd, 1) := by decide +kernel
theorem dX8_deviationAfter_9 : decode cX8_deviationAfter 9 = .ok (.invokevirtual 242, 3) := by decide +kernel
theorem dX8_deviationAfter_12 : decode cX8_deviationAfter 12 = .ok (.aload_n 0, 1) := by decide +kernel
theorem dX8_deviationAfter_13 : decode cX8_deviationAfter 13 = .ok (.getfield 40, 3) := by decide +kernel
theorem dX8_deviationAfter_16 : decode cX8_deviationAfter 16 = .ok (.getfield 227, 3) := by decide +kernel
theorem dX8_deviationAfter_19 : decode cX8_deviationAfter 19 = .ok (.iload_n 1, 1) := by decide +kernel
theorem dX8_deviationAfter_20 : decode cX8_deviationAfter 20 = .ok (.iaload, 1) := by decide +kernel
theorem dX8_deviationAfter_21 : decode cX8_deviationAfter 21 = .ok (.aload_n 0, 1) := by decide +kernel
theorem dX8_deviationAfter_22 : decode cX8_deviationAfter 22 = .ok (.getfield 54, 3) := by decide +kernel
theorem dX8_deviationAfter_25 : decode cX8_deviationAfter 25 = .ok (.getfield 236, 3) := by decide +kernel
theorem dX8_deviationAfter_28 : decode cX8_deviationAfter 28 = .ok (.isub, 1) := by decide +kernel
theorem dX8_deviationAfter_29 : decode cX8_deviationAfter 29 = .ok (.invokestatic 245, 3) := by decide +kernel
theorem dX8_deviationAfter_32 : decode cX8_deviationAfter 32 = .ok (.aload_n 0, 1) := by decide +kernel
theorem dX8_deviationAfter_33 : decode cX8_deviationAfter 33 = .ok (.getfield 40, 3) := by decide +kernel
theorem dX8_deviationAfter_36 : decode cX8_deviationAfter 36 = .ok (.getfield 230, 3) := by decide +kernel
theorem dX8_deviationAfter_39 : decode cX8_deviationAfter 39 = .ok (.iload_n 1, 1) := by decide +kernel
theorem dX8_deviationAfter_40 : decode cX8_deviationAfter 40 = .ok (.iaload, 1) := by decide +kernel
theorem dX8_deviationAfter_41 : decode cX8_deviationAfter 41 = .ok (.aload_n 0, 1) := by decide +kernel
theorem dX8_deviationAfter_42 : decode cX8_deviationAfter 42 = .ok (.getfield 54, 3) := by decide +kernel
theorem dX8_deviationAfter_45 : decode cX8_deviationAfter 45 = .ok (.getfield 239, 3) := by decide +kernel
theorem dX8_deviationAfter_48 : decode cX8_deviationAfter 48 = .ok (.isub, 1) := by decide +kernel
theorem dX8_deviationAfter_49 : decode cX8_deviationAfter 49 = .ok (.invokestatic 245, 3) := by decide +kernel
theorem dX8_deviationAfter_52 : decode cX8_deviationAfter 52 = .ok (.iadd, 1) := by decide +kernel
theorem dX8_deviationAfter_53 : decode cX8_deviationAfter 53 = .ok (.ireturn, 1) := by decide +kernel
set_option maxRecDepth 20000 in
theorem ggX8_deviationWith_X8_checkStack : GoodIn wsX8_deviationWith wsX8_checkStack := goodIn_ca (goodIn_r _ [5, 6, 7] (by decide +kernel) (by decide +kernel)) (goodIn_sub (fun _ h => List.mem_cons_of_mem _ (List.mem_append_left _ (List.mem_append_left _ (List.mem_append_left _ (List.mem_append_right _ h))))) (by decide +kernel))
set_option maxRecDepth 20000 in
theorem gX8_deviationWith_X8_checkStack : GoodIn wsX8_deviationWith (va_wsS RX8 126 yX8_checkStack wsX8_checkStack) := goodIn_app (goodIn_of _ (by decide +kernel)) ggX8_deviationWith_X8_checkStack
set_option maxRecDepth 20000 in
theorem ggX8_deviationWith_X8_checkPosition : GoodIn wsX8_deviationWith wsX8_checkPosition := goodIn_ca (goodIn_r _ [10, 11, 12, 13] (by decide +kernel) (by decide +kernel)) (goodIn_sub (fun _ h => List.mem_cons_of_mem _ (List.mem_append_left _ (List.mem_append_left _ (List.mem_append_right _ h)))) (by decide +kernel))
set_option maxRecDepth 20000 in
theorem gX8_deviationWith_X8_checkPosition : GoodIn wsX8_deviationWith (va_wsS RX8 189 yX8_checkPosition wsX8_checkPosition) := goodIn_app (goodIn_of _ (by decide +kernel)) ggX8_deviationWith_X8_checkPosition
set_option maxRecDepth 20000 in
theorem ggX8_deviationWith_X8_checkRings : GoodIn wsX8_deviationWith wsX8_checkRings := goodIn_ca (goodIn_ca (goodIn_r _ [17, 18, 19, 20, 21, 119, 120, 121, 122, 123, 124, 125, 126, 127, 128, 129, 130, 131, 132, 133] (by decide +kernel) (by decide +kernel)) (goodIn_sub (fun _ h => List.mem_cons_of_mem _ (List.mem_append_left _ (List.mem_append_right _ h))) (by decide +kernel))) (goodIn_sub (fun _ h => List.mem_cons_of_mem _ (List.mem_append_right _ h)) (by decide +kernel))
set_option maxRecDepth 20000 in
theorem gX8_deviationWith_X8_checkRings : GoodIn wsX8_deviationWith (wsV RX8 151 RX8 yX8_checkRings wsX8_checkRings) := goodIn_app (goodIn_of _ (by decide +kernel)) ggX8_deviationWith_X8_checkRings
set_option maxRecDepth 20000 in
theorem ggX8_deviationWith_X8_prepareSearch : GoodIn wsX8_deviationWith wsX8_prepareSearch := goodIn_ca (goodIn_r _ [25, 26, 27, 1, 28, 29, 20, 21, 30, 31, 32, 33, 4, 34, 35, 36, 37, 38, 39, 40, 41, 42, 43, 44, 45, 46, 47, 48, 49, 50, 51, 52, 53, 54, 55, 56, 57, 58, 59, 60, 61, 62, 63, 64, 65, 66, 67, 68, 69, 70, 71, 72, 73, 74, 75, 76, 77, 78, 79, 80, 81, 82, 83, 84, 85, 119, 120, 121, 122, 123, 124, 125, 126, 127, 128, 129, 130, 134, 135, 136, 137, 138, 139, 131, 132, 133, 140, 141, 142, 143, 144, 145, 146, 147, 148, 149, 150, 151, 152] (by decide +kernel) (by decide +kernel)) (goodIn_sub (fun _ h => List.mem_cons_of_mem _ (List.mem_append_left _ (List.mem_append_right _ h))) (by decide +kernel))
set_option maxRecDepth 20000 in
theorem gX8_deviationWith_X8_prepareSearch : GoodIn wsX8_deviationWith (wsV RX8 250 RX8 yX8_prepareSearch wsX8_prepareSearch) := goodIn_app (goodIn_of _ (by decide +kernel)) ggX8_deviationWith_X8_prepareSearch
set_option maxRecDepth 20000 in
theorem ggX8_deviationWith_X4_deviationIn : GoodIn wsX8_deviationWith wsX4_deviationIn := goodIn_ca (goodIn_r _ [89, 90, 91, 92, 63, 93, 65, 94, 95, 96, 97, 83, 84, 98, 99, 100, 101, 85, 102, 57, 58, 38, 59, 42, 43, 40, 41, 103, 104, 105, 106, 66, 107, 108, 109, 110, 67, 111, 112, 113, 114, 115, 116, 117, 118, 147, 148, 149, 150, 151, 152, 140, 141, 142, 143] (by decide +kernel) (by decide +kernel)) (goodIn_sub (fun _ h => List.mem_cons_of_mem _ (List.mem_append_left _ (List.mem_append_right _ h))) (by decide +kernel))
set_option maxRecDepth 20000 in
theorem gX8_deviationWith_X4_deviationIn : GoodIn wsX8_deviationWith (wsV RX8 253 RX4 yX4_deviationIn wsX4_deviationIn) := goodIn_app (goodIn_of _ (by decide +kernel)) ggX8_deviationWith_X4_deviationIn
theorem dX8_deviationWith_0 : decode cX8_deviationWith 0 = .ok (.iload_n 1, 1) := by decide +kernel
theorem dX8_deviationWith_1 : decode cX8_deviationWith 1 = .ok (.invokestatic 126, 3) := by decide +kernel
theorem dX8_deviationWith_4 : decode cX8_deviationWith 4 = .ok (.iload_n 2, 1) := by decide +kernel
theorem dX8_deviationWith_5 : decode cX8_deviationWith 5 = .ok (.invokestatic 189, 3) := by decide +kernel
theorem dX8_deviationWith_8 : decode cX8_deviationWith 8 = .ok (.aload_n 0, 1) := by decide +kernel
theorem dX8_deviationWith_9 : decode cX8_deviationWith 9 = .ok (.iload_n 1, 1) := by decide +kernel
theorem dX8_deviationWith_10 : decode cX8_deviationWith 10 = .ok (.iconst 1, 1) := by decide +kernel
theorem dX8_deviationWith_11 : decode cX8_deviationWith 11 = .ok (.invokevirtual 151, 3) := by decide +kernel
theorem dX8_deviationWith_14 : decode cX8_deviationWith 14 = .ok (.aload_n 0, 1) := by decide +kernel
theorem dX8_deviationWith_15 : decode cX8_deviationWith 15 = .ok (.iload_n 1, 1) := by decide +kernel
theorem dX8_deviationWith_16 : decode cX8_deviationWith 16 = .ok (.iconst 1, 1) := by decide +kernel
theorem dX8_deviationWith_17 : decode cX8_deviationWith 17 = .ok (.invokevirtual 250, 3) := by decide +kernel
theorem dX8_deviationWith_20 : decode cX8_deviationWith 20 = .ok (.aload_n 0, 1) := by decide +kernel
theorem dX8_deviationWith_21 : decode cX8_deviationWith 21 = .ok (.getfield 47, 3) := by decide +kernel
theorem dX8_deviationWith_24 : decode cX8_deviationWith 24 = .ok (.iload_n 2, 1) := by decide +kernel
theorem dX8_deviationWith_25 : decode cX8_deviationWith 25 = .ok (.invokevirtual 253, 3) := by decide +kernel
theorem dX8_deviationWith_28 : decode cX8_deviationWith 28 = .ok (.ireturn, 1) := by decide +kernel
set_option maxRecDepth 20000 in
theorem ggX8_bestPosition_X8_checkStack : GoodIn wsX8_bestPosition wsX8_checkStack := goodIn_ca (goodIn_r _ [8, 9, 10] (by decide +kernel) (by decide +kernel)) (goodIn_sub (fun _ h => List.mem_cons_of_mem _ (List.mem_append_left _ (List.mem_append_left _ (List.mem_append_right _ h)))) (by decide +kernel))
set_option maxRecDepth 20000 in
theorem gX8_bestPosition_X8_checkStack : GoodIn wsX8_bestPosition (va_wsS RX8 126 yX8_checkStack wsX8_checkStack) := goodIn_app (goodIn_of _ (by decide +kernel)) ggX8_bestPosition_X8_checkStack
set_option maxRecDepth 20000 in
theorem ggX8_bestPosition_X8_checkRings : GoodIn wsX8_bestPosition wsX8_checkRings := goodIn_ca (goodIn_ca (goodIn_r _ [14, 15, 16, 17, 18, 126, 127, 128, 129, 130, 131, 132, 133, 134, 135, 136, 137, 138, 139, 140] (by decide +kernel) (by decide +kernel)) (goodIn_sub (fun _ h => List.mem_cons_of_mem _ (List.mem_append_left _ (List.mem_append_right _ h))) (by decide +kernel))) (goodIn_sub (fun _ h => List.mem_cons_of_mem _ (List.mem_append_right _ h)) (by decide +kernel))
set_option maxRecDepth 20000 in
theorem gX8_bestPosition_X8_checkRings : GoodIn wsX8_bestPosition (wsV RX8 151 RX8 yX8_checkRings wsX8_checkRings) := goodIn_app (goodIn_of _ (by decide +kernel)) ggX8_bestPosition_X8_checkRings
set_option maxRecDepth 20000 in
theorem ggX8_bestPosition_X8_prepareSearch : GoodIn wsX8_bestPosition wsX8_prepareSearch := goodIn_ca (goodIn_r _ [22, 1, 23, 4, 24, 25, 17, 18, 26, 27, 28, 29, 7, 30, 31, 32, 33, 34, 35, 36, 37, 38, 39, 40, 41, 42, 43, 44, 45, 46, 47, 48, 49, 50, 51, 52, 53, 54, 55, 56, 57, 58, 59, 60, 61, 62, 63, 64, 65, 66, 67, 68, 69, 70, 71, 72, 73, 74, 75, 76, 77, 78, 79, 80, 81, 126, 127, 128, 129, 130, 131, 132, 133, 134, 135, 136, 137, 141, 142, 143, 144, 145, 146, 138, 139, 140, 147, 148, 149, 150, 151, 152, 153, 154, 155, 156, 157, 158, 159] (by decide +kernel) (by decide +kernel)) (goodIn_sub (fun _ h => List.mem_cons_of_mem _ (List.mem_append_left _ (List.mem_append_right _ h))) (by decide +kernel))
set_option maxRecDepth 20000 in
theorem gX8_bestPosition_X8_prepareSearch : GoodIn wsX8_bestPosition (wsV RX8 250 RX8 yX8_prepareSearch wsX8_prepareSearch) := goodIn_app (goodIn_of _ (by decide +kernel)) ggX8_bestPosition_X8_prepareSearch
set_option maxRecDepth 20000 in
theorem ggX8_bestPosition_X6_lastPosition : GoodIn wsX8_bestPosition wsX6_lastPosition := goodIn_ca (goodIn_r _ [86, 87, 88, 141, 142, 143, 144, 145, 146] (by decide +kernel) (by decide +kernel)) (goodIn_sub (fun _ h => List.mem_cons_of_mem _ (List.mem_append_left _ (List.mem_append_right _ h))) (by decide +kernel))
set_option maxRecDepth 20000 in
theorem gX8_bestPosition_X6_lastPosition : GoodIn wsX8_bestPosition (wsV RX8 256 RX6 yX6_lastPosition wsX6_lastPosition) := goodIn_app (goodIn_of _ (by decide +kernel)) ggX8_bestPosition_X6_lastPosition
set_option maxRecDepth 20000 in
theorem ggX8_bestPosition_X8_fits : GoodIn wsX8_bestPosition wsX8_fits := goodIn_r _ [91, 92, 93, 94, 95] (by decide +kernel) (by decide +kernel)
set_option maxRecDepth 20000 in
theorem gX8_bestPosition_X8_fits : GoodIn wsX8_bestPosition (va_wsS RX8 263 yX8_fits wsX8_fits) := goodIn_app (goodIn_of _ (by decide +kernel)) ggX8_bestPosition_X8_fits
set_option maxRecDepth 20000 in
theorem ggX8_bestPosition_X4_deviationIn : GoodIn wsX8_bestPosition wsX4_deviationIn := goodIn_ca (goodIn_r _ [99, 100, 101, 102, 59, 103, 61, 104, 105, 106, 107, 79, 80, 108, 109, 110, 111, 81, 112, 53, 54, 34, 55, 38, 39, 36, 37, 113, 114, 115, 116, 62, 117, 93, 94, 95, 63, 118, 119, 120, 121, 122, 123, 124, 125, 154, 155, 156, 157, 158, 159, 147, 148, 149, 150] (by decide +kernel) (by decide +kernel)) (goodIn_sub (fun _ h => List.mem_cons_of_mem _ (List.mem_append_left _ (List.mem_append_right _ h))) (by decide +kernel))
set_option maxRecDepth 20000 in
theorem gX8_bestPosition_X4_deviationIn : GoodIn wsX8_bestPosition (wsV RX8 253 RX4 yX4_deviationIn wsX4_deviationIn) := goodIn_app (goodIn_of _ (by decide +kernel)) ggX8_bestPosition_X4_deviationIn
theorem dX8_bestPosition_0 : decode cX8_bestPosition 0 = .ok (.iload_n 1, 1) := by decide +kernel
theorem dX8_bestPosition_1 : decode cX8_bestPosition 1 = .ok (.invokestatic 126, 3) := by decide +kernel
theorem dX8_bestPosition_4 : decode cX8_bestPosition 4 = .ok (.aload_n 0, 1) := by decide +kernel
theorem dX8_bestPosition_5 : decode cX8_bestPosition 5 = .ok (.iload_n 1, 1) := by decide +kernel
theorem dX8_bestPosition_6 : decode cX8_bestPosition 6 = .ok (.iconst 1, 1) := by decide +kernel
theorem dX8_bestPosition_7 : decode cX8_bestPosition 7 = .ok (.invokevirtual 151, 3) := by decide +kernel
theorem dX8_bestPosition_10 : decode cX8_bestPosition 10 = .ok (.aload_n 0, 1) := by decide +kernel
theorem dX8_bestPosition_11 : decode cX8_bestPosition 11 = .ok (.iload_n 1, 1) := by decide +kernel
theorem dX8_bestPosition_12 : decode cX8_bestPosition 12 = .ok (.iconst 1, 1) := by decide +kernel
theorem dX8_bestPosition_13 : decode cX8_bestPosition 13 = .ok (.invokevirtual 250, 3) := by decide +kernel
theorem dX8_bestPosition_16 : decode cX8_bestPosition 16 = .ok (.aload_n 0, 1) := by decide +kernel
theorem dX8_bestPosition_17 : decode cX8_bestPosition 17 = .ok (.getfield 40, 3) := by decide +kernel
theorem dX8_bestPosition_20 : decode cX8_bestPosition 20 = .ok (.invokevirtual 256, 3) := by decide +kernel
theorem dX8_bestPosition_23 : decode cX8_bestPosition 23 = .ok (.istore_n 2, 1) := by decide +kernel
theorem dX8_bestPosition_24 : decode cX8_bestPosition 24 = .ok (.iconst 0, 1) := by decide +kernel
theorem dX8_bestPosition_25 : decode cX8_bestPosition 25 = .ok (.istore_n 3, 1) := by decide +kernel
theorem dX8_bestPosition_26 : decode cX8_bestPosition 26 = .ok (.ldc_w 259, 3) := by decide +kernel
theorem dX8_bestPosition_29 : decode cX8_bestPosition 29 = .ok (.istore 4, 2) := by decide +kernel
theorem dX8_bestPosition_31 : decode cX8_bestPosition 31 = .ok (.iconst 0, 1) := by decide +kernel
theorem dX8_bestPosition_32 : decode cX8_bestPosition 32 = .ok (.istore 5, 2) := by decide +kernel
theorem dX8_bestPosition_34 : decode cX8_bestPosition 34 = .ok (.iload 5, 2) := by decide +kernel
theorem dX8_bestPosition_36 : decode cX8_bestPosition 36 = .ok (.getstatic 260, 3) := by decide +kernel
theorem dX8_bestPosition_39 : decode cX8_bestPosition 39 = .ok (.arraylength, 1) := by decide +kernel
theorem dX8_bestPosition_40 : decode cX8_bestPosition 40 = .ok (.if_icmp .ge 43, 3) := by decide +kernel
theorem dX8_bestPosition_43 : decode cX8_bestPosition 43 = .ok (.iload_n 2, 1) := by decide +kernel
theorem dX8_bestPosition_44 : decode cX8_bestPosition 44 = .ok (.iload 5, 2) := by decide +kernel
theorem dX8_bestPosition_46 : decode cX8_bestPosition 46 = .ok (.invokestatic 263, 3) := by decide +kernel
theorem dX8_bestPosition_49 : decode cX8_bestPosition 49 = .ok (.ifCond .eq 28, 3) := by decide +kernel
theorem dX8_bestPosition_52 : decode cX8_bestPosition 52 = .ok (.aload_n 0, 1) := by decide +kernel
theorem dX8_bestPosition_53 : decode cX8_bestPosition 53 = .ok (.getfield 47, 3) := by decide +kernel
theorem dX8_bestPosition_56 : decode cX8_bestPosition 56 = .ok (.iload 5, 2) := by decide +kernel
theorem dX8_bestPosition_58 : decode cX8_bestPosition 58 = .ok (.invokevirtual 253, 3) := by decide +kernel
theorem dX8_bestPosition_61 : decode cX8_bestPosition 61 = .ok (.istore 6, 2) := by decide +kernel
theorem dX8_bestPosition_63 : decode cX8_bestPosition 63 = .ok (.iload 6, 2) := by decide +kernel
theorem dX8_bestPosition_65 : decode cX8_bestPosition 65 = .ok (.iload 4, 2) := by decide +kernel
theorem dX8_bestPosition_67 : decode cX8_bestPosition 67 = .ok (.if_icmp .ge 10, 3) := by decide +kernel
theorem dX8_bestPosition_70 : decode cX8_bestPosition 70 = .ok (.iload 6, 2) := by decide +kernel
theorem dX8_bestPosition_72 : decode cX8_bestPosition 72 = .ok (.istore 4, 2) := by decide +kernel
theorem dX8_bestPosition_74 : decode cX8_bestPosition 74 = .ok (.iload 5, 2) := by decide +kernel
theorem dX8_bestPosition_76 : decode cX8_bestPosition 76 = .ok (.istore_n 3, 1) := by decide +kernel
theorem dX8_bestPosition_77 : decode cX8_bestPosition 77 = .ok (.iinc 5 1, 3) := by decide +kernel
theorem dX8_bestPosition_80 : decode cX8_bestPosition 80 = .ok (.goto (-46), 3) := by decide +kernel
theorem dX8_bestPosition_83 : decode cX8_bestPosition 83 = .ok (.iload_n 3, 1) := by decide +kernel
theorem dX8_bestPosition_84 : decode cX8_bestPosition 84 = .ok (.ireturn, 1) := by decide +kernel
set_option maxRecDepth 20000 in
theorem ggX8_leastDeviation_X8_checkStack : GoodIn wsX8_leastDeviation wsX8_checkStack := goodIn_ca (goodIn_r _ [7, 8, 9] (by decide +kernel) (by decide +kernel)) (goodIn_sub (fun _ h => List.mem_cons_of_mem _ (List.mem_append_left _ (List.mem_append_left _ (List.mem_append_left _ (List.mem_append_right _ h))))) (by decide +kernel))
set_option maxRecDepth 20000 in
theorem gX8_leastDeviation_X8_checkStack : GoodIn wsX8_leastDeviation (va_wsS RX8 126 yX8_checkStack wsX8_checkStack) := goodIn_app (goodIn_of _ (by decide +kernel)) ggX8_leastDeviation_X8_checkStack
set_option maxRecDepth 20000 in
theorem ggX8_leastDeviation_X8_checkRange : GoodIn wsX8_leastDeviation wsX8_checkRange := goodIn_ca (goodIn_r _ [12, 13, 14] (by decide +kernel) (by decide +kernel)) (goodIn_sub (fun _ h => List.mem_cons_of_mem _ (List.mem_append_left _ (List.mem_append_left _ (List.mem_append_right _ h)))) (by decide +kernel))
set_option maxRecDepth 20000 in
theorem gX8_leastDeviation_X8_checkRange : GoodIn wsX8_leastDeviation (va_wsS RX8 78 yX8_checkRange wsX8_checkRange) := goodIn_app (goodIn_of _ (by decide +kernel)) ggX8_leastDeviation_X8_checkRange
set_option maxRecDepth 20000 in
theorem ggX8_leastDeviation_X8_checkRings : GoodIn wsX8_leastDeviation wsX8_checkRings := goodIn_ca (goodIn_ca (goodIn_r _ [18, 19, 20, 21, 22, 145, 146, 147, 148, 149, 150, 151, 152, 153, 154, 155, 156, 163, 164, 165] (by decide +kernel) (by decide +kernel)) (goodIn_sub (fun _ h => List.mem_cons_of_mem _ (List.mem_append_left _ (List.mem_append_right _ h))) (by decide +kernel))) (goodIn_sub (fun _ h => List.mem_cons_of_mem _ (List.mem_append_right _ h)) (by decide +kernel))
set_option maxRecDepth 20000 in
theorem gX8_leastDeviation_X8_checkRings : GoodIn wsX8_leastDeviation (wsV RX8 151 RX8 yX8_checkRings wsX8_checkRings) := goodIn_app (goodIn_of _ (by decide +kernel)) ggX8_leastDeviation_X8_checkRings
set_option maxRecDepth 20000 in
theorem ggX8_leastDeviation_X8_prepareSearch : GoodIn wsX8_leastDeviation wsX8_prepareSearch := goodIn_ca (goodIn_r _ [26, 2, 27, 1, 28, 29, 21, 22, 30, 31, 32, 33, 6, 34, 35, 36, 37, 38, 39, 40, 41, 42, 43, 44, 45, 46, 47, 48, 49, 50, 51, 52, 53, 54, 55, 56, 57, 58, 59, 60, 61, 62, 63, 64, 65, 66, 67, 68, 69, 70, 71, 72, 73, 74, 75, 76, 77, 78, 79, 80, 81, 82, 83, 84, 85, 145, 146, 147, 148, 149, 150, 151, 152, 153, 154, 155, 156, 166, 167, 168, 169, 170, 171, 163, 164, 165, 172, 173, 174, 175, 176, 177, 178, 157, 158, 159, 160, 161, 162] (by decide +kernel) (by decide +kernel)) (goodIn_sub (fun _ h => List.mem_cons_of_mem _ (List.mem_append_left _ (List.mem_append_right _ h))) (by decide +kernel))
set_option maxRecDepth 20000 in
theorem gX8_leastDeviation_X8_prepareSearch : GoodIn wsX8_leastDeviation (wsV RX8 250 RX8 yX8_prepareSearch wsX8_prepareSearch) := goodIn_app (goodIn_of _ (by decide +kernel)) ggX8_leastDeviation_X8_prepareSearch
set_option maxRecDepth 20000 in
theorem ggX8_leastDeviation_X6_lastPosition : GoodIn wsX8_leastDeviation wsX6_lastPosition := goodIn_ca (goodIn_r _ [90, 91, 92, 166, 167, 168, 169, 170, 171] (by decide +kernel) (by decide +kernel)) (goodIn_sub (fun _ h => List.mem_cons_of_mem _ (List.mem_append_left _ (List.mem_append_right _ h))) (by decide +kernel))
set_option maxRecDepth 20000 in
theorem gX8_leastDeviation_X6_lastPosition : GoodIn wsX8_leastDeviation (wsV RX8 256 RX6 yX6_lastPosition wsX6_lastPosition) := goodIn_app (goodIn_of _ (by decide +kernel)) ggX8_leastDeviation_X6_lastPosition
set_option maxRecDepth 20000 in
theorem ggX8_leastDeviation_X8_searchFrom : GoodIn wsX8_leastDeviation wsX8_searchFrom := goodIn_ca (goodIn_r _ [95, 96, 3, 97, 98, 99, 100, 63, 101, 72, 102, 103, 104, 105, 106, 107, 108, 109, 65, 66, 110, 111, 112, 67, 113, 114, 115, 116, 70, 68, 69, 84, 85, 83, 117, 118, 119, 120, 121, 6, 122, 123, 124, 125, 126, 127, 128, 129, 130, 131, 132, 133, 134, 135, 136, 57, 58, 38, 59, 42, 43, 40, 41, 93, 94, 137, 138, 139, 140, 141, 142, 143, 144, 157, 158, 159, 160, 161, 162, 172, 173, 174, 175] (by decide +kernel) (by decide +kernel)) (goodIn_sub (fun _ h => List.mem_cons_of_mem _ (List.mem_append_left _ (List.mem_append_right _ h))) (by decide +kernel))
set_option maxRecDepth 20000 in
theorem gX8_leastDeviation_X8_searchFrom : GoodIn wsX8_leastDeviation (va_wsS RX8 267 yX8_searchFrom wsX8_searchFrom) := goodIn_app (goodIn_of _ (by decide +kernel)) ggX8_leastDeviation_X8_searchFrom
theorem dX8_leastDeviation_0 : decode cX8_leastDeviation 0 = .ok (.iload_n 1, 1) := by decide +kernel
theorem dX8_leastDeviation_1 : decode cX8_leastDeviation 1 = .ok (.invokestatic 126, 3) := by decide +kernel
theorem dX8_leastDeviation_4 : decode cX8_leastDeviation 4 = .ok (.iload_n 2, 1) := by decide +kernel
theorem dX8_leastDeviation_5 : decode cX8_leastDeviation 5 = .ok (.iconst 1, 1) := by decide +kernel
theorem dX8_leastDeviation_6 : decode cX8_leastDeviation 6 = .ok (.iconst 4, 1) := by decide +kernel
theorem dX8_leastDeviation_7 : decode cX8_leastDeviation 7 = .ok (.invokestatic 78, 3) := by decide +kernel
theorem dX8_leastDeviation_10 : decode cX8_leastDeviation 10 = .ok (.aload_n 0, 1) := by decide +kernel
theorem dX8_leastDeviation_11 : decode cX8_leastDeviation 11 = .ok (.iload_n 1, 1) := by decide +kernel
theorem dX8_leastDeviation_12 : decode cX8_leastDeviation 12 = .ok (.iload_n 2, 1) := by decide +kernel
theorem dX8_leastDeviation_13 : decode cX8_leastDeviation 13 = .ok (.invokevirtual 151, 3) := by decide +kernel
theorem dX8_leastDeviation_16 : decode cX8_leastDeviation 16 = .ok (.aload_n 0, 1) := by decide +kernel
theorem dX8_leastDeviation_17 : decode cX8_leastDeviation 17 = .ok (.iload_n 1, 1) := by decide +kernel
theorem dX8_leastDeviation_18 : decode cX8_leastDeviation 18 = .ok (.iload_n 2, 1) := by decide +kernel
theorem dX8_leastDeviation_19 : decode cX8_leastDeviation 19 = .ok (.invokevirtual 250, 3) := by decide +kernel
theorem dX8_leastDeviation_22 : decode cX8_leastDeviation 22 = .ok (.aload_n 0, 1) := by decide +kernel
theorem dX8_leastDeviation_23 : decode cX8_leastDeviation 23 = .ok (.getfield 47, 3) := by decide +kernel
theorem dX8_leastDeviation_26 : decode cX8_leastDeviation 26 = .ok (.iconst 0, 1) := by decide +kernel
theorem dX8_leastDeviation_27 : decode cX8_leastDeviation 27 = .ok (.aload_n 0, 1) := by decide +kernel
theorem dX8_leastDeviation_28 : decode cX8_leastDeviation 28 = .ok (.getfield 40, 3) := by decide +kernel
theorem dX8_leastDeviation_31 : decode cX8_leastDeviation 31 = .ok (.invokevirtual 256, 3) := by decide +kernel
theorem dX8_leastDeviation_34 : decode cX8_leastDeviation 34 = .ok (.invokestatic 267, 3) := by decide +kernel
theorem dX8_leastDeviation_37 : decode cX8_leastDeviation 37 = .ok (.aload_n 0, 1) := by decide +kernel
theorem dX8_leastDeviation_38 : decode cX8_leastDeviation 38 = .ok (.getfield 47, 3) := by decide +kernel
theorem dX8_leastDeviation_41 : decode cX8_leastDeviation 41 = .ok (.getfield 271, 3) := by decide +kernel
theorem dX8_leastDeviation_44 : decode cX8_leastDeviation 44 = .ok (.ireturn, 1) := by decide +kernel
set_option maxRecDepth 20000 in
theorem ggX8_leastByTrying_X8_checkStack : GoodIn wsX8_leastByTrying wsX8_checkStack := goodIn_ca (goodIn_r _ [7, 8, 9] (by decide +kernel) (by decide +kernel)) (goodIn_sub (fun _ h => List.mem_cons_of_mem _ (List.mem_append_left _ (List.mem_append_left _ (List.mem_append_left _ (List.mem_append_right _ h))))) (by decide +kernel))
set_option maxRecDepth 20000 in
theorem gX8_leastByTrying_X8_checkStack : GoodIn wsX8_leastByTrying (va_wsS RX8 126 yX8_checkStack wsX8_checkStack) := goodIn_app (goodIn_of _ (by decide +kernel)) ggX8_leastByTrying_X8_checkStack
set_option maxRecDepth 20000 in
theorem ggX8_leastByTrying_X8_checkRange : GoodIn wsX8_leastByTrying wsX8_checkRange := goodIn_ca (goodIn_r _ [12, 13, 14] (by decide +kernel) (by decide +kernel)) (goodIn_sub (fun _ h => List.mem_cons_of_mem _ (List.mem_append_left _ (List.mem_append_left _ (List.mem_append_right _ h)))) (by decide +kernel))
set_option maxRecDepth 20000 in
theorem gX8_leastByTrying_X8_checkRange : GoodIn wsX8_leastByTrying (va_wsS RX8 78 yX8_checkRange wsX8_checkRange) := goodIn_app (goodIn_of _ (by decide +kernel)) ggX8_leastByTrying_X8_checkRange
set_option maxRecDepth 20000 in
theorem ggX8_leastByTrying_X8_checkRings : GoodIn wsX8_leastByTrying wsX8_checkRings := goodIn_ca (goodIn_ca (goodIn_r _ [18, 19, 20, 21, 22, 138, 139, 140, 141, 142, 143, 144, 145, 146, 147, 148, 149, 156, 157, 158] (by decide +kernel) (by decide +kernel)) (goodIn_sub (fun _ h => List.mem_cons_of_mem _ (List.mem_append_left _ (List.mem_append_right _ h))) (by decide +kernel))) (goodIn_sub (fun _ h => List.mem_cons_of_mem _ (List.mem_append_right _ h)) (by decide +kernel))
set_option maxRecDepth 20000 in
theorem gX8_leastByTrying_X8_checkRings : GoodIn wsX8_leastByTrying (wsV RX8 151 RX8 yX8_checkRings wsX8_checkRings) := goodIn_app (goodIn_of _ (by decide +kernel)) ggX8_leastByTrying_X8_checkRings
set_option maxRecDepth 20000 in
theorem ggX8_leastByTrying_X8_prepareSearch : GoodIn wsX8_leastByTrying wsX8_prepareSearch := goodIn_ca (goodIn_r _ [26, 2, 27, 1, 28, 29, 21, 22, 30, 31, 32, 33, 6, 34, 35, 36, 37, 38, 39, 40, 41, 42, 43, 44, 45, 46, 47, 48, 49, 50, 51, 52, 53, 54, 55, 56, 57, 58, 59, 60, 61, 62, 63, 64, 65, 66, 67, 68, 69, 70, 71, 72, 73, 74, 75, 76, 77, 78, 79, 80, 81, 82, 83, 84, 85, 138, 139, 140, 141, 142, 143, 144, 145, 146, 147, 148, 149, 159, 160, 161, 162, 163, 164, 156, 157, 158, 165, 166, 167, 168, 169, 170, 171, 150, 151, 152, 153, 154, 155] (by decide +kernel) (by decide +kernel)) (goodIn_sub (fun _ h => List.mem_cons_of_mem _ (List.mem_append_left _ (List.mem_append_right _ h))) (by decide +kernel))
set_option maxRecDepth 20000 in
theorem gX8_leastByTrying_X8_prepareSearch : GoodIn wsX8_leastByTrying (wsV RX8 250 RX8 yX8_prepareSearch wsX8_prepareSearch) := goodIn_app (goodIn_of _ (by decide +kernel)) ggX8_leastByTrying_X8_prepareSearch
set_option maxRecDepth 20000 in
theorem ggX8_leastByTrying_X6_lastPosition : GoodIn wsX8_leastByTrying wsX6_lastPosition := goodIn_ca (goodIn_r _ [90, 91, 92, 159, 160, 161, 162, 163, 164] (by decide +kernel) (by decide +kernel)) (goodIn_sub (fun _ h => List.mem_cons_of_mem _ (List.mem_append_left _ (List.mem_append_right _ h))) (by decide +kernel))
set_option maxRecDepth 20000 in
theorem gX8_leastByTrying_X6_lastPosition : GoodIn wsX8_leastByTrying (wsV RX8 256 RX6 yX6_lastPosition wsX6_lastPosition) := goodIn_app (goodIn_of _ (by decide +kernel)) ggX8_leastByTrying_X6_lastPosition
set_option maxRecDepth 20000 in
theorem ggX8_leastByTrying_X8_tryAllFrom : GoodIn wsX8_leastByTrying wsX8_tryAllFrom := goodIn_ca (goodIn_r _ [95, 96, 97, 98, 99, 100, 63, 101, 72, 102, 103, 104, 105, 106, 107, 108, 109, 65, 66, 110, 111, 112, 67, 113, 114, 6, 115, 116, 117, 118, 119, 120, 121, 122, 123, 124, 83, 84, 125, 126, 127, 128, 85, 129, 57, 58, 38, 59, 42, 43, 40, 41, 93, 94, 130, 131, 132, 133, 134, 135, 136, 137, 150, 151, 152, 153, 154, 155, 165, 166, 167, 168] (by decide +kernel) (by decide +kernel)) (goodIn_sub (fun _ h => List.mem_cons_of_mem _ (List.mem_append_left _ (List.mem_append_right _ h))) (by decide +kernel))
set_option maxRecDepth 20000 in
theorem gX8_leastByTrying_X8_tryAllFrom : GoodIn wsX8_leastByTrying (va_wsS RX8 274 yX8_tryAllFrom wsX8_tryAllFrom) := goodIn_app (goodIn_of _ (by decide +kernel)) ggX8_leastByTrying_X8_tryAllFrom
theorem dX8_leastByTrying_0 : decode cX8_leastByTrying 0 = .ok (.iload_n 1, 1) := by decide +kernel
theorem dX8_leastByTrying_1 : decode cX8_leastByTrying 1 = .ok (.invokestatic 126, 3) := by decide +kernel
theorem dX8_leastByTrying_4 : decode cX8_leastByTrying 4 = .ok (.iload_n 2, 1) := by decide +kernel
theorem dX8_leastByTrying_5 : decode cX8_leastByTrying 5 = .ok (.iconst 1, 1) := by decide +kernel
theorem dX8_leastByTrying_6 : decode cX8_leastByTrying 6 = .ok (.iconst 4, 1) := by decide +kernel
theorem dX8_leastByTrying_7 : decode cX8_leastByTrying 7 = .ok (.invokestatic 78, 3) := by decide +kernel
theorem dX8_leastByTrying_10 : decode cX8_leastByTrying 10 = .ok (.aload_n 0, 1) := by decide +kernel
theorem dX8_leastByTrying_11 : decode cX8_leastByTrying 11 = .ok (.iload_n 1, 1) := by decide +kernel
theorem dX8_leastByTrying_12 : decode cX8_leastByTrying 12 = .ok (.iload_n 2, 1) := by decide +kernel
theorem dX8_leastByTrying_13 : decode cX8_leastByTrying 13 = .ok (.invokevirtual 151, 3) := by decide +kernel
theorem dX8_leastByTrying_16 : decode cX8_leastByTrying 16 = .ok (.aload_n 0, 1) := by decide +kernel
theorem dX8_leastByTrying_17 : decode cX8_leastByTrying 17 = .ok (.iload_n 1, 1) := by decide +kernel
theorem dX8_leastByTrying_18 : decode cX8_leastByTrying 18 = .ok (.iload_n 2, 1) := by decide +kernel
theorem dX8_leastByTrying_19 : decode cX8_leastByTrying 19 = .ok (.invokevirtual 250, 3) := by decide +kernel
theorem dX8_leastByTrying_22 : decode cX8_leastByTrying 22 = .ok (.aload_n 0, 1) := by decide +kernel
theorem dX8_leastByTrying_23 : decode cX8_leastByTrying 23 = .ok (.getfield 47, 3) := by decide +kernel
theorem dX8_leastByTrying_26 : decode cX8_leastByTrying 26 = .ok (.iconst 0, 1) := by decide +kernel
theorem dX8_leastByTrying_27 : decode cX8_leastByTrying 27 = .ok (.aload_n 0, 1) := by decide +kernel
theorem dX8_leastByTrying_28 : decode cX8_leastByTrying 28 = .ok (.getfield 40, 3) := by decide +kernel
theorem dX8_leastByTrying_31 : decode cX8_leastByTrying 31 = .ok (.invokevirtual 256, 3) := by decide +kernel
theorem dX8_leastByTrying_34 : decode cX8_leastByTrying 34 = .ok (.invokestatic 274, 3) := by decide +kernel
theorem dX8_leastByTrying_37 : decode cX8_leastByTrying 37 = .ok (.aload_n 0, 1) := by decide +kernel
theorem dX8_leastByTrying_38 : decode cX8_leastByTrying 38 = .ok (.getfield 47, 3) := by decide +kernel
theorem dX8_leastByTrying_41 : decode cX8_leastByTrying 41 = .ok (.getfield 271, 3) := by decide +kernel
theorem dX8_leastByTrying_44 : decode cX8_leastByTrying 44 = .ok (.ireturn, 1) := by decide +kernel
set_option maxRecDepth 20000 in
theorem ggX8_sinkingAt_X8_checkGround : GoodIn wsX8_sinkingAt wsX8_checkGround := goodIn_ca (goodIn_r _ [6, 7, 8, 1, 9, 10, 11, 12, 13, 14, 21, 22, 23, 24, 25, 26, 27, 28, 29, 30, 31, 32, 33, 34, 35, 36] (by decide +kernel) (by decide +kernel)) (goodIn_sub (fun _ h => List.mem_cons_of_mem _ (List.mem_append_left _ (List.mem_append_right _ h))) (by decide +kernel))
set_option maxRecDepth 20000 in
theorem gX8_sinkingAt_X8_checkGround : GoodIn wsX8_sinkingAt (wsV RX8 101 RX8 yX8_checkGround wsX8_checkGround) := goodIn_app (goodIn_of _ (by decide +kernel)) ggX8_sinkingAt_X8_checkGround
set_option maxRecDepth 20000 in
theorem ggX8_sinkingAt_X1_sinkingOver : GoodIn wsX8_sinkingAt wsX1_sinkingOver := goodIn_ca (goodIn_r _ [18, 19, 20, 10, 11, 12, 13, 14, 33, 34, 35, 36] (by decide +kernel) (by decide +kernel)) (goodIn_sub (fun _ h => List.mem_cons_of_mem _ (List.mem_append_right _ h)) (by decide +kernel))
set_option maxRecDepth 20000 in
theorem gX8_sinkingAt_X1_sinkingOver : GoodIn wsX8_sinkingAt (wsV RX8 277 RX1 yX1_sinkingOver wsX1_sinkingOver) := goodIn_app (goodIn_of _ (by decide +kernel)) ggX8_sinkingAt_X1_sinkingOver
theorem dX8_sinkingAt_0 : decode cX8_sinkingAt 0 = .ok (.aload_n 0, 1) := by decide +kernel
theorem dX8_sinkingAt_1 : decode cX8_sinkingAt 1 = .ok (.iload_n 1, 1) := by decide +kernel
theorem dX8_sinkingAt_2 : decode cX8_sinkingAt 2 = .ok (.invokevirtual 101, 3) := by decide +kernel
theorem dX8_sinkingAt_5 : decode cX8_sinkingAt 5 = .ok (.aload_n 0, 1) := by decide +kernel
theorem dX8_sinkingAt_6 : decode cX8_sinkingAt 6 = .ok (.getfield 10, 3) := by decide +kernel
theorem dX8_sinkingAt_9 : decode cX8_sinkingAt 9 = .ok (.iload_n 1, 1) := by decide +kernel
theorem dX8_sinkingAt_10 : decode cX8_sinkingAt 10 = .ok (.invokevirtual 277, 3) := by decide +kernel
theorem dX8_sinkingAt_13 : decode cX8_sinkingAt 13 = .ok (.ireturn, 1) := by decide +kernel
set_option maxRecDepth 20000 in
theorem ggX8_sinkingOf_X8_checkHouse : GoodIn wsX8_sinkingOf wsX8_checkHouse := goodIn_ca (goodIn_r _ [5, 6, 7, 8, 9, 32, 33, 34, 35, 36, 37, 38, 39, 40, 41, 42, 43, 44, 45, 46, 47, 48, 49] (by decide +kernel) (by decide +kernel)) (goodIn_sub (fun _ h => List.mem_cons_of_mem _ (List.mem_append_left _ (List.mem_append_right _ h))) (by decide +kernel))
set_option maxRecDepth 20000 in
theorem gX8_sinkingOf_X8_checkHouse : GoodIn wsX8_sinkingOf (wsV RX8 280 RX8 yX8_checkHouse wsX8_checkHouse) := goodIn_app (goodIn_of _ (by decide +kernel)) ggX8_sinkingOf_X8_checkHouse
set_option maxRecDepth 20000 in
theorem ggX8_sinkingOf_X8_greatestSinking : GoodIn wsX8_sinkingOf wsX8_greatestSinking := goodIn_ca (goodIn_r _ [13, 8, 14, 15, 16, 17, 18, 19, 20, 21, 22, 23, 24, 25, 26, 27, 28, 29, 30, 31, 32, 33, 34, 35, 36, 37, 38, 39, 40, 41, 42, 43, 44, 45, 46, 47, 48, 49, 50, 51, 52, 53] (by decide +kernel) (by decide +kernel)) (goodIn_sub (fun _ h => List.mem_cons_of_mem _ (List.mem_append_right _ h)) (by decide +kernel))
set_option maxRecDepth 20000 in
theorem gX8_sinkingOf_X8_greatestSinking : GoodIn wsX8_sinkingOf (wsV RX8 283 RX8 yX8_greatestSinking wsX8_greatestSinking) := goodIn_app (goodIn_of _ (by decide +kernel)) ggX8_sinkingOf_X8_greatestSinking
theorem dX8_sinkingOf_0 : decode cX8_sinkingOf 0 = .ok (.aload_n 0, 1) := by decide +kernel
theorem dX8_sinkingOf_1 : decode cX8_sinkingOf 1 = .ok (.iload_n 1, 1) := by decide +kernel
theorem dX8_sinkingOf_2 : decode cX8_sinkingOf 2 = .ok (.invokevirtual 280, 3) := by decide +kernel
theorem dX8_sinkingOf_5 : decode cX8_sinkingOf 5 = .ok (.aload_n 0, 1) := by decide +kernel
theorem dX8_sinkingOf_6 : decode cX8_sinkingOf 6 = .ok (.iload_n 1, 1) := by decide +kernel
theorem dX8_sinkingOf_7 : decode cX8_sinkingOf 7 = .ok (.invokevirtual 283, 3) := by decide +kernel
theorem dX8_sinkingOf_10 : decode cX8_sinkingOf 10 = .ok (.ireturn, 1) := by decide +kernel
set_option maxRecDepth 20000 in
theorem ggX8_tiltOf_X8_checkHouse : GoodIn wsX8_tiltOf wsX8_checkHouse := goodIn_ca (goodIn_r _ [5, 6, 7, 8, 9, 40, 41, 42, 43, 44, 45, 46, 47, 48, 49, 50, 51, 52, 53, 54, 55, 56, 57] (by decide +kernel) (by decide +kernel)) (goodIn_sub (fun _ h => List.mem_cons_of_mem _ (List.mem_append_left _ (List.mem_append_right _ h))) (by decide +kernel))
set_option maxRecDepth 20000 in
theorem gX8_tiltOf_X8_checkHouse : GoodIn wsX8_tiltOf (wsV RX8 280 RX8 yX8_checkHouse wsX8_checkHouse) := goodIn_app (goodIn_of _ (by decide +kernel)) ggX8_tiltOf_X8_checkHouse
set_option maxRecDepth 20000 in
theorem ggX8_tiltOf_X8_greatestSinking : GoodIn wsX8_tiltOf wsX8_greatestSinking := goodIn_ca (goodIn_r _ [13, 8, 14, 15, 16, 17, 18, 19, 20, 21, 22, 23, 24, 25, 26, 27, 28, 29, 30, 31, 40, 41, 42, 43, 44, 45, 46, 47, 48, 49, 50, 51, 52, 53, 54, 55, 56, 57, 58, 59, 60, 61] (by decide +kernel) (by decide +kernel)) (goodIn_sub (fun _ h => List.mem_cons_of_mem _ (List.mem_append_right _ h)) (by decide +kernel))
set_option maxRecDepth 20000 in
theorem gX8_tiltOf_X8_greatestSinking : GoodIn wsX8_tiltOf (wsV RX8 283 RX8 yX8_greatestSinking wsX8_greatestSinking) := goodIn_app (goodIn_of _ (by decide +kernel)) ggX8_tiltOf_X8_greatestSinking
set_option maxRecDepth 20000 in
theorem ggX8_tiltOf_X8_leastSinking : GoodIn wsX8_tiltOf wsX8_leastSinking := goodIn_ca (goodIn_r _ [35, 36, 8, 14, 15, 16, 37, 38, 19, 39, 21, 22, 23, 24, 25, 26, 27, 28, 29, 30, 31, 40, 41, 42, 43, 44, 45, 46, 47, 48, 49, 50, 51, 52, 53, 54, 55, 56, 57, 58, 59, 60, 61] (by decide +kernel) (by decide +kernel)) (goodIn_sub (fun _ h => List.mem_cons_of_mem _ (List.mem_append_right _ h)) (by decide +kernel))
set_option maxRecDepth 20000 in
theorem gX8_tiltOf_X8_leastSinking : GoodIn wsX8_tiltOf (wsV RX8 286 RX8 yX8_leastSinking wsX8_leastSinking) := goodIn_app (goodIn_of _ (by decide +kernel)) ggX8_tiltOf_X8_leastSinking
theorem dX8_tiltOf_0 : decode cX8_tiltOf 0 = .ok (.aload_n 0, 1) := by decide +kernel
theorem dX8_tiltOf_1 : decode cX8_tiltOf 1 = .ok (.iload_n 1, 1) := by decide +kernel
theorem dX8_tiltOf_2 : decode cX8_tiltOf 2 = .ok (.invokevirtual 280, 3) := by decide +kernel
theorem dX8_tiltOf_5 : decode cX8_tiltOf 5 = .ok (.aload_n 0, 1) := by decide +kernel
theorem dX8_tiltOf_6 : decode cX8_tiltOf 6 = .ok (.iload_n 1, 1) := by decide +kernel
theorem dX8_tiltOf_7 : decode cX8_tiltOf 7 = .ok (.invokevirtual 283, 3) := by decide +kernel
theorem dX8_tiltOf_10 : decode cX8_tiltOf 10 = .ok (.aload_n 0, 1) := by decide +kernel
theorem dX8_tiltOf_11 : decode cX8_tiltOf 11 = .ok (.iload_n 1, 1) := by decide +kernel
theorem dX8_tiltOf_12 : decode cX8_tiltOf 12 = .ok (.invokevirtual 286, 3) := by decide +kernel
theorem dX8_tiltOf_15 : decode cX8_tiltOf 15 = .ok (.isub, 1) := by decide +kernel
theorem dX8_tiltOf_16 : decode cX8_tiltOf 16 = .ok (.ireturn, 1) := by decide +kernel
set_option maxRecDepth 20000 in
theorem ggX8_claimOf_X8_checkHouse : GoodIn wsX8_claimOf wsX8_checkHouse := goodIn_ca (goodIn_r _ [5, 6, 7, 8, 9, 39, 40, 41, 42, 43, 44, 45, 46, 47, 48, 49, 50, 51, 52, 53, 54, 55, 56] (by decide +kernel) (by decide +kernel)) (goodIn_sub (fun _ h => List.mem_cons_of_mem _ (List.mem_append_left _ (List.mem_append_right _ h))) (by decide +kernel))
set_option maxRecDepth 20000 in
theorem gX8_claimOf_X8_checkHouse : GoodIn wsX8_claimOf (wsV RX8 280 RX8 yX8_checkHouse wsX8_checkHouse) := goodIn_app (goodIn_of _ (by decide +kernel)) ggX8_claimOf_X8_checkHouse
set_option maxRecDepth 20000 in
theorem ggX8_claimOf_X8_paymentDue : GoodIn wsX8_claimOf wsX8_paymentDue := goodIn_ca (goodIn_r _ [13, 8, 14, 15, 16, 17, 18, 19, 4, 20, 21, 22, 23, 24, 25, 26, 27, 28, 29, 30, 31, 32, 33, 34, 35, 36, 37, 38, 39, 40, 41, 42, 43, 44, 45, 46, 47, 48, 49, 50, 51, 52, 53, 54, 55, 56, 57, 58, 59, 60] (by decide +kernel) (by decide +kernel)) (goodIn_sub (fun _ h => List.mem_cons_of_mem _ (List.mem_append_right _ h)) (by decide +kernel))
set_option maxRecDepth 20000 in
theorem gX8_claimOf_X8_paymentDue : GoodIn wsX8_claimOf (wsV RX8 289 RX8 yX8_paymentDue wsX8_paymentDue) := goodIn_app (goodIn_of _ (by decide +kernel)) ggX8_claimOf_X8_paymentDue
theorem dX8_claimOf_0 : decode cX8_claimOf 0 = .ok (.aload_n 0, 1) := by decide +kernel
theorem dX8_claimOf_1 : decode cX8_claimOf 1 = .ok (.iload_n 1, 1) := by decide +kernel
theorem dX8_claimOf_2 : decode cX8_claimOf 2 = .ok (.invokevirtual 280, 3) := by decide +kernel
theorem dX8_claimOf_5 : decode cX8_claimOf 5 = .ok (.aload_n 0, 1) := by decide +kernel
theorem dX8_claimOf_6 : decode cX8_claimOf 6 = .ok (.iload_n 1, 1) := by decide +kernel
theorem dX8_claimOf_7 : decode cX8_claimOf 7 = .ok (.invokevirtual 289, 3) := by decide +kernel
theorem dX8_claimOf_10 : decode cX8_claimOf 10 = .ok (.ireturn, 1) := by decide +kernel
set_option maxRecDepth 20000 in
theorem ggX8_claim_X8_checkHouse : GoodIn wsX8_claim wsX8_checkHouse := goodIn_ca (goodIn_r _ [9, 10, 11, 3, 12, 41, 42, 43, 44, 45, 46, 47, 48, 49, 50, 51, 52, 53, 54, 55, 56, 57, 58] (by decide +kernel) (by decide +kernel)) (goodIn_sub (fun _ h => List.mem_cons_of_mem _ (List.mem_append_right _ h)) (by decide +kernel))
set_option maxRecDepth 20000 in
theorem gX8_claim_X8_checkHouse : GoodIn wsX8_claim (wsV RX8 280 RX8 yX8_checkHouse wsX8_checkHouse) := goodIn_app (goodIn_of _ (by decide +kernel)) ggX8_claim_X8_checkHouse
set_option maxRecDepth 20000 in
theorem ggX8_claim_X8_paymentDue : GoodIn wsX8_claim wsX8_paymentDue := goodIn_ca (goodIn_r _ [16, 3, 17, 18, 4, 19, 20, 21, 8, 22, 23, 24, 25, 26, 27, 28, 29, 30, 31, 32, 33, 34, 35, 36, 37, 38, 39, 40, 41, 42, 43, 44, 45, 46, 47, 48, 49, 50, 51, 52, 53, 54, 55, 56, 57, 58, 59, 60, 61, 62] (by decide +kernel) (by decide +kernel)) (goodIn_sub (fun _ h => List.mem_cons_of_mem _ (List.mem_append_left _ (List.mem_append_right _ h))) (by decide +kernel))
set_option maxRecDepth 20000 in
theorem gX8_claim_X8_paymentDue : GoodIn wsX8_claim (wsV RX8 289 RX8 yX8_paymentDue wsX8_paymentDue) := goodIn_app (goodIn_of _ (by decide +kernel)) ggX8_claim_X8_paymentDue
theorem dX8_claim_0 : decode cX8_claim 0 = .ok (.aload_n 0, 1) := by decide +kernel
theorem dX8_claim_1 : decode cX8_claim 1 = .ok (.iload_n 1, 1) := by decide +kernel
theorem dX8_claim_2 : decode cX8_claim 2 = .ok (.invokevirtual 280, 3) := by decide +kernel
theorem dX8_claim_5 : decode cX8_claim 5 = .ok (.aload_n 0, 1) := by decide +kernel
theorem dX8_claim_6 : decode cX8_claim 6 = .ok (.iload_n 1, 1) := by decide +kernel
theorem dX8_claim_7 : decode cX8_claim 7 = .ok (.invokevirtual 289, 3) := by decide +kernel
theorem dX8_claim_10 : decode cX8_claim 10 = .ok (.istore_n 2, 1) := by decide +kernel
theorem dX8_claim_11 : decode cX8_claim 11 = .ok (.iload_n 2, 1) := by decide +kernel
theorem dX8_claim_12 : decode cX8_claim 12 = .ok (.ifCond .ne 14, 3) := by decide +kernel
theorem dX8_claim_15 : decode cX8_claim 15 = .ok (.new 196, 3) := by decide +kernel
theorem dX8_claim_18 : decode cX8_claim 18 = .ok (.dup, 1) := by decide +kernel
theorem dX8_claim_19 : decode cX8_claim 19 = .ok (.ldc_w 292, 3) := by decide +kernel
theorem dX8_claim_22 : decode cX8_claim 22 = .ok (.invokespecial 200, 3) := by decide +kernel
theorem dX8_claim_25 : decode cX8_claim 25 = .ok (.athrow, 1) := by decide +kernel
theorem dX8_claim_26 : decode cX8_claim 26 = .ok (.aload_n 0, 1) := by decide +kernel
theorem dX8_claim_27 : decode cX8_claim 27 = .ok (.getfield 26, 3) := by decide +kernel
theorem dX8_claim_30 : decode cX8_claim 30 = .ok (.getfield 294, 3) := by decide +kernel
theorem dX8_claim_33 : decode cX8_claim 33 = .ok (.iload_n 1, 1) := by decide +kernel
theorem dX8_claim_34 : decode cX8_claim 34 = .ok (.dup2, 1) := by decide +kernel
theorem dX8_claim_35 : decode cX8_claim 35 = .ok (.iaload, 1) := by decide +kernel
theorem dX8_claim_36 : decode cX8_claim 36 = .ok (.iload_n 2, 1) := by decide +kernel
theorem dX8_claim_37 : decode cX8_claim 37 = .ok (.iadd, 1) := by decide +kernel
theorem dX8_claim_38 : decode cX8_claim 38 = .ok (.iastore, 1) := by decide +kernel
theorem dX8_claim_39 : decode cX8_claim 39 = .ok (.iload_n 2, 1) := by decide +kernel
theorem dX8_claim_40 : decode cX8_claim 40 = .ok (.ireturn, 1) := by decide +kernel
set_option maxRecDepth 20000 in
theorem ggX8_paidTo_X8_checkHouse : GoodIn wsX8_paidTo wsX8_checkHouse := goodIn_ca (goodIn_r _ [7, 8, 9, 1, 10, 11, 12, 13, 14, 15, 16, 17, 18, 19, 20, 21, 22, 23, 24, 25, 26, 27, 28] (by decide +kernel) (by decide +kernel)) (goodIn_sub (fun _ h => List.mem_cons_of_mem _ (List.mem_append_right _ h)) (by decide +kernel))
set_option maxRecDepth 20000 in
theorem gX8_paidTo_X8_checkHouse : GoodIn wsX8_paidTo (wsV RX8 280 RX8 yX8_checkHouse wsX8_checkHouse) := goodIn_app (goodIn_of _ (by decide +kernel)) ggX8_paidTo_X8_checkHouse
theorem dX8_paidTo_0 : decode cX8_paidTo 0 = .ok (.aload_n 0, 1) := by decide +kernel
theorem dX8_paidTo_1 : decode cX8_paidTo 1 = .ok (.iload_n 1, 1) := by decide +kernel
theorem dX8_paidTo_2 : decode cX8_paidTo 2 = .ok (.invokevirtual 280, 3) := by decide +kernel
theorem dX8_paidTo_5 : decode cX8_paidTo 5 = .ok (.aload_n 0, 1) := by decide +kernel
theorem dX8_paidTo_6 : decode cX8_paidTo 6 = .ok (.getfield 26, 3) := by decide +kernel
theorem dX8_paidTo_9 : decode cX8_paidTo 9 = .ok (.getfield 294, 3) := by decide +kernel
theorem dX8_paidTo_12 : decode cX8_paidTo 12 = .ok (.iload_n 1, 1) := by decide +kernel
theorem dX8_paidTo_13 : decode cX8_paidTo 13 = .ok (.iaload, 1) := by decide +kernel
theorem dX8_paidTo_14 : decode cX8_paidTo 14 = .ok (.ireturn, 1) := by decide +kernel
theorem dX8_paidTotal_0 : decode cX8_paidTotal 0 = .ok (.lconst 0, 1) := by decide +kernel
theorem dX8_paidTotal_1 : decode cX8_paidTotal 1 = .ok (.lstore_n 1, 1) := by decide +kernel
theorem dX8_paidTotal_2 : decode cX8_paidTotal 2 = .ok (.iconst 0, 1) := by decide +kernel
theorem dX8_paidTotal_3 : decode cX8_paidTotal 3 = .ok (.istore_n 3, 1) := by decide +kernel
theorem dX8_paidTotal_4 : decode cX8_paidTotal 4 = .ok (.iload_n 3, 1) := by decide +kernel
theorem dX8_paidTotal_5 : decode cX8_paidTotal 5 = .ok (.aload_n 0, 1) := by decide +kernel
theorem dX8_paidTotal_6 : decode cX8_paidTotal 6 = .ok (.getfield 26, 3) := by decide +kernel
theorem dX8_paidTotal_9 : decode cX8_paidTotal 9 = .ok (.getfield 117, 3) := by decide +kernel
theorem dX8_paidTotal_12 : decode cX8_paidTotal 12 = .ok (.if_icmp .ge 22, 3) := by decide +kernel
theorem dX8_paidTotal_15 : decode cX8_paidTotal 15 = .ok (.lload_n 1, 1) := by decide +kernel
theorem dX8_paidTotal_16 : decode cX8_paidTotal 16 = .ok (.aload_n 0, 1) := by decide +kernel
theorem dX8_paidTotal_17 : decode cX8_paidTotal 17 = .ok (.getfield 26, 3) := by decide +kernel
theorem dX8_paidTotal_20 : decode cX8_paidTotal 20 = .ok (.getfield 294, 3) := by decide +kernel
theorem dX8_paidTotal_23 : decode cX8_paidTotal 23 = .ok (.iload_n 3, 1) := by decide +kernel
theorem dX8_paidTotal_24 : decode cX8_paidTotal 24 = .ok (.iaload, 1) := by decide +kernel
theorem dX8_paidTotal_25 : decode cX8_paidTotal 25 = .ok (.i2l, 1) := by decide +kernel
theorem dX8_paidTotal_26 : decode cX8_paidTotal 26 = .ok (.ladd, 1) := by decide +kernel
theorem dX8_paidTotal_27 : decode cX8_paidTotal 27 = .ok (.lstore_n 1, 1) := by decide +kernel
theorem dX8_paidTotal_28 : decode cX8_paidTotal 28 = .ok (.iinc 3 1, 3) := by decide +kernel
theorem dX8_paidTotal_31 : decode cX8_paidTotal 31 = .ok (.goto (-27), 3) := by decide +kernel
theorem dX8_paidTotal_34 : decode cX8_paidTotal 34 = .ok (.lload_n 1, 1) := by decide +kernel
theorem dX8_paidTotal_35 : decode cX8_paidTotal 35 = .ok (.lreturn, 1) := by decide +kernel
set_option maxRecDepth 20000 in
theorem ggX8_worstHouse_X8_greatestSinking : GoodIn wsX8_worstHouse wsX8_greatestSinking := goodIn_ca (goodIn_r _ [9, 3, 10, 11, 12, 13, 14, 15, 16, 17, 18, 19, 20, 21, 22, 23, 24, 25, 26, 27, 28, 29, 30, 31, 32, 33, 34, 35, 36, 37, 38, 39, 40, 41, 42, 43, 44, 45, 46, 47, 48, 49] (by decide +kernel) (by decide +kernel)) (goodIn_sub (fun _ h => List.mem_cons_of_mem _ (List.mem_append_right _ h)) (by decide +kernel))
set_option maxRecDepth 20000 in
theorem gX8_worstHouse_X8_greatestSinking : GoodIn wsX8_worstHouse (wsV RX8 283 RX8 yX8_greatestSinking wsX8_greatestSinking) := goodIn_app (goodIn_of _ (by decide +kernel)) ggX8_worstHouse_X8_greatestSinking
theorem dX8_worstHouse_0 : decode cX8_worstHouse 0 = .ok (.aload_n 0, 1) := by decide +kernel
theorem dX8_worstHouse_1 : decode cX8_worstHouse 1 = .ok (.getfield 26, 3) := by decide +kernel
theorem dX8_worstHouse_4 : decode cX8_worstHouse 4 = .ok (.getfield 117, 3) := by decide +kernel
theorem dX8_worstHouse_7 : decode cX8_worstHouse 7 = .ok (.ifCond .ne 14, 3) := by decide +kernel
theorem dX8_worstHouse_10 : decode cX8_worstHouse 10 = .ok (.new 142, 3) := by decide +kernel
theorem dX8_worstHouse_13 : decode cX8_worstHouse 13 = .ok (.dup, 1) := by decide +kernel
theorem dX8_worstHouse_14 : decode cX8_worstHouse 14 = .ok (.ldc_w 297, 3) := by decide +kernel
theorem dX8_worstHouse_17 : decode cX8_worstHouse 17 = .ok (.invokespecial 146, 3) := by decide +kernel
theorem dX8_worstHouse_20 : decode cX8_worstHouse 20 = .ok (.athrow, 1) := by decide +kernel
theorem dX8_worstHouse_21 : decode cX8_worstHouse 21 = .ok (.iconst 0, 1) := by decide +kernel
theorem dX8_worstHouse_22 : decode cX8_worstHouse 22 = .ok (.istore_n 1, 1) := by decide +kernel
theorem dX8_worstHouse_23 : decode cX8_worstHouse 23 = .ok (.iconst 1, 1) := by decide +kernel
theorem dX8_worstHouse_24 : decode cX8_worstHouse 24 = .ok (.istore_n 2, 1) := by decide +kernel
theorem dX8_worstHouse_25 : decode cX8_worstHouse 25 = .ok (.iload_n 2, 1) := by decide +kernel
theorem dX8_worstHouse_26 : decode cX8_worstHouse 26 = .ok (.aload_n 0, 1) := by decide +kernel
theorem dX8_worstHouse_27 : decode cX8_worstHouse 27 = .ok (.getfield 26, 3) := by decide +kernel
theorem dX8_worstHouse_30 : decode cX8_worstHouse 30 = .ok (.getfield 117, 3) := by decide +kernel
theorem dX8_worstHouse_33 : decode cX8_worstHouse 33 = .ok (.if_icmp .ge 24, 3) := by decide +kernel
theorem dX8_worstHouse_36 : decode cX8_worstHouse 36 = .ok (.aload_n 0, 1) := by decide +kernel
theorem dX8_worstHouse_37 : decode cX8_worstHouse 37 = .ok (.iload_n 2, 1) := by decide +kernel
theorem dX8_worstHouse_38 : decode cX8_worstHouse 38 = .ok (.invokevirtual 283, 3) := by decide +kernel
theorem dX8_worstHouse_41 : decode cX8_worstHouse 41 = .ok (.aload_n 0, 1) := by decide +kernel
theorem dX8_worstHouse_42 : decode cX8_worstHouse 42 = .ok (.iload_n 1, 1) := by decide +kernel
theorem dX8_worstHouse_43 : decode cX8_worstHouse 43 = .ok (.invokevirtual 283, 3) := by decide +kernel
theorem dX8_worstHouse_46 : decode cX8_worstHouse 46 = .ok (.if_icmp .le 5, 3) := by decide +kernel
theorem dX8_worstHouse_49 : decode cX8_worstHouse 49 = .ok (.iload_n 2, 1) := by decide +kernel
theorem dX8_worstHouse_50 : decode cX8_worstHouse 50 = .ok (.istore_n 1, 1) := by decide +kernel
theorem dX8_worstHouse_51 : decode cX8_worstHouse 51 = .ok (.iinc 2 1, 3) := by decide +kernel
theorem dX8_worstHouse_54 : decode cX8_worstHouse 54 = .ok (.goto (-29), 3) := by decide +kernel
theorem dX8_worstHouse_57 : decode cX8_worstHouse 57 = .ok (.iload_n 1, 1) := by decide +kernel
theorem dX8_worstHouse_58 : decode cX8_worstHouse 58 = .ok (.ireturn, 1) := by decide +kernel
set_option maxRecDepth 20000 in
theorem ggX8_meanSinking_X1_sinkingOver : GoodIn wsX8_meanSinking wsX1_sinkingOver := goodIn_ca (goodIn_r _ [10, 11, 12, 13, 14, 9, 15, 16, 35, 36, 37, 38] (by decide +kernel) (by decide +kernel)) (goodIn_sub (fun _ h => List.mem_cons_of_mem _ (List.mem_append_right _ h)) (by decide +kernel))
set_option maxRecDepth 20000 in
theorem gX8_meanSinking_X1_sinkingOver : GoodIn wsX8_meanSinking (wsV RX8 277 RX1 yX1_sinkingOver wsX1_sinkingOver) := goodIn_app (goodIn_of _ (by decide +kernel)) ggX8_meanSinking_X1_sinkingOver
theorem dX8_meanSinking_0 : decode cX8_meanSinking 0 = .ok (.aload_n 0, 1) := by decide +kernel
theorem dX8_meanSinking_1 : decode cX8_meanSinking 1 = .ok (.getfield 40, 3) := by decide +kernel
theorem dX8_meanSinking_4 : decode cX8_meanSinking 4 = .ok (.getfield 178, 3) := by decide +kernel
theorem dX8_meanSinking_7 : decode cX8_meanSinking 7 = .ok (.ifCond .ne 14, 3) := by decide +kernel
theorem dX8_meanSinking_10 : decode cX8_meanSinking 10 = .ok (.new 168, 3) := by decide +kernel
theorem dX8_meanSinking_13 : decode cX8_meanSinking 13 = .ok (.dup, 1) := by decide +kernel
theorem dX8_meanSinking_14 : decode cX8_meanSinking 14 = .ok (.ldc_w 299, 3) := by decide +kernel
theorem dX8_meanSinking_17 : decode cX8_meanSinking 17 = .ok (.invokespecial 172, 3) := by decide +kernel
theorem dX8_meanSinking_20 : decode cX8_meanSinking 20 = .ok (.athrow, 1) := by decide +kernel
theorem dX8_meanSinking_21 : decode cX8_meanSinking 21 = .ok (.iconst 0, 1) := by decide +kernel
theorem dX8_meanSinking_22 : decode cX8_meanSinking 22 = .ok (.istore_n 1, 1) := by decide +kernel
theorem dX8_meanSinking_23 : decode cX8_meanSinking 23 = .ok (.iconst 0, 1) := by decide +kernel
theorem dX8_meanSinking_24 : decode cX8_meanSinking 24 = .ok (.istore_n 2, 1) := by decide +kernel
theorem dX8_meanSinking_25 : decode cX8_meanSinking 25 = .ok (.iload_n 2, 1) := by decide +kernel
theorem dX8_meanSinking_26 : decode cX8_meanSinking 26 = .ok (.aload_n 0, 1) := by decide +kernel
theorem dX8_meanSinking_27 : decode cX8_meanSinking 27 = .ok (.getfield 40, 3) := by decide +kernel
theorem dX8_meanSinking_30 : decode cX8_meanSinking 30 = .ok (.getfield 178, 3) := by decide +kernel
theorem dX8_meanSinking_33 : decode cX8_meanSinking 33 = .ok (.if_icmp .ge 20, 3) := by decide +kernel
theorem dX8_meanSinking_36 : decode cX8_meanSinking 36 = .ok (.iload_n 1, 1) := by decide +kernel
theorem dX8_meanSinking_37 : decode cX8_meanSinking 37 = .ok (.aload_n 0, 1) := by decide +kernel
theorem dX8_meanSinking_38 : decode cX8_meanSinking 38 = .ok (.getfield 10, 3) := by decide +kernel
theorem dX8_meanSinking_41 : decode cX8_meanSinking 41 = .ok (.iload_n 2, 1) := by decide +kernel
theorem dX8_meanSinking_42 : decode cX8_meanSinking 42 = .ok (.invokevirtual 277, 3) := by decide +kernel
theorem dX8_meanSinking_45 : decode cX8_meanSinking 45 = .ok (.iadd, 1) := by decide +kernel
theorem dX8_meanSinking_46 : decode cX8_meanSinking 46 = .ok (.istore_n 1, 1) := by decide +kernel
theorem dX8_meanSinking_47 : decode cX8_meanSinking 47 = .ok (.iinc 2 1, 3) := by decide +kernel
theorem dX8_meanSinking_50 : decode cX8_meanSinking 50 = .ok (.goto (-25), 3) := by decide +kernel
theorem dX8_meanSinking_53 : decode cX8_meanSinking 53 = .ok (.iload_n 1, 1) := by decide +kernel
theorem dX8_meanSinking_54 : decode cX8_meanSinking 54 = .ok (.i2d, 1) := by decide +kernel
theorem dX8_meanSinking_55 : decode cX8_meanSinking 55 = .ok (.aload_n 0, 1) := by decide +kernel
theorem dX8_meanSinking_56 : decode cX8_meanSinking 56 = .ok (.getfield 40, 3) := by decide +kernel
theorem dX8_meanSinking_59 : decode cX8_meanSinking 59 = .ok (.getfield 178, 3) := by decide +kernel
theorem dX8_meanSinking_62 : decode cX8_meanSinking 62 = .ok (.i2d, 1) := by decide +kernel
theorem dX8_meanSinking_63 : decode cX8_meanSinking 63 = .ok (.ddiv, 1) := by decide +kernel
theorem dX8_meanSinking_64 : decode cX8_meanSinking 64 = .ok (.dreturn, 1) := by decide +kernel
set_option maxRecDepth 20000 in
theorem ggX8_isConsistent_X0_restart : GoodIn wsX8_isConsistent wsX0_restart := goodIn_r _ [14, 15, 16, 17, 18, 53, 54, 55, 56] (by decide +kernel) (by decide +kernel)
set_option maxRecDepth 20000 in
theorem gX8_isConsistent_X0_restart : GoodIn wsX8_isConsistent (wsV RX8 301 RX0 yX0_restart wsX0_restart) := goodIn_app (goodIn_of _ (by decide +kernel)) ggX8_isConsistent_X0_restart
set_option maxRecDepth 20000 in
theorem ggX8_isConsistent_X0_addRing : GoodIn wsX8_isConsistent wsX0_addRing := goodIn_ca (goodIn_r _ [22, 23, 24, 25, 13, 26, 17, 18, 15, 16, 53, 54, 55, 56] (by decide +kernel) (by decide +kernel)) (goodIn_sub (fun _ h => List.mem_cons_of_mem _ (List.mem_append_right _ h)) (by decide +kernel))
set_option maxRecDepth 20000 in
theorem gX8_isConsistent_X0_addRing : GoodIn wsX8_isConsistent (wsV RX8 304 RX0 yX0_addRing wsX0_addRing) := goodIn_app (goodIn_of _ (by decide +kernel)) ggX8_isConsistent_X0_addRing
set_option maxRecDepth 20000 in
theorem ggX8_isConsistent_X8_fits : GoodIn wsX8_isConsistent wsX8_fits := goodIn_r _ [30, 31, 32, 33, 34] (by decide +kernel) (by decide +kernel)
set_option maxRecDepth 20000 in
theorem gX8_isConsistent_X8_fits : GoodIn wsX8_isConsistent (va_wsS RX8 263 yX8_fits wsX8_fits) := goodIn_app (goodIn_of _ (by decide +kernel)) ggX8_isConsistent_X8_fits
theorem dX8_isConsistent_0 : decode cX8_isConsistent 0 = .ok (.aload_n 0, 1) := by decide +kernel
theorem dX8_isConsistent_1 : decode cX8_isConsistent 1 = .ok (.getfield 54, 3) := by decide +kernel
theorem dX8_isConsistent_4 : decode cX8_isConsistent 4 = .ok (.invokevirtual 301, 3) := by decide +kernel
theorem dX8_isConsistent_7 : decode cX8_isConsistent 7 = .ok (.iconst (-1), 1) := by decide +kernel
theorem dX8_isConsistent_8 : decode cX8_isConsistent 8 = .ok (.istore_n 1, 1) := by decide +kernel
theorem dX8_isConsistent_9 : decode cX8_isConsistent 9 = .ok (.iconst 0, 1) := by decide +kernel
theorem dX8_isConsistent_10 : decode cX8_isConsistent 10 = .ok (.istore_n 2, 1) := by decide +kernel
theorem dX8_isConsistent_11 : decode cX8_isConsistent 11 = .ok (.iload_n 2, 1) := by decide +kernel
theorem dX8_isConsistent_12 : decode cX8_isConsistent 12 = .ok (.aload_n 0, 1) := by decide +kernel
theorem dX8_isConsistent_13 : decode cX8_isConsistent 13 = .ok (.getfield 40, 3) := by decide +kernel
theorem dX8_isConsistent_16 : decode cX8_isConsistent 16 = .ok (.getfield 178, 3) := by decide +kernel
theorem dX8_isConsistent_19 : decode cX8_isConsistent 19 = .ok (.if_icmp .ge 86, 3) := by decide +kernel
theorem dX8_isConsistent_22 : decode cX8_isConsistent 22 = .ok (.aload_n 0, 1) := by decide +kernel
theorem dX8_isConsistent_23 : decode cX8_isConsistent 23 = .ok (.getfield 40, 3) := by decide +kernel
theorem dX8_isConsistent_26 : decode cX8_isConsistent 26 = .ok (.getfield 221, 3) := by decide +kernel
theorem dX8_isConsistent_29 : decode cX8_isConsistent 29 = .ok (.iload_n 2, 1) := by decide +kernel
theorem dX8_isConsistent_30 : decode cX8_isConsistent 30 = .ok (.iaload, 1) := by decide +kernel
theorem dX8_isConsistent_31 : decode cX8_isConsistent 31 = .ok (.istore_n 3, 1) := by decide +kernel
theorem dX8_isConsistent_32 : decode cX8_isConsistent 32 = .ok (.aload_n 0, 1) := by decide +kernel
theorem dX8_isConsistent_33 : decode cX8_isConsistent 33 = .ok (.getfield 54, 3) := by decide +kernel
theorem dX8_isConsistent_36 : decode cX8_isConsistent 36 = .ok (.iload_n 3, 1) := by decide +kernel
theorem dX8_isConsistent_37 : decode cX8_isConsistent 37 = .ok (.aload_n 0, 1) := by decide +kernel
theorem dX8_isConsistent_38 : decode cX8_isConsistent 38 = .ok (.getfield 40, 3) := by decide +kernel
theorem dX8_isConsistent_41 : decode cX8_isConsistent 41 = .ok (.getfield 224, 3) := by decide +kernel
theorem dX8_isConsistent_44 : decode cX8_isConsistent 44 = .ok (.iload_n 2, 1) := by decide +kernel
theorem dX8_isConsistent_45 : decode cX8_isConsistent 45 = .ok (.iaload, 1) := by decide +kernel
theorem dX8_isConsistent_46 : decode cX8_isConsistent 46 = .ok (.invokevirtual 304, 3) := by decide +kernel
theorem dX8_isConsistent_49 : decode cX8_isConsistent 49 = .ok (.aload_n 0, 1) := by decide +kernel
theorem dX8_isConsistent_50 : decode cX8_isConsistent 50 = .ok (.getfield 54, 3) := by decide +kernel
theorem dX8_isConsistent_53 : decode cX8_isConsistent 53 = .ok (.getfield 236, 3) := by decide +kernel
theorem dX8_isConsistent_56 : decode cX8_isConsistent 56 = .ok (.aload_n 0, 1) := by decide +kernel
theorem dX8_isConsistent_57 : decode cX8_isConsistent 57 = .ok (.getfield 40, 3) := by decide +kernel
theorem dX8_isConsistent_60 : decode cX8_isConsistent 60 = .ok (.getfield 227, 3) := by decide +kernel
theorem dX8_isConsistent_63 : decode cX8_isConsistent 63 = .ok (.iload_n 2, 1) := by decide +kernel
theorem dX8_isConsistent_64 : decode cX8_isConsistent 64 = .ok (.iaload, 1) := by decide +kernel
theorem dX8_isConsistent_65 : decode cX8_isConsistent 65 = .ok (.if_icmp .ne 30, 3) := by decide +kernel
theorem dX8_isConsistent_68 : decode cX8_isConsistent 68 = .ok (.aload_n 0, 1) := by decide +kernel
theorem dX8_isConsistent_69 : decode cX8_isConsistent 69 = .ok (.getfield 54, 3) := by decide +kernel
theorem dX8_isConsistent_72 : decode cX8_isConsistent 72 = .ok (.getfield 239, 3) := by decide +kernel
theorem dX8_isConsistent_75 : decode cX8_isConsistent 75 = .ok (.aload_n 0, 1) := by decide +kernel
theorem dX8_isConsistent_76 : decode cX8_isConsistent 76 = .ok (.getfield 40, 3) := by decide +kernel
theorem dX8_isConsistent_79 : decode cX8_isConsistent 79 = .ok (.getfield 230, 3) := by decide +kernel
theorem dX8_isConsistent_82 : decode cX8_isConsistent 82 = .ok (.iload_n 2, 1) := by decide +kernel
theorem dX8_isConsistent_83 : decode cX8_isConsistent 83 = .ok (.iaload, 1) := by decide +kernel
theorem dX8_isConsistent_84 : decode cX8_isConsistent 84 = .ok (.if_icmp .ne 11, 3) := by decide +kernel
theorem dX8_isConsistent_87 : decode cX8_isConsistent 87 = .ok (.iload_n 1, 1) := by decide +kernel
theorem dX8_isConsistent_88 : decode cX8_isConsistent 88 = .ok (.iload_n 3, 1) := by decide +kernel
theorem dX8_isConsistent_89 : decode cX8_isConsistent 89 = .ok (.invokestatic 263, 3) := by decide +kernel
theorem dX8_isConsistent_92 : decode cX8_isConsistent 92 = .ok (.ifCond .ne 5, 3) := by decide +kernel
theorem dX8_isConsistent_95 : decode cX8_isConsistent 95 = .ok (.iconst 0, 1) := by decide +kernel
theorem dX8_isConsistent_96 : decode cX8_isConsistent 96 = .ok (.ireturn, 1) := by decide +kernel
theorem dX8_isConsistent_97 : decode cX8_isConsistent 97 = .ok (.iload_n 3, 1) := by decide +kernel
theorem dX8_isConsistent_98 : decode cX8_isConsistent 98 = .ok (.istore_n 1, 1) := by decide +kernel
theorem dX8_isConsistent_99 : decode cX8_isConsistent 99 = .ok (.iinc 2 1, 3) := by decide +kernel
theorem dX8_isConsistent_102 : decode cX8_isConsistent 102 = .ok (.goto (-91), 3) := by decide +kernel
theorem dX8_isConsistent_105 : decode cX8_isConsistent 105 = .ok (.iconst 1, 1) := by decide +kernel
theorem dX8_isConsistent_106 : decode cX8_isConsistent 106 = .ok (.ireturn, 1) := by decide +kernel
set_option maxRecDepth 20000 in
theorem ggX8_writeRings_X8_checkLaid : GoodIn wsX8_writeRings wsX8_checkLaid := goodIn_ca (goodIn_r _ [15, 16, 17, 1, 2, 34, 35, 36, 37, 38, 39, 40, 41, 42, 43, 44, 45, 46, 47, 48, 49, 50, 51] (by decide +kernel) (by decide +kernel)) (goodIn_sub (fun _ h => List.mem_cons_of_mem _ (List.mem_append_right _ h)) (by decide +kernel))
set_option maxRecDepth 20000 in
theorem gX8_writeRings_X8_checkLaid : GoodIn wsX8_writeRings (wsV RX8 218 RX8 yX8_checkLaid wsX8_checkLaid) := goodIn_app (goodIn_of _ (by decide +kernel)) ggX8_writeRings_X8_checkLaid
set_option maxRecDepth 20000 in
theorem ggX8_writeRings_X5_clear : GoodIn wsX8_writeRings wsX5_clear := goodIn_r _ [22, 23, 52, 53] (by decide +kernel) (by decide +kernel)
set_option maxRecDepth 20000 in
theorem gX8_writeRings_X5_clear : GoodIn wsX8_writeRings (wsV RX8 310 RX5 yX5_clear wsX5_clear) := goodIn_app (goodIn_of _ (by decide +kernel)) ggX8_writeRings_X5_clear
set_option maxRecDepth 20000 in
theorem ggX8_writeRings_X5_put : GoodIn wsX8_writeRings wsX5_put := goodIn_ca (goodIn_r _ [27, 23, 28, 52, 53] (by decide +kernel) (by decide +kernel)) (goodIn_sub (fun _ h => List.mem_cons_of_mem _ (List.mem_append_left _ (List.mem_append_right _ h))) (by decide +kernel))
set_option maxRecDepth 20000 in
theorem gX8_writeRings_X5_put : GoodIn wsX8_writeRings (wsV RX8 313 RX5 yX5_put wsX5_put) := goodIn_app (goodIn_of _ (by decide +kernel)) ggX8_writeRings_X5_put
set_option maxRecDepth 20000 in
theorem ggX8_writeRings_X5_putDigit : GoodIn wsX8_writeRings wsX5_putDigit := goodIn_ca (goodIn_r _ [32, 33, 25, 26, 21, 27, 23, 28, 52, 53] (by decide +kernel) (by decide +kernel)) (goodIn_sub (fun _ h => List.mem_cons_of_mem _ (List.mem_append_left _ (List.mem_append_right _ h))) (by decide +kernel))
set_option maxRecDepth 20000 in
theorem gX8_writeRings_X5_putDigit : GoodIn wsX8_writeRings (wsV RX8 316 RX5 yX5_putDigit wsX5_putDigit) := goodIn_app (goodIn_of _ (by decide +kernel)) ggX8_writeRings_X5_putDigit
theorem dX8_writeRings_0 : decode cX8_writeRings 0 = .ok (.aload_n 0, 1) := by decide +kernel
theorem dX8_writeRings_1 : decode cX8_writeRings 1 = .ok (.iload_n 1, 1) := by decide +kernel
theorem dX8_writeRings_2 : decode cX8_writeRings 2 = .ok (.invokevirtual 218, 3) := by decide +kernel
theorem dX8_writeRings_5 : decode cX8_writeRings 5 = .ok (.aload_n 0, 1) := by decide +kernel
theorem dX8_writeRings_6 : decode cX8_writeRings 6 = .ok (.getfield 40, 3) := by decide +kernel
theorem dX8_writeRings_9 : decode cX8_writeRings 9 = .ok (.getfield 178, 3) := by decide +kernel
theorem dX8_writeRings_12 : decode cX8_writeRings 12 = .ok (.iload_n 1, 1) := by decide +kernel
theorem dX8_writeRings_13 : decode cX8_writeRings 13 = .ok (.bipush 10, 2) := by decide +kernel
theorem dX8_writeRings_15 : decode cX8_writeRings 15 = .ok (.iadd, 1) := by decide +kernel
theorem dX8_writeRings_16 : decode cX8_writeRings 16 = .ok (.invokestatic 307, 3) := by decide +kernel
theorem dX8_writeRings_19 : decode cX8_writeRings 19 = .ok (.istore_n 2, 1) := by decide +kernel
theorem dX8_writeRings_20 : decode cX8_writeRings 20 = .ok (.aload_n 0, 1) := by decide +kernel
theorem dX8_writeRings_21 : decode cX8_writeRings 21 = .ok (.getfield 61, 3) := by decide +kernel
theorem dX8_writeRings_24 : decode cX8_writeRings 24 = .ok (.invokevirtual 310, 3) := by decide +kernel
theorem dX8_writeRings_27 : decode cX8_writeRings 27 = .ok (.iload_n 1, 1) := by decide +kernel
theorem dX8_writeRings_28 : decode cX8_writeRings 28 = .ok (.istore_n 3, 1) := by decide +kernel
theorem dX8_writeRings_29 : decode cX8_writeRings 29 = .ok (.iload_n 3, 1) := by decide +kernel
theorem dX8_writeRings_30 : decode cX8_writeRings 30 = .ok (.iload_n 2, 1) := by decide +kernel
theorem dX8_writeRings_31 : decode cX8_writeRings 31 = .ok (.if_icmp .ge 64, 3) := by decide +kernel
theorem dX8_writeRings_34 : decode cX8_writeRings 34 = .ok (.iload_n 3, 1) := by decide +kernel
theorem dX8_writeRings_35 : decode cX8_writeRings 35 = .ok (.iload_n 1, 1) := by decide +kernel
theorem dX8_writeRings_36 : decode cX8_writeRings 36 = .ok (.if_icmp .le 12, 3) := by decide +kernel
theorem dX8_writeRings_39 : decode cX8_writeRings 39 = .ok (.aload_n 0, 1) := by decide +kernel
theorem dX8_writeRings_40 : decode cX8_writeRings 40 = .ok (.getfield 61, 3) := by decide +kernel
theorem dX8_writeRings_43 : decode cX8_writeRings 43 = .ok (.bipush 32, 2) := by decide +kernel
theorem dX8_writeRings_45 : decode cX8_writeRings 45 = .ok (.invokevirtual 313, 3) := by decide +kernel
theorem dX8_writeRings_48 : decode cX8_writeRings 48 = .ok (.aload_n 0, 1) := by decide +kernel
theorem dX8_writeRings_49 : decode cX8_writeRings 49 = .ok (.getfield 61, 3) := by decide +kernel
theorem dX8_writeRings_52 : decode cX8_writeRings 52 = .ok (.aload_n 0, 1) := by decide +kernel
theorem dX8_writeRings_53 : decode cX8_writeRings 53 = .ok (.getfield 40, 3) := by decide +kernel
theorem dX8_writeRings_56 : decode cX8_writeRings 56 = .ok (.getfield 221, 3) := by decide +kernel
theorem dX8_writeRings_59 : decode cX8_writeRings 59 = .ok (.iload_n 3, 1) := by decide +kernel
theorem dX8_writeRings_60 : decode cX8_writeRings 60 = .ok (.iaload, 1) := by decide +kernel
theorem dX8_writeRings_61 : decode cX8_writeRings 61 = .ok (.invokevirtual 316, 3) := by decide +kernel
theorem dX8_writeRings_64 : decode cX8_writeRings 64 = .ok (.aload_n 0, 1) := by decide +kernel
theorem dX8_writeRings_65 : decode cX8_writeRings 65 = .ok (.getfield 61, 3) := by decide +kernel
theorem dX8_writeRings_68 : decode cX8_writeRings 68 = .ok (.bipush 47, 2) := by decide +kernel
theorem dX8_writeRings_70 : decode cX8_writeRings 70 = .ok (.invokevirtual 313, 3) := by decide +kernel
theorem dX8_writeRings_73 : decode cX8_writeRings 73 = .ok (.aload_n 0, 1) := by decide +kernel
theorem dX8_writeRings_74 : decode cX8_writeRings 74 = .ok (.getfield 61, 3) := by decide +kernel
theorem dX8_writeRings_77 : decode cX8_writeRings 77 = .ok (.aload_n 0, 1) := by decide +kernel
theorem dX8_writeRings_78 : decode cX8_writeRings 78 = .ok (.getfield 40, 3) := by decide +kernel
theorem dX8_writeRings_81 : decode cX8_writeRings 81 = .ok (.getfield 224, 3) := by decide +kernel
theorem dX8_writeRings_84 : decode cX8_writeRings 84 = .ok (.iload_n 3, 1) := by decide +kernel
theorem dX8_writeRings_85 : decode cX8_writeRings 85 = .ok (.iaload, 1) := by decide +kernel
theorem dX8_writeRings_86 : decode cX8_writeRings 86 = .ok (.invokevirtual 316, 3) := by decide +kernel
theorem dX8_writeRings_89 : decode cX8_writeRings 89 = .ok (.iinc 3 1, 3) := by decide +kernel
theorem dX8_writeRings_92 : decode cX8_writeRings 92 = .ok (.goto (-63), 3) := by decide +kernel
theorem dX8_writeRings_95 : decode cX8_writeRings 95 = .ok (.aload_n 0, 1) := by decide +kernel
theorem dX8_writeRings_96 : decode cX8_writeRings 96 = .ok (.getfield 61, 3) := by decide +kernel
