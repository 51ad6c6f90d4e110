theorem dL_cell_0 : decode cL_cell 0 = .ok (.ldc 7, 2) := by decide +kernel
theorem dL_cell_2 : decode cL_cell 2 = .ok (.iload_n 1, 1) := by decide +kernel
theorem dL_cell_3 : decode cL_cell 3 = .ok (.aload_n 0, 1) := by decide +kernel
theorem dL_cell_4 : decode cL_cell 4 = .ok (.arraylength, 1) := by decide +kernel
theorem dL_cell_5 : decode cL_cell 5 = .ok (.if_icmp .ge 9, 3) := by decide +kernel
theorem dL_cell_8 : decode cL_cell 8 = .ok (.aload_n 0, 1) := by decide +kernel
theorem dL_cell_9 : decode cL_cell 9 = .ok (.iload_n 1, 1) := by decide +kernel
theorem dL_cell_10 : decode cL_cell 10 = .ok (.iaload, 1) := by decide +kernel
theorem dL_cell_11 : decode cL_cell 11 = .ok (.goto 4, 3) := by decide +kernel
theorem dL_cell_14 : decode cL_cell 14 = .ok (.iconst 0, 1) := by decide +kernel
theorem dL_cell_15 : decode cL_cell 15 = .ok (.sipush 1009, 3) := by decide +kernel
theorem dL_cell_18 : decode cL_cell 18 = .ok (.iload_n 1, 1) := by decide +kernel
theorem dL_cell_19 : decode cL_cell 19 = .ok (.imul, 1) := by decide +kernel
theorem dL_cell_20 : decode cL_cell 20 = .ok (.iadd, 1) := by decide +kernel
theorem dL_cell_21 : decode cL_cell 21 = .ok (.imul, 1) := by decide +kernel
theorem dL_cell_22 : decode cL_cell 22 = .ok (.sipush 12345, 3) := by decide +kernel
theorem dL_cell_25 : decode cL_cell 25 = .ok (.iadd, 1) := by decide +kernel
theorem dL_cell_26 : decode cL_cell 26 = .ok (.istore_n 2, 1) := by decide +kernel
theorem dL_cell_27 : decode cL_cell 27 = .ok (.iload_n 2, 1) := by decide +kernel
theorem dL_cell_28 : decode cL_cell 28 = .ok (.iload_n 2, 1) := by decide +kernel
theorem dL_cell_29 : decode cL_cell 29 = .ok (.bipush 13, 2) := by decide +kernel
theorem dL_cell_31 : decode cL_cell 31 = .ok (.iushr, 1) := by decide +kernel
theorem dL_cell_32 : decode cL_cell 32 = .ok (.ixor, 1) := by decide +kernel
theorem dL_cell_33 : decode cL_cell 33 = .ok (.ldc 8, 2) := by decide +kernel
theorem dL_cell_35 : decode cL_cell 35 = .ok (.imul, 1) := by decide +kernel
theorem dL_cell_36 : decode cL_cell 36 = .ok (.istore_n 2, 1) := by decide +kernel
theorem dL_cell_37 : decode cL_cell 37 = .ok (.iload_n 2, 1) := by decide +kernel
theorem dL_cell_38 : decode cL_cell 38 = .ok (.iload_n 2, 1) := by decide +kernel
theorem dL_cell_39 : decode cL_cell 39 = .ok (.bipush 16, 2) := by decide +kernel
theorem dL_cell_41 : decode cL_cell 41 = .ok (.iushr, 1) := by decide +kernel
theorem dL_cell_42 : decode cL_cell 42 = .ok (.ixor, 1) := by decide +kernel
theorem dL_cell_43 : decode cL_cell 43 = .ok (.ireturn, 1) := by decide +kernel
set_option maxRecDepth 20000 in
theorem ggL_addGround_X8_addGround : GoodIn wsL_addGround wsX8_addGround := goodIn_ca (goodIn_ca (goodIn_ca (goodIn_r _ [9, 10, 11, 12, 13, 14, 15, 8, 16, 17, 18, 19, 20, 21, 22, 23, 24, 25, 26, 27, 28, 29, 30, 31, 32, 33, 34, 35, 36, 37, 38, 39, 40, 41, 42, 43, 44, 45, 46] (by decide +kernel) (by decide +kernel)) (goodIn_sub (fun _ h => List.mem_cons_of_mem _ (List.mem_append_left _ (List.mem_append_left _ (List.mem_append_right _ h)))) (by decide +kernel))) (goodIn_sub (fun _ h => List.mem_cons_of_mem _ (List.mem_append_left _ (List.mem_append_right _ h))) (by decide +kernel))) (goodIn_sub (fun _ h => List.mem_cons_of_mem _ (List.mem_append_right _ h)) (by decide +kernel))
set_option maxRecDepth 20000 in
theorem gL_addGround_X8_addGround : GoodIn wsL_addGround (wsV RL 9 RX8 yX8_addGround wsX8_addGround) := goodIn_app (goodIn_of _ (by decide +kernel)) ggL_addGround_X8_addGround
theorem dL_addGround_0 : decode cL_addGround 0 = .ok (.aload_n 0, 1) := by decide +kernel
theorem dL_addGround_1 : decode cL_addGround 1 = .ok (.iload_n 1, 1) := by decide +kernel
theorem dL_addGround_2 : decode cL_addGround 2 = .ok (.iload_n 2, 1) := by decide +kernel
theorem dL_addGround_3 : decode cL_addGround 3 = .ok (.iload_n 3, 1) := by decide +kernel
theorem dL_addGround_4 : decode cL_addGround 4 = .ok (.invokevirtual 9, 3) := by decide +kernel
theorem dL_addGround_7 : decode cL_addGround 7 = .ok (.ireturn, 1) := by decide +kernel
theorem dL_addGround_8 : decode cL_addGround 8 = .ok (.astore 4, 2) := by decide +kernel
theorem dL_addGround_10 : decode cL_addGround 10 = .ok (.ldc 17, 2) := by decide +kernel
theorem dL_addGround_12 : decode cL_addGround 12 = .ok (.ireturn, 1) := by decide +kernel
theorem dL_addGround_13 : decode cL_addGround 13 = .ok (.astore 4, 2) := by decide +kernel
theorem dL_addGround_15 : decode cL_addGround 15 = .ok (.ldc 20, 2) := by decide +kernel
theorem dL_addGround_17 : decode cL_addGround 17 = .ok (.ireturn, 1) := by decide +kernel
set_option maxRecDepth 20000 in
theorem ggL_addCurve_X8_addCurve : GoodIn wsL_addCurve wsX8_addCurve := goodIn_ca (goodIn_ca (goodIn_ca (goodIn_r _ [9, 10, 11, 12, 13, 14, 15, 8, 16, 17, 18, 19, 20, 21, 22, 23, 24, 25, 26, 27, 28, 29, 30, 31, 32, 33, 34, 35, 36, 37, 38, 39, 40, 41, 42, 43, 44, 45] (by decide +kernel) (by decide +kernel)) (goodIn_sub (fun _ h => List.mem_cons_of_mem _ (List.mem_append_left _ (List.mem_append_left _ (List.mem_append_right _ h)))) (by decide +kernel))) (goodIn_sub (fun _ h => List.mem_cons_of_mem _ (List.mem_append_left _ (List.mem_append_right _ h))) (by decide +kernel))) (goodIn_sub (fun _ h => List.mem_cons_of_mem _ (List.mem_append_right _ h)) (by decide +kernel))
set_option maxRecDepth 20000 in
theorem gL_addCurve_X8_addCurve : GoodIn wsL_addCurve (wsV RL 21 RX8 yX8_addCurve wsX8_addCurve) := goodIn_app (goodIn_of _ (by decide +kernel)) ggL_addCurve_X8_addCurve
theorem dL_addCurve_0 : decode cL_addCurve 0 = .ok (.aload_n 0, 1) := by decide +kernel
theorem dL_addCurve_1 : decode cL_addCurve 1 = .ok (.iload_n 1, 1) := by decide +kernel
theorem dL_addCurve_2 : decode cL_addCurve 2 = .ok (.iload_n 2, 1) := by decide +kernel
theorem dL_addCurve_3 : decode cL_addCurve 3 = .ok (.iload_n 3, 1) := by decide +kernel
theorem dL_addCurve_4 : decode cL_addCurve 4 = .ok (.invokevirtual 21, 3) := by decide +kernel
theorem dL_addCurve_7 : decode cL_addCurve 7 = .ok (.ireturn, 1) := by decide +kernel
theorem dL_addCurve_8 : decode cL_addCurve 8 = .ok (.astore 4, 2) := by decide +kernel
theorem dL_addCurve_10 : decode cL_addCurve 10 = .ok (.ldc 17, 2) := by decide +kernel
theorem dL_addCurve_12 : decode cL_addCurve 12 = .ok (.ireturn, 1) := by decide +kernel
theorem dL_addCurve_13 : decode cL_addCurve 13 = .ok (.astore 4, 2) := by decide +kernel
theorem dL_addCurve_15 : decode cL_addCurve 15 = .ok (.ldc 20, 2) := by decide +kernel
theorem dL_addCurve_17 : decode cL_addCurve 17 = .ok (.ireturn, 1) := by decide +kernel
set_option maxRecDepth 20000 in
theorem ggL_addHouse_X8_addHouse : GoodIn wsL_addHouse wsX8_addHouse := goodIn_ca (goodIn_ca (goodIn_ca (goodIn_ca (goodIn_r _ [11, 12, 13, 14, 15, 16, 17, 18, 19, 20, 10, 21, 22, 23, 24, 25, 26, 27, 28, 29, 30, 31, 32, 33, 34, 35, 36, 37, 38, 39, 40, 41, 42, 43, 44, 45, 46, 47, 48, 49, 50, 51, 52, 53, 54, 55, 56, 57, 58, 59, 60, 61, 62, 63, 64, 65] (by decide +kernel) (by decide +kernel)) (goodIn_sub (fun _ h => List.mem_cons_of_mem _ (List.mem_append_left _ (List.mem_append_left _ (List.mem_append_left _ (List.mem_append_right _ h))))) (by decide +kernel))) (goodIn_sub (fun _ h => List.mem_cons_of_mem _ (List.mem_append_left _ (List.mem_append_left _ (List.mem_append_right _ h)))) (by decide +kernel))) (goodIn_sub (fun _ h => List.mem_cons_of_mem _ (List.mem_append_left _ (List.mem_append_right _ h))) (by decide +kernel))) (goodIn_sub (fun _ h => List.mem_cons_of_mem _ (List.mem_append_right _ h)) (by decide +kernel))
set_option maxRecDepth 20000 in
theorem gL_addHouse_X8_addHouse : GoodIn wsL_addHouse (wsV RL 24 RX8 yX8_addHouse wsX8_addHouse) := goodIn_app (goodIn_of _ (by decide +kernel)) ggL_addHouse_X8_addHouse
theorem dL_addHouse_0 : decode cL_addHouse 0 = .ok (.aload_n 0, 1) := by decide +kernel
theorem dL_addHouse_1 : decode cL_addHouse 1 = .ok (.iload_n 1, 1) := by decide +kernel
theorem dL_addHouse_2 : decode cL_addHouse 2 = .ok (.iload_n 2, 1) := by decide +kernel
theorem dL_addHouse_3 : decode cL_addHouse 3 = .ok (.iload_n 3, 1) := by decide +kernel
theorem dL_addHouse_4 : decode cL_addHouse 4 = .ok (.iload 4, 2) := by decide +kernel
theorem dL_addHouse_6 : decode cL_addHouse 6 = .ok (.invokevirtual 24, 3) := by decide +kernel
theorem dL_addHouse_9 : decode cL_addHouse 9 = .ok (.ireturn, 1) := by decide +kernel
theorem dL_addHouse_10 : decode cL_addHouse 10 = .ok (.astore 5, 2) := by decide +kernel
theorem dL_addHouse_12 : decode cL_addHouse 12 = .ok (.ldc 17, 2) := by decide +kernel
theorem dL_addHouse_14 : decode cL_addHouse 14 = .ok (.ireturn, 1) := by decide +kernel
theorem dL_addHouse_15 : decode cL_addHouse 15 = .ok (.astore 5, 2) := by decide +kernel
theorem dL_addHouse_17 : decode cL_addHouse 17 = .ok (.ldc 20, 2) := by decide +kernel
theorem dL_addHouse_19 : decode cL_addHouse 19 = .ok (.ireturn, 1) := by decide +kernel
theorem dL_addHouse_20 : decode cL_addHouse 20 = .ok (.astore 5, 2) := by decide +kernel
theorem dL_addHouse_22 : decode cL_addHouse 22 = .ok (.ldc 30, 2) := by decide +kernel
theorem dL_addHouse_24 : decode cL_addHouse 24 = .ok (.ireturn, 1) := by decide +kernel
set_option maxRecDepth 20000 in
theorem ggL_cast_X8_cast : GoodIn wsL_cast wsX8_cast := goodIn_ca (goodIn_ca (goodIn_ca (goodIn_ca (goodIn_r _ [11, 12, 13, 14, 15, 16, 17, 18, 10, 19, 20, 21, 22, 23, 24, 25, 26, 27, 28, 29, 30, 31, 32, 33, 34, 35, 36, 37, 38, 39, 40, 41, 42, 43, 44, 45, 46, 47, 48, 49, 50, 51, 52, 53] (by decide +kernel) (by decide +kernel)) (goodIn_sub (fun _ h => List.mem_cons_of_mem _ (List.mem_append_left _ (List.mem_append_left _ (List.mem_append_left _ (List.mem_append_right _ h))))) (by decide +kernel))) (goodIn_sub (fun _ h => List.mem_cons_of_mem _ (List.mem_append_left _ (List.mem_append_left _ (List.mem_append_right _ h)))) (by decide +kernel))) (goodIn_sub (fun _ h => List.mem_cons_of_mem _ (List.mem_append_left _ (List.mem_append_right _ h))) (by decide +kernel))) (goodIn_sub (fun _ h => List.mem_cons_of_mem _ (List.mem_append_right _ h)) (by decide +kernel))
set_option maxRecDepth 20000 in
theorem gL_cast_X8_cast : GoodIn wsL_cast (wsV RL 31 RX8 yX8_cast wsX8_cast) := goodIn_app (goodIn_of _ (by decide +kernel)) ggL_cast_X8_cast
theorem dL_cast_0 : decode cL_cast 0 = .ok (.aload_n 0, 1) := by decide +kernel
theorem dL_cast_1 : decode cL_cast 1 = .ok (.iload_n 1, 1) := by decide +kernel
theorem dL_cast_2 : decode cL_cast 2 = .ok (.iload_n 2, 1) := by decide +kernel
theorem dL_cast_3 : decode cL_cast 3 = .ok (.invokevirtual 31, 3) := by decide +kernel
theorem dL_cast_6 : decode cL_cast 6 = .ok (.ireturn, 1) := by decide +kernel
theorem dL_cast_7 : decode cL_cast 7 = .ok (.astore_n 3, 1) := by decide +kernel
theorem dL_cast_8 : decode cL_cast 8 = .ok (.ldc 17, 2) := by decide +kernel
theorem dL_cast_10 : decode cL_cast 10 = .ok (.ireturn, 1) := by decide +kernel
theorem dL_cast_11 : decode cL_cast 11 = .ok (.astore_n 3, 1) := by decide +kernel
theorem dL_cast_12 : decode cL_cast 12 = .ok (.ldc 20, 2) := by decide +kernel
theorem dL_cast_14 : decode cL_cast 14 = .ok (.ireturn, 1) := by decide +kernel
theorem dL_cast_15 : decode cL_cast 15 = .ok (.astore_n 3, 1) := by decide +kernel
theorem dL_cast_16 : decode cL_cast 16 = .ok (.ldc 30, 2) := by decide +kernel
theorem dL_cast_18 : decode cL_cast 18 = .ok (.ireturn, 1) := by decide +kernel
set_option maxRecDepth 20000 in
theorem ggL_heightOf_X8_heightOf : GoodIn wsL_heightOf wsX8_heightOf := goodIn_ca (goodIn_ca (goodIn_r _ [7, 8, 9, 10, 11, 6, 12, 13, 14, 15, 16, 17, 18, 19, 20, 21, 22, 23, 24, 25, 26, 27, 28, 29] (by decide +kernel) (by decide +kernel)) (goodIn_sub (fun _ h => List.mem_cons_of_mem _ (List.mem_append_left _ (List.mem_append_right _ h))) (by decide +kernel))) (goodIn_sub (fun _ h => List.mem_cons_of_mem _ (List.mem_append_right _ h)) (by decide +kernel))
set_option maxRecDepth 20000 in
theorem gL_heightOf_X8_heightOf : GoodIn wsL_heightOf (wsV RL 35 RX8 yX8_heightOf wsX8_heightOf) := goodIn_app (goodIn_of _ (by decide +kernel)) ggL_heightOf_X8_heightOf
theorem dL_heightOf_0 : decode cL_heightOf 0 = .ok (.aload_n 0, 1) := by decide +kernel
theorem dL_heightOf_1 : decode cL_heightOf 1 = .ok (.iload_n 1, 1) := by decide +kernel
theorem dL_heightOf_2 : decode cL_heightOf 2 = .ok (.invokevirtual 35, 3) := by decide +kernel
theorem dL_heightOf_5 : decode cL_heightOf 5 = .ok (.ireturn, 1) := by decide +kernel
theorem dL_heightOf_6 : decode cL_heightOf 6 = .ok (.astore_n 2, 1) := by decide +kernel
theorem dL_heightOf_7 : decode cL_heightOf 7 = .ok (.ldc 17, 2) := by decide +kernel
theorem dL_heightOf_9 : decode cL_heightOf 9 = .ok (.ireturn, 1) := by decide +kernel
set_option maxRecDepth 20000 in
theorem ggL_taperAt_X8_taperAt : GoodIn wsL_taperAt wsX8_taperAt := goodIn_ca (goodIn_ca (goodIn_ca (goodIn_r _ [9, 10, 11, 12, 13, 14, 15, 8, 16, 17, 18, 19, 20, 21, 22, 23, 24, 25, 26, 27, 28, 29, 30, 31, 32, 33, 34, 35, 36, 37, 38, 39] (by decide +kernel) (by decide +kernel)) (goodIn_sub (fun _ h => List.mem_cons_of_mem _ (List.mem_append_left _ (List.mem_append_left _ (List.mem_append_right _ h)))) (by decide +kernel))) (goodIn_sub (fun _ h => List.mem_cons_of_mem _ (List.mem_append_left _ (List.mem_append_right _ h))) (by decide +kernel))) (goodIn_sub (fun _ h => List.mem_cons_of_mem _ (List.mem_append_right _ h)) (by decide +kernel))
set_option maxRecDepth 20000 in
theorem gL_taperAt_X8_taperAt : GoodIn wsL_taperAt (wsV RL 39 RX8 yX8_taperAt wsX8_taperAt) := goodIn_app (goodIn_of _ (by decide +kernel)) ggL_taperAt_X8_taperAt
theorem dL_taperAt_0 : decode cL_taperAt 0 = .ok (.aload_n 0, 1) := by decide +kernel
theorem dL_taperAt_1 : decode cL_taperAt 1 = .ok (.iload_n 1, 1) := by decide +kernel
theorem dL_taperAt_2 : decode cL_taperAt 2 = .ok (.iload_n 2, 1) := by decide +kernel
theorem dL_taperAt_3 : decode cL_taperAt 3 = .ok (.invokevirtual 39, 3) := by decide +kernel
theorem dL_taperAt_6 : decode cL_taperAt 6 = .ok (.ireturn, 1) := by decide +kernel
theorem dL_taperAt_7 : decode cL_taperAt 7 = .ok (.astore_n 3, 1) := by decide +kernel
theorem dL_taperAt_8 : decode cL_taperAt 8 = .ok (.ldc 17, 2) := by decide +kernel
theorem dL_taperAt_10 : decode cL_taperAt 10 = .ok (.ireturn, 1) := by decide +kernel
theorem dL_taperAt_11 : decode cL_taperAt 11 = .ok (.astore_n 3, 1) := by decide +kernel
theorem dL_taperAt_12 : decode cL_taperAt 12 = .ok (.ldc 20, 2) := by decide +kernel
theorem dL_taperAt_14 : decode cL_taperAt 14 = .ok (.ireturn, 1) := by decide +kernel
set_option maxRecDepth 20000 in
theorem ggL_hoursToCure_X8_hoursToCure : GoodIn wsL_hoursToCure wsX8_hoursToCure := goodIn_ca (goodIn_ca (goodIn_ca (goodIn_r _ [9, 10, 11, 12, 13, 14, 8, 15, 16, 17, 18, 19, 20, 21, 22, 23, 24, 25, 26, 27, 28, 29, 30, 31, 32, 33, 34, 35, 36, 37, 38, 39, 40, 41, 42, 43, 44, 45, 46, 47, 48] (by decide +kernel) (by decide +kernel)) (goodIn_sub (fun _ h => List.mem_cons_of_mem _ (List.mem_append_left _ (List.mem_append_left _ (List.mem_append_right _ h)))) (by decide +kernel))) (goodIn_sub (fun _ h => List.mem_cons_of_mem _ (List.mem_append_left _ (List.mem_append_right _ h))) (by decide +kernel))) (goodIn_sub (fun _ h => List.mem_cons_of_mem _ (List.mem_append_right _ h)) (by decide +kernel))
set_option maxRecDepth 20000 in
theorem gL_hoursToCure_X8_hoursToCure : GoodIn wsL_hoursToCure (wsV RL 44 RX8 yX8_hoursToCure wsX8_hoursToCure) := goodIn_app (goodIn_of _ (by decide +kernel)) ggL_hoursToCure_X8_hoursToCure
theorem dL_hoursToCure_0 : decode cL_hoursToCure 0 = .ok (.aload_n 0, 1) := by decide +kernel
theorem dL_hoursToCure_1 : decode cL_hoursToCure 1 = .ok (.iload_n 1, 1) := by decide +kernel
theorem dL_hoursToCure_2 : decode cL_hoursToCure 2 = .ok (.invokevirtual 44, 3) := by decide +kernel
theorem dL_hoursToCure_5 : decode cL_hoursToCure 5 = .ok (.ireturn, 1) := by decide +kernel
theorem dL_hoursToCure_6 : decode cL_hoursToCure 6 = .ok (.astore_n 2, 1) := by decide +kernel
theorem dL_hoursToCure_7 : decode cL_hoursToCure 7 = .ok (.ldc 17, 2) := by decide +kernel
theorem dL_hoursToCure_9 : decode cL_hoursToCure 9 = .ok (.ireturn, 1) := by decide +kernel
theorem dL_hoursToCure_10 : decode cL_hoursToCure 10 = .ok (.astore_n 2, 1) := by decide +kernel
theorem dL_hoursToCure_11 : decode cL_hoursToCure 11 = .ok (.ldc 20, 2) := by decide +kernel
theorem dL_hoursToCure_13 : decode cL_hoursToCure 13 = .ok (.ireturn, 1) := by decide +kernel
set_option maxRecDepth 20000 in
theorem ggL_restack_X8_restack : GoodIn wsL_restack wsX8_restack := goodIn_ca (goodIn_ca (goodIn_ca (goodIn_ca (goodIn_r _ [11, 12, 13, 14, 15, 16, 17, 10, 18, 19, 20, 21, 22, 23, 24, 25, 26, 27, 28, 29, 30, 31, 32, 33, 34, 35, 36, 37, 38, 39, 40, 41, 42, 43, 44, 45, 46, 47, 48, 49, 50, 51, 52, 53, 54, 55, 56, 57, 58, 59, 60, 61] (by decide +kernel) (by decide +kernel)) (goodIn_sub (fun _ h => List.mem_cons_of_mem _ (List.mem_append_left _ (List.mem_append_left _ (List.mem_append_left _ (List.mem_append_right _ h))))) (by decide +kernel))) (goodIn_sub (fun _ h => List.mem_cons_of_mem _ (List.mem_append_left _ (List.mem_append_left _ (List.mem_append_right _ h)))) (by decide +kernel))) (goodIn_sub (fun _ h => List.mem_cons_of_mem _ (List.mem_append_left _ (List.mem_append_right _ h))) (by decide +kernel))) (goodIn_sub (fun _ h => List.mem_cons_of_mem _ (List.mem_append_right _ h)) (by decide +kernel))
set_option maxRecDepth 20000 in
theorem gL_restack_X8_restack : GoodIn wsL_restack (wsV RL 47 RX8 yX8_restack wsX8_restack) := goodIn_app (goodIn_of _ (by decide +kernel)) ggL_restack_X8_restack
theorem dL_restack_0 : decode cL_restack 0 = .ok (.aload_n 0, 1) := by decide +kernel
theorem dL_restack_1 : decode cL_restack 1 = .ok (.iload_n 1, 1) := by decide +kernel
theorem dL_restack_2 : decode cL_restack 2 = .ok (.iload_n 2, 1) := by decide +kernel
theorem dL_restack_3 : decode cL_restack 3 = .ok (.invokevirtual 47, 3) := by decide +kernel
theorem dL_restack_6 : decode cL_restack 6 = .ok (.ireturn, 1) := by decide +kernel
theorem dL_restack_7 : decode cL_restack 7 = .ok (.astore_n 3, 1) := by decide +kernel
theorem dL_restack_8 : decode cL_restack 8 = .ok (.ldc 17, 2) := by decide +kernel
theorem dL_restack_10 : decode cL_restack 10 = .ok (.ireturn, 1) := by decide +kernel
theorem dL_restack_11 : decode cL_restack 11 = .ok (.astore_n 3, 1) := by decide +kernel
theorem dL_restack_12 : decode cL_restack 12 = .ok (.ldc 20, 2) := by decide +kernel
theorem dL_restack_14 : decode cL_restack 14 = .ok (.ireturn, 1) := by decide +kernel
theorem dL_restack_15 : decode cL_restack 15 = .ok (.astore_n 3, 1) := by decide +kernel
theorem dL_restack_16 : decode cL_restack 16 = .ok (.ldc 30, 2) := by decide +kernel
theorem dL_restack_18 : decode cL_restack 18 = .ok (.ireturn, 1) := by decide +kernel
set_option maxRecDepth 20000 in
theorem ggL_curedShare_X8_curedShare : GoodIn wsL_curedShare wsX8_curedShare := goodIn_ca (goodIn_ca (goodIn_r _ [7, 8, 9, 10, 11, 12, 13, 14, 15, 16, 17, 18, 19, 20, 21, 22, 23, 24, 25, 26, 27, 28, 29, 30, 31, 32, 33, 34, 35, 36, 37, 38, 39, 40, 41, 42, 43, 44, 45] (by decide +kernel) (by decide +kernel)) (goodIn_sub (fun _ h => List.mem_cons_of_mem _ (List.mem_append_left _ (List.mem_append_right _ h))) (by decide +kernel))) (goodIn_sub (fun _ h => List.mem_cons_of_mem _ (List.mem_append_right _ h)) (by decide +kernel))
set_option maxRecDepth 20000 in
theorem gL_curedShare_X8_curedShare : GoodIn wsL_curedShare (wsV RL 50 RX8 yX8_curedShare wsX8_curedShare) := goodIn_app (goodIn_of _ (by decide +kernel)) ggL_curedShare_X8_curedShare
theorem dL_curedShare_0 : decode cL_curedShare 0 = .ok (.aload_n 0, 1) := by decide +kernel
theorem dL_curedShare_1 : decode cL_curedShare 1 = .ok (.invokevirtual 50, 3) := by decide +kernel
theorem dL_curedShare_4 : decode cL_curedShare 4 = .ok (.freturn, 1) := by decide +kernel
theorem dL_curedShare_5 : decode cL_curedShare 5 = .ok (.astore_n 1, 1) := by decide +kernel
theorem dL_curedShare_6 : decode cL_curedShare 6 = .ok (.ldc 56, 2) := by decide +kernel
theorem dL_curedShare_8 : decode cL_curedShare 8 = .ok (.freturn, 1) := by decide +kernel
set_option maxRecDepth 20000 in
theorem ggL_setPressure_X8_setPressure : GoodIn wsL_setPressure wsX8_setPressure := goodIn_ca (goodIn_r _ [7, 8, 9, 10, 6, 11, 12, 13, 14, 15, 16, 17, 18, 19, 20, 21, 22, 23, 24, 25] (by decide +kernel) (by decide +kernel)) (goodIn_sub (fun _ h => List.mem_cons_of_mem _ (List.mem_append_right _ h)) (by decide +kernel))
set_option maxRecDepth 20000 in
theorem gL_setPressure_X8_setPressure : GoodIn wsL_setPressure (wsV RL 57 RX8 yX8_setPressure wsX8_setPressure) := goodIn_app (goodIn_of _ (by decide +kernel)) ggL_setPressure_X8_setPressure
theorem dL_setPressure_0 : decode cL_setPressure 0 = .ok (.aload_n 0, 1) := by decide +kernel
theorem dL_setPressure_1 : decode cL_setPressure 1 = .ok (.iload_n 1, 1) := by decide +kernel
theorem dL_setPressure_2 : decode cL_setPressure 2 = .ok (.invokevirtual 57, 3) := by decide +kernel
theorem dL_setPressure_5 : decode cL_setPressure 5 = .ok (.ireturn, 1) := by decide +kernel
theorem dL_setPressure_6 : decode cL_setPressure 6 = .ok (.astore_n 2, 1) := by decide +kernel
theorem dL_setPressure_7 : decode cL_setPressure 7 = .ok (.ldc 17, 2) := by decide +kernel
theorem dL_setPressure_9 : decode cL_setPressure 9 = .ok (.ireturn, 1) := by decide +kernel
set_option maxRecDepth 20000 in
theorem ggL_addSlurry_X8_addSlurry : GoodIn wsL_addSlurry wsX8_addSlurry := goodIn_ca (goodIn_ca (goodIn_r _ [9, 10, 11, 12, 13, 14, 8, 15, 16, 17, 18, 19, 20, 21, 22, 23, 24, 25, 26, 27, 28, 29] (by decide +kernel) (by decide +kernel)) (goodIn_sub (fun _ h => List.mem_cons_of_mem _ (List.mem_append_left _ (List.mem_append_right _ h))) (by decide +kernel))) (goodIn_sub (fun _ h => List.mem_cons_of_mem _ (List.mem_append_right _ h)) (by decide +kernel))
set_option maxRecDepth 20000 in
theorem gL_addSlurry_X8_addSlurry : GoodIn wsL_addSlurry (wsV RL 60 RX8 yX8_addSlurry wsX8_addSlurry) := goodIn_app (goodIn_of _ (by decide +kernel)) ggL_addSlurry_X8_addSlurry
theorem dL_addSlurry_0 : decode cL_addSlurry 0 = .ok (.aload_n 0, 1) := by decide +kernel
theorem dL_addSlurry_1 : decode cL_addSlurry 1 = .ok (.iload_n 1, 1) := by decide +kernel
theorem dL_addSlurry_2 : decode cL_addSlurry 2 = .ok (.invokevirtual 60, 3) := by decide +kernel
theorem dL_addSlurry_5 : decode cL_addSlurry 5 = .ok (.ireturn, 1) := by decide +kernel
theorem dL_addSlurry_6 : decode cL_addSlurry 6 = .ok (.astore_n 2, 1) := by decide +kernel
theorem dL_addSlurry_7 : decode cL_addSlurry 7 = .ok (.ldc 17, 2) := by decide +kernel
theorem dL_addSlurry_9 : decode cL_addSlurry 9 = .ok (.ireturn, 1) := by decide +kernel
theorem dL_addSlurry_10 : decode cL_addSlurry 10 = .ok (.astore_n 2, 1) := by decide +kernel
theorem dL_addSlurry_11 : decode cL_addSlurry 11 = .ok (.ldc 20, 2) := by decide +kernel
theorem dL_addSlurry_13 : decode cL_addSlurry 13 = .ok (.ireturn, 1) := by decide +kernel
set_option maxRecDepth 20000 in
theorem ggL_slurryFor_X8_slurryFor : GoodIn wsL_slurryFor wsX8_slurryFor := goodIn_ca (goodIn_ca (goodIn_r _ [7, 8, 9, 10, 11, 12, 13, 14, 15, 16, 17, 18, 19, 20, 21, 6, 22, 23, 24, 25, 26, 27, 28, 29, 30, 31, 32, 33, 34, 35, 36, 37, 38, 39, 40, 41, 42, 43, 44, 45, 46, 47, 48, 49, 50, 51, 52, 53, 54, 55, 56, 57, 58, 59, 60] (by decide +kernel) (by decide +kernel)) (goodIn_sub (fun _ h => List.mem_cons_of_mem _ (List.mem_append_left _ (List.mem_append_right _ h))) (by decide +kernel))) (goodIn_sub (fun _ h => List.mem_cons_of_mem _ (List.mem_append_right _ h)) (by decide +kernel))
set_option maxRecDepth 20000 in
theorem gL_slurryFor_X8_slurryFor : GoodIn wsL_slurryFor (wsV RL 63 RX8 yX8_slurryFor wsX8_slurryFor) := goodIn_app (goodIn_of _ (by decide +kernel)) ggL_slurryFor_X8_slurryFor
theorem dL_slurryFor_0 : decode cL_slurryFor 0 = .ok (.aload_n 0, 1) := by decide +kernel
theorem dL_slurryFor_1 : decode cL_slurryFor 1 = .ok (.invokevirtual 63, 3) := by decide +kernel
theorem dL_slurryFor_4 : decode cL_slurryFor 4 = .ok (.ireturn, 1) := by decide +kernel
theorem dL_slurryFor_5 : decode cL_slurryFor 5 = .ok (.astore_n 1, 1) := by decide +kernel
theorem dL_slurryFor_6 : decode cL_slurryFor 6 = .ok (.ldc 17, 2) := by decide +kernel
theorem dL_slurryFor_8 : decode cL_slurryFor 8 = .ok (.ireturn, 1) := by decide +kernel
set_option maxRecDepth 20000 in
theorem ggL_setTolerance_X8_setTolerance : GoodIn wsL_setTolerance wsX8_setTolerance := goodIn_ca (goodIn_r _ [7, 8, 9, 10, 6, 11, 12, 13, 14, 15, 16, 17, 18, 19, 20, 21, 22, 23, 24, 25] (by decide +kernel) (by decide +kernel)) (goodIn_sub (fun _ h => List.mem_cons_of_mem _ (List.mem_append_right _ h)) (by decide +kernel))
set_option maxRecDepth 20000 in
theorem gL_setTolerance_X8_setTolerance : GoodIn wsL_setTolerance (wsV RL 67 RX8 yX8_setTolerance wsX8_setTolerance) := goodIn_app (goodIn_of _ (by decide +kernel)) ggL_setTolerance_X8_setTolerance
theorem dL_setTolerance_0 : decode cL_setTolerance 0 = .ok (.aload_n 0, 1) := by decide +kernel
theorem dL_setTolerance_1 : decode cL_setTolerance 1 = .ok (.iload_n 1, 1) := by decide +kernel
theorem dL_setTolerance_2 : decode cL_setTolerance 2 = .ok (.invokevirtual 67, 3) := by decide +kernel
theorem dL_setTolerance_5 : decode cL_setTolerance 5 = .ok (.ireturn, 1) := by decide +kernel
theorem dL_setTolerance_6 : decode cL_setTolerance 6 = .ok (.astore_n 2, 1) := by decide +kernel
theorem dL_setTolerance_7 : decode cL_setTolerance 7 = .ok (.ldc 17, 2) := by decide +kernel
theorem dL_setTolerance_9 : decode cL_setTolerance 9 = .ok (.ireturn, 1) := by decide +kernel
set_option maxRecDepth 20000 in
theorem ggL_reasonFor_X8_reasonFor : GoodIn wsL_reasonFor wsX8_reasonFor := goodIn_ca (goodIn_ca (goodIn_ca (goodIn_r _ [9, 10, 11, 8, 12, 13, 14, 15, 16, 17, 18, 19, 20, 21, 22, 23, 24, 25, 26, 27, 28, 29, 30, 31, 32, 33, 34, 35, 36, 37, 38, 39, 40, 41, 42, 43, 44, 45, 46, 47, 48, 49, 50, 51, 52, 53, 54, 55, 56, 57, 58, 59, 60, 61, 62, 63, 64, 65, 66, 67, 68, 69, 70, 71, 72, 73, 74, 75, 76, 77, 78, 79, 80, 81, 82, 83, 84, 85, 86, 87, 88, 89, 90, 91, 92, 93, 94, 95, 96, 97, 98, 99, 100, 101, 102, 103, 104, 105, 106, 107, 108, 109, 110, 111, 112, 113, 114, 115, 116, 117, 118, 119, 120, 121, 122, 123, 124, 125, 126, 127, 128, 129, 130, 131, 132, 133, 134, 135, 136, 137, 138, 139, 140, 141, 142, 143, 144, 145, 146, 147, 148, 149, 150, 151, 152, 153, 154, 155, 156, 157, 158, 159, 160, 161, 162, 163, 164, 165, 166, 167, 168, 169, 170, 171, 172, 173, 174, 175, 176, 177, 178, 179, 180, 181, 182, 183, 184, 185, 186, 187, 188, 189, 190, 191, 192, 193, 194, 195, 196, 197, 198, 199, 200, 201, 202, 203, 204, 205, 206, 207, 208] (by decide +kernel) (by decide +kernel)) (goodIn_sub (fun _ h => List.mem_cons_of_mem _ (List.mem_append_left _ (List.mem_append_left _ (List.mem_append_right _ h)))) (by decide +kernel))) (goodIn_sub (fun _ h => List.mem_cons_of_mem _ (List.mem_append_left _ (List.mem_append_right _ h))) (by decide +kernel))) (goodIn_sub (fun _ h => List.mem_cons_of_mem _ (List.mem_append_right _ h)) (by decide +kernel))
set_option maxRecDepth 20000 in
theorem gL_reasonFor_X8_reasonFor : GoodIn wsL_reasonFor (wsV RL 70 RX8 yX8_reasonFor wsX8_reasonFor) := goodIn_app (goodIn_of _ (by decide +kernel)) ggL_reasonFor_X8_reasonFor
theorem dL_reasonFor_0 : decode cL_reasonFor 0 = .ok (.aload_n 0, 1) := by decide +kernel
theorem dL_reasonFor_1 : decode cL_reasonFor 1 = .ok (.iload_n 1, 1) := by decide +kernel
theorem dL_reasonFor_2 : decode cL_reasonFor 2 = .ok (.iload_n 2, 1) := by decide +kernel
theorem dL_reasonFor_3 : decode cL_reasonFor 3 = .ok (.invokevirtual 70, 3) := by decide +kernel
theorem dL_reasonFor_6 : decode cL_reasonFor 6 = .ok (.ireturn, 1) := by decide +kernel
theorem dL_reasonFor_7 : decode cL_reasonFor 7 = .ok (.astore_n 3, 1) := by decide +kernel
theorem dL_reasonFor_8 : decode cL_reasonFor 8 = .ok (.ldc 17, 2) := by decide +kernel
theorem dL_reasonFor_10 : decode cL_reasonFor 10 = .ok (.ireturn, 1) := by decide +kernel
theorem dL_reasonFor_11 : decode cL_reasonFor 11 = .ok (.astore_n 3, 1) := by decide +kernel
theorem dL_reasonFor_12 : decode cL_reasonFor 12 = .ok (.ldc 20, 2) := by decide +kernel
theorem dL_reasonFor_14 : decode cL_reasonFor 14 = .ok (.ireturn, 1) := by decide +kernel
set_option maxRecDepth 20000 in
theorem ggL_lay_X8_lay : GoodIn wsL_lay wsX8_lay := goodIn_ca (goodIn_ca (goodIn_ca (goodIn_ca (goodIn_ca (goodIn_r _ [13, 14, 15, 16, 17, 18, 19, 20, 21, 22, 23, 24, 12, 25, 26, 27, 28, 29, 30, 31, 32, 33, 34, 35, 36, 37, 38, 39, 40, 41, 42, 43, 44, 45, 46, 47, 48, 49, 50, 51, 52, 53, 54, 55, 56, 57, 58, 59, 60, 61, 62, 63, 64, 65, 66, 67, 68, 69, 70, 71, 72, 73, 74, 75, 76, 77, 78, 79, 80, 81, 82, 83, 84, 85, 86, 87, 88, 89, 90, 91, 92, 93, 94, 95, 96, 97, 98, 99, 100, 101, 102, 103, 104, 105, 106, 107, 108, 109, 110, 111, 112, 113, 114, 115, 116, 117, 118, 119, 120, 121, 122, 123, 124, 125, 126, 127, 128, 129, 130, 131, 132, 133, 134, 135, 136, 137, 138, 139, 140, 141, 142, 143, 144, 145, 146, 147, 148, 149, 150, 151, 152, 153, 154, 155, 156, 157, 158, 159, 160, 161, 162, 163, 164, 165, 166, 167, 168, 169, 170, 171, 172, 173, 174, 175, 176, 177, 178, 179, 180, 181, 182, 183, 184, 185, 186, 187, 188, 189, 190, 191, 192, 193, 194, 195, 196, 197, 198, 199, 200, 201, 202, 203, 204, 205, 206, 207, 208, 209, 210, 211, 212, 213, 214, 215, 216, 217, 218, 219, 220, 221, 222, 223, 224, 225, 226, 227, 228, 229, 230, 231, 232, 233, 234, 235, 236, 237, 238, 239, 240, 241, 242, 243, 244, 245, 246, 247, 248, 249, 250, 251, 252, 253, 254, 255, 256] (by decide +kernel) (by decide +kernel)) (goodIn_sub (fun _ h => List.mem_cons_of_mem _ (List.mem_append_left _ (List.mem_append_left _ (List.mem_append_left _ (List.mem_append_left _ (List.mem_append_right _ h)))))) (by decide +kernel))) (goodIn_sub (fun _ h => List.mem_cons_of_mem _ (List.mem_append_left _ (List.mem_append_left _ (List.mem_append_left _ (List.mem_append_right _ h))))) (by decide +kernel))) (goodIn_sub (fun _ h => List.mem_cons_of_mem _ (List.mem_append_left _ (List.mem_append_left _ (List.mem_append_right _ h)))) (by decide +kernel))) (goodIn_sub (fun _ h => List.mem_cons_of_mem _ (List.mem_append_left _ (List.mem_append_right _ h))) (by decide +kernel))) (goodIn_sub (fun _ h => List.mem_cons_of_mem _ (List.mem_append_right _ h)) (by decide +kernel))
set_option maxRecDepth 20000 in
theorem gL_lay_X8_lay : GoodIn wsL_lay (wsV RL 74 RX8 yX8_lay wsX8_lay) := goodIn_app (goodIn_of _ (by decide +kernel)) ggL_lay_X8_lay
theorem dL_lay_0 : decode cL_lay 0 = .ok (.aload_n 0, 1) := by decide +kernel
theorem dL_lay_1 : decode cL_lay 1 = .ok (.iload_n 1, 1) := by decide +kernel
theorem dL_lay_2 : decode cL_lay 2 = .ok (.iload_n 2, 1) := by decide +kernel
theorem dL_lay_3 : decode cL_lay 3 = .ok (.invokevirtual 74, 3) := by decide +kernel
theorem dL_lay_6 : decode cL_lay 6 = .ok (.ireturn, 1) := by decide +kernel
theorem dL_lay_7 : decode cL_lay 7 = .ok (.astore_n 3, 1) := by decide +kernel
theorem dL_lay_8 : decode cL_lay 8 = .ok (.ldc 17, 2) := by decide +kernel
theorem dL_lay_10 : decode cL_lay 10 = .ok (.ireturn, 1) := by decide +kernel
theorem dL_lay_11 : decode cL_lay 11 = .ok (.astore_n 3, 1) := by decide +kernel
theorem dL_lay_12 : decode cL_lay 12 = .ok (.ldc 20, 2) := by decide +kernel
theorem dL_lay_14 : decode cL_lay 14 = .ok (.ireturn, 1) := by decide +kernel
theorem dL_lay_15 : decode cL_lay 15 = .ok (.astore_n 3, 1) := by decide +kernel
theorem dL_lay_16 : decode cL_lay 16 = .ok (.ldc 30, 2) := by decide +kernel
theorem dL_lay_18 : decode cL_lay 18 = .ok (.ireturn, 1) := by decide +kernel
theorem dL_lay_19 : decode cL_lay 19 = .ok (.astore_n 3, 1) := by decide +kernel
theorem dL_lay_20 : decode cL_lay 20 = .ok (.ldc 79, 2) := by decide +kernel
theorem dL_lay_22 : decode cL_lay 22 = .ok (.ireturn, 1) := by decide +kernel
set_option maxRecDepth 20000 in
theorem ggL_stop_X8_stop : GoodIn wsL_stop wsX8_stop := goodIn_ca (goodIn_ca (goodIn_ca (goodIn_r _ [9, 10, 11, 12, 13, 14, 15, 16, 8, 17, 18, 19, 20, 21, 22, 23, 24, 25, 26, 27, 28, 29, 30, 31, 32, 33, 34, 35, 36, 37, 38, 39, 40, 41, 42, 43, 44, 45, 46, 47, 48, 49, 50, 51, 52, 53, 54, 55, 56, 57, 58, 59, 60, 61, 62, 63, 64, 65, 66, 67, 68, 69, 70, 71, 72, 73, 74, 75, 76] (by decide +kernel) (by decide +kernel)) (goodIn_sub (fun _ h => List.mem_cons_of_mem _ (List.mem_append_left _ (List.mem_append_left _ (List.mem_append_right _ h)))) (by decide +kernel))) (goodIn_sub (fun _ h => List.mem_cons_of_mem _ (List.mem_append_left _ (List.mem_append_right _ h))) (by decide +kernel))) (goodIn_sub (fun _ h => List.mem_cons_of_mem _ (List.mem_append_right _ h)) (by decide +kernel))
set_option maxRecDepth 20000 in
theorem gL_stop_X8_stop : GoodIn wsL_stop (wsV RL 80 RX8 yX8_stop wsX8_stop) := goodIn_app (goodIn_of _ (by decide +kernel)) ggL_stop_X8_stop
theorem dL_stop_0 : decode cL_stop 0 = .ok (.aload_n 0, 1) := by decide +kernel
theorem dL_stop_1 : decode cL_stop 1 = .ok (.iload_n 1, 1) := by decide +kernel
theorem dL_stop_2 : decode cL_stop 2 = .ok (.invokevirtual 80, 3) := by decide +kernel
theorem dL_stop_5 : decode cL_stop 5 = .ok (.ireturn, 1) := by decide +kernel
theorem dL_stop_6 : decode cL_stop 6 = .ok (.astore_n 2, 1) := by decide +kernel
theorem dL_stop_7 : decode cL_stop 7 = .ok (.ldc 17, 2) := by decide +kernel
theorem dL_stop_9 : decode cL_stop 9 = .ok (.ireturn, 1) := by decide +kernel
theorem dL_stop_10 : decode cL_stop 10 = .ok (.astore_n 2, 1) := by decide +kernel
theorem dL_stop_11 : decode cL_stop 11 = .ok (.ldc 20, 2) := by decide +kernel
theorem dL_stop_13 : decode cL_stop 13 = .ok (.ireturn, 1) := by decide +kernel
set_option maxRecDepth 20000 in
theorem ggL_positionOf_X8_positionOf : GoodIn wsL_positionOf wsX8_positionOf := goodIn_ca (goodIn_ca (goodIn_r _ [7, 8, 9, 10, 11, 12, 6, 13, 14, 15, 16, 17, 18, 19, 20, 21, 22, 23, 24, 25, 26, 27, 28, 29, 30, 31, 32, 33, 34] (by decide +kernel) (by decide +kernel)) (goodIn_sub (fun _ h => List.mem_cons_of_mem _ (List.mem_append_left _ (List.mem_append_right _ h))) (by decide +kernel))) (goodIn_sub (fun _ h => List.mem_cons_of_mem _ (List.mem_append_right _ h)) (by decide +kernel))
set_option maxRecDepth 20000 in
theorem gL_positionOf_X8_positionOf : GoodIn wsL_positionOf (wsV RL 83 RX8 yX8_positionOf wsX8_positionOf) := goodIn_app (goodIn_of _ (by decide +kernel)) ggL_positionOf_X8_positionOf
theorem dL_positionOf_0 : decode cL_positionOf 0 = .ok (.aload_n 0, 1) := by decide +kernel
theorem dL_positionOf_1 : decode cL_positionOf 1 = .ok (.iload_n 1, 1) := by decide +kernel
theorem dL_positionOf_2 : decode cL_positionOf 2 = .ok (.invokevirtual 83, 3) := by decide +kernel
theorem dL_positionOf_5 : decode cL_positionOf 5 = .ok (.ireturn, 1) := by decide +kernel
theorem dL_positionOf_6 : decode cL_positionOf 6 = .ok (.astore_n 2, 1) := by decide +kernel
theorem dL_positionOf_7 : decode cL_positionOf 7 = .ok (.ldc 17, 2) := by decide +kernel
theorem dL_positionOf_9 : decode cL_positionOf 9 = .ok (.ireturn, 1) := by decide +kernel
set_option maxRecDepth 20000 in
theorem ggL_taperOf_X8_taperOf : GoodIn wsL_taperOf wsX8_taperOf := goodIn_ca (goodIn_ca (goodIn_r _ [7, 8, 9, 10, 11, 12, 6, 13, 14, 15, 16, 17, 18, 19, 20, 21, 22, 23, 24, 25, 26, 27, 28, 29, 30, 31, 32, 33, 34] (by decide +kernel) (by decide +kernel)) (goodIn_sub (fun _ h => List.mem_cons_of_mem _ (List.mem_append_left _ (List.mem_append_right _ h))) (by decide +kernel))) (goodIn_sub (fun _ h => List.mem_cons_of_mem _ (List.mem_append_right _ h)) (by decide +kernel))
set_option maxRecDepth 20000 in
theorem gL_taperOf_X8_taperOf : GoodIn wsL_taperOf (wsV RL 86 RX8 yX8_taperOf wsX8_taperOf) := goodIn_app (goodIn_of _ (by decide +kernel)) ggL_taperOf_X8_taperOf
theorem dL_taperOf_0 : decode cL_taperOf 0 = .ok (.aload_n 0, 1) := by decide +kernel
theorem dL_taperOf_1 : decode cL_taperOf 1 = .ok (.iload_n 1, 1) := by decide +kernel
theorem dL_taperOf_2 : decode cL_taperOf 2 = .ok (.invokevirtual 86, 3) := by decide +kernel
theorem dL_taperOf_5 : decode cL_taperOf 5 = .ok (.ireturn, 1) := by decide +kernel
theorem dL_taperOf_6 : decode cL_taperOf 6 = .ok (.astore_n 2, 1) := by decide +kernel
theorem dL_taperOf_7 : decode cL_taperOf 7 = .ok (.ldc 17, 2) := by decide +kernel
theorem dL_taperOf_9 : decode cL_taperOf 9 = .ok (.ireturn, 1) := by decide +kernel
set_option maxRecDepth 20000 in
theorem ggL_xAfter_X8_xAfter : GoodIn wsL_xAfter wsX8_xAfter := goodIn_ca (goodIn_ca (goodIn_r _ [7, 8, 9, 10, 11, 12, 6, 13, 14, 15, 16, 17, 18, 19, 20, 21, 22, 23, 24, 25, 26, 27, 28, 29, 30, 31, 32, 33, 34] (by decide +kernel) (by decide +kernel)) (goodIn_sub (fun _ h => List.mem_cons_of_mem _ (List.mem_append_left _ (List.mem_append_right _ h))) (by decide +kernel))) (goodIn_sub (fun _ h => List.mem_cons_of_mem _ (List.mem_append_right _ h)) (by decide +kernel))
set_option maxRecDepth 20000 in
theorem gL_xAfter_X8_xAfter : GoodIn wsL_xAfter (wsV RL 89 RX8 yX8_xAfter wsX8_xAfter) := goodIn_app (goodIn_of _ (by decide +kernel)) ggL_xAfter_X8_xAfter
theorem dL_xAfter_0 : decode cL_xAfter 0 = .ok (.aload_n 0, 1) := by decide +kernel
theorem dL_xAfter_1 : decode cL_xAfter 1 = .ok (.iload_n 1, 1) := by decide +kernel
theorem dL_xAfter_2 : decode cL_xAfter 2 = .ok (.invokevirtual 89, 3) := by decide +kernel
theorem dL_xAfter_5 : decode cL_xAfter 5 = .ok (.ireturn, 1) := by decide +kernel
theorem dL_xAfter_6 : decode cL_xAfter 6 = .ok (.astore_n 2, 1) := by decide +kernel
theorem dL_xAfter_7 : decode cL_xAfter 7 = .ok (.ldc 17, 2) := by decide +kernel
theorem dL_xAfter_9 : decode cL_xAfter 9 = .ok (.ireturn, 1) := by decide +kernel
set_option maxRecDepth 20000 in
theorem ggL_yAfter_X8_yAfter : GoodIn wsL_yAfter wsX8_yAfter := goodIn_ca (goodIn_ca (goodIn_r _ [7, 8, 9, 10, 11, 12, 6, 13, 14, 15, 16, 17, 18, 19, 20, 21, 22, 23, 24, 25, 26, 27, 28, 29, 30, 31, 32, 33, 34] (by decide +kernel) (by decide +kernel)) (goodIn_sub (fun _ h => List.mem_cons_of_mem _ (List.mem_append_left _ (List.mem_append_right _ h))) (by decide +kernel))) (goodIn_sub (fun _ h => List.mem_cons_of_mem _ (List.mem_append_right _ h)) (by decide +kernel))
set_option maxRecDepth 20000 in
theorem gL_yAfter_X8_yAfter : GoodIn wsL_yAfter (wsV RL 92 RX8 yX8_yAfter wsX8_yAfter) := goodIn_app (goodIn_of _ (by decide +kernel)) ggL_yAfter_X8_yAfter
theorem dL_yAfter_0 : decode cL_yAfter 0 = .ok (.aload_n 0, 1) := by decide +kernel
theorem dL_yAfter_1 : decode cL_yAfter 1 = .ok (.iload_n 1, 1) := by decide +kernel
theorem dL_yAfter_2 : decode cL_yAfter 2 = .ok (.invokevirtual 92, 3) := by decide +kernel
theorem dL_yAfter_5 : decode cL_yAfter 5 = .ok (.ireturn, 1) := by decide +kernel
theorem dL_yAfter_6 : decode cL_yAfter 6 = .ok (.astore_n 2, 1) := by decide +kernel
theorem dL_yAfter_7 : decode cL_yAfter 7 = .ok (.ldc 17, 2) := by decide +kernel
theorem dL_yAfter_9 : decode cL_yAfter 9 = .ok (.ireturn, 1) := by decide +kernel
set_option maxRecDepth 20000 in
theorem ggL_xAnew_X8_xAnew : GoodIn wsL_xAnew wsX8_xAnew := goodIn_ca (goodIn_ca (goodIn_r _ [7, 8, 9, 10, 11, 12, 6, 13, 14, 15, 16, 17, 18, 19, 20, 21, 22, 23, 24, 25, 26, 27, 28, 29, 30, 31, 32, 33, 34, 35, 36, 37, 38, 39, 40, 41, 42, 43, 44, 45, 46, 47, 48, 49, 50, 51, 52, 53, 54, 55, 56, 57, 58, 59, 60, 61, 62] (by decide +kernel) (by decide +kernel)) (goodIn_sub (fun _ h => List.mem_cons_of_mem _ (List.mem_append_left _ (List.mem_append_right _ h))) (by decide +kernel))) (goodIn_sub (fun _ h => List.mem_cons_of_mem _ (List.mem_append_right _ h)) (by decide +kernel))
set_option maxRecDepth 20000 in
theorem gL_xAnew_X8_xAnew : GoodIn wsL_xAnew (wsV RL 95 RX8 yX8_xAnew wsX8_xAnew) := goodIn_app (goodIn_of _ (by decide +kernel)) ggL_xAnew_X8_xAnew
theorem dL_xAnew_0 : decode cL_xAnew 0 = .ok (.aload_n 0, 1) := by decide +kernel
theorem dL_xAnew_1 : decode cL_xAnew 1 = .ok (.iload_n 1, 1) := by decide +kernel
theorem dL_xAnew_2 : decode cL_xAnew 2 = .ok (.invokevirtual 95, 3) := by decide +kernel
theorem dL_xAnew_5 : decode cL_xAnew 5 = .ok (.ireturn, 1) := by decide +kernel
theorem dL_xAnew_6 : decode cL_xAnew 6 = .ok (.astore_n 2, 1) := by decide +kernel
theorem dL_xAnew_7 : decode cL_xAnew 7 = .ok (.ldc 17, 2) := by decide +kernel
theorem dL_xAnew_9 : decode cL_xAnew 9 = .ok (.ireturn, 1) := by decide +kernel
set_option maxRecDepth 20000 in
theorem ggL_yAnew_X8_yAnew : GoodIn wsL_yAnew wsX8_yAnew := goodIn_ca (goodIn_ca (goodIn_r _ [7, 8, 9, 10, 11, 12, 6, 13, 14, 15, 16, 17, 18, 19, 20, 21, 22, 23, 24, 25, 26, 27, 28, 29, 30, 31, 32, 33, 34, 35, 36, 37, 38, 39, 40, 41, 42, 43, 44, 45, 46, 47, 48, 49, 50, 51, 52, 53, 54, 55, 56, 57, 58, 59, 60, 61, 62] (by decide +kernel) (by decide +kernel)) (goodIn_sub (fun _ h => List.mem_cons_of_mem _ (List.mem_append_left _ (List.mem_append_right _ h))) (by decide +kernel))) (goodIn_sub (fun _ h => List.mem_cons_of_mem _ (List.mem_append_right _ h)) (by decide +kernel))
set_option maxRecDepth 20000 in
theorem gL_yAnew_X8_yAnew : GoodIn wsL_yAnew (wsV RL 98 RX8 yX8_yAnew wsX8_yAnew) := goodIn_app (goodIn_of _ (by decide +kernel)) ggL_yAnew_X8_yAnew
theorem dL_yAnew_0 : decode cL_yAnew 0 = .ok (.aload_n 0, 1) := by decide +kernel
theorem dL_yAnew_1 : decode cL_yAnew 1 = .ok (.iload_n 1, 1) := by decide +kernel
theorem dL_yAnew_2 : decode cL_yAnew 2 = .ok (.invokevirtual 98, 3) := by decide +kernel
theorem dL_yAnew_5 : decode cL_yAnew 5 = .ok (.ireturn, 1) := by decide +kernel
theorem dL_yAnew_6 : decode cL_yAnew 6 = .ok (.astore_n 2, 1) := by decide +kernel
theorem dL_yAnew_7 : decode cL_yAnew 7 = .ok (.ldc 17, 2) := by decide +kernel
theorem dL_yAnew_9 : decode cL_yAnew 9 = .ok (.ireturn, 1) := by decide +kernel
set_option maxRecDepth 20000 in
theorem ggL_deviationAfter_X8_deviationAfter : GoodIn wsL_deviationAfter wsX8_deviationAfter := goodIn_ca (goodIn_ca (goodIn_r _ [7, 8, 9, 10, 11, 12, 13, 14, 15, 16, 17, 18, 19, 20, 6, 21, 22, 23, 24, 25, 26, 27, 28, 29, 30, 31, 32, 33, 34, 35, 36, 37, 38, 39, 40, 41, 42, 43, 44, 45, 46, 47, 48, 49, 50, 51, 52, 53, 54, 55, 56, 57, 58, 59, 60, 61, 62, 63, 64, 65, 66, 67, 68, 69, 70, 71, 72, 73, 74, 75, 76, 77, 78, 79] (by decide +kernel) (by decide +kernel)) (goodIn_sub (fun _ h => List.mem_cons_of_mem _ (List.mem_append_left _ (List.mem_append_right _ h))) (by decide +kernel))) (goodIn_sub (fun _ h => List.mem_cons_of_mem _ (List.mem_append_right _ h)) (by decide +kernel))
set_option maxRecDepth 20000 in
theorem gL_deviationAfter_X8_deviationAfter : GoodIn wsL_deviationAfter (wsV RL 101 RX8 yX8_deviationAfter wsX8_deviationAfter) := goodIn_app (goodIn_of _ (by decide +kernel)) ggL_deviationAfter_X8_deviationAfter
theorem dL_deviationAfter_0 : decode cL_deviationAfter 0 = .ok (.aload_n 0, 1) := by decide +kernel
theorem dL_deviationAfter_1 : decode cL_deviationAfter 1 = .ok (.iload_n 1, 1) := by decide +kernel
theorem dL_deviationAfter_2 : decode cL_deviationAfter 2 = .ok (.invokevirtual 101, 3) := by decide +kernel
theorem dL_deviationAfter_5 : decode cL_deviationAfter 5 = .ok (.ireturn, 1) := by decide +kernel
theorem dL_deviationAfter_6 : decode cL_deviationAfter 6 = .ok (.astore_n 2, 1) := by decide +kernel
theorem dL_deviationAfter_7 : decode cL_deviationAfter 7 = .ok (.ldc 17, 2) := by decide +kernel
theorem dL_deviationAfter_9 : decode cL_deviationAfter 9 = .ok (.ireturn, 1) := by decide +kernel
set_option maxRecDepth 20000 in
theorem ggL_writeRings_X8_writeRings : GoodIn wsL_writeRings wsX8_writeRings := goodIn_ca (goodIn_ca (goodIn_r _ [7, 8, 9, 10, 11, 12, 13, 14, 15, 16, 17, 18, 19, 20, 6, 21, 22, 23, 24, 25, 26, 27, 28, 29, 30, 31, 32, 33, 34, 35, 36, 37, 38, 39, 40, 41, 42, 43, 44, 45, 46, 47, 48, 49, 50, 51, 52, 53, 54, 55, 56, 57, 58, 59] (by decide +kernel) (by decide +kernel)) (goodIn_sub (fun _ h => List.mem_cons_of_mem _ (List.mem_append_left _ (List.mem_append_right _ h))) (by decide +kernel))) (goodIn_sub (fun _ h => List.mem_cons_of_mem _ (List.mem_append_right _ h)) (by decide +kernel))
set_option maxRecDepth 20000 in
theorem gL_writeRings_X8_writeRings : GoodIn wsL_writeRings (wsV RL 104 RX8 yX8_writeRings wsX8_writeRings) := goodIn_app (goodIn_of _ (by decide +kernel)) ggL_writeRings_X8_writeRings
theorem dL_writeRings_0 : decode cL_writeRings 0 = .ok (.aload_n 0, 1) := by decide +kernel
theorem dL_writeRings_1 : decode cL_writeRings 1 = .ok (.iload_n 1, 1) := by decide +kernel
theorem dL_writeRings_2 : decode cL_writeRings 2 = .ok (.invokevirtual 104, 3) := by decide +kernel
theorem dL_writeRings_5 : decode cL_writeRings 5 = .ok (.ireturn, 1) := by decide +kernel
theorem dL_writeRings_6 : decode cL_writeRings 6 = .ok (.astore_n 2, 1) := by decide +kernel
theorem dL_writeRings_7 : decode cL_writeRings 7 = .ok (.ldc 17, 2) := by decide +kernel
theorem dL_writeRings_9 : decode cL_writeRings 9 = .ok (.ireturn, 1) := by decide +kernel
set_option maxRecDepth 20000 in
theorem ggL_lineAt_X8_lineAt : GoodIn wsL_lineAt wsX8_lineAt := goodIn_ca (goodIn_ca (goodIn_r _ [7, 8, 9, 10, 11, 12, 13, 14, 15, 16, 17, 18, 19, 20, 21, 22, 23, 24, 25, 26] (by decide +kernel) (by decide +kernel)) (goodIn_sub (fun _ h => List.mem_cons_of_mem _ (List.mem_append_left _ (List.mem_append_right _ h))) (by decide +kernel))) (goodIn_sub (fun _ h => List.mem_cons_of_mem _ (List.mem_append_right _ h)) (by decide +kernel))
set_option maxRecDepth 20000 in
theorem gL_lineAt_X8_lineAt : GoodIn wsL_lineAt (wsV RL 107 RX8 yX8_lineAt wsX8_lineAt) := goodIn_app (goodIn_of _ (by decide +kernel)) ggL_lineAt_X8_lineAt
theorem dL_lineAt_0 : decode cL_lineAt 0 = .ok (.aload_n 0, 1) := by decide +kernel
theorem dL_lineAt_1 : decode cL_lineAt 1 = .ok (.iload_n 1, 1) := by decide +kernel
theorem dL_lineAt_2 : decode cL_lineAt 2 = .ok (.invokevirtual 107, 3) := by decide +kernel
theorem dL_lineAt_5 : decode cL_lineAt 5 = .ok (.ireturn, 1) := by decide +kernel
theorem dL_lineAt_6 : decode cL_lineAt 6 = .ok (.astore_n 2, 1) := by decide +kernel
theorem dL_lineAt_7 : decode cL_lineAt 7 = .ok (.ldc 17, 2) := by decide +kernel
theorem dL_lineAt_9 : decode cL_lineAt 9 = .ok (.ireturn, 1) := by decide +kernel
set_option maxRecDepth 20000 in
theorem ggL_in_L_cell : GoodIn wsL_in wsL_cell := goodIn_ca (goodIn_r _ [5, 6, 7] (by decide +kernel) (by decide +kernel)) (goodIn_sub (fun _ h => List.mem_cons_of_mem _ (List.mem_append_right _ h)) (by decide +kernel))
set_option maxRecDepth 20000 in
theorem gL_in_L_cell : GoodIn wsL_in (va_wsS RL 111 yL_cell wsL_cell) := goodIn_app (goodIn_of _ (by decide +kernel)) ggL_in_L_cell
theorem dL_in_0 : decode cL_in 0 = .ok (.aload_n 0, 1) := by decide +kernel
theorem dL_in_1 : decode cL_in 1 = .ok (.iload_n 1, 1) := by decide +kernel
theorem dL_in_2 : decode cL_in 2 = .ok (.invokestatic 111, 3) := by decide +kernel
theorem dL_in_5 : decode cL_in 5 = .ok (.ldc 117, 2) := by decide +kernel
theorem dL_in_7 : decode cL_in 7 = .ok (.iand, 1) := by decide +kernel
theorem dL_in_8 : decode cL_in 8 = .ok (.iload_n 2, 1) := by decide +kernel
theorem dL_in_9 : decode cL_in 9 = .ok (.irem, 1) := by decide +kernel
theorem dL_in_10 : decode cL_in 10 = .ok (.ireturn, 1) := by decide +kernel
theorem dL_begun_0 : decode cL_begun 0 = .ok (.sipush 1960, 3) := by decide +kernel
theorem dL_begun_3 : decode cL_begun 3 = .ok (.newarray .int, 2) := by decide +kernel
theorem dL_begun_5 : decode cL_begun 5 = .ok (.astore_n 0, 1) := by decide +kernel
theorem dL_begun_6 : decode cL_begun 6 = .ok (.aload_n 0, 1) := by decide +kernel
theorem dL_begun_7 : decode cL_begun 7 = .ok (.iconst 5, 1) := by decide +kernel
theorem dL_begun_8 : decode cL_begun 8 = .ok (.bipush 50, 2) := by decide +kernel
theorem dL_begun_10 : decode cL_begun 10 = .ok (.iastore, 1) := by decide +kernel
theorem dL_begun_11 : decode cL_begun 11 = .ok (.aload_n 0, 1) := by decide +kernel
theorem dL_begun_12 : decode cL_begun 12 = .ok (.bipush 7, 2) := by decide +kernel
theorem dL_begun_14 : decode cL_begun 14 = .ok (.bipush 100, 2) := by decide +kernel
theorem dL_begun_16 : decode cL_begun 16 = .ok (.iastore, 1) := by decide +kernel
theorem dL_begun_17 : decode cL_begun 17 = .ok (.aload_n 0, 1) := by decide +kernel
theorem dL_begun_18 : decode cL_begun 18 = .ok (.areturn, 1) := by decide +kernel
set_option maxRecDepth 20000 in
theorem ggL_isGround_L_addGround : GoodIn wsL_isGround wsL_addGround := goodIn_ca (goodIn_ca (goodIn_ca (goodIn_r _ [5, 6, 7, 8, 1, 9, 10, 11, 12, 13, 14, 15, 16, 17, 18, 19, 20, 21, 22, 23, 24, 25, 26, 27, 28, 29, 30, 31, 32, 33, 34, 35, 36, 37, 38, 39, 40, 41, 42, 43, 44, 45, 46, 47, 48, 49, 50] (by decide +kernel) (by decide +kernel)) (goodIn_sub (fun _ h => List.mem_cons_of_mem _ (List.mem_append_left _ (List.mem_append_right _ h))) (by decide +kernel))) (goodIn_sub (fun _ h => List.mem_cons_of_mem _ (List.mem_append_right _ h)) (by decide +kernel))) (goodIn_sub (fun _ h => List.mem_cons_of_mem _ (List.mem_append_left _ (List.mem_append_left _ (List.mem_append_right _ h)))) (by decide +kernel))
set_option maxRecDepth 20000 in
theorem gL_isGround_L_addGround : GoodIn wsL_isGround (va_wsS RL 118 yL_addGround wsL_addGround) := goodIn_app (goodIn_of _ (by decide +kernel)) ggL_isGround_L_addGround
theorem dL_isGround_0 : decode cL_isGround 0 = .ok (.aload_n 1, 1) := by decide +kernel
theorem dL_isGround_1 : decode cL_isGround 1 = .ok (.iconst 0, 1) := by decide +kernel
theorem dL_isGround_2 : decode cL_isGround 2 = .ok (.iaload, 1) := by decide +kernel
theorem dL_isGround_3 : decode cL_isGround 3 = .ok (.iload_n 2, 1) := by decide +kernel
theorem dL_isGround_4 : decode cL_isGround 4 = .ok (.iadd, 1) := by decide +kernel
theorem dL_isGround_5 : decode cL_isGround 5 = .ok (.sipush 200, 3) := by decide +kernel
theorem dL_isGround_8 : decode cL_isGround 8 = .ok (.if_icmp .le 22, 3) := by decide +kernel
theorem dL_isGround_11 : decode cL_isGround 11 = .ok (.aload_n 0, 1) := by decide +kernel
theorem dL_isGround_12 : decode cL_isGround 12 = .ok (.iload_n 2, 1) := by decide +kernel
theorem dL_isGround_13 : decode cL_isGround 13 = .ok (.iload_n 3, 1) := by decide +kernel
theorem dL_isGround_14 : decode cL_isGround 14 = .ok (.iload 4, 2) := by decide +kernel
theorem dL_isGround_16 : decode cL_isGround 16 = .ok (.invokestatic 118, 3) := by decide +kernel
theorem dL_isGround_19 : decode cL_isGround 19 = .ok (.ldc 20, 2) := by decide +kernel
theorem dL_isGround_21 : decode cL_isGround 21 = .ok (.if_icmp .ne 7, 3) := by decide +kernel
theorem dL_isGround_24 : decode cL_isGround 24 = .ok (.iconst 1, 1) := by decide +kernel
theorem dL_isGround_25 : decode cL_isGround 25 = .ok (.goto 4, 3) := by decide +kernel
theorem dL_isGround_28 : decode cL_isGround 28 = .ok (.iconst 0, 1) := by decide +kernel
theorem dL_isGround_29 : decode cL_isGround 29 = .ok (.ireturn, 1) := by decide +kernel
theorem dL_isGround_30 : decode cL_isGround 30 = .ok (.iconst 0, 1) := by decide +kernel
theorem dL_isGround_31 : decode cL_isGround 31 = .ok (.istore 5, 2) := by decide +kernel
theorem dL_isGround_33 : decode cL_isGround 33 = .ok (.iload 5, 2) := by decide +kernel
theorem dL_isGround_35 : decode cL_isGround 35 = .ok (.iload_n 2, 1) := by decide +kernel
theorem dL_isGround_36 : decode cL_isGround 36 = .ok (.if_icmp .ge 36, 3) := by decide +kernel
theorem dL_isGround_39 : decode cL_isGround 39 = .ok (.aload_n 1, 1) := by decide +kernel
theorem dL_isGround_40 : decode cL_isGround 40 = .ok (.bipush 20, 2) := by decide +kernel
theorem dL_isGround_42 : decode cL_isGround 42 = .ok (.aload_n 1, 1) := by decide +kernel
theorem dL_isGround_43 : decode cL_isGround 43 = .ok (.iconst 0, 1) := by decide +kernel
theorem dL_isGround_44 : decode cL_isGround 44 = .ok (.iaload, 1) := by decide +kernel
theorem dL_isGround_45 : decode cL_isGround 45 = .ok (.iadd, 1) := by decide +kernel
theorem dL_isGround_46 : decode cL_isGround 46 = .ok (.iload_n 3, 1) := by decide +kernel
theorem dL_isGround_47 : decode cL_isGround 47 = .ok (.iastore, 1) := by decide +kernel
theorem dL_isGround_48 : decode cL_isGround 48 = .ok (.aload_n 1, 1) := by decide +kernel
theorem dL_isGround_49 : decode cL_isGround 49 = .ok (.sipush 220, 3) := by decide +kernel
theorem dL_isGround_52 : decode cL_isGround 52 = .ok (.aload_n 1, 1) := by decide +kernel
theorem dL_isGround_53 : decode cL_isGround 53 = .ok (.iconst 0, 1) := by decide +kernel
theorem dL_isGround_54 : decode cL_isGround 54 = .ok (.iaload, 1) := by decide +kernel
theorem dL_isGround_55 : decode cL_isGround 55 = .ok (.iadd, 1) := by decide +kernel
theorem dL_isGround_56 : decode cL_isGround 56 = .ok (.iload 4, 2) := by decide +kernel
theorem dL_isGround_58 : decode cL_isGround 58 = .ok (.iastore, 1) := by decide +kernel
theorem dL_isGround_59 : decode cL_isGround 59 = .ok (.aload_n 1, 1) := by decide +kernel
theorem dL_isGround_60 : decode cL_isGround 60 = .ok (.iconst 0, 1) := by decide +kernel
theorem dL_isGround_61 : decode cL_isGround 61 = .ok (.dup2, 1) := by decide +kernel
theorem dL_isGround_62 : decode cL_isGround 62 = .ok (.iaload, 1) := by decide +kernel
theorem dL_isGround_63 : decode cL_isGround 63 = .ok (.iconst 1, 1) := by decide +kernel
theorem dL_isGround_64 : decode cL_isGround 64 = .ok (.iadd, 1) := by decide +kernel
theorem dL_isGround_65 : decode cL_isGround 65 = .ok (.iastore, 1) := by decide +kernel
