set_option maxRecDepth 20000 in
theorem ggL_addGround_X8_addGround : GoodIn wsL_addGround wsX8_addGround := goodIn_ca (goodIn_ca (goodIn_ca (goodIn_r _ [7, 8, 9, 10, 11, 12, 13, 6, 14, 15, 16, 17, 18, 19, 20, 21, 22, 23, 24, 25, 26, 27, 28, 29, 30, 31, 32, 33, 34, 35, 36, 37, 38, 39, 40, 41, 42, 43, 44] (by decide +kernel) (by decide +kernel)) (goodIn_sub (fun _ h => List.mem_cons_of_mem _ (List.mem_append_left _ (List.mem_append_right _ h))) (by decide +kernel))) (goodIn_sub (fun _ h => List.mem_cons_of_mem _ (List.mem_append_right _ h)) (by decide +kernel))) (goodIn_sub (fun _ h => List.mem_cons_of_mem _ (List.mem_append_left _ (List.mem_append_left _ (List.mem_append_right _ h)))) (by decide +kernel))
set_option maxRecDepth 20000 in
theorem gL_addGround_X8_addGround : GoodIn wsL_addGround (wsV RL 7 RX8 yX8_addGround wsX8_addGround) := goodIn_app (goodIn_of _ (by decide +kernel)) ggL_addGround_X8_addGround
theorem dL_addGround_0 : decode cL_addGround 0 = .ok (.aload 4, 2) := by decide +kernel
theorem dL_addGround_2 : decode cL_addGround 2 = .ok (.iconst 0, 1) := by decide +kernel
theorem dL_addGround_3 : decode cL_addGround 3 = .ok (.aload_n 0, 1) := by decide +kernel
theorem dL_addGround_4 : decode cL_addGround 4 = .ok (.iload_n 1, 1) := by decide +kernel
theorem dL_addGround_5 : decode cL_addGround 5 = .ok (.iload_n 2, 1) := by decide +kernel
theorem dL_addGround_6 : decode cL_addGround 6 = .ok (.iload_n 3, 1) := by decide +kernel
theorem dL_addGround_7 : decode cL_addGround 7 = .ok (.invokevirtual 7, 3) := by decide +kernel
theorem dL_addGround_10 : decode cL_addGround 10 = .ok (.i2l, 1) := by decide +kernel
theorem dL_addGround_11 : decode cL_addGround 11 = .ok (.lastore, 1) := by decide +kernel
theorem dL_addGround_12 : decode cL_addGround 12 = .ok (.goto 11, 3) := by decide +kernel
theorem dL_addGround_15 : decode cL_addGround 15 = .ok (.astore 5, 2) := by decide +kernel
theorem dL_addGround_17 : decode cL_addGround 17 = .ok (.iconst 1, 1) := by decide +kernel
theorem dL_addGround_18 : decode cL_addGround 18 = .ok (.ireturn, 1) := by decide +kernel
theorem dL_addGround_19 : decode cL_addGround 19 = .ok (.astore 5, 2) := by decide +kernel
theorem dL_addGround_21 : decode cL_addGround 21 = .ok (.iconst 2, 1) := by decide +kernel
theorem dL_addGround_22 : decode cL_addGround 22 = .ok (.ireturn, 1) := by decide +kernel
theorem dL_addGround_23 : decode cL_addGround 23 = .ok (.iconst 0, 1) := by decide +kernel
theorem dL_addGround_24 : decode cL_addGround 24 = .ok (.ireturn, 1) := by decide +kernel
set_option maxRecDepth 20000 in
theorem ggL_addCurve_X8_addCurve : GoodIn wsL_addCurve wsX8_addCurve := goodIn_ca (goodIn_ca (goodIn_ca (goodIn_r _ [7, 8, 9, 10, 11, 12, 13, 6, 14, 15, 16, 17, 18, 19, 20, 21, 22, 23, 24, 25, 26, 27, 28, 29, 30, 31, 32, 33, 34, 35, 36, 37, 38, 39, 40, 41, 42, 43] (by decide +kernel) (by decide +kernel)) (goodIn_sub (fun _ h => List.mem_cons_of_mem _ (List.mem_append_left _ (List.mem_append_right _ h))) (by decide +kernel))) (goodIn_sub (fun _ h => List.mem_cons_of_mem _ (List.mem_append_right _ h)) (by decide +kernel))) (goodIn_sub (fun _ h => List.mem_cons_of_mem _ (List.mem_append_left _ (List.mem_append_left _ (List.mem_append_right _ h)))) (by decide +kernel))
set_option maxRecDepth 20000 in
theorem gL_addCurve_X8_addCurve : GoodIn wsL_addCurve (wsV RL 17 RX8 yX8_addCurve wsX8_addCurve) := goodIn_app (goodIn_of _ (by decide +kernel)) ggL_addCurve_X8_addCurve
theorem dL_addCurve_0 : decode cL_addCurve 0 = .ok (.aload 4, 2) := by decide +kernel
theorem dL_addCurve_2 : decode cL_addCurve 2 = .ok (.iconst 0, 1) := by decide +kernel
theorem dL_addCurve_3 : decode cL_addCurve 3 = .ok (.aload_n 0, 1) := by decide +kernel
theorem dL_addCurve_4 : decode cL_addCurve 4 = .ok (.iload_n 1, 1) := by decide +kernel
theorem dL_addCurve_5 : decode cL_addCurve 5 = .ok (.iload_n 2, 1) := by decide +kernel
theorem dL_addCurve_6 : decode cL_addCurve 6 = .ok (.iload_n 3, 1) := by decide +kernel
theorem dL_addCurve_7 : decode cL_addCurve 7 = .ok (.invokevirtual 17, 3) := by decide +kernel
theorem dL_addCurve_10 : decode cL_addCurve 10 = .ok (.i2l, 1) := by decide +kernel
theorem dL_addCurve_11 : decode cL_addCurve 11 = .ok (.lastore, 1) := by decide +kernel
theorem dL_addCurve_12 : decode cL_addCurve 12 = .ok (.goto 11, 3) := by decide +kernel
theorem dL_addCurve_15 : decode cL_addCurve 15 = .ok (.astore 5, 2) := by decide +kernel
theorem dL_addCurve_17 : decode cL_addCurve 17 = .ok (.iconst 1, 1) := by decide +kernel
theorem dL_addCurve_18 : decode cL_addCurve 18 = .ok (.ireturn, 1) := by decide +kernel
theorem dL_addCurve_19 : decode cL_addCurve 19 = .ok (.astore 5, 2) := by decide +kernel
theorem dL_addCurve_21 : decode cL_addCurve 21 = .ok (.iconst 2, 1) := by decide +kernel
theorem dL_addCurve_22 : decode cL_addCurve 22 = .ok (.ireturn, 1) := by decide +kernel
theorem dL_addCurve_23 : decode cL_addCurve 23 = .ok (.iconst 0, 1) := by decide +kernel
theorem dL_addCurve_24 : decode cL_addCurve 24 = .ok (.ireturn, 1) := by decide +kernel
set_option maxRecDepth 20000 in
theorem ggL_needAt_X8_needAt : GoodIn wsL_needAt wsX8_needAt := goodIn_ca (goodIn_ca (goodIn_r _ [6, 7, 8, 9, 10, 5, 11, 12, 13, 14, 15, 16, 17, 18, 19, 20, 21, 22, 23, 24, 25, 26, 27, 28, 29, 30, 31, 32, 33, 34, 35, 36, 37, 38, 39, 40, 41] (by decide +kernel) (by decide +kernel)) (goodIn_sub (fun _ h => List.mem_cons_of_mem _ (List.mem_append_right _ h)) (by decide +kernel))) (goodIn_sub (fun _ h => List.mem_cons_of_mem _ (List.mem_append_left _ (List.mem_append_right _ h))) (by decide +kernel))
set_option maxRecDepth 20000 in
theorem gL_needAt_X8_needAt : GoodIn wsL_needAt (wsV RL 20 RX8 yX8_needAt wsX8_needAt) := goodIn_app (goodIn_of _ (by decide +kernel)) ggL_needAt_X8_needAt
theorem dL_needAt_0 : decode cL_needAt 0 = .ok (.aload_n 2, 1) := by decide +kernel
theorem dL_needAt_1 : decode cL_needAt 1 = .ok (.iconst 0, 1) := by decide +kernel
theorem dL_needAt_2 : decode cL_needAt 2 = .ok (.aload_n 0, 1) := by decide +kernel
theorem dL_needAt_3 : decode cL_needAt 3 = .ok (.iload_n 1, 1) := by decide +kernel
theorem dL_needAt_4 : decode cL_needAt 4 = .ok (.invokevirtual 20, 3) := by decide +kernel
theorem dL_needAt_7 : decode cL_needAt 7 = .ok (.i2l, 1) := by decide +kernel
theorem dL_needAt_8 : decode cL_needAt 8 = .ok (.lastore, 1) := by decide +kernel
theorem dL_needAt_9 : decode cL_needAt 9 = .ok (.goto 6, 3) := by decide +kernel
theorem dL_needAt_12 : decode cL_needAt 12 = .ok (.astore_n 3, 1) := by decide +kernel
theorem dL_needAt_13 : decode cL_needAt 13 = .ok (.iconst 1, 1) := by decide +kernel
theorem dL_needAt_14 : decode cL_needAt 14 = .ok (.ireturn, 1) := by decide +kernel
theorem dL_needAt_15 : decode cL_needAt 15 = .ok (.iconst 0, 1) := by decide +kernel
theorem dL_needAt_16 : decode cL_needAt 16 = .ok (.ireturn, 1) := by decide +kernel
set_option maxRecDepth 20000 in
theorem ggL_weaknessAt_X8_weaknessAt : GoodIn wsL_weaknessAt wsX8_weaknessAt := goodIn_ca (goodIn_ca (goodIn_r _ [6, 7, 8, 9, 10, 5, 11, 12, 13, 14, 15, 16, 17, 18, 19, 20, 21, 22, 23, 24, 25, 26, 27, 28, 29, 30, 31, 32, 33, 34, 35, 36, 37, 38, 39, 40, 41] (by decide +kernel) (by decide +kernel)) (goodIn_sub (fun _ h => List.mem_cons_of_mem _ (List.mem_append_right _ h)) (by decide +kernel))) (goodIn_sub (fun _ h => List.mem_cons_of_mem _ (List.mem_append_left _ (List.mem_append_right _ h))) (by decide +kernel))
set_option maxRecDepth 20000 in
theorem gL_weaknessAt_X8_weaknessAt : GoodIn wsL_weaknessAt (wsV RL 26 RX8 yX8_weaknessAt wsX8_weaknessAt) := goodIn_app (goodIn_of _ (by decide +kernel)) ggL_weaknessAt_X8_weaknessAt
theorem dL_weaknessAt_0 : decode cL_weaknessAt 0 = .ok (.aload_n 2, 1) := by decide +kernel
theorem dL_weaknessAt_1 : decode cL_weaknessAt 1 = .ok (.iconst 0, 1) := by decide +kernel
theorem dL_weaknessAt_2 : decode cL_weaknessAt 2 = .ok (.aload_n 0, 1) := by decide +kernel
theorem dL_weaknessAt_3 : decode cL_weaknessAt 3 = .ok (.iload_n 1, 1) := by decide +kernel
theorem dL_weaknessAt_4 : decode cL_weaknessAt 4 = .ok (.invokevirtual 26, 3) := by decide +kernel
theorem dL_weaknessAt_7 : decode cL_weaknessAt 7 = .ok (.i2l, 1) := by decide +kernel
theorem dL_weaknessAt_8 : decode cL_weaknessAt 8 = .ok (.lastore, 1) := by decide +kernel
theorem dL_weaknessAt_9 : decode cL_weaknessAt 9 = .ok (.goto 6, 3) := by decide +kernel
theorem dL_weaknessAt_12 : decode cL_weaknessAt 12 = .ok (.astore_n 3, 1) := by decide +kernel
theorem dL_weaknessAt_13 : decode cL_weaknessAt 13 = .ok (.iconst 1, 1) := by decide +kernel
theorem dL_weaknessAt_14 : decode cL_weaknessAt 14 = .ok (.ireturn, 1) := by decide +kernel
theorem dL_weaknessAt_15 : decode cL_weaknessAt 15 = .ok (.iconst 0, 1) := by decide +kernel
theorem dL_weaknessAt_16 : decode cL_weaknessAt 16 = .ok (.ireturn, 1) := by decide +kernel
set_option maxRecDepth 20000 in
theorem ggL_addHouse_X8_addHouse : GoodIn wsL_addHouse wsX8_addHouse := goodIn_ca (goodIn_ca (goodIn_ca (goodIn_ca (goodIn_r _ [8, 9, 10, 11, 12, 13, 14, 15, 16, 17, 7, 18, 19, 20, 21, 22, 23, 24, 25, 26, 27, 28, 29, 30, 31, 32, 33, 34, 35, 36, 37, 38, 39, 40, 41, 42, 43, 44, 45, 46, 47, 48, 49, 50, 51, 52, 53, 54, 55, 56, 57, 58, 59, 60, 61, 62] (by decide +kernel) (by decide +kernel)) (goodIn_sub (fun _ h => List.mem_cons_of_mem _ (List.mem_append_left _ (List.mem_append_left _ (List.mem_append_right _ h)))) (by decide +kernel))) (goodIn_sub (fun _ h => List.mem_cons_of_mem _ (List.mem_append_left _ (List.mem_append_right _ h))) (by decide +kernel))) (goodIn_sub (fun _ h => List.mem_cons_of_mem _ (List.mem_append_right _ h)) (by decide +kernel))) (goodIn_sub (fun _ h => List.mem_cons_of_mem _ (List.mem_append_left _ (List.mem_append_left _ (List.mem_append_left _ (List.mem_append_right _ h))))) (by decide +kernel))
set_option maxRecDepth 20000 in
theorem gL_addHouse_X8_addHouse : GoodIn wsL_addHouse (wsV RL 29 RX8 yX8_addHouse wsX8_addHouse) := goodIn_app (goodIn_of _ (by decide +kernel)) ggL_addHouse_X8_addHouse
theorem dL_addHouse_0 : decode cL_addHouse 0 = .ok (.aload 5, 2) := by decide +kernel
theorem dL_addHouse_2 : decode cL_addHouse 2 = .ok (.iconst 0, 1) := by decide +kernel
theorem dL_addHouse_3 : decode cL_addHouse 3 = .ok (.aload_n 0, 1) := by decide +kernel
theorem dL_addHouse_4 : decode cL_addHouse 4 = .ok (.iload_n 1, 1) := by decide +kernel
theorem dL_addHouse_5 : decode cL_addHouse 5 = .ok (.iload_n 2, 1) := by decide +kernel
theorem dL_addHouse_6 : decode cL_addHouse 6 = .ok (.iload_n 3, 1) := by decide +kernel
theorem dL_addHouse_7 : decode cL_addHouse 7 = .ok (.iload 4, 2) := by decide +kernel
theorem dL_addHouse_9 : decode cL_addHouse 9 = .ok (.invokevirtual 29, 3) := by decide +kernel
theorem dL_addHouse_12 : decode cL_addHouse 12 = .ok (.i2l, 1) := by decide +kernel
theorem dL_addHouse_13 : decode cL_addHouse 13 = .ok (.lastore, 1) := by decide +kernel
theorem dL_addHouse_14 : decode cL_addHouse 14 = .ok (.goto 15, 3) := by decide +kernel
theorem dL_addHouse_17 : decode cL_addHouse 17 = .ok (.astore 6, 2) := by decide +kernel
theorem dL_addHouse_19 : decode cL_addHouse 19 = .ok (.iconst 1, 1) := by decide +kernel
theorem dL_addHouse_20 : decode cL_addHouse 20 = .ok (.ireturn, 1) := by decide +kernel
theorem dL_addHouse_21 : decode cL_addHouse 21 = .ok (.astore 6, 2) := by decide +kernel
theorem dL_addHouse_23 : decode cL_addHouse 23 = .ok (.iconst 2, 1) := by decide +kernel
theorem dL_addHouse_24 : decode cL_addHouse 24 = .ok (.ireturn, 1) := by decide +kernel
theorem dL_addHouse_25 : decode cL_addHouse 25 = .ok (.astore 6, 2) := by decide +kernel
theorem dL_addHouse_27 : decode cL_addHouse 27 = .ok (.iconst 3, 1) := by decide +kernel
theorem dL_addHouse_28 : decode cL_addHouse 28 = .ok (.ireturn, 1) := by decide +kernel
theorem dL_addHouse_29 : decode cL_addHouse 29 = .ok (.iconst 0, 1) := by decide +kernel
theorem dL_addHouse_30 : decode cL_addHouse 30 = .ok (.ireturn, 1) := by decide +kernel
set_option maxRecDepth 20000 in
theorem ggL_cast_X8_cast : GoodIn wsL_cast wsX8_cast := goodIn_ca (goodIn_ca (goodIn_ca (goodIn_ca (goodIn_r _ [8, 9, 10, 11, 12, 13, 14, 15, 7, 16, 17, 18, 19, 20, 21, 22, 23, 24, 25, 26, 27, 28, 29, 30, 31, 32, 33, 34, 35, 36, 37, 38, 39, 40, 41, 42, 43, 44, 45, 46, 47, 48, 49, 50] (by decide +kernel) (by decide +kernel)) (goodIn_sub (fun _ h => List.mem_cons_of_mem _ (List.mem_append_left _ (List.mem_append_left _ (List.mem_append_right _ h)))) (by decide +kernel))) (goodIn_sub (fun _ h => List.mem_cons_of_mem _ (List.mem_append_left _ (List.mem_append_left _ (List.mem_append_left _ (List.mem_append_right _ h))))) (by decide +kernel))) (goodIn_sub (fun _ h => List.mem_cons_of_mem _ (List.mem_append_left _ (List.mem_append_right _ h))) (by decide +kernel))) (goodIn_sub (fun _ h => List.mem_cons_of_mem _ (List.mem_append_right _ h)) (by decide +kernel))
set_option maxRecDepth 20000 in
theorem gL_cast_X8_cast : GoodIn wsL_cast (wsV RL 33 RX8 yX8_cast wsX8_cast) := goodIn_app (goodIn_of _ (by decide +kernel)) ggL_cast_X8_cast
theorem dL_cast_0 : decode cL_cast 0 = .ok (.aload_n 3, 1) := by decide +kernel
theorem dL_cast_1 : decode cL_cast 1 = .ok (.iconst 0, 1) := by decide +kernel
theorem dL_cast_2 : decode cL_cast 2 = .ok (.aload_n 0, 1) := by decide +kernel
theorem dL_cast_3 : decode cL_cast 3 = .ok (.iload_n 1, 1) := by decide +kernel
theorem dL_cast_4 : decode cL_cast 4 = .ok (.iload_n 2, 1) := by decide +kernel
theorem dL_cast_5 : decode cL_cast 5 = .ok (.invokevirtual 33, 3) := by decide +kernel
theorem dL_cast_8 : decode cL_cast 8 = .ok (.i2l, 1) := by decide +kernel
theorem dL_cast_9 : decode cL_cast 9 = .ok (.lastore, 1) := by decide +kernel
theorem dL_cast_10 : decode cL_cast 10 = .ok (.goto 15, 3) := by decide +kernel
theorem dL_cast_13 : decode cL_cast 13 = .ok (.astore 4, 2) := by decide +kernel
theorem dL_cast_15 : decode cL_cast 15 = .ok (.iconst 1, 1) := by decide +kernel
theorem dL_cast_16 : decode cL_cast 16 = .ok (.ireturn, 1) := by decide +kernel
theorem dL_cast_17 : decode cL_cast 17 = .ok (.astore 4, 2) := by decide +kernel
theorem dL_cast_19 : decode cL_cast 19 = .ok (.iconst 2, 1) := by decide +kernel
theorem dL_cast_20 : decode cL_cast 20 = .ok (.ireturn, 1) := by decide +kernel
theorem dL_cast_21 : decode cL_cast 21 = .ok (.astore 4, 2) := by decide +kernel
theorem dL_cast_23 : decode cL_cast 23 = .ok (.iconst 3, 1) := by decide +kernel
theorem dL_cast_24 : decode cL_cast 24 = .ok (.ireturn, 1) := by decide +kernel
theorem dL_cast_25 : decode cL_cast 25 = .ok (.iconst 0, 1) := by decide +kernel
theorem dL_cast_26 : decode cL_cast 26 = .ok (.ireturn, 1) := by decide +kernel
set_option maxRecDepth 20000 in
theorem ggL_heightOf_X8_heightOf : GoodIn wsL_heightOf wsX8_heightOf := goodIn_ca (goodIn_ca (goodIn_r _ [6, 7, 8, 9, 10, 5, 11, 12, 13, 14, 15, 16, 17, 18, 19, 20, 21, 22, 23, 24, 25, 26, 27, 28] (by decide +kernel) (by decide +kernel)) (goodIn_sub (fun _ h => List.mem_cons_of_mem _ (List.mem_append_left _ (List.mem_append_right _ h))) (by decide +kernel))) (goodIn_sub (fun _ h => List.mem_cons_of_mem _ (List.mem_append_right _ h)) (by decide +kernel))
set_option maxRecDepth 20000 in
theorem gL_heightOf_X8_heightOf : GoodIn wsL_heightOf (wsV RL 37 RX8 yX8_heightOf wsX8_heightOf) := goodIn_app (goodIn_of _ (by decide +kernel)) ggL_heightOf_X8_heightOf
theorem dL_heightOf_0 : decode cL_heightOf 0 = .ok (.aload_n 2, 1) := by decide +kernel
theorem dL_heightOf_1 : decode cL_heightOf 1 = .ok (.iconst 0, 1) := by decide +kernel
theorem dL_heightOf_2 : decode cL_heightOf 2 = .ok (.aload_n 0, 1) := by decide +kernel
theorem dL_heightOf_3 : decode cL_heightOf 3 = .ok (.iload_n 1, 1) := by decide +kernel
theorem dL_heightOf_4 : decode cL_heightOf 4 = .ok (.invokevirtual 37, 3) := by decide +kernel
theorem dL_heightOf_7 : decode cL_heightOf 7 = .ok (.i2l, 1) := by decide +kernel
theorem dL_heightOf_8 : decode cL_heightOf 8 = .ok (.lastore, 1) := by decide +kernel
theorem dL_heightOf_9 : decode cL_heightOf 9 = .ok (.goto 6, 3) := by decide +kernel
theorem dL_heightOf_12 : decode cL_heightOf 12 = .ok (.astore_n 3, 1) := by decide +kernel
theorem dL_heightOf_13 : decode cL_heightOf 13 = .ok (.iconst 1, 1) := by decide +kernel
theorem dL_heightOf_14 : decode cL_heightOf 14 = .ok (.ireturn, 1) := by decide +kernel
theorem dL_heightOf_15 : decode cL_heightOf 15 = .ok (.iconst 0, 1) := by decide +kernel
theorem dL_heightOf_16 : decode cL_heightOf 16 = .ok (.ireturn, 1) := by decide +kernel
set_option maxRecDepth 20000 in
theorem ggL_taperAt_X8_taperAt : GoodIn wsL_taperAt wsX8_taperAt := goodIn_ca (goodIn_ca (goodIn_ca (goodIn_r _ [7, 8, 9, 10, 11, 12, 13, 6, 14, 15, 16, 17, 18, 19, 20, 21, 22, 23, 24, 25, 26, 27, 28, 29, 30, 31, 32, 33, 34, 35, 36, 37] (by decide +kernel) (by decide +kernel)) (goodIn_sub (fun _ h => List.mem_cons_of_mem _ (List.mem_append_left _ (List.mem_append_left _ (List.mem_append_right _ h)))) (by decide +kernel))) (goodIn_sub (fun _ h => List.mem_cons_of_mem _ (List.mem_append_left _ (List.mem_append_right _ h))) (by decide +kernel))) (goodIn_sub (fun _ h => List.mem_cons_of_mem _ (List.mem_append_right _ h)) (by decide +kernel))
set_option maxRecDepth 20000 in
theorem gL_taperAt_X8_taperAt : GoodIn wsL_taperAt (wsV RL 40 RX8 yX8_taperAt wsX8_taperAt) := goodIn_app (goodIn_of _ (by decide +kernel)) ggL_taperAt_X8_taperAt
theorem dL_taperAt_0 : decode cL_taperAt 0 = .ok (.aload_n 3, 1) := by decide +kernel
theorem dL_taperAt_1 : decode cL_taperAt 1 = .ok (.iconst 0, 1) := by decide +kernel
theorem dL_taperAt_2 : decode cL_taperAt 2 = .ok (.aload_n 0, 1) := by decide +kernel
theorem dL_taperAt_3 : decode cL_taperAt 3 = .ok (.iload_n 1, 1) := by decide +kernel
theorem dL_taperAt_4 : decode cL_taperAt 4 = .ok (.iload_n 2, 1) := by decide +kernel
theorem dL_taperAt_5 : decode cL_taperAt 5 = .ok (.invokevirtual 40, 3) := by decide +kernel
theorem dL_taperAt_8 : decode cL_taperAt 8 = .ok (.i2l, 1) := by decide +kernel
theorem dL_taperAt_9 : decode cL_taperAt 9 = .ok (.lastore, 1) := by decide +kernel
theorem dL_taperAt_10 : decode cL_taperAt 10 = .ok (.goto 11, 3) := by decide +kernel
theorem dL_taperAt_13 : decode cL_taperAt 13 = .ok (.astore 4, 2) := by decide +kernel
theorem dL_taperAt_15 : decode cL_taperAt 15 = .ok (.iconst 1, 1) := by decide +kernel
theorem dL_taperAt_16 : decode cL_taperAt 16 = .ok (.ireturn, 1) := by decide +kernel
theorem dL_taperAt_17 : decode cL_taperAt 17 = .ok (.astore 4, 2) := by decide +kernel
theorem dL_taperAt_19 : decode cL_taperAt 19 = .ok (.iconst 2, 1) := by decide +kernel
theorem dL_taperAt_20 : decode cL_taperAt 20 = .ok (.ireturn, 1) := by decide +kernel
theorem dL_taperAt_21 : decode cL_taperAt 21 = .ok (.iconst 0, 1) := by decide +kernel
theorem dL_taperAt_22 : decode cL_taperAt 22 = .ok (.ireturn, 1) := by decide +kernel
set_option maxRecDepth 20000 in
theorem ggL_hoursToCure_X8_hoursToCure : GoodIn wsL_hoursToCure wsX8_hoursToCure := goodIn_ca (goodIn_ca (goodIn_ca (goodIn_r _ [7, 8, 9, 10, 11, 12, 6, 13, 14, 15, 16, 17, 18, 19, 20, 21, 22, 23, 24, 25, 26, 27, 28, 29, 30, 31, 32, 33, 34, 35, 36, 37, 38, 39, 40, 41, 42, 43, 44, 45, 46] (by decide +kernel) (by decide +kernel)) (goodIn_sub (fun _ h => List.mem_cons_of_mem _ (List.mem_append_left _ (List.mem_append_left _ (List.mem_append_right _ h)))) (by decide +kernel))) (goodIn_sub (fun _ h => List.mem_cons_of_mem _ (List.mem_append_left _ (List.mem_append_right _ h))) (by decide +kernel))) (goodIn_sub (fun _ h => List.mem_cons_of_mem _ (List.mem_append_right _ h)) (by decide +kernel))
set_option maxRecDepth 20000 in
theorem gL_hoursToCure_X8_hoursToCure : GoodIn wsL_hoursToCure (wsV RL 45 RX8 yX8_hoursToCure wsX8_hoursToCure) := goodIn_app (goodIn_of _ (by decide +kernel)) ggL_hoursToCure_X8_hoursToCure
theorem dL_hoursToCure_0 : decode cL_hoursToCure 0 = .ok (.aload_n 2, 1) := by decide +kernel
theorem dL_hoursToCure_1 : decode cL_hoursToCure 1 = .ok (.iconst 0, 1) := by decide +kernel
theorem dL_hoursToCure_2 : decode cL_hoursToCure 2 = .ok (.aload_n 0, 1) := by decide +kernel
theorem dL_hoursToCure_3 : decode cL_hoursToCure 3 = .ok (.iload_n 1, 1) := by decide +kernel
theorem dL_hoursToCure_4 : decode cL_hoursToCure 4 = .ok (.invokevirtual 45, 3) := by decide +kernel
theorem dL_hoursToCure_7 : decode cL_hoursToCure 7 = .ok (.i2l, 1) := by decide +kernel
theorem dL_hoursToCure_8 : decode cL_hoursToCure 8 = .ok (.lastore, 1) := by decide +kernel
theorem dL_hoursToCure_9 : decode cL_hoursToCure 9 = .ok (.goto 9, 3) := by decide +kernel
theorem dL_hoursToCure_12 : decode cL_hoursToCure 12 = .ok (.astore_n 3, 1) := by decide +kernel
theorem dL_hoursToCure_13 : decode cL_hoursToCure 13 = .ok (.iconst 1, 1) := by decide +kernel
theorem dL_hoursToCure_14 : decode cL_hoursToCure 14 = .ok (.ireturn, 1) := by decide +kernel
theorem dL_hoursToCure_15 : decode cL_hoursToCure 15 = .ok (.astore_n 3, 1) := by decide +kernel
theorem dL_hoursToCure_16 : decode cL_hoursToCure 16 = .ok (.iconst 2, 1) := by decide +kernel
theorem dL_hoursToCure_17 : decode cL_hoursToCure 17 = .ok (.ireturn, 1) := by decide +kernel
theorem dL_hoursToCure_18 : decode cL_hoursToCure 18 = .ok (.iconst 0, 1) := by decide +kernel
theorem dL_hoursToCure_19 : decode cL_hoursToCure 19 = .ok (.ireturn, 1) := by decide +kernel
set_option maxRecDepth 20000 in
theorem ggL_restack_X8_restack : GoodIn wsL_restack wsX8_restack := goodIn_ca (goodIn_ca (goodIn_ca (goodIn_ca (goodIn_r _ [8, 9, 10, 11, 12, 13, 14, 7, 15, 16, 17, 18, 19, 20, 21, 22, 23, 24, 25, 26, 27, 28, 29, 30, 31, 32, 33, 34, 35, 36, 37, 38, 39, 40, 41, 42, 43, 44, 45, 46, 47, 48, 49, 50, 51, 52, 53, 54, 55, 56, 57, 58] (by decide +kernel) (by decide +kernel)) (goodIn_sub (fun _ h => List.mem_cons_of_mem _ (List.mem_append_left _ (List.mem_append_left _ (List.mem_append_right _ h)))) (by decide +kernel))) (goodIn_sub (fun _ h => List.mem_cons_of_mem _ (List.mem_append_left _ (List.mem_append_left _ (List.mem_append_left _ (List.mem_append_right _ h))))) (by decide +kernel))) (goodIn_sub (fun _ h => List.mem_cons_of_mem _ (List.mem_append_left _ (List.mem_append_right _ h))) (by decide +kernel))) (goodIn_sub (fun _ h => List.mem_cons_of_mem _ (List.mem_append_right _ h)) (by decide +kernel))
set_option maxRecDepth 20000 in
theorem gL_restack_X8_restack : GoodIn wsL_restack (wsV RL 48 RX8 yX8_restack wsX8_restack) := goodIn_app (goodIn_of _ (by decide +kernel)) ggL_restack_X8_restack
theorem dL_restack_0 : decode cL_restack 0 = .ok (.aload_n 3, 1) := by decide +kernel
theorem dL_restack_1 : decode cL_restack 1 = .ok (.iconst 0, 1) := by decide +kernel
theorem dL_restack_2 : decode cL_restack 2 = .ok (.aload_n 0, 1) := by decide +kernel
theorem dL_restack_3 : decode cL_restack 3 = .ok (.iload_n 1, 1) := by decide +kernel
theorem dL_restack_4 : decode cL_restack 4 = .ok (.iload_n 2, 1) := by decide +kernel
theorem dL_restack_5 : decode cL_restack 5 = .ok (.invokevirtual 48, 3) := by decide +kernel
theorem dL_restack_8 : decode cL_restack 8 = .ok (.i2l, 1) := by decide +kernel
theorem dL_restack_9 : decode cL_restack 9 = .ok (.lastore, 1) := by decide +kernel
theorem dL_restack_10 : decode cL_restack 10 = .ok (.goto 15, 3) := by decide +kernel
theorem dL_restack_13 : decode cL_restack 13 = .ok (.astore 4, 2) := by decide +kernel
theorem dL_restack_15 : decode cL_restack 15 = .ok (.iconst 1, 1) := by decide +kernel
theorem dL_restack_16 : decode cL_restack 16 = .ok (.ireturn, 1) := by decide +kernel
theorem dL_restack_17 : decode cL_restack 17 = .ok (.astore 4, 2) := by decide +kernel
theorem dL_restack_19 : decode cL_restack 19 = .ok (.iconst 2, 1) := by decide +kernel
theorem dL_restack_20 : decode cL_restack 20 = .ok (.ireturn, 1) := by decide +kernel
theorem dL_restack_21 : decode cL_restack 21 = .ok (.astore 4, 2) := by decide +kernel
theorem dL_restack_23 : decode cL_restack 23 = .ok (.iconst 3, 1) := by decide +kernel
theorem dL_restack_24 : decode cL_restack 24 = .ok (.ireturn, 1) := by decide +kernel
theorem dL_restack_25 : decode cL_restack 25 = .ok (.iconst 0, 1) := by decide +kernel
theorem dL_restack_26 : decode cL_restack 26 = .ok (.ireturn, 1) := by decide +kernel
set_option maxRecDepth 20000 in
theorem ggL_curedShare_X8_curedShare : GoodIn wsL_curedShare wsX8_curedShare := goodIn_ca (goodIn_ca (goodIn_r _ [6, 7, 8, 9, 10, 11, 12, 13, 14, 15, 16, 17, 18, 19, 20, 21, 22, 23, 24, 25, 26, 27, 28, 29, 30, 31, 32, 33, 34, 35, 36, 37, 38, 39, 40, 41, 42, 43, 44] (by decide +kernel) (by decide +kernel)) (goodIn_sub (fun _ h => List.mem_cons_of_mem _ (List.mem_append_right _ h)) (by decide +kernel))) (goodIn_sub (fun _ h => List.mem_cons_of_mem _ (List.mem_append_left _ (List.mem_append_right _ h))) (by decide +kernel))
set_option maxRecDepth 20000 in
theorem gL_curedShare_X8_curedShare : GoodIn wsL_curedShare (wsV RL 51 RX8 yX8_curedShare wsX8_curedShare) := goodIn_app (goodIn_of _ (by decide +kernel)) ggL_curedShare_X8_curedShare
theorem dL_curedShare_0 : decode cL_curedShare 0 = .ok (.aload_n 1, 1) := by decide +kernel
theorem dL_curedShare_1 : decode cL_curedShare 1 = .ok (.iconst 0, 1) := by decide +kernel
theorem dL_curedShare_2 : decode cL_curedShare 2 = .ok (.aload_n 0, 1) := by decide +kernel
theorem dL_curedShare_3 : decode cL_curedShare 3 = .ok (.invokevirtual 51, 3) := by decide +kernel
theorem dL_curedShare_6 : decode cL_curedShare 6 = .ok (.f2d, 1) := by decide +kernel
theorem dL_curedShare_7 : decode cL_curedShare 7 = .ok (.dastore, 1) := by decide +kernel
theorem dL_curedShare_8 : decode cL_curedShare 8 = .ok (.goto 6, 3) := by decide +kernel
theorem dL_curedShare_11 : decode cL_curedShare 11 = .ok (.astore_n 2, 1) := by decide +kernel
theorem dL_curedShare_12 : decode cL_curedShare 12 = .ok (.iconst 1, 1) := by decide +kernel
theorem dL_curedShare_13 : decode cL_curedShare 13 = .ok (.ireturn, 1) := by decide +kernel
theorem dL_curedShare_14 : decode cL_curedShare 14 = .ok (.iconst 0, 1) := by decide +kernel
theorem dL_curedShare_15 : decode cL_curedShare 15 = .ok (.ireturn, 1) := by decide +kernel
set_option maxRecDepth 20000 in
theorem ggL_setPressure_X8_setPressure : GoodIn wsL_setPressure wsX8_setPressure := goodIn_ca (goodIn_r _ [6, 7, 8, 9, 5, 10, 11, 12, 13, 14, 15, 16, 17, 18, 19, 20, 21, 22, 23, 24] (by decide +kernel) (by decide +kernel)) (goodIn_sub (fun _ h => List.mem_cons_of_mem _ (List.mem_append_right _ h)) (by decide +kernel))
set_option maxRecDepth 20000 in
theorem gL_setPressure_X8_setPressure : GoodIn wsL_setPressure (wsV RL 57 RX8 yX8_setPressure wsX8_setPressure) := goodIn_app (goodIn_of _ (by decide +kernel)) ggL_setPressure_X8_setPressure
theorem dL_setPressure_0 : decode cL_setPressure 0 = .ok (.aload_n 2, 1) := by decide +kernel
theorem dL_setPressure_1 : decode cL_setPressure 1 = .ok (.iconst 0, 1) := by decide +kernel
theorem dL_setPressure_2 : decode cL_setPressure 2 = .ok (.aload_n 0, 1) := by decide +kernel
theorem dL_setPressure_3 : decode cL_setPressure 3 = .ok (.iload_n 1, 1) := by decide +kernel
theorem dL_setPressure_4 : decode cL_setPressure 4 = .ok (.invokevirtual 57, 3) := by decide +kernel
theorem dL_setPressure_7 : decode cL_setPressure 7 = .ok (.i2l, 1) := by decide +kernel
theorem dL_setPressure_8 : decode cL_setPressure 8 = .ok (.lastore, 1) := by decide +kernel
theorem dL_setPressure_9 : decode cL_setPressure 9 = .ok (.goto 6, 3) := by decide +kernel
theorem dL_setPressure_12 : decode cL_setPressure 12 = .ok (.astore_n 3, 1) := by decide +kernel
theorem dL_setPressure_13 : decode cL_setPressure 13 = .ok (.iconst 1, 1) := by decide +kernel
theorem dL_setPressure_14 : decode cL_setPressure 14 = .ok (.ireturn, 1) := by decide +kernel
theorem dL_setPressure_15 : decode cL_setPressure 15 = .ok (.iconst 0, 1) := by decide +kernel
theorem dL_setPressure_16 : decode cL_setPressure 16 = .ok (.ireturn, 1) := by decide +kernel
set_option maxRecDepth 20000 in
theorem ggL_addSlurry_X8_addSlurry : GoodIn wsL_addSlurry wsX8_addSlurry := goodIn_ca (goodIn_ca (goodIn_r _ [7, 8, 9, 10, 11, 12, 6, 13, 14, 15, 16, 17, 18, 19, 20, 21, 22, 23, 24, 25, 26, 27] (by decide +kernel) (by decide +kernel)) (goodIn_sub (fun _ h => List.mem_cons_of_mem _ (List.mem_append_left _ (List.mem_append_right _ h))) (by decide +kernel))) (goodIn_sub (fun _ h => List.mem_cons_of_mem _ (List.mem_append_right _ h)) (by decide +kernel))
set_option maxRecDepth 20000 in
theorem gL_addSlurry_X8_addSlurry : GoodIn wsL_addSlurry (wsV RL 60 RX8 yX8_addSlurry wsX8_addSlurry) := goodIn_app (goodIn_of _ (by decide +kernel)) ggL_addSlurry_X8_addSlurry
theorem dL_addSlurry_0 : decode cL_addSlurry 0 = .ok (.aload_n 2, 1) := by decide +kernel
theorem dL_addSlurry_1 : decode cL_addSlurry 1 = .ok (.iconst 0, 1) := by decide +kernel
theorem dL_addSlurry_2 : decode cL_addSlurry 2 = .ok (.aload_n 0, 1) := by decide +kernel
theorem dL_addSlurry_3 : decode cL_addSlurry 3 = .ok (.iload_n 1, 1) := by decide +kernel
theorem dL_addSlurry_4 : decode cL_addSlurry 4 = .ok (.invokevirtual 60, 3) := by decide +kernel
theorem dL_addSlurry_7 : decode cL_addSlurry 7 = .ok (.i2l, 1) := by decide +kernel
theorem dL_addSlurry_8 : decode cL_addSlurry 8 = .ok (.lastore, 1) := by decide +kernel
theorem dL_addSlurry_9 : decode cL_addSlurry 9 = .ok (.goto 9, 3) := by decide +kernel
theorem dL_addSlurry_12 : decode cL_addSlurry 12 = .ok (.astore_n 3, 1) := by decide +kernel
theorem dL_addSlurry_13 : decode cL_addSlurry 13 = .ok (.iconst 1, 1) := by decide +kernel
theorem dL_addSlurry_14 : decode cL_addSlurry 14 = .ok (.ireturn, 1) := by decide +kernel
theorem dL_addSlurry_15 : decode cL_addSlurry 15 = .ok (.astore_n 3, 1) := by decide +kernel
theorem dL_addSlurry_16 : decode cL_addSlurry 16 = .ok (.iconst 2, 1) := by decide +kernel
theorem dL_addSlurry_17 : decode cL_addSlurry 17 = .ok (.ireturn, 1) := by decide +kernel
theorem dL_addSlurry_18 : decode cL_addSlurry 18 = .ok (.iconst 0, 1) := by decide +kernel
theorem dL_addSlurry_19 : decode cL_addSlurry 19 = .ok (.ireturn, 1) := by decide +kernel
set_option maxRecDepth 20000 in
theorem ggL_slurryFor_X8_slurryFor : GoodIn wsL_slurryFor wsX8_slurryFor := goodIn_ca (goodIn_ca (goodIn_r _ [6, 7, 8, 9, 10, 11, 12, 13, 14, 15, 16, 17, 18, 19, 20, 5, 21, 22, 23, 24, 25, 26, 27, 28, 29, 30, 31, 32, 33, 34, 35, 36, 37, 38, 39, 40, 41, 42, 43, 44, 45, 46, 47, 48, 49, 50, 51, 52, 53, 54, 55, 56, 57, 58, 59] (by decide +kernel) (by decide +kernel)) (goodIn_sub (fun _ h => List.mem_cons_of_mem _ (List.mem_append_right _ h)) (by decide +kernel))) (goodIn_sub (fun _ h => List.mem_cons_of_mem _ (List.mem_append_left _ (List.mem_append_right _ h))) (by decide +kernel))
set_option maxRecDepth 20000 in
theorem gL_slurryFor_X8_slurryFor : GoodIn wsL_slurryFor (wsV RL 63 RX8 yX8_slurryFor wsX8_slurryFor) := goodIn_app (goodIn_of _ (by decide +kernel)) ggL_slurryFor_X8_slurryFor
theorem dL_slurryFor_0 : decode cL_slurryFor 0 = .ok (.aload_n 1, 1) := by decide +kernel
theorem dL_slurryFor_1 : decode cL_slurryFor 1 = .ok (.iconst 0, 1) := by decide +kernel
theorem dL_slurryFor_2 : decode cL_slurryFor 2 = .ok (.aload_n 0, 1) := by decide +kernel
theorem dL_slurryFor_3 : decode cL_slurryFor 3 = .ok (.invokevirtual 63, 3) := by decide +kernel
theorem dL_slurryFor_6 : decode cL_slurryFor 6 = .ok (.i2l, 1) := by decide +kernel
theorem dL_slurryFor_7 : decode cL_slurryFor 7 = .ok (.lastore, 1) := by decide +kernel
theorem dL_slurryFor_8 : decode cL_slurryFor 8 = .ok (.goto 6, 3) := by decide +kernel
theorem dL_slurryFor_11 : decode cL_slurryFor 11 = .ok (.astore_n 2, 1) := by decide +kernel
theorem dL_slurryFor_12 : decode cL_slurryFor 12 = .ok (.iconst 1, 1) := by decide +kernel
theorem dL_slurryFor_13 : decode cL_slurryFor 13 = .ok (.ireturn, 1) := by decide +kernel
theorem dL_slurryFor_14 : decode cL_slurryFor 14 = .ok (.iconst 0, 1) := by decide +kernel
theorem dL_slurryFor_15 : decode cL_slurryFor 15 = .ok (.ireturn, 1) := by decide +kernel
set_option maxRecDepth 20000 in
theorem ggL_setTolerance_X8_setTolerance : GoodIn wsL_setTolerance wsX8_setTolerance := goodIn_ca (goodIn_r _ [6, 7, 8, 9, 5, 10, 11, 12, 13, 14, 15, 16, 17, 18, 19, 20, 21, 22, 23, 24] (by decide +kernel) (by decide +kernel)) (goodIn_sub (fun _ h => List.mem_cons_of_mem _ (List.mem_append_right _ h)) (by decide +kernel))
set_option maxRecDepth 20000 in
theorem gL_setTolerance_X8_setTolerance : GoodIn wsL_setTolerance (wsV RL 67 RX8 yX8_setTolerance wsX8_setTolerance) := goodIn_app (goodIn_of _ (by decide +kernel)) ggL_setTolerance_X8_setTolerance
theorem dL_setTolerance_0 : decode cL_setTolerance 0 = .ok (.aload_n 2, 1) := by decide +kernel
theorem dL_setTolerance_1 : decode cL_setTolerance 1 = .ok (.iconst 0, 1) := by decide +kernel
theorem dL_setTolerance_2 : decode cL_setTolerance 2 = .ok (.aload_n 0, 1) := by decide +kernel
theorem dL_setTolerance_3 : decode cL_setTolerance 3 = .ok (.iload_n 1, 1) := by decide +kernel
theorem dL_setTolerance_4 : decode cL_setTolerance 4 = .ok (.invokevirtual 67, 3) := by decide +kernel
theorem dL_setTolerance_7 : decode cL_setTolerance 7 = .ok (.i2l, 1) := by decide +kernel
theorem dL_setTolerance_8 : decode cL_setTolerance 8 = .ok (.lastore, 1) := by decide +kernel
theorem dL_setTolerance_9 : decode cL_setTolerance 9 = .ok (.goto 6, 3) := by decide +kernel
theorem dL_setTolerance_12 : decode cL_setTolerance 12 = .ok (.astore_n 3, 1) := by decide +kernel
theorem dL_setTolerance_13 : decode cL_setTolerance 13 = .ok (.iconst 1, 1) := by decide +kernel
theorem dL_setTolerance_14 : decode cL_setTolerance 14 = .ok (.ireturn, 1) := by decide +kernel
theorem dL_setTolerance_15 : decode cL_setTolerance 15 = .ok (.iconst 0, 1) := by decide +kernel
theorem dL_setTolerance_16 : decode cL_setTolerance 16 = .ok (.ireturn, 1) := by decide +kernel
set_option maxRecDepth 20000 in
theorem ggL_reasonFor_X8_reasonFor : GoodIn wsL_reasonFor wsX8_reasonFor := goodIn_ca (goodIn_ca (goodIn_ca (goodIn_r _ [7, 8, 9, 6, 10, 11, 12, 13, 14, 15, 16, 17, 18, 19, 20, 21, 22, 23, 24, 25, 26, 27, 28, 29, 30, 31, 32, 33, 34, 35, 36, 37, 38, 39, 40, 41, 42, 43, 44, 45, 46, 47, 48, 49, 50, 51, 52, 53, 54, 55, 56, 57, 58, 59, 60, 61, 62, 63, 64, 65, 66, 67, 68, 69, 70, 71, 72, 73, 74, 75, 76, 77, 78, 79, 80, 81, 82, 83, 84, 85, 86, 87, 88, 89, 90, 91, 92, 93, 94, 95, 96, 97, 98, 99, 100, 101, 102, 103, 104, 105, 106, 107, 108, 109, 110, 111, 112, 113, 114, 115, 116, 117, 118, 119, 120, 121, 122, 123, 124, 125, 126, 127, 128, 129, 130, 131, 132, 133, 134, 135, 136, 137, 138, 139, 140, 141, 142, 143, 144, 145, 146, 147, 148, 149, 150, 151, 152, 153, 154, 155, 156, 157, 158, 159, 160, 161, 162, 163, 164, 165, 166, 167, 168, 169, 170, 171, 172, 173, 174, 175, 176, 177, 178, 179, 180, 181, 182, 183, 184, 185, 186, 187, 188, 189, 190, 191, 192, 193, 194, 195, 196, 197, 198, 199, 200, 201, 202, 203, 204, 205, 206] (by decide +kernel) (by decide +kernel)) (goodIn_sub (fun _ h => List.mem_cons_of_mem _ (List.mem_append_left _ (List.mem_append_right _ h))) (by decide +kernel))) (goodIn_sub (fun _ h => List.mem_cons_of_mem _ (List.mem_append_right _ h)) (by decide +kernel))) (goodIn_sub (fun _ h => List.mem_cons_of_mem _ (List.mem_append_left _ (List.mem_append_left _ (List.mem_append_right _ h)))) (by decide +kernel))
set_option maxRecDepth 20000 in
theorem gL_reasonFor_X8_reasonFor : GoodIn wsL_reasonFor (wsV RL 70 RX8 yX8_reasonFor wsX8_reasonFor) := goodIn_app (goodIn_of _ (by decide +kernel)) ggL_reasonFor_X8_reasonFor
theorem dL_reasonFor_0 : decode cL_reasonFor 0 = .ok (.aload_n 3, 1) := by decide +kernel
theorem dL_reasonFor_1 : decode cL_reasonFor 1 = .ok (.iconst 0, 1) := by decide +kernel
theorem dL_reasonFor_2 : decode cL_reasonFor 2 = .ok (.aload_n 0, 1) := by decide +kernel
theorem dL_reasonFor_3 : decode cL_reasonFor 3 = .ok (.iload_n 1, 1) := by decide +kernel
theorem dL_reasonFor_4 : decode cL_reasonFor 4 = .ok (.iload_n 2, 1) := by decide +kernel
theorem dL_reasonFor_5 : decode cL_reasonFor 5 = .ok (.invokevirtual 70, 3) := by decide +kernel
theorem dL_reasonFor_8 : decode cL_reasonFor 8 = .ok (.i2l, 1) := by decide +kernel
theorem dL_reasonFor_9 : decode cL_reasonFor 9 = .ok (.lastore, 1) := by decide +kernel
theorem dL_reasonFor_10 : decode cL_reasonFor 10 = .ok (.goto 11, 3) := by decide +kernel
theorem dL_reasonFor_13 : decode cL_reasonFor 13 = .ok (.astore 4, 2) := by decide +kernel
theorem dL_reasonFor_15 : decode cL_reasonFor 15 = .ok (.iconst 1, 1) := by decide +kernel
theorem dL_reasonFor_16 : decode cL_reasonFor 16 = .ok (.ireturn, 1) := by decide +kernel
theorem dL_reasonFor_17 : decode cL_reasonFor 17 = .ok (.astore 4, 2) := by decide +kernel
theorem dL_reasonFor_19 : decode cL_reasonFor 19 = .ok (.iconst 2, 1) := by decide +kernel
theorem dL_reasonFor_20 : decode cL_reasonFor 20 = .ok (.ireturn, 1) := by decide +kernel
theorem dL_reasonFor_21 : decode cL_reasonFor 21 = .ok (.iconst 0, 1) := by decide +kernel
theorem dL_reasonFor_22 : decode cL_reasonFor 22 = .ok (.ireturn, 1) := by decide +kernel
set_option maxRecDepth 20000 in
theorem ggL_lay_X8_lay : GoodIn wsL_lay wsX8_lay := goodIn_ca (goodIn_ca (goodIn_ca (goodIn_ca (goodIn_ca (goodIn_r _ [9, 10, 11, 12, 13, 14, 15, 16, 17, 18, 19, 20, 8, 21, 22, 23, 24, 25, 26, 27, 28, 29, 30, 31, 32, 33, 34, 35, 36, 37, 38, 39, 40, 41, 42, 43, 44, 45, 46, 47, 48, 49, 50, 51, 52, 53, 54, 55, 56, 57, 58, 59, 60, 61, 62, 63, 64, 65, 66, 67, 68, 69, 70, 71, 72, 73, 74, 75, 76, 77, 78, 79, 80, 81, 82, 83, 84, 85, 86, 87, 88, 89, 90, 91, 92, 93, 94, 95, 96, 97, 98, 99, 100, 101, 102, 103, 104, 105, 106, 107, 108, 109, 110, 111, 112, 113, 114, 115, 116, 117, 118, 119, 120, 121, 122, 123, 124, 125, 126, 127, 128, 129, 130, 131, 132, 133, 134, 135, 136, 137, 138, 139, 140, 141, 142, 143, 144, 145, 146, 147, 148, 149, 150, 151, 152, 153, 154, 155, 156, 157, 158, 159, 160, 161, 162, 163, 164, 165, 166, 167, 168, 169, 170, 171, 172, 173, 174, 175, 176, 177, 178, 179, 180, 181, 182, 183, 184, 185, 186, 187, 188, 189, 190, 191, 192, 193, 194, 195, 196, 197, 198, 199, 200, 201, 202, 203, 204, 205, 206, 207, 208, 209, 210, 211, 212, 213, 214, 215, 216, 217, 218, 219, 220, 221, 222, 223, 224, 225, 226, 227, 228, 229, 230, 231, 232, 233, 234, 235, 236, 237, 238, 239, 240, 241, 242, 243, 244, 245, 246, 247, 248, 249, 250, 251, 252] (by decide +kernel) (by decide +kernel)) (goodIn_sub (fun _ h => List.mem_cons_of_mem _ (List.mem_append_left _ (List.mem_append_left _ (List.mem_append_left _ (List.mem_append_right _ h))))) (by decide +kernel))) (goodIn_sub (fun _ h => List.mem_cons_of_mem _ (List.mem_append_left _ (List.mem_append_left _ (List.mem_append_right _ h)))) (by decide +kernel))) (goodIn_sub (fun _ h => List.mem_cons_of_mem _ (List.mem_append_left _ (List.mem_append_right _ h))) (by decide +kernel))) (goodIn_sub (fun _ h => List.mem_cons_of_mem _ (List.mem_append_right _ h)) (by decide +kernel))) (goodIn_sub (fun _ h => List.mem_cons_of_mem _ (List.mem_append_left _ (List.mem_append_left _ (List.mem_append_left _ (List.mem_append_left _ (List.mem_append_right _ h)))))) (by decide +kernel))
set_option maxRecDepth 20000 in
theorem gL_lay_X8_lay : GoodIn wsL_lay (wsV RL 74 RX8 yX8_lay wsX8_lay) := goodIn_app (goodIn_of _ (by decide +kernel)) ggL_lay_X8_lay
theorem dL_lay_0 : decode cL_lay 0 = .ok (.aload_n 3, 1) := by decide +kernel
theorem dL_lay_1 : decode cL_lay 1 = .ok (.iconst 0, 1) := by decide +kernel
theorem dL_lay_2 : decode cL_lay 2 = .ok (.aload_n 0, 1) := by decide +kernel
theorem dL_lay_3 : decode cL_lay 3 = .ok (.iload_n 1, 1) := by decide +kernel
theorem dL_lay_4 : decode cL_lay 4 = .ok (.iload_n 2, 1) := by decide +kernel
theorem dL_lay_5 : decode cL_lay 5 = .ok (.invokevirtual 74, 3) := by decide +kernel
theorem dL_lay_8 : decode cL_lay 8 = .ok (.i2l, 1) := by decide +kernel
theorem dL_lay_9 : decode cL_lay 9 = .ok (.lastore, 1) := by decide +kernel
theorem dL_lay_10 : decode cL_lay 10 = .ok (.goto 19, 3) := by decide +kernel
theorem dL_lay_13 : decode cL_lay 13 = .ok (.astore 4, 2) := by decide +kernel
theorem dL_lay_15 : decode cL_lay 15 = .ok (.iconst 1, 1) := by decide +kernel
theorem dL_lay_16 : decode cL_lay 16 = .ok (.ireturn, 1) := by decide +kernel
theorem dL_lay_17 : decode cL_lay 17 = .ok (.astore 4, 2) := by decide +kernel
theorem dL_lay_19 : decode cL_lay 19 = .ok (.iconst 2, 1) := by decide +kernel
theorem dL_lay_20 : decode cL_lay 20 = .ok (.ireturn, 1) := by decide +kernel
theorem dL_lay_21 : decode cL_lay 21 = .ok (.astore 4, 2) := by decide +kernel
theorem dL_lay_23 : decode cL_lay 23 = .ok (.iconst 3, 1) := by decide +kernel
theorem dL_lay_24 : decode cL_lay 24 = .ok (.ireturn, 1) := by decide +kernel
theorem dL_lay_25 : decode cL_lay 25 = .ok (.astore 4, 2) := by decide +kernel
theorem dL_lay_27 : decode cL_lay 27 = .ok (.iconst 4, 1) := by decide +kernel
theorem dL_lay_28 : decode cL_lay 28 = .ok (.ireturn, 1) := by decide +kernel
theorem dL_lay_29 : decode cL_lay 29 = .ok (.iconst 0, 1) := by decide +kernel
theorem dL_lay_30 : decode cL_lay 30 = .ok (.ireturn, 1) := by decide +kernel
set_option maxRecDepth 20000 in
theorem ggL_stop_X8_stop : GoodIn wsL_stop wsX8_stop := goodIn_ca (goodIn_ca (goodIn_ca (goodIn_r _ [7, 8, 9, 10, 11, 12, 13, 14, 6, 15, 16, 17, 18, 19, 20, 21, 22, 23, 24, 25, 26, 27, 28, 29, 30, 31, 32, 33, 34, 35, 36, 37, 38, 39, 40, 41, 42, 43, 44, 45, 46, 47, 48, 49, 50, 51, 52, 53, 54, 55, 56, 57, 58, 59, 60, 61, 62, 63, 64, 65, 66, 67, 68, 69, 70, 71, 72, 73, 74] (by decide +kernel) (by decide +kernel)) (goodIn_sub (fun _ h => List.mem_cons_of_mem _ (List.mem_append_left _ (List.mem_append_right _ h))) (by decide +kernel))) (goodIn_sub (fun _ h => List.mem_cons_of_mem _ (List.mem_append_right _ h)) (by decide +kernel))) (goodIn_sub (fun _ h => List.mem_cons_of_mem _ (List.mem_append_left _ (List.mem_append_left _ (List.mem_append_right _ h)))) (by decide +kernel))
set_option maxRecDepth 20000 in
theorem gL_stop_X8_stop : GoodIn wsL_stop (wsV RL 79 RX8 yX8_stop wsX8_stop) := goodIn_app (goodIn_of _ (by decide +kernel)) ggL_stop_X8_stop
theorem dL_stop_0 : decode cL_stop 0 = .ok (.aload_n 2, 1) := by decide +kernel
theorem dL_stop_1 : decode cL_stop 1 = .ok (.iconst 0, 1) := by decide +kernel
theorem dL_stop_2 : decode cL_stop 2 = .ok (.aload_n 0, 1) := by decide +kernel
theorem dL_stop_3 : decode cL_stop 3 = .ok (.iload_n 1, 1) := by decide +kernel
theorem dL_stop_4 : decode cL_stop 4 = .ok (.invokevirtual 79, 3) := by decide +kernel
theorem dL_stop_7 : decode cL_stop 7 = .ok (.i2l, 1) := by decide +kernel
theorem dL_stop_8 : decode cL_stop 8 = .ok (.lastore, 1) := by decide +kernel
theorem dL_stop_9 : decode cL_stop 9 = .ok (.goto 9, 3) := by decide +kernel
theorem dL_stop_12 : decode cL_stop 12 = .ok (.astore_n 3, 1) := by decide +kernel
theorem dL_stop_13 : decode cL_stop 13 = .ok (.iconst 1, 1) := by decide +kernel
theorem dL_stop_14 : decode cL_stop 14 = .ok (.ireturn, 1) := by decide +kernel
theorem dL_stop_15 : decode cL_stop 15 = .ok (.astore_n 3, 1) := by decide +kernel
theorem dL_stop_16 : decode cL_stop 16 = .ok (.iconst 2, 1) := by decide +kernel
theorem dL_stop_17 : decode cL_stop 17 = .ok (.ireturn, 1) := by decide +kernel
theorem dL_stop_18 : decode cL_stop 18 = .ok (.iconst 0, 1) := by decide +kernel
theorem dL_stop_19 : decode cL_stop 19 = .ok (.ireturn, 1) := by decide +kernel
set_option maxRecDepth 20000 in
theorem ggL_positionOf_X8_positionOf : GoodIn wsL_positionOf wsX8_positionOf := goodIn_ca (goodIn_ca (goodIn_r _ [6, 7, 8, 9, 10, 11, 5, 12, 13, 14, 15, 16, 17, 18, 19, 20, 21, 22, 23, 24, 25, 26, 27, 28, 29, 30, 31, 32, 33] (by decide +kernel) (by decide +kernel)) (goodIn_sub (fun _ h => List.mem_cons_of_mem _ (List.mem_append_left _ (List.mem_append_right _ h))) (by decide +kernel))) (goodIn_sub (fun _ h => List.mem_cons_of_mem _ (List.mem_append_right _ h)) (by decide +kernel))
set_option maxRecDepth 20000 in
theorem gL_positionOf_X8_positionOf : GoodIn wsL_positionOf (wsV RL 82 RX8 yX8_positionOf wsX8_positionOf) := goodIn_app (goodIn_of _ (by decide +kernel)) ggL_positionOf_X8_positionOf
theorem dL_positionOf_0 : decode cL_positionOf 0 = .ok (.aload_n 2, 1) := by decide +kernel
theorem dL_positionOf_1 : decode cL_positionOf 1 = .ok (.iconst 0, 1) := by decide +kernel
theorem dL_positionOf_2 : decode cL_positionOf 2 = .ok (.aload_n 0, 1) := by decide +kernel
theorem dL_positionOf_3 : decode cL_positionOf 3 = .ok (.iload_n 1, 1) := by decide +kernel
theorem dL_positionOf_4 : decode cL_positionOf 4 = .ok (.invokevirtual 82, 3) := by decide +kernel
theorem dL_positionOf_7 : decode cL_positionOf 7 = .ok (.i2l, 1) := by decide +kernel
theorem dL_positionOf_8 : decode cL_positionOf 8 = .ok (.lastore, 1) := by decide +kernel
theorem dL_positionOf_9 : decode cL_positionOf 9 = .ok (.goto 6, 3) := by decide +kernel
theorem dL_positionOf_12 : decode cL_positionOf 12 = .ok (.astore_n 3, 1) := by decide +kernel
theorem dL_positionOf_13 : decode cL_positionOf 13 = .ok (.iconst 1, 1) := by decide +kernel
theorem dL_positionOf_14 : decode cL_positionOf 14 = .ok (.ireturn, 1) := by decide +kernel
theorem dL_positionOf_15 : decode cL_positionOf 15 = .ok (.iconst 0, 1) := by decide +kernel
theorem dL_positionOf_16 : decode cL_positionOf 16 = .ok (.ireturn, 1) := by decide +kernel
set_option maxRecDepth 20000 in
theorem ggL_taperOf_X8_taperOf : GoodIn wsL_taperOf wsX8_taperOf := goodIn_ca (goodIn_ca (goodIn_r _ [6, 7, 8, 9, 10, 11, 5, 12, 13, 14, 15, 16, 17, 18, 19, 20, 21, 22, 23, 24, 25, 26, 27, 28, 29, 30, 31, 32, 33] (by decide +kernel) (by decide +kernel)) (goodIn_sub (fun _ h => List.mem_cons_of_mem _ (List.mem_append_left _ (List.mem_append_right _ h))) (by decide +kernel))) (goodIn_sub (fun _ h => List.mem_cons_of_mem _ (List.mem_append_right _ h)) (by decide +kernel))
set_option maxRecDepth 20000 in
theorem gL_taperOf_X8_taperOf : GoodIn wsL_taperOf (wsV RL 85 RX8 yX8_taperOf wsX8_taperOf) := goodIn_app (goodIn_of _ (by decide +kernel)) ggL_taperOf_X8_taperOf
theorem dL_taperOf_0 : decode cL_taperOf 0 = .ok (.aload_n 2, 1) := by decide +kernel
theorem dL_taperOf_1 : decode cL_taperOf 1 = .ok (.iconst 0, 1) := by decide +kernel
theorem dL_taperOf_2 : decode cL_taperOf 2 = .ok (.aload_n 0, 1) := by decide +kernel
theorem dL_taperOf_3 : decode cL_taperOf 3 = .ok (.iload_n 1, 1) := by decide +kernel
theorem dL_taperOf_4 : decode cL_taperOf 4 = .ok (.invokevirtual 85, 3) := by decide +kernel
theorem dL_taperOf_7 : decode cL_taperOf 7 = .ok (.i2l, 1) := by decide +kernel
theorem dL_taperOf_8 : decode cL_taperOf 8 = .ok (.lastore, 1) := by decide +kernel
theorem dL_taperOf_9 : decode cL_taperOf 9 = .ok (.goto 6, 3) := by decide +kernel
theorem dL_taperOf_12 : decode cL_taperOf 12 = .ok (.astore_n 3, 1) := by decide +kernel
theorem dL_taperOf_13 : decode cL_taperOf 13 = .ok (.iconst 1, 1) := by decide +kernel
theorem dL_taperOf_14 : decode cL_taperOf 14 = .ok (.ireturn, 1) := by decide +kernel
theorem dL_taperOf_15 : decode cL_taperOf 15 = .ok (.iconst 0, 1) := by decide +kernel
theorem dL_taperOf_16 : decode cL_taperOf 16 = .ok (.ireturn, 1) := by decide +kernel
set_option maxRecDepth 20000 in
theorem ggL_xAfter_X8_xAfter : GoodIn wsL_xAfter wsX8_xAfter := goodIn_ca (goodIn_ca (goodIn_r _ [6, 7, 8, 9, 10, 11, 5, 12, 13, 14, 15, 16, 17, 18, 19, 20, 21, 22, 23, 24, 25, 26, 27, 28, 29, 30, 31, 32, 33] (by decide +kernel) (by decide +kernel)) (goodIn_sub (fun _ h => List.mem_cons_of_mem _ (List.mem_append_left _ (List.mem_append_right _ h))) (by decide +kernel))) (goodIn_sub (fun _ h => List.mem_cons_of_mem _ (List.mem_append_right _ h)) (by decide +kernel))
set_option maxRecDepth 20000 in
theorem gL_xAfter_X8_xAfter : GoodIn wsL_xAfter (wsV RL 88 RX8 yX8_xAfter wsX8_xAfter) := goodIn_app (goodIn_of _ (by decide +kernel)) ggL_xAfter_X8_xAfter
theorem dL_xAfter_0 : decode cL_xAfter 0 = .ok (.aload_n 2, 1) := by decide +kernel
theorem dL_xAfter_1 : decode cL_xAfter 1 = .ok (.iconst 0, 1) := by decide +kernel
theorem dL_xAfter_2 : decode cL_xAfter 2 = .ok (.aload_n 0, 1) := by decide +kernel
theorem dL_xAfter_3 : decode cL_xAfter 3 = .ok (.iload_n 1, 1) := by decide +kernel
theorem dL_xAfter_4 : decode cL_xAfter 4 = .ok (.invokevirtual 88, 3) := by decide +kernel
theorem dL_xAfter_7 : decode cL_xAfter 7 = .ok (.i2l, 1) := by decide +kernel
theorem dL_xAfter_8 : decode cL_xAfter 8 = .ok (.lastore, 1) := by decide +kernel
theorem dL_xAfter_9 : decode cL_xAfter 9 = .ok (.goto 6, 3) := by decide +kernel
theorem dL_xAfter_12 : decode cL_xAfter 12 = .ok (.astore_n 3, 1) := by decide +kernel
theorem dL_xAfter_13 : decode cL_xAfter 13 = .ok (.iconst 1, 1) := by decide +kernel
theorem dL_xAfter_14 : decode cL_xAfter 14 = .ok (.ireturn, 1) := by decide +kernel
theorem dL_xAfter_15 : decode cL_xAfter 15 = .ok (.iconst 0, 1) := by decide +kernel
theorem dL_xAfter_16 : decode cL_xAfter 16 = .ok (.ireturn, 1) := by decide +kernel
set_option maxRecDepth 20000 in
theorem ggL_yAfter_X8_yAfter : GoodIn wsL_yAfter wsX8_yAfter := goodIn_ca (goodIn_ca (goodIn_r _ [6, 7, 8, 9, 10, 11, 5, 12, 13, 14, 15, 16, 17, 18, 19, 20, 21, 22, 23, 24, 25, 26, 27, 28, 29, 30, 31, 32, 33] (by decide +kernel) (by decide +kernel)) (goodIn_sub (fun _ h => List.mem_cons_of_mem _ (List.mem_append_left _ (List.mem_append_right _ h))) (by decide +kernel))) (goodIn_sub (fun _ h => List.mem_cons_of_mem _ (List.mem_append_right _ h)) (by decide +kernel))
set_option maxRecDepth 20000 in
theorem gL_yAfter_X8_yAfter : GoodIn wsL_yAfter (wsV RL 91 RX8 yX8_yAfter wsX8_yAfter) := goodIn_app (goodIn_of _ (by decide +kernel)) ggL_yAfter_X8_yAfter
theorem dL_yAfter_0 : decode cL_yAfter 0 = .ok (.aload_n 2, 1) := by decide +kernel
theorem dL_yAfter_1 : decode cL_yAfter 1 = .ok (.iconst 0, 1) := by decide +kernel
theorem dL_yAfter_2 : decode cL_yAfter 2 = .ok (.aload_n 0, 1) := by decide +kernel
theorem dL_yAfter_3 : decode cL_yAfter 3 = .ok (.iload_n 1, 1) := by decide +kernel
theorem dL_yAfter_4 : decode cL_yAfter 4 = .ok (.invokevirtual 91, 3) := by decide +kernel
theorem dL_yAfter_7 : decode cL_yAfter 7 = .ok (.i2l, 1) := by decide +kernel
theorem dL_yAfter_8 : decode cL_yAfter 8 = .ok (.lastore, 1) := by decide +kernel
theorem dL_yAfter_9 : decode cL_yAfter 9 = .ok (.goto 6, 3) := by decide +kernel
theorem dL_yAfter_12 : decode cL_yAfter 12 = .ok (.astore_n 3, 1) := by decide +kernel
theorem dL_yAfter_13 : decode cL_yAfter 13 = .ok (.iconst 1, 1) := by decide +kernel
theorem dL_yAfter_14 : decode cL_yAfter 14 = .ok (.ireturn, 1) := by decide +kernel
theorem dL_yAfter_15 : decode cL_yAfter 15 = .ok (.iconst 0, 1) := by decide +kernel
theorem dL_yAfter_16 : decode cL_yAfter 16 = .ok (.ireturn, 1) := by decide +kernel
set_option maxRecDepth 20000 in
theorem ggL_xAnew_X8_xAnew : GoodIn wsL_xAnew wsX8_xAnew := goodIn_ca (goodIn_ca (goodIn_r _ [6, 7, 8, 9, 10, 11, 5, 12, 13, 14, 15, 16, 17, 18, 19, 20, 21, 22, 23, 24, 25, 26, 27, 28, 29, 30, 31, 32, 33, 34, 35, 36, 37, 38, 39, 40, 41, 42, 43, 44, 45, 46, 47, 48, 49, 50, 51, 52, 53, 54, 55, 56, 57, 58, 59, 60, 61] (by decide +kernel) (by decide +kernel)) (goodIn_sub (fun _ h => List.mem_cons_of_mem _ (List.mem_append_right _ h)) (by decide +kernel))) (goodIn_sub (fun _ h => List.mem_cons_of_mem _ (List.mem_append_left _ (List.mem_append_right _ h))) (by decide +kernel))
set_option maxRecDepth 20000 in
theorem gL_xAnew_X8_xAnew : GoodIn wsL_xAnew (wsV RL 94 RX8 yX8_xAnew wsX8_xAnew) := goodIn_app (goodIn_of _ (by decide +kernel)) ggL_xAnew_X8_xAnew
theorem dL_xAnew_0 : decode cL_xAnew 0 = .ok (.aload_n 2, 1) := by decide +kernel
theorem dL_xAnew_1 : decode cL_xAnew 1 = .ok (.iconst 0, 1) := by decide +kernel
theorem dL_xAnew_2 : decode cL_xAnew 2 = .ok (.aload_n 0, 1) := by decide +kernel
theorem dL_xAnew_3 : decode cL_xAnew 3 = .ok (.iload_n 1, 1) := by decide +kernel
theorem dL_xAnew_4 : decode cL_xAnew 4 = .ok (.invokevirtual 94, 3) := by decide +kernel
theorem dL_xAnew_7 : decode cL_xAnew 7 = .ok (.i2l, 1) := by decide +kernel
theorem dL_xAnew_8 : decode cL_xAnew 8 = .ok (.lastore, 1) := by decide +kernel
theorem dL_xAnew_9 : decode cL_xAnew 9 = .ok (.goto 6, 3) := by decide +kernel
theorem dL_xAnew_12 : decode cL_xAnew 12 = .ok (.astore_n 3, 1) := by decide +kernel
theorem dL_xAnew_13 : decode cL_xAnew 13 = .ok (.iconst 1, 1) := by decide +kernel
theorem dL_xAnew_14 : decode cL_xAnew 14 = .ok (.ireturn, 1) := by decide +kernel
theorem dL_xAnew_15 : decode cL_xAnew 15 = .ok (.iconst 0, 1) := by decide +kernel
theorem dL_xAnew_16 : decode cL_xAnew 16 = .ok (.ireturn, 1) := by decide +kernel
set_option maxRecDepth 20000 in
theorem ggL_yAnew_X8_yAnew : GoodIn wsL_yAnew wsX8_yAnew := goodIn_ca (goodIn_ca (goodIn_r _ [6, 7, 8, 9, 10, 11, 5, 12, 13, 14, 15, 16, 17, 18, 19, 20, 21, 22, 23, 24, 25, 26, 27, 28, 29, 30, 31, 32, 33, 34, 35, 36, 37, 38, 39, 40, 41, 42, 43, 44, 45, 46, 47, 48, 49, 50, 51, 52, 53, 54, 55, 56, 57, 58, 59, 60, 61] (by decide +kernel) (by decide +kernel)) (goodIn_sub (fun _ h => List.mem_cons_of_mem _ (List.mem_append_right _ h)) (by decide +kernel))) (goodIn_sub (fun _ h => List.mem_cons_of_mem _ (List.mem_append_left _ (List.mem_append_right _ h))) (by decide +kernel))
set_option maxRecDepth 20000 in
theorem gL_yAnew_X8_yAnew : GoodIn wsL_yAnew (wsV RL 97 RX8 yX8_yAnew wsX8_yAnew) := goodIn_app (goodIn_of _ (by decide +kernel)) ggL_yAnew_X8_yAnew
theorem dL_yAnew_0 : decode cL_yAnew 0 = .ok (.aload_n 2, 1) := by decide +kernel
theorem dL_yAnew_1 : decode cL_yAnew 1 = .ok (.iconst 0, 1) := by decide +kernel
theorem dL_yAnew_2 : decode cL_yAnew 2 = .ok (.aload_n 0, 1) := by decide +kernel
theorem dL_yAnew_3 : decode cL_yAnew 3 = .ok (.iload_n 1, 1) := by decide +kernel
theorem dL_yAnew_4 : decode cL_yAnew 4 = .ok (.invokevirtual 97, 3) := by decide +kernel
theorem dL_yAnew_7 : decode cL_yAnew 7 = .ok (.i2l, 1) := by decide +kernel
theorem dL_yAnew_8 : decode cL_yAnew 8 = .ok (.lastore, 1) := by decide +kernel
theorem dL_yAnew_9 : decode cL_yAnew 9 = .ok (.goto 6, 3) := by decide +kernel
theorem dL_yAnew_12 : decode cL_yAnew 12 = .ok (.astore_n 3, 1) := by decide +kernel
theorem dL_yAnew_13 : decode cL_yAnew 13 = .ok (.iconst 1, 1) := by decide +kernel
theorem dL_yAnew_14 : decode cL_yAnew 14 = .ok (.ireturn, 1) := by decide +kernel
theorem dL_yAnew_15 : decode cL_yAnew 15 = .ok (.iconst 0, 1) := by decide +kernel
theorem dL_yAnew_16 : decode cL_yAnew 16 = .ok (.ireturn, 1) := by decide +kernel
set_option maxRecDepth 20000 in
theorem ggL_deviationAfter_X8_deviationAfter : GoodIn wsL_deviationAfter wsX8_deviationAfter := goodIn_ca (goodIn_ca (goodIn_r _ [6, 7, 8, 9, 10, 11, 12, 13, 14, 15, 16, 17, 18, 19, 5, 20, 21, 22, 23, 24, 25, 26, 27, 28, 29, 30, 31, 32, 33, 34, 35, 36, 37, 38, 39, 40, 41, 42, 43, 44, 45, 46, 47, 48, 49, 50, 51, 52, 53, 54, 55, 56, 57, 58, 59, 60, 61, 62, 63, 64, 65, 66, 67, 68, 69, 70, 71, 72, 73, 74, 75, 76, 77, 78] (by decide +kernel) (by decide +kernel)) (goodIn_sub (fun _ h => List.mem_cons_of_mem _ (List.mem_append_left _ (List.mem_append_right _ h))) (by decide +kernel))) (goodIn_sub (fun _ h => List.mem_cons_of_mem _ (List.mem_append_right _ h)) (by decide +kernel))
set_option maxRecDepth 20000 in
theorem gL_deviationAfter_X8_deviationAfter : GoodIn wsL_deviationAfter (wsV RL 100 RX8 yX8_deviationAfter wsX8_deviationAfter) := goodIn_app (goodIn_of _ (by decide +kernel)) ggL_deviationAfter_X8_deviationAfter
theorem dL_deviationAfter_0 : decode cL_deviationAfter 0 = .ok (.aload_n 2, 1) := by decide +kernel
theorem dL_deviationAfter_1 : decode cL_deviationAfter 1 = .ok (.iconst 0, 1) := by decide +kernel
theorem dL_deviationAfter_2 : decode cL_deviationAfter 2 = .ok (.aload_n 0, 1) := by decide +kernel
theorem dL_deviationAfter_3 : decode cL_deviationAfter 3 = .ok (.iload_n 1, 1) := by decide +kernel
theorem dL_deviationAfter_4 : decode cL_deviationAfter 4 = .ok (.invokevirtual 100, 3) := by decide +kernel
theorem dL_deviationAfter_7 : decode cL_deviationAfter 7 = .ok (.i2l, 1) := by decide +kernel
theorem dL_deviationAfter_8 : decode cL_deviationAfter 8 = .ok (.lastore, 1) := by decide +kernel
theorem dL_deviationAfter_9 : decode cL_deviationAfter 9 = .ok (.goto 6, 3) := by decide +kernel
theorem dL_deviationAfter_12 : decode cL_deviationAfter 12 = .ok (.astore_n 3, 1) := by decide +kernel
theorem dL_deviationAfter_13 : decode cL_deviationAfter 13 = .ok (.iconst 1, 1) := by decide +kernel
theorem dL_deviationAfter_14 : decode cL_deviationAfter 14 = .ok (.ireturn, 1) := by decide +kernel
theorem dL_deviationAfter_15 : decode cL_deviationAfter 15 = .ok (.iconst 0, 1) := by decide +kernel
theorem dL_deviationAfter_16 : decode cL_deviationAfter 16 = .ok (.ireturn, 1) := by decide +kernel
set_option maxRecDepth 20000 in
theorem ggL_deviationWith_X8_deviationWith : GoodIn wsL_deviationWith wsX8_deviationWith := goodIn_ca (goodIn_ca (goodIn_ca (goodIn_ca (goodIn_r _ [8, 9, 10, 11, 7, 12, 13, 14, 15, 16, 17, 18, 19, 20, 21, 22, 23, 24, 25, 26, 27, 28, 29, 30, 31, 32, 33, 34, 35, 36, 37, 38, 39, 40, 41, 42, 43, 44, 45, 46, 47, 48, 49, 50, 51, 52, 53, 54, 55, 56, 57, 58, 59, 60, 61, 62, 63, 64, 65, 66, 67, 68, 69, 70, 71, 72, 73, 74, 75, 76, 77, 78, 79, 80, 81, 82, 83, 84, 85, 86, 87, 88, 89, 90, 91, 92, 93, 94, 95, 96, 97, 98, 99, 100, 101, 102, 103, 104, 105, 106, 107, 108, 109, 110, 111, 112, 113, 114, 115, 116, 117, 118, 119, 120, 121, 122, 123, 124, 125, 126, 127, 128, 129, 130, 131, 132, 133, 134, 135, 136, 137, 138, 139, 140, 141, 142, 143, 144, 145, 146, 147, 148, 149, 150, 151, 152, 153, 154, 155, 156, 157, 158, 159] (by decide +kernel) (by decide +kernel)) (goodIn_sub (fun _ h => List.mem_cons_of_mem _ (List.mem_append_left _ (List.mem_append_left _ (List.mem_append_right _ h)))) (by decide +kernel))) (goodIn_sub (fun _ h => List.mem_cons_of_mem _ (List.mem_append_left _ (List.mem_append_right _ h))) (by decide +kernel))) (goodIn_sub (fun _ h => List.mem_cons_of_mem _ (List.mem_append_left _ (List.mem_append_left _ (List.mem_append_left _ (List.mem_append_right _ h))))) (by decide +kernel))) (goodIn_sub (fun _ h => List.mem_cons_of_mem _ (List.mem_append_right _ h)) (by decide +kernel))
set_option maxRecDepth 20000 in
theorem gL_deviationWith_X8_deviationWith : GoodIn wsL_deviationWith (wsV RL 103 RX8 yX8_deviationWith wsX8_deviationWith) := goodIn_app (goodIn_of _ (by decide +kernel)) ggL_deviationWith_X8_deviationWith
theorem dL_deviationWith_0 : decode cL_deviationWith 0 = .ok (.aload_n 3, 1) := by decide +kernel
theorem dL_deviationWith_1 : decode cL_deviationWith 1 = .ok (.iconst 0, 1) := by decide +kernel
theorem dL_deviationWith_2 : decode cL_deviationWith 2 = .ok (.aload_n 0, 1) := by decide +kernel
theorem dL_deviationWith_3 : decode cL_deviationWith 3 = .ok (.iload_n 1, 1) := by decide +kernel
theorem dL_deviationWith_4 : decode cL_deviationWith 4 = .ok (.iload_n 2, 1) := by decide +kernel
theorem dL_deviationWith_5 : decode cL_deviationWith 5 = .ok (.invokevirtual 103, 3) := by decide +kernel
theorem dL_deviationWith_8 : decode cL_deviationWith 8 = .ok (.i2l, 1) := by decide +kernel
theorem dL_deviationWith_9 : decode cL_deviationWith 9 = .ok (.lastore, 1) := by decide +kernel
theorem dL_deviationWith_10 : decode cL_deviationWith 10 = .ok (.goto 15, 3) := by decide +kernel
theorem dL_deviationWith_13 : decode cL_deviationWith 13 = .ok (.astore 4, 2) := by decide +kernel
theorem dL_deviationWith_15 : decode cL_deviationWith 15 = .ok (.iconst 1, 1) := by decide +kernel
theorem dL_deviationWith_16 : decode cL_deviationWith 16 = .ok (.ireturn, 1) := by decide +kernel
theorem dL_deviationWith_17 : decode cL_deviationWith 17 = .ok (.astore 4, 2) := by decide +kernel
theorem dL_deviationWith_19 : decode cL_deviationWith 19 = .ok (.iconst 2, 1) := by decide +kernel
theorem dL_deviationWith_20 : decode cL_deviationWith 20 = .ok (.ireturn, 1) := by decide +kernel
theorem dL_deviationWith_21 : decode cL_deviationWith 21 = .ok (.astore 4, 2) := by decide +kernel
theorem dL_deviationWith_23 : decode cL_deviationWith 23 = .ok (.iconst 3, 1) := by decide +kernel
theorem dL_deviationWith_24 : decode cL_deviationWith 24 = .ok (.ireturn, 1) := by decide +kernel
theorem dL_deviationWith_25 : decode cL_deviationWith 25 = .ok (.iconst 0, 1) := by decide +kernel
theorem dL_deviationWith_26 : decode cL_deviationWith 26 = .ok (.ireturn, 1) := by decide +kernel
set_option maxRecDepth 20000 in
theorem ggL_bestPosition_X8_bestPosition : GoodIn wsL_bestPosition wsX8_bestPosition := goodIn_ca (goodIn_ca (goodIn_ca (goodIn_r _ [7, 8, 9, 10, 11, 12, 13, 6, 14, 15, 16, 17, 18, 19, 20, 21, 22, 23, 24, 25, 26, 27, 28, 29, 30, 31, 32, 33, 34, 35, 36, 37, 38, 39, 40, 41, 42, 43, 44, 45, 46, 47, 48, 49, 50, 51, 52, 53, 54, 55, 56, 57, 58, 59, 60, 61, 62, 63, 64, 65, 66, 67, 68, 69, 70, 71, 72, 73, 74, 75, 76, 77, 78, 79, 80, 81, 82, 83, 84, 85, 86, 87, 88, 89, 90, 91, 92, 93, 94, 95, 96, 97, 98, 99, 100, 101, 102, 103, 104, 105, 106, 107, 108, 109, 110, 111, 112, 113, 114, 115, 116, 117, 118, 119, 120, 121, 122, 123, 124, 125, 126, 127, 128, 129, 130, 131, 132, 133, 134, 135, 136, 137, 138, 139, 140, 141, 142, 143, 144, 145, 146, 147, 148, 149, 150, 151, 152, 153, 154, 155, 156, 157, 158, 159, 160, 161, 162, 163, 164, 165] (by decide +kernel) (by decide +kernel)) (goodIn_sub (fun _ h => List.mem_cons_of_mem _ (List.mem_append_left _ (List.mem_append_right _ h))) (by decide +kernel))) (goodIn_sub (fun _ h => List.mem_cons_of_mem _ (List.mem_append_left _ (List.mem_append_left _ (List.mem_append_right _ h)))) (by decide +kernel))) (goodIn_sub (fun _ h => List.mem_cons_of_mem _ (List.mem_append_right _ h)) (by decide +kernel))
set_option maxRecDepth 20000 in
theorem gL_bestPosition_X8_bestPosition : GoodIn wsL_bestPosition (wsV RL 106 RX8 yX8_bestPosition wsX8_bestPosition) := goodIn_app (goodIn_of _ (by decide +kernel)) ggL_bestPosition_X8_bestPosition
theorem dL_bestPosition_0 : decode cL_bestPosition 0 = .ok (.aload_n 2, 1) := by decide +kernel
theorem dL_bestPosition_1 : decode cL_bestPosition 1 = .ok (.iconst 0, 1) := by decide +kernel
theorem dL_bestPosition_2 : decode cL_bestPosition 2 = .ok (.aload_n 0, 1) := by decide +kernel
theorem dL_bestPosition_3 : decode cL_bestPosition 3 = .ok (.iload_n 1, 1) := by decide +kernel
theorem dL_bestPosition_4 : decode cL_bestPosition 4 = .ok (.invokevirtual 106, 3) := by decide +kernel
theorem dL_bestPosition_7 : decode cL_bestPosition 7 = .ok (.i2l, 1) := by decide +kernel
theorem dL_bestPosition_8 : decode cL_bestPosition 8 = .ok (.lastore, 1) := by decide +kernel
theorem dL_bestPosition_9 : decode cL_bestPosition 9 = .ok (.goto 9, 3) := by decide +kernel
theorem dL_bestPosition_12 : decode cL_bestPosition 12 = .ok (.astore_n 3, 1) := by decide +kernel
theorem dL_bestPosition_13 : decode cL_bestPosition 13 = .ok (.iconst 1, 1) := by decide +kernel
theorem dL_bestPosition_14 : decode cL_bestPosition 14 = .ok (.ireturn, 1) := by decide +kernel
theorem dL_bestPosition_15 : decode cL_bestPosition 15 = .ok (.astore_n 3, 1) := by decide +kernel
theorem dL_bestPosition_16 : decode cL_bestPosition 16 = .ok (.iconst 2, 1) := by decide +kernel
theorem dL_bestPosition_17 : decode cL_bestPosition 17 = .ok (.ireturn, 1) := by decide +kernel
theorem dL_bestPosition_18 : decode cL_bestPosition 18 = .ok (.iconst 0, 1) := by decide +kernel
theorem dL_bestPosition_19 : decode cL_bestPosition 19 = .ok (.ireturn, 1) := by decide +kernel
set_option maxRecDepth 20000 in
theorem ggL_leastDeviation_X8_leastDeviation : GoodIn wsL_leastDeviation wsX8_leastDeviation := goodIn_ca (goodIn_ca (goodIn_ca (goodIn_ca (goodIn_r _ [8, 9, 10, 11, 12, 13, 7, 14, 15, 16, 17, 18, 19, 20, 21, 22, 23, 24, 25, 26, 27, 28, 29, 30, 31, 32, 33, 34, 35, 36, 37, 38, 39, 40, 41, 42, 43, 44, 45, 46, 47, 48, 49, 50, 51, 52, 53, 54, 55, 56, 57, 58, 59, 60, 61, 62, 63, 64, 65, 66, 67, 68, 69, 70, 71, 72, 73, 74, 75, 76, 77, 78, 79, 80, 81, 82, 83, 84, 85, 86, 87, 88, 89, 90, 91, 92, 93, 94, 95, 96, 97, 98, 99, 100, 101, 102, 103, 104, 105, 106, 107, 108, 109, 110, 111, 112, 113, 114, 115, 116, 117, 118, 119, 120, 121, 122, 123, 124, 125, 126, 127, 128, 129, 130, 131, 132, 133, 134, 135, 136, 137, 138, 139, 140, 141, 142, 143, 144, 145, 146, 147, 148, 149, 150, 151, 152, 153, 154, 155, 156, 157, 158, 159, 160, 161, 162, 163, 164, 165, 166, 167, 168, 169, 170, 171, 172, 173, 174, 175, 176, 177, 178, 179, 180, 181, 182, 183, 184, 185] (by decide +kernel) (by decide +kernel)) (goodIn_sub (fun _ h => List.mem_cons_of_mem _ (List.mem_append_left _ (List.mem_append_left _ (List.mem_append_right _ h)))) (by decide +kernel))) (goodIn_sub (fun _ h => List.mem_cons_of_mem _ (List.mem_append_left _ (List.mem_append_right _ h))) (by decide +kernel))) (goodIn_sub (fun _ h => List.mem_cons_of_mem _ (List.mem_append_left _ (List.mem_append_left _ (List.mem_append_left _ (List.mem_append_right _ h))))) (by decide +kernel))) (goodIn_sub (fun _ h => List.mem_cons_of_mem _ (List.mem_append_right _ h)) (by decide +kernel))
set_option maxRecDepth 20000 in
theorem gL_leastDeviation_X8_leastDeviation : GoodIn wsL_leastDeviation (wsV RL 109 RX8 yX8_leastDeviation wsX8_leastDeviation) := goodIn_app (goodIn_of _ (by decide +kernel)) ggL_leastDeviation_X8_leastDeviation
theorem dL_leastDeviation_0 : decode cL_leastDeviation 0 = .ok (.aload_n 3, 1) := by decide +kernel
theorem dL_leastDeviation_1 : decode cL_leastDeviation 1 = .ok (.iconst 0, 1) := by decide +kernel
theorem dL_leastDeviation_2 : decode cL_leastDeviation 2 = .ok (.aload_n 0, 1) := by decide +kernel
theorem dL_leastDeviation_3 : decode cL_leastDeviation 3 = .ok (.iload_n 1, 1) := by decide +kernel
theorem dL_leastDeviation_4 : decode cL_leastDeviation 4 = .ok (.iload_n 2, 1) := by decide +kernel
theorem dL_leastDeviation_5 : decode cL_leastDeviation 5 = .ok (.invokevirtual 109, 3) := by decide +kernel
theorem dL_leastDeviation_8 : decode cL_leastDeviation 8 = .ok (.i2l, 1) := by decide +kernel
theorem dL_leastDeviation_9 : decode cL_leastDeviation 9 = .ok (.lastore, 1) := by decide +kernel
theorem dL_leastDeviation_10 : decode cL_leastDeviation 10 = .ok (.goto 15, 3) := by decide +kernel
theorem dL_leastDeviation_13 : decode cL_leastDeviation 13 = .ok (.astore 4, 2) := by decide +kernel
theorem dL_leastDeviation_15 : decode cL_leastDeviation 15 = .ok (.iconst 1, 1) := by decide +kernel
theorem dL_leastDeviation_16 : decode cL_leastDeviation 16 = .ok (.ireturn, 1) := by decide +kernel
theorem dL_leastDeviation_17 : decode cL_leastDeviation 17 = .ok (.astore 4, 2) := by decide +kernel
theorem dL_leastDeviation_19 : decode cL_leastDeviation 19 = .ok (.iconst 2, 1) := by decide +kernel
theorem dL_leastDeviation_20 : decode cL_leastDeviation 20 = .ok (.ireturn, 1) := by decide +kernel
theorem dL_leastDeviation_21 : decode cL_leastDeviation 21 = .ok (.astore 4, 2) := by decide +kernel
theorem dL_leastDeviation_23 : decode cL_leastDeviation 23 = .ok (.iconst 3, 1) := by decide +kernel
theorem dL_leastDeviation_24 : decode cL_leastDeviation 24 = .ok (.ireturn, 1) := by decide +kernel
theorem dL_leastDeviation_25 : decode cL_leastDeviation 25 = .ok (.iconst 0, 1) := by decide +kernel
theorem dL_leastDeviation_26 : decode cL_leastDeviation 26 = .ok (.ireturn, 1) := by decide +kernel
set_option maxRecDepth 20000 in
theorem ggL_leastByTrying_X8_leastByTrying : GoodIn wsL_leastByTrying wsX8_leastByTrying := goodIn_ca (goodIn_ca (goodIn_ca (goodIn_ca (goodIn_r _ [8, 9, 10, 11, 12, 13, 7, 14, 15, 16, 17, 18, 19, 20, 21, 22, 23, 24, 25, 26, 27, 28, 29, 30, 31, 32, 33, 34, 35, 36, 37, 38, 39, 40, 41, 42, 43, 44, 45, 46, 47, 48, 49, 50, 51, 52, 53, 54, 55, 56, 57, 58, 59, 60, 61, 62, 63, 64, 65, 66, 67, 68, 69, 70, 71, 72, 73, 74, 75, 76, 77, 78, 79, 80, 81, 82, 83, 84, 85, 86, 87, 88, 89, 90, 91, 92, 93, 94, 95, 96, 97, 98, 99, 100, 101, 102, 103, 104, 105, 106, 107, 108, 109, 110, 111, 112, 113, 114, 115, 116, 117, 118, 119, 120, 121, 122, 123, 124, 125, 126, 127, 128, 129, 130, 131, 132, 133, 134, 135, 136, 137, 138, 139, 140, 141, 142, 143, 144, 145, 146, 147, 148, 149, 150, 151, 152, 153, 154, 155, 156, 157, 158, 159, 160, 161, 162, 163, 164, 165, 166, 167, 168, 169, 170, 171, 172, 173, 174, 175, 176, 177, 178] (by decide +kernel) (by decide +kernel)) (goodIn_sub (fun _ h => List.mem_cons_of_mem _ (List.mem_append_left _ (List.mem_append_left _ (List.mem_append_right _ h)))) (by decide +kernel))) (goodIn_sub (fun _ h => List.mem_cons_of_mem _ (List.mem_append_left _ (List.mem_append_right _ h))) (by decide +kernel))) (goodIn_sub (fun _ h => List.mem_cons_of_mem _ (List.mem_append_left _ (List.mem_append_left _ (List.mem_append_left _ (List.mem_append_right _ h))))) (by decide +kernel))) (goodIn_sub (fun _ h => List.mem_cons_of_mem _ (List.mem_append_right _ h)) (by decide +kernel))
set_option maxRecDepth 20000 in
theorem gL_leastByTrying_X8_leastByTrying : GoodIn wsL_leastByTrying (wsV RL 112 RX8 yX8_leastByTrying wsX8_leastByTrying) := goodIn_app (goodIn_of _ (by decide +kernel)) ggL_leastByTrying_X8_leastByTrying
theorem dL_leastByTrying_0 : decode cL_leastByTrying 0 = .ok (.aload_n 3, 1) := by decide +kernel
theorem dL_leastByTrying_1 : decode cL_leastByTrying 1 = .ok (.iconst 0, 1) := by decide +kernel
theorem dL_leastByTrying_2 : decode cL_leastByTrying 2 = .ok (.aload_n 0, 1) := by decide +kernel
theorem dL_leastByTrying_3 : decode cL_leastByTrying 3 = .ok (.iload_n 1, 1) := by decide +kernel
theorem dL_leastByTrying_4 : decode cL_leastByTrying 4 = .ok (.iload_n 2, 1) := by decide +kernel
theorem dL_leastByTrying_5 : decode cL_leastByTrying 5 = .ok (.invokevirtual 112, 3) := by decide +kernel
theorem dL_leastByTrying_8 : decode cL_leastByTrying 8 = .ok (.i2l, 1) := by decide +kernel
theorem dL_leastByTrying_9 : decode cL_leastByTrying 9 = .ok (.lastore, 1) := by decide +kernel
theorem dL_leastByTrying_10 : decode cL_leastByTrying 10 = .ok (.goto 15, 3) := by decide +kernel
theorem dL_leastByTrying_13 : decode cL_leastByTrying 13 = .ok (.astore 4, 2) := by decide +kernel
theorem dL_leastByTrying_15 : decode cL_leastByTrying 15 = .ok (.iconst 1, 1) := by decide +kernel
theorem dL_leastByTrying_16 : decode cL_leastByTrying 16 = .ok (.ireturn, 1) := by decide +kernel
theorem dL_leastByTrying_17 : decode cL_leastByTrying 17 = .ok (.astore 4, 2) := by decide +kernel
theorem dL_leastByTrying_19 : decode cL_leastByTrying 19 = .ok (.iconst 2, 1) := by decide +kernel
theorem dL_leastByTrying_20 : decode cL_leastByTrying 20 = .ok (.ireturn, 1) := by decide +kernel
theorem dL_leastByTrying_21 : decode cL_leastByTrying 21 = .ok (.astore 4, 2) := by decide +kernel
theorem dL_leastByTrying_23 : decode cL_leastByTrying 23 = .ok (.iconst 3, 1) := by decide +kernel
theorem dL_leastByTrying_24 : decode cL_leastByTrying 24 = .ok (.ireturn, 1) := by decide +kernel
theorem dL_leastByTrying_25 : decode cL_leastByTrying 25 = .ok (.iconst 0, 1) := by decide +kernel
theorem dL_leastByTrying_26 : decode cL_leastByTrying 26 = .ok (.ireturn, 1) := by decide +kernel
set_option maxRecDepth 20000 in
theorem ggL_sinkingAt_X8_sinkingAt : GoodIn wsL_sinkingAt wsX8_sinkingAt := goodIn_ca (goodIn_ca (goodIn_r _ [6, 7, 8, 9, 10, 5, 11, 12, 13, 14, 15, 16, 17, 18, 19, 20, 21, 22, 23, 24, 25, 26, 27, 28, 29, 30, 31, 32, 33, 34, 35, 36, 37, 38, 39, 40, 41] (by decide +kernel) (by decide +kernel)) (goodIn_sub (fun _ h => List.mem_cons_of_mem _ (List.mem_append_right _ h)) (by decide +kernel))) (goodIn_sub (fun _ h => List.mem_cons_of_mem _ (List.mem_append_left _ (List.mem_append_right _ h))) (by decide +kernel))
set_option maxRecDepth 20000 in
theorem gL_sinkingAt_X8_sinkingAt : GoodIn wsL_sinkingAt (wsV RL 115 RX8 yX8_sinkingAt wsX8_sinkingAt) := goodIn_app (goodIn_of _ (by decide +kernel)) ggL_sinkingAt_X8_sinkingAt
theorem dL_sinkingAt_0 : decode cL_sinkingAt 0 = .ok (.aload_n 2, 1) := by decide +kernel
theorem dL_sinkingAt_1 : decode cL_sinkingAt 1 = .ok (.iconst 0, 1) := by decide +kernel
theorem dL_sinkingAt_2 : decode cL_sinkingAt 2 = .ok (.aload_n 0, 1) := by decide +kernel
theorem dL_sinkingAt_3 : decode cL_sinkingAt 3 = .ok (.iload_n 1, 1) := by decide +kernel
theorem dL_sinkingAt_4 : decode cL_sinkingAt 4 = .ok (.invokevirtual 115, 3) := by decide +kernel
theorem dL_sinkingAt_7 : decode cL_sinkingAt 7 = .ok (.i2l, 1) := by decide +kernel
theorem dL_sinkingAt_8 : decode cL_sinkingAt 8 = .ok (.lastore, 1) := by decide +kernel
theorem dL_sinkingAt_9 : decode cL_sinkingAt 9 = .ok (.goto 6, 3) := by decide +kernel
theorem dL_sinkingAt_12 : decode cL_sinkingAt 12 = .ok (.astore_n 3, 1) := by decide +kernel
theorem dL_sinkingAt_13 : decode cL_sinkingAt 13 = .ok (.iconst 1, 1) := by decide +kernel
theorem dL_sinkingAt_14 : decode cL_sinkingAt 14 = .ok (.ireturn, 1) := by decide +kernel
theorem dL_sinkingAt_15 : decode cL_sinkingAt 15 = .ok (.iconst 0, 1) := by decide +kernel
theorem dL_sinkingAt_16 : decode cL_sinkingAt 16 = .ok (.ireturn, 1) := by decide +kernel
set_option maxRecDepth 20000 in
theorem ggL_sinkingOf_X8_sinkingOf : GoodIn wsL_sinkingOf wsX8_sinkingOf := goodIn_ca (goodIn_ca (goodIn_r _ [6, 7, 8, 9, 5, 10, 11, 12, 13, 14, 15, 16, 17, 18, 19, 20, 21, 22, 23, 24, 25, 26, 27, 28, 29, 30, 31, 32, 33, 34, 35, 36, 37, 38, 39, 40, 41, 42, 43, 44, 45, 46, 47, 48, 49, 50, 51, 52, 53, 54, 55, 56, 57, 58] (by decide +kernel) (by decide +kernel)) (goodIn_sub (fun _ h => List.mem_cons_of_mem _ (List.mem_append_right _ h)) (by decide +kernel))) (goodIn_sub (fun _ h => List.mem_cons_of_mem _ (List.mem_append_left _ (List.mem_append_right _ h))) (by decide +kernel))
set_option maxRecDepth 20000 in
theorem gL_sinkingOf_X8_sinkingOf : GoodIn wsL_sinkingOf (wsV RL 118 RX8 yX8_sinkingOf wsX8_sinkingOf) := goodIn_app (goodIn_of _ (by decide +kernel)) ggL_sinkingOf_X8_sinkingOf
theorem dL_sinkingOf_0 : decode cL_sinkingOf 0 = .ok (.aload_n 2, 1) := by decide +kernel
theorem dL_sinkingOf_1 : decode cL_sinkingOf 1 = .ok (.iconst 0, 1) := by decide +kernel
theorem dL_sinkingOf_2 : decode cL_sinkingOf 2 = .ok (.aload_n 0, 1) := by decide +kernel
theorem dL_sinkingOf_3 : decode cL_sinkingOf 3 = .ok (.iload_n 1, 1) := by decide +kernel
theorem dL_sinkingOf_4 : decode cL_sinkingOf 4 = .ok (.invokevirtual 118, 3) := by decide +kernel
theorem dL_sinkingOf_7 : decode cL_sinkingOf 7 = .ok (.i2l, 1) := by decide +kernel
theorem dL_sinkingOf_8 : decode cL_sinkingOf 8 = .ok (.lastore, 1) := by decide +kernel
theorem dL_sinkingOf_9 : decode cL_sinkingOf 9 = .ok (.goto 6, 3) := by decide +kernel
theorem dL_sinkingOf_12 : decode cL_sinkingOf 12 = .ok (.astore_n 3, 1) := by decide +kernel
theorem dL_sinkingOf_13 : decode cL_sinkingOf 13 = .ok (.iconst 1, 1) := by decide +kernel
theorem dL_sinkingOf_14 : decode cL_sinkingOf 14 = .ok (.ireturn, 1) := by decide +kernel
theorem dL_sinkingOf_15 : decode cL_sinkingOf 15 = .ok (.iconst 0, 1) := by decide +kernel
theorem dL_sinkingOf_16 : decode cL_sinkingOf 16 = .ok (.ireturn, 1) := by decide +kernel
set_option maxRecDepth 20000 in
theorem ggL_tiltOf_X8_tiltOf : GoodIn wsL_tiltOf wsX8_tiltOf := goodIn_ca (goodIn_ca (goodIn_r _ [6, 7, 8, 9, 5, 10, 11, 12, 13, 14, 15, 16, 17, 18, 19, 20, 21, 22, 23, 24, 25, 26, 27, 28, 29, 30, 31, 32, 33, 34, 35, 36, 37, 38, 39, 40, 41, 42, 43, 44, 45, 46, 47, 48, 49, 50, 51, 52, 53, 54, 55, 56, 57, 58, 59, 60, 61, 62, 63, 64, 65, 66] (by decide +kernel) (by decide +kernel)) (goodIn_sub (fun _ h => List.mem_cons_of_mem _ (List.mem_append_right _ h)) (by decide +kernel))) (goodIn_sub (fun _ h => List.mem_cons_of_mem _ (List.mem_append_left _ (List.mem_append_right _ h))) (by decide +kernel))
set_option maxRecDepth 20000 in
theorem gL_tiltOf_X8_tiltOf : GoodIn wsL_tiltOf (wsV RL 121 RX8 yX8_tiltOf wsX8_tiltOf) := goodIn_app (goodIn_of _ (by decide +kernel)) ggL_tiltOf_X8_tiltOf
theorem dL_tiltOf_0 : decode cL_tiltOf 0 = .ok (.aload_n 2, 1) := by decide +kernel
theorem dL_tiltOf_1 : decode cL_tiltOf 1 = .ok (.iconst 0, 1) := by decide +kernel
theorem dL_tiltOf_2 : decode cL_tiltOf 2 = .ok (.aload_n 0, 1) := by decide +kernel
theorem dL_tiltOf_3 : decode cL_tiltOf 3 = .ok (.iload_n 1, 1) := by decide +kernel
theorem dL_tiltOf_4 : decode cL_tiltOf 4 = .ok (.invokevirtual 121, 3) := by decide +kernel
theorem dL_tiltOf_7 : decode cL_tiltOf 7 = .ok (.i2l, 1) := by decide +kernel
theorem dL_tiltOf_8 : decode cL_tiltOf 8 = .ok (.lastore, 1) := by decide +kernel
theorem dL_tiltOf_9 : decode cL_tiltOf 9 = .ok (.goto 6, 3) := by decide +kernel
theorem dL_tiltOf_12 : decode cL_tiltOf 12 = .ok (.astore_n 3, 1) := by decide +kernel
theorem dL_tiltOf_13 : decode cL_tiltOf 13 = .ok (.iconst 1, 1) := by decide +kernel
theorem dL_tiltOf_14 : decode cL_tiltOf 14 = .ok (.ireturn, 1) := by decide +kernel
theorem dL_tiltOf_15 : decode cL_tiltOf 15 = .ok (.iconst 0, 1) := by decide +kernel
theorem dL_tiltOf_16 : decode cL_tiltOf 16 = .ok (.ireturn, 1) := by decide +kernel
set_option maxRecDepth 20000 in
theorem ggL_claimOf_X8_claimOf : GoodIn wsL_claimOf wsX8_claimOf := goodIn_ca (goodIn_ca (goodIn_r _ [6, 7, 8, 9, 5, 10, 11, 12, 13, 14, 15, 16, 17, 18, 19, 20, 21, 22, 23, 24, 25, 26, 27, 28, 29, 30, 31, 32, 33, 34, 35, 36, 37, 38, 39, 40, 41, 42, 43, 44, 45, 46, 47, 48, 49, 50, 51, 52, 53, 54, 55, 56, 57, 58, 59, 60, 61, 62, 63, 64, 65] (by decide +kernel) (by decide +kernel)) (goodIn_sub (fun _ h => List.mem_cons_of_mem _ (List.mem_append_right _ h)) (by decide +kernel))) (goodIn_sub (fun _ h => List.mem_cons_of_mem _ (List.mem_append_left _ (List.mem_append_right _ h))) (by decide +kernel))
set_option maxRecDepth 20000 in
theorem gL_claimOf_X8_claimOf : GoodIn wsL_claimOf (wsV RL 124 RX8 yX8_claimOf wsX8_claimOf) := goodIn_app (goodIn_of _ (by decide +kernel)) ggL_claimOf_X8_claimOf
theorem dL_claimOf_0 : decode cL_claimOf 0 = .ok (.aload_n 2, 1) := by decide +kernel
theorem dL_claimOf_1 : decode cL_claimOf 1 = .ok (.iconst 0, 1) := by decide +kernel
theorem dL_claimOf_2 : decode cL_claimOf 2 = .ok (.aload_n 0, 1) := by decide +kernel
theorem dL_claimOf_3 : decode cL_claimOf 3 = .ok (.iload_n 1, 1) := by decide +kernel
theorem dL_claimOf_4 : decode cL_claimOf 4 = .ok (.invokevirtual 124, 3) := by decide +kernel
theorem dL_claimOf_7 : decode cL_claimOf 7 = .ok (.i2l, 1) := by decide +kernel
theorem dL_claimOf_8 : decode cL_claimOf 8 = .ok (.lastore, 1) := by decide +kernel
theorem dL_claimOf_9 : decode cL_claimOf 9 = .ok (.goto 6, 3) := by decide +kernel
theorem dL_claimOf_12 : decode cL_claimOf 12 = .ok (.astore_n 3, 1) := by decide +kernel
theorem dL_claimOf_13 : decode cL_claimOf 13 = .ok (.iconst 1, 1) := by decide +kernel
theorem dL_claimOf_14 : decode cL_claimOf 14 = .ok (.ireturn, 1) := by decide +kernel
theorem dL_claimOf_15 : decode cL_claimOf 15 = .ok (.iconst 0, 1) := by decide +kernel
theorem dL_claimOf_16 : decode cL_claimOf 16 = .ok (.ireturn, 1) := by decide +kernel
set_option maxRecDepth 20000 in
theorem ggL_claim_X8_claim : GoodIn wsL_claim wsX8_claim := goodIn_ca (goodIn_ca (goodIn_ca (goodIn_r _ [7, 8, 9, 10, 11, 12, 13, 14, 6, 15, 16, 17, 18, 19, 20, 21, 22, 23, 24, 25, 26, 27, 28, 29, 30, 31, 32, 33, 34, 35, 36, 37, 38, 39, 40, 41, 42, 43, 44, 45, 46, 47, 48, 49, 50, 51, 52, 53, 54, 55, 56, 57, 58, 59, 60, 61, 62, 63, 64, 65, 66, 67, 68] (by decide +kernel) (by decide +kernel)) (goodIn_sub (fun _ h => List.mem_cons_of_mem _ (List.mem_append_left _ (List.mem_append_right _ h))) (by decide +kernel))) (goodIn_sub (fun _ h => List.mem_cons_of_mem _ (List.mem_append_left _ (List.mem_append_left _ (List.mem_append_right _ h)))) (by decide +kernel))) (goodIn_sub (fun _ h => List.mem_cons_of_mem _ (List.mem_append_right _ h)) (by decide +kernel))
set_option maxRecDepth 20000 in
theorem gL_claim_X8_claim : GoodIn wsL_claim (wsV RL 127 RX8 yX8_claim wsX8_claim) := goodIn_app (goodIn_of _ (by decide +kernel)) ggL_claim_X8_claim
theorem dL_claim_0 : decode cL_claim 0 = .ok (.aload_n 2, 1) := by decide +kernel
theorem dL_claim_1 : decode cL_claim 1 = .ok (.iconst 0, 1) := by decide +kernel
theorem dL_claim_2 : decode cL_claim 2 = .ok (.aload_n 0, 1) := by decide +kernel
theorem dL_claim_3 : decode cL_claim 3 = .ok (.iload_n 1, 1) := by decide +kernel
theorem dL_claim_4 : decode cL_claim 4 = .ok (.invokevirtual 127, 3) := by decide +kernel
theorem dL_claim_7 : decode cL_claim 7 = .ok (.i2l, 1) := by decide +kernel
theorem dL_claim_8 : decode cL_claim 8 = .ok (.lastore, 1) := by decide +kernel
theorem dL_claim_9 : decode cL_claim 9 = .ok (.goto 9, 3) := by decide +kernel
theorem dL_claim_12 : decode cL_claim 12 = .ok (.astore_n 3, 1) := by decide +kernel
theorem dL_claim_13 : decode cL_claim 13 = .ok (.iconst 1, 1) := by decide +kernel
theorem dL_claim_14 : decode cL_claim 14 = .ok (.ireturn, 1) := by decide +kernel
theorem dL_claim_15 : decode cL_claim 15 = .ok (.astore_n 3, 1) := by decide +kernel
theorem dL_claim_16 : decode cL_claim 16 = .ok (.iconst 2, 1) := by decide +kernel
theorem dL_claim_17 : decode cL_claim 17 = .ok (.ireturn, 1) := by decide +kernel
theorem dL_claim_18 : decode cL_claim 18 = .ok (.iconst 0, 1) := by decide +kernel
theorem dL_claim_19 : decode cL_claim 19 = .ok (.ireturn, 1) := by decide +kernel
set_option maxRecDepth 20000 in
theorem ggL_paidTo_X8_paidTo : GoodIn wsL_paidTo wsX8_paidTo := goodIn_ca (goodIn_ca (goodIn_r _ [6, 7, 8, 9, 10, 11, 5, 12, 13, 14, 15, 16, 17, 18, 19, 20, 21, 22, 23, 24, 25, 26, 27, 28, 29, 30, 31, 32, 33] (by decide +kernel) (by decide +kernel)) (goodIn_sub (fun _ h => List.mem_cons_of_mem _ (List.mem_append_left _ (List.mem_append_right _ h))) (by decide +kernel))) (goodIn_sub (fun _ h => List.mem_cons_of_mem _ (List.mem_append_right _ h)) (by decide +kernel))
set_option maxRecDepth 20000 in
theorem gL_paidTo_X8_paidTo : GoodIn wsL_paidTo (wsV RL 130 RX8 yX8_paidTo wsX8_paidTo) := goodIn_app (goodIn_of _ (by decide +kernel)) ggL_paidTo_X8_paidTo
theorem dL_paidTo_0 : decode cL_paidTo 0 = .ok (.aload_n 2, 1) := by decide +kernel
