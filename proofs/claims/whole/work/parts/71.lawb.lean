theorem dL_paidTo_1 : decode cL_paidTo 1 = .ok (.iconst 0, 1) := by decide +kernel
theorem dL_paidTo_2 : decode cL_paidTo 2 = .ok (.aload_n 0, 1) := by decide +kernel
theorem dL_paidTo_3 : decode cL_paidTo 3 = .ok (.iload_n 1, 1) := by decide +kernel
theorem dL_paidTo_4 : decode cL_paidTo 4 = .ok (.invokevirtual 130, 3) := by decide +kernel
theorem dL_paidTo_7 : decode cL_paidTo 7 = .ok (.i2l, 1) := by decide +kernel
theorem dL_paidTo_8 : decode cL_paidTo 8 = .ok (.lastore, 1) := by decide +kernel
theorem dL_paidTo_9 : decode cL_paidTo 9 = .ok (.goto 6, 3) := by decide +kernel
theorem dL_paidTo_12 : decode cL_paidTo 12 = .ok (.astore_n 3, 1) := by decide +kernel
theorem dL_paidTo_13 : decode cL_paidTo 13 = .ok (.iconst 1, 1) := by decide +kernel
theorem dL_paidTo_14 : decode cL_paidTo 14 = .ok (.ireturn, 1) := by decide +kernel
theorem dL_paidTo_15 : decode cL_paidTo 15 = .ok (.iconst 0, 1) := by decide +kernel
theorem dL_paidTo_16 : decode cL_paidTo 16 = .ok (.ireturn, 1) := by decide +kernel
set_option maxRecDepth 20000 in
theorem ggL_worstHouse_X8_worstHouse : GoodIn wsL_worstHouse wsX8_worstHouse := goodIn_ca (goodIn_ca (goodIn_r _ [6, 7, 8, 9, 10, 11, 12, 13, 5, 14, 15, 16, 17, 18, 19, 20, 21, 22, 23, 24, 25, 26, 27, 28, 29, 30, 31, 32, 33, 34, 35, 36, 37, 38, 39, 40, 41, 42, 43, 44, 45, 46, 47, 48, 49, 50, 51, 52, 53, 54] (by decide +kernel) (by decide +kernel)) (goodIn_sub (fun _ h => List.mem_cons_of_mem _ (List.mem_append_right _ h)) (by decide +kernel))) (goodIn_sub (fun _ h => List.mem_cons_of_mem _ (List.mem_append_left _ (List.mem_append_right _ h))) (by decide +kernel))
set_option maxRecDepth 20000 in
theorem gL_worstHouse_X8_worstHouse : GoodIn wsL_worstHouse (wsV RL 133 RX8 yX8_worstHouse wsX8_worstHouse) := goodIn_app (goodIn_of _ (by decide +kernel)) ggL_worstHouse_X8_worstHouse
theorem dL_worstHouse_0 : decode cL_worstHouse 0 = .ok (.aload_n 1, 1) := by decide +kernel
theorem dL_worstHouse_1 : decode cL_worstHouse 1 = .ok (.iconst 0, 1) := by decide +kernel
theorem dL_worstHouse_2 : decode cL_worstHouse 2 = .ok (.aload_n 0, 1) := by decide +kernel
theorem dL_worstHouse_3 : decode cL_worstHouse 3 = .ok (.invokevirtual 133, 3) := by decide +kernel
theorem dL_worstHouse_6 : decode cL_worstHouse 6 = .ok (.i2l, 1) := by decide +kernel
theorem dL_worstHouse_7 : decode cL_worstHouse 7 = .ok (.lastore, 1) := by decide +kernel
theorem dL_worstHouse_8 : decode cL_worstHouse 8 = .ok (.goto 6, 3) := by decide +kernel
theorem dL_worstHouse_11 : decode cL_worstHouse 11 = .ok (.astore_n 2, 1) := by decide +kernel
theorem dL_worstHouse_12 : decode cL_worstHouse 12 = .ok (.iconst 1, 1) := by decide +kernel
theorem dL_worstHouse_13 : decode cL_worstHouse 13 = .ok (.ireturn, 1) := by decide +kernel
theorem dL_worstHouse_14 : decode cL_worstHouse 14 = .ok (.iconst 0, 1) := by decide +kernel
theorem dL_worstHouse_15 : decode cL_worstHouse 15 = .ok (.ireturn, 1) := by decide +kernel
set_option maxRecDepth 20000 in
theorem ggL_meanSinking_X8_meanSinking : GoodIn wsL_meanSinking wsX8_meanSinking := goodIn_ca (goodIn_ca (goodIn_r _ [6, 7, 8, 9, 10, 11, 12, 13, 14, 15, 16, 17, 18, 19, 20, 21, 22, 23, 24, 25, 26, 27, 28, 29, 30, 31, 32, 33, 34, 35, 36, 37, 38, 39, 40, 41, 42, 43, 44] (by decide +kernel) (by decide +kernel)) (goodIn_sub (fun _ h => List.mem_cons_of_mem _ (List.mem_append_right _ h)) (by decide +kernel))) (goodIn_sub (fun _ h => List.mem_cons_of_mem _ (List.mem_append_left _ (List.mem_append_right _ h))) (by decide +kernel))
set_option maxRecDepth 20000 in
theorem gL_meanSinking_X8_meanSinking : GoodIn wsL_meanSinking (wsV RL 136 RX8 yX8_meanSinking wsX8_meanSinking) := goodIn_app (goodIn_of _ (by decide +kernel)) ggL_meanSinking_X8_meanSinking
theorem dL_meanSinking_0 : decode cL_meanSinking 0 = .ok (.aload_n 1, 1) := by decide +kernel
theorem dL_meanSinking_1 : decode cL_meanSinking 1 = .ok (.iconst 0, 1) := by decide +kernel
theorem dL_meanSinking_2 : decode cL_meanSinking 2 = .ok (.aload_n 0, 1) := by decide +kernel
theorem dL_meanSinking_3 : decode cL_meanSinking 3 = .ok (.invokevirtual 136, 3) := by decide +kernel
theorem dL_meanSinking_6 : decode cL_meanSinking 6 = .ok (.dastore, 1) := by decide +kernel
theorem dL_meanSinking_7 : decode cL_meanSinking 7 = .ok (.goto 6, 3) := by decide +kernel
theorem dL_meanSinking_10 : decode cL_meanSinking 10 = .ok (.astore_n 2, 1) := by decide +kernel
theorem dL_meanSinking_11 : decode cL_meanSinking 11 = .ok (.iconst 1, 1) := by decide +kernel
theorem dL_meanSinking_12 : decode cL_meanSinking 12 = .ok (.ireturn, 1) := by decide +kernel
theorem dL_meanSinking_13 : decode cL_meanSinking 13 = .ok (.iconst 0, 1) := by decide +kernel
theorem dL_meanSinking_14 : decode cL_meanSinking 14 = .ok (.ireturn, 1) := by decide +kernel
set_option maxRecDepth 20000 in
theorem ggL_writeRings_X8_writeRings : GoodIn wsL_writeRings wsX8_writeRings := goodIn_ca (goodIn_ca (goodIn_r _ [6, 7, 8, 9, 10, 11, 12, 13, 14, 15, 16, 17, 18, 19, 5, 20, 21, 22, 23, 24, 25, 26, 27, 28, 29, 30, 31, 32, 33, 34, 35, 36, 37, 38, 39, 40, 41, 42, 43, 44, 45, 46, 47, 48, 49, 50, 51, 52, 53, 54, 55, 56, 57, 58] (by decide +kernel) (by decide +kernel)) (goodIn_sub (fun _ h => List.mem_cons_of_mem _ (List.mem_append_left _ (List.mem_append_right _ h))) (by decide +kernel))) (goodIn_sub (fun _ h => List.mem_cons_of_mem _ (List.mem_append_right _ h)) (by decide +kernel))
set_option maxRecDepth 20000 in
theorem gL_writeRings_X8_writeRings : GoodIn wsL_writeRings (wsV RL 140 RX8 yX8_writeRings wsX8_writeRings) := goodIn_app (goodIn_of _ (by decide +kernel)) ggL_writeRings_X8_writeRings
theorem dL_writeRings_0 : decode cL_writeRings 0 = .ok (.aload_n 2, 1) := by decide +kernel
theorem dL_writeRings_1 : decode cL_writeRings 1 = .ok (.iconst 0, 1) := by decide +kernel
theorem dL_writeRings_2 : decode cL_writeRings 2 = .ok (.aload_n 0, 1) := by decide +kernel
theorem dL_writeRings_3 : decode cL_writeRings 3 = .ok (.iload_n 1, 1) := by decide +kernel
theorem dL_writeRings_4 : decode cL_writeRings 4 = .ok (.invokevirtual 140, 3) := by decide +kernel
theorem dL_writeRings_7 : decode cL_writeRings 7 = .ok (.i2l, 1) := by decide +kernel
theorem dL_writeRings_8 : decode cL_writeRings 8 = .ok (.lastore, 1) := by decide +kernel
theorem dL_writeRings_9 : decode cL_writeRings 9 = .ok (.goto 6, 3) := by decide +kernel
theorem dL_writeRings_12 : decode cL_writeRings 12 = .ok (.astore_n 3, 1) := by decide +kernel
theorem dL_writeRings_13 : decode cL_writeRings 13 = .ok (.iconst 1, 1) := by decide +kernel
theorem dL_writeRings_14 : decode cL_writeRings 14 = .ok (.ireturn, 1) := by decide +kernel
theorem dL_writeRings_15 : decode cL_writeRings 15 = .ok (.iconst 0, 1) := by decide +kernel
theorem dL_writeRings_16 : decode cL_writeRings 16 = .ok (.ireturn, 1) := by decide +kernel
set_option maxRecDepth 20000 in
theorem ggL_lineAt_X8_lineAt : GoodIn wsL_lineAt wsX8_lineAt := goodIn_ca (goodIn_ca (goodIn_r _ [6, 7, 8, 9, 10, 11, 12, 13, 14, 15, 16, 17, 18, 19, 20, 21, 22, 23, 24, 25] (by decide +kernel) (by decide +kernel)) (goodIn_sub (fun _ h => List.mem_cons_of_mem _ (List.mem_append_right _ h)) (by decide +kernel))) (goodIn_sub (fun _ h => List.mem_cons_of_mem _ (List.mem_append_left _ (List.mem_append_right _ h))) (by decide +kernel))
set_option maxRecDepth 20000 in
theorem gL_lineAt_X8_lineAt : GoodIn wsL_lineAt (wsV RL 143 RX8 yX8_lineAt wsX8_lineAt) := goodIn_app (goodIn_of _ (by decide +kernel)) ggL_lineAt_X8_lineAt
theorem dL_lineAt_0 : decode cL_lineAt 0 = .ok (.aload_n 2, 1) := by decide +kernel
theorem dL_lineAt_1 : decode cL_lineAt 1 = .ok (.iconst 0, 1) := by decide +kernel
theorem dL_lineAt_2 : decode cL_lineAt 2 = .ok (.aload_n 0, 1) := by decide +kernel
theorem dL_lineAt_3 : decode cL_lineAt 3 = .ok (.iload_n 1, 1) := by decide +kernel
theorem dL_lineAt_4 : decode cL_lineAt 4 = .ok (.invokevirtual 143, 3) := by decide +kernel
theorem dL_lineAt_7 : decode cL_lineAt 7 = .ok (.i2l, 1) := by decide +kernel
theorem dL_lineAt_8 : decode cL_lineAt 8 = .ok (.lastore, 1) := by decide +kernel
theorem dL_lineAt_9 : decode cL_lineAt 9 = .ok (.goto 6, 3) := by decide +kernel
theorem dL_lineAt_12 : decode cL_lineAt 12 = .ok (.astore_n 3, 1) := by decide +kernel
theorem dL_lineAt_13 : decode cL_lineAt 13 = .ok (.iconst 1, 1) := by decide +kernel
theorem dL_lineAt_14 : decode cL_lineAt 14 = .ok (.ireturn, 1) := by decide +kernel
theorem dL_lineAt_15 : decode cL_lineAt 15 = .ok (.iconst 0, 1) := by decide +kernel
theorem dL_lineAt_16 : decode cL_lineAt 16 = .ok (.ireturn, 1) := by decide +kernel
