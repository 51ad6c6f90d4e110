theorem dL_offset_61 : decode cL_offset 61 = .ok (.iinc 4 1, 3) := by decide +kernel
theorem dL_offset_64 : decode cL_offset 64 = .ok (.goto (-59), 3) := by decide +kernel
theorem dL_offset_67 : decode cL_offset 67 = .ok (.iload_n 3, 1) := by decide +kernel
theorem dL_offset_68 : decode cL_offset 68 = .ok (.ireturn, 1) := by decide +kernel
set_option maxRecDepth 20000 in
theorem ggL_deviation_L_offset : GoodIn wsL_deviation wsL_offset := goodIn_ca (goodIn_r _ [5, 6, 7, 4, 8, 1, 9, 10, 11] (by decide +kernel) (by decide +kernel)) (goodIn_sub (fun _ h => List.mem_cons_of_mem _ (List.mem_append_right _ h)) (by decide +kernel))
set_option maxRecDepth 20000 in
theorem gL_deviation_L_offset : GoodIn wsL_deviation (va_wsS RL 141 yL_offset wsL_offset) := goodIn_app (goodIn_of _ (by decide +kernel)) ggL_deviation_L_offset
set_option maxRecDepth 20000 in
theorem ggL_deviation_L_apart : GoodIn wsL_deviation wsL_apart := goodIn_ca (goodIn_r _ [14, 15, 16, 4, 17] (by decide +kernel) (by decide +kernel)) (goodIn_sub (fun _ h => List.mem_cons_of_mem _ (List.mem_append_right _ h)) (by decide +kernel))
set_option maxRecDepth 20000 in
theorem gL_deviation_L_apart : GoodIn wsL_deviation (va_wsS RL 145 yL_apart wsL_apart) := goodIn_app (goodIn_of _ (by decide +kernel)) ggL_deviation_L_apart
theorem dL_deviation_0 : decode cL_deviation 0 = .ok (.sipush 1960, 3) := by decide +kernel
theorem dL_deviation_3 : decode cL_deviation 3 = .ok (.newarray .int, 2) := by decide +kernel
theorem dL_deviation_5 : decode cL_deviation 5 = .ok (.astore_n 3, 1) := by decide +kernel
theorem dL_deviation_6 : decode cL_deviation 6 = .ok (.iconst 0, 1) := by decide +kernel
theorem dL_deviation_7 : decode cL_deviation 7 = .ok (.istore 4, 2) := by decide +kernel
theorem dL_deviation_9 : decode cL_deviation 9 = .ok (.iload 4, 2) := by decide +kernel
theorem dL_deviation_11 : decode cL_deviation 11 = .ok (.aload_n 0, 1) := by decide +kernel
theorem dL_deviation_12 : decode cL_deviation 12 = .ok (.arraylength, 1) := by decide +kernel
theorem dL_deviation_13 : decode cL_deviation 13 = .ok (.if_icmp .ge 17, 3) := by decide +kernel
theorem dL_deviation_16 : decode cL_deviation 16 = .ok (.aload_n 3, 1) := by decide +kernel
theorem dL_deviation_17 : decode cL_deviation 17 = .ok (.iload 4, 2) := by decide +kernel
theorem dL_deviation_19 : decode cL_deviation 19 = .ok (.aload_n 0, 1) := by decide +kernel
theorem dL_deviation_20 : decode cL_deviation 20 = .ok (.iload 4, 2) := by decide +kernel
theorem dL_deviation_22 : decode cL_deviation 22 = .ok (.iaload, 1) := by decide +kernel
theorem dL_deviation_23 : decode cL_deviation 23 = .ok (.iastore, 1) := by decide +kernel
theorem dL_deviation_24 : decode cL_deviation 24 = .ok (.iinc 4 1, 3) := by decide +kernel
theorem dL_deviation_27 : decode cL_deviation 27 = .ok (.goto (-18), 3) := by decide +kernel
theorem dL_deviation_30 : decode cL_deviation 30 = .ok (.aload_n 0, 1) := by decide +kernel
theorem dL_deviation_31 : decode cL_deviation 31 = .ok (.iconst 2, 1) := by decide +kernel
theorem dL_deviation_32 : decode cL_deviation 32 = .ok (.iaload, 1) := by decide +kernel
theorem dL_deviation_33 : decode cL_deviation 33 = .ok (.istore 4, 2) := by decide +kernel
theorem dL_deviation_35 : decode cL_deviation 35 = .ok (.aload_n 3, 1) := by decide +kernel
theorem dL_deviation_36 : decode cL_deviation 36 = .ok (.sipush 1020, 3) := by decide +kernel
theorem dL_deviation_39 : decode cL_deviation 39 = .ok (.iload 4, 2) := by decide +kernel
theorem dL_deviation_41 : decode cL_deviation 41 = .ok (.iadd, 1) := by decide +kernel
theorem dL_deviation_42 : decode cL_deviation 42 = .ok (.iload_n 2, 1) := by decide +kernel
theorem dL_deviation_43 : decode cL_deviation 43 = .ok (.iastore, 1) := by decide +kernel
theorem dL_deviation_44 : decode cL_deviation 44 = .ok (.aload_n 3, 1) := by decide +kernel
theorem dL_deviation_45 : decode cL_deviation 45 = .ok (.sipush 1220, 3) := by decide +kernel
theorem dL_deviation_48 : decode cL_deviation 48 = .ok (.iload 4, 2) := by decide +kernel
theorem dL_deviation_50 : decode cL_deviation 50 = .ok (.iadd, 1) := by decide +kernel
theorem dL_deviation_51 : decode cL_deviation 51 = .ok (.iload_n 1, 1) := by decide +kernel
theorem dL_deviation_52 : decode cL_deviation 52 = .ok (.iastore, 1) := by decide +kernel
theorem dL_deviation_53 : decode cL_deviation 53 = .ok (.aload_n 0, 1) := by decide +kernel
theorem dL_deviation_54 : decode cL_deviation 54 = .ok (.iload 4, 2) := by decide +kernel
theorem dL_deviation_56 : decode cL_deviation 56 = .ok (.aload_n 3, 1) := by decide +kernel
theorem dL_deviation_57 : decode cL_deviation 57 = .ok (.iload 4, 2) := by decide +kernel
theorem dL_deviation_59 : decode cL_deviation 59 = .ok (.iconst 1, 1) := by decide +kernel
theorem dL_deviation_60 : decode cL_deviation 60 = .ok (.iadd, 1) := by decide +kernel
theorem dL_deviation_61 : decode cL_deviation 61 = .ok (.iconst 1, 1) := by decide +kernel
theorem dL_deviation_62 : decode cL_deviation 62 = .ok (.invokestatic 141, 3) := by decide +kernel
theorem dL_deviation_65 : decode cL_deviation 65 = .ok (.aload_n 3, 1) := by decide +kernel
theorem dL_deviation_66 : decode cL_deviation 66 = .ok (.iload 4, 2) := by decide +kernel
theorem dL_deviation_68 : decode cL_deviation 68 = .ok (.iconst 1, 1) := by decide +kernel
theorem dL_deviation_69 : decode cL_deviation 69 = .ok (.iadd, 1) := by decide +kernel
theorem dL_deviation_70 : decode cL_deviation 70 = .ok (.iconst 0, 1) := by decide +kernel
theorem dL_deviation_71 : decode cL_deviation 71 = .ok (.invokestatic 141, 3) := by decide +kernel
theorem dL_deviation_74 : decode cL_deviation 74 = .ok (.invokestatic 145, 3) := by decide +kernel
theorem dL_deviation_77 : decode cL_deviation 77 = .ok (.ireturn, 1) := by decide +kernel
theorem dL_takes_0 : decode cL_takes 0 = .ok (.aload_n 0, 1) := by decide +kernel
theorem dL_takes_1 : decode cL_takes 1 = .ok (.iconst 5, 1) := by decide +kernel
theorem dL_takes_2 : decode cL_takes 2 = .ok (.iaload, 1) := by decide +kernel
theorem dL_takes_3 : decode cL_takes 3 = .ok (.aload_n 0, 1) := by decide +kernel
theorem dL_takes_4 : decode cL_takes 4 = .ok (.bipush 20, 2) := by decide +kernel
theorem dL_takes_6 : decode cL_takes 6 = .ok (.aload_n 0, 1) := by decide +kernel
theorem dL_takes_7 : decode cL_takes 7 = .ok (.iconst 2, 1) := by decide +kernel
theorem dL_takes_8 : decode cL_takes 8 = .ok (.iaload, 1) := by decide +kernel
theorem dL_takes_9 : decode cL_takes 9 = .ok (.iadd, 1) := by decide +kernel
theorem dL_takes_10 : decode cL_takes 10 = .ok (.iaload, 1) := by decide +kernel
theorem dL_takes_11 : decode cL_takes 11 = .ok (.isub, 1) := by decide +kernel
theorem dL_takes_12 : decode cL_takes 12 = .ok (.bipush 20, 2) := by decide +kernel
theorem dL_takes_14 : decode cL_takes 14 = .ok (.isub, 1) := by decide +kernel
theorem dL_takes_15 : decode cL_takes 15 = .ok (.istore_n 1, 1) := by decide +kernel
theorem dL_takes_16 : decode cL_takes 16 = .ok (.bipush 10, 2) := by decide +kernel
theorem dL_takes_18 : decode cL_takes 18 = .ok (.aload_n 0, 1) := by decide +kernel
theorem dL_takes_19 : decode cL_takes 19 = .ok (.sipush 220, 3) := by decide +kernel
theorem dL_takes_22 : decode cL_takes 22 = .ok (.aload_n 0, 1) := by decide +kernel
theorem dL_takes_23 : decode cL_takes 23 = .ok (.iconst 2, 1) := by decide +kernel
theorem dL_takes_24 : decode cL_takes 24 = .ok (.iaload, 1) := by decide +kernel
theorem dL_takes_25 : decode cL_takes 25 = .ok (.iadd, 1) := by decide +kernel
theorem dL_takes_26 : decode cL_takes 26 = .ok (.iaload, 1) := by decide +kernel
theorem dL_takes_27 : decode cL_takes 27 = .ok (.iadd, 1) := by decide +kernel
theorem dL_takes_28 : decode cL_takes 28 = .ok (.iload_n 1, 1) := by decide +kernel
theorem dL_takes_29 : decode cL_takes 29 = .ok (.ifCond .le 7, 3) := by decide +kernel
theorem dL_takes_32 : decode cL_takes 32 = .ok (.iload_n 1, 1) := by decide +kernel
theorem dL_takes_33 : decode cL_takes 33 = .ok (.goto 4, 3) := by decide +kernel
theorem dL_takes_36 : decode cL_takes 36 = .ok (.iconst 0, 1) := by decide +kernel
theorem dL_takes_37 : decode cL_takes 37 = .ok (.iadd, 1) := by decide +kernel
theorem dL_takes_38 : decode cL_takes 38 = .ok (.ireturn, 1) := by decide +kernel
set_option maxRecDepth 20000 in
theorem ggL_reason_L_topOf : GoodIn wsL_reason wsL_topOf := goodIn_ca (goodIn_r _ [4] (by decide +kernel) (by decide +kernel)) (goodIn_sub (fun _ h => List.mem_cons_of_mem _ (List.mem_append_right _ h)) (by decide +kernel))
set_option maxRecDepth 20000 in
theorem gL_reason_L_topOf : GoodIn wsL_reason (va_wsS RL 126 yL_topOf wsL_topOf) := goodIn_app (goodIn_of _ (by decide +kernel)) ggL_reason_L_topOf
set_option maxRecDepth 20000 in
theorem ggL_reason_L_fits : GoodIn wsL_reason wsL_fits := goodIn_ca (goodIn_r _ [7] (by decide +kernel) (by decide +kernel)) (goodIn_sub (fun _ h => List.mem_cons_of_mem _ (List.mem_append_right _ h)) (by decide +kernel))
set_option maxRecDepth 20000 in
theorem gL_reason_L_fits : GoodIn wsL_reason (va_wsS RL 149 yL_fits wsL_fits) := goodIn_app (goodIn_of _ (by decide +kernel)) ggL_reason_L_fits
set_option maxRecDepth 20000 in
theorem ggL_reason_L_takes : GoodIn wsL_reason wsL_takes := goodIn_ca (goodIn_r _ [10] (by decide +kernel) (by decide +kernel)) (goodIn_sub (fun _ h => List.mem_cons_of_mem _ (List.mem_append_right _ h)) (by decide +kernel))
set_option maxRecDepth 20000 in
theorem gL_reason_L_takes : GoodIn wsL_reason (va_wsS RL 153 yL_takes wsL_takes) := goodIn_app (goodIn_of _ (by decide +kernel)) ggL_reason_L_takes
set_option maxRecDepth 20000 in
theorem ggL_reason_L_deviation : GoodIn wsL_reason wsL_deviation := goodIn_ca (goodIn_r _ [13, 14, 15, 16, 3, 17, 18, 19, 20, 21, 22, 23, 24, 25, 26, 27, 28, 29] (by decide +kernel) (by decide +kernel)) (goodIn_sub (fun _ h => List.mem_cons_of_mem _ (List.mem_append_right _ h)) (by decide +kernel))
set_option maxRecDepth 20000 in
theorem gL_reason_L_deviation : GoodIn wsL_reason (va_wsS RL 157 yL_deviation wsL_deviation) := goodIn_app (goodIn_of _ (by decide +kernel)) ggL_reason_L_deviation
theorem dL_reason_0 : decode cL_reason 0 = .ok (.aload_n 0, 1) := by decide +kernel
theorem dL_reason_1 : decode cL_reason 1 = .ok (.iconst 2, 1) := by decide +kernel
theorem dL_reason_2 : decode cL_reason 2 = .ok (.iaload, 1) := by decide +kernel
theorem dL_reason_3 : decode cL_reason 3 = .ok (.aload_n 0, 1) := by decide +kernel
theorem dL_reason_4 : decode cL_reason 4 = .ok (.iconst 0, 1) := by decide +kernel
theorem dL_reason_5 : decode cL_reason 5 = .ok (.iaload, 1) := by decide +kernel
theorem dL_reason_6 : decode cL_reason 6 = .ok (.if_icmp .ne 6, 3) := by decide +kernel
theorem dL_reason_9 : decode cL_reason 9 = .ok (.bipush 103, 2) := by decide +kernel
theorem dL_reason_11 : decode cL_reason 11 = .ok (.ireturn, 1) := by decide +kernel
theorem dL_reason_12 : decode cL_reason 12 = .ok (.aload_n 0, 1) := by decide +kernel
theorem dL_reason_13 : decode cL_reason 13 = .ok (.bipush 10, 2) := by decide +kernel
theorem dL_reason_15 : decode cL_reason 15 = .ok (.iload_n 1, 1) := by decide +kernel
theorem dL_reason_16 : decode cL_reason 16 = .ok (.iadd, 1) := by decide +kernel
theorem dL_reason_17 : decode cL_reason 17 = .ok (.iaload, 1) := by decide +kernel
theorem dL_reason_18 : decode cL_reason 18 = .ok (.ifCond .ne 6, 3) := by decide +kernel
theorem dL_reason_21 : decode cL_reason 21 = .ok (.bipush 101, 2) := by decide +kernel
theorem dL_reason_23 : decode cL_reason 23 = .ok (.ireturn, 1) := by decide +kernel
theorem dL_reason_24 : decode cL_reason 24 = .ok (.aload_n 0, 1) := by decide +kernel
theorem dL_reason_25 : decode cL_reason 25 = .ok (.iconst 4, 1) := by decide +kernel
theorem dL_reason_26 : decode cL_reason 26 = .ok (.iaload, 1) := by decide +kernel
theorem dL_reason_27 : decode cL_reason 27 = .ok (.aload_n 0, 1) := by decide +kernel
theorem dL_reason_28 : decode cL_reason 28 = .ok (.aload_n 0, 1) := by decide +kernel
theorem dL_reason_29 : decode cL_reason 29 = .ok (.iload_n 1, 1) := by decide +kernel
theorem dL_reason_30 : decode cL_reason 30 = .ok (.invokestatic 126, 3) := by decide +kernel
theorem dL_reason_33 : decode cL_reason 33 = .ok (.iconst 1, 1) := by decide +kernel
theorem dL_reason_34 : decode cL_reason 34 = .ok (.iadd, 1) := by decide +kernel
theorem dL_reason_35 : decode cL_reason 35 = .ok (.iaload, 1) := by decide +kernel
theorem dL_reason_36 : decode cL_reason 36 = .ok (.isub, 1) := by decide +kernel
theorem dL_reason_37 : decode cL_reason 37 = .ok (.bipush 24, 2) := by decide +kernel
theorem dL_reason_39 : decode cL_reason 39 = .ok (.if_icmp .ge 6, 3) := by decide +kernel
theorem dL_reason_42 : decode cL_reason 42 = .ok (.bipush 99, 2) := by decide +kernel
theorem dL_reason_44 : decode cL_reason 44 = .ok (.ireturn, 1) := by decide +kernel
theorem dL_reason_45 : decode cL_reason 45 = .ok (.aload_n 0, 1) := by decide +kernel
theorem dL_reason_46 : decode cL_reason 46 = .ok (.aload_n 0, 1) := by decide +kernel
theorem dL_reason_47 : decode cL_reason 47 = .ok (.iconst 2, 1) := by decide +kernel
theorem dL_reason_48 : decode cL_reason 48 = .ok (.iaload, 1) := by decide +kernel
theorem dL_reason_49 : decode cL_reason 49 = .ok (.iload_n 2, 1) := by decide +kernel
theorem dL_reason_50 : decode cL_reason 50 = .ok (.invokestatic 149, 3) := by decide +kernel
theorem dL_reason_53 : decode cL_reason 53 = .ok (.ifCond .ne 6, 3) := by decide +kernel
theorem dL_reason_56 : decode cL_reason 56 = .ok (.bipush 106, 2) := by decide +kernel
theorem dL_reason_58 : decode cL_reason 58 = .ok (.ireturn, 1) := by decide +kernel
theorem dL_reason_59 : decode cL_reason 59 = .ok (.aload_n 0, 1) := by decide +kernel
theorem dL_reason_60 : decode cL_reason 60 = .ok (.bipush 6, 2) := by decide +kernel
theorem dL_reason_62 : decode cL_reason 62 = .ok (.iaload, 1) := by decide +kernel
theorem dL_reason_63 : decode cL_reason 63 = .ok (.aload_n 0, 1) := by decide +kernel
theorem dL_reason_64 : decode cL_reason 64 = .ok (.invokestatic 153, 3) := by decide +kernel
theorem dL_reason_67 : decode cL_reason 67 = .ok (.if_icmp .ge 8, 3) := by decide +kernel
theorem dL_reason_70 : decode cL_reason 70 = .ok (.bipush 115, 2) := by decide +kernel
theorem dL_reason_72 : decode cL_reason 72 = .ok (.goto 29, 3) := by decide +kernel
theorem dL_reason_75 : decode cL_reason 75 = .ok (.aload_n 0, 1) := by decide +kernel
theorem dL_reason_76 : decode cL_reason 76 = .ok (.aload_n 0, 1) := by decide +kernel
theorem dL_reason_77 : decode cL_reason 77 = .ok (.aload_n 0, 1) := by decide +kernel
theorem dL_reason_78 : decode cL_reason 78 = .ok (.iload_n 1, 1) := by decide +kernel
theorem dL_reason_79 : decode cL_reason 79 = .ok (.invokestatic 126, 3) := by decide +kernel
theorem dL_reason_82 : decode cL_reason 82 = .ok (.iaload, 1) := by decide +kernel
theorem dL_reason_83 : decode cL_reason 83 = .ok (.iload_n 2, 1) := by decide +kernel
theorem dL_reason_84 : decode cL_reason 84 = .ok (.invokestatic 157, 3) := by decide +kernel
theorem dL_reason_87 : decode cL_reason 87 = .ok (.aload_n 0, 1) := by decide +kernel
theorem dL_reason_88 : decode cL_reason 88 = .ok (.bipush 7, 2) := by decide +kernel
theorem dL_reason_90 : decode cL_reason 90 = .ok (.iaload, 1) := by decide +kernel
theorem dL_reason_91 : decode cL_reason 91 = .ok (.if_icmp .le 8, 3) := by decide +kernel
theorem dL_reason_94 : decode cL_reason 94 = .ok (.bipush 116, 2) := by decide +kernel
theorem dL_reason_96 : decode cL_reason 96 = .ok (.goto 5, 3) := by decide +kernel
theorem dL_reason_99 : decode cL_reason 99 = .ok (.bipush 45, 2) := by decide +kernel
theorem dL_reason_101 : decode cL_reason 101 = .ok (.ireturn, 1) := by decide +kernel
set_option maxRecDepth 20000 in
theorem ggL_isLaid_L_reason : GoodIn wsL_isLaid wsL_reason := goodIn_ca (goodIn_r _ [6, 7, 8, 5, 9, 10, 11, 12, 13, 14, 15, 16, 17, 18, 19, 20, 21, 22, 23, 24, 25, 26, 27, 28, 29, 30, 31, 32, 33, 34] (by decide +kernel) (by decide +kernel)) (goodIn_sub (fun _ h => List.mem_cons_of_mem _ (List.mem_append_left _ (List.mem_append_left _ (List.mem_append_left _ (List.mem_append_left _ (List.mem_append_right _ h)))))) (by decide +kernel))
set_option maxRecDepth 20000 in
theorem gL_isLaid_L_reason : GoodIn wsL_isLaid (va_wsS RL 160 yL_reason wsL_reason) := goodIn_app (goodIn_of _ (by decide +kernel)) ggL_isLaid_L_reason
set_option maxRecDepth 20000 in
theorem ggL_isLaid_L_reasonFor : GoodIn wsL_isLaid wsL_reasonFor := goodIn_ca (goodIn_ca (goodIn_ca (goodIn_r _ [37, 38, 39, 40, 41, 42, 43, 44, 45, 46, 47, 48, 49, 50, 51, 52, 53, 54, 55, 56, 57, 58, 59, 60, 61, 62, 63, 64, 65, 66, 67, 68, 69, 70, 71, 72, 73, 74, 75, 76, 77, 78, 79, 80, 81, 82, 83, 84, 85, 86, 87, 88, 89, 90, 91, 92, 93, 94, 95, 96, 97, 98, 99, 100, 101, 102, 103, 104, 105, 106, 107, 108, 109, 110, 111, 112, 113, 114, 115, 116, 117, 118, 119, 120, 121, 122, 123, 124, 125, 126, 127, 128, 129, 130, 131, 132, 133, 134, 135, 136, 137, 138, 139, 140, 141, 142, 143, 144, 145, 146, 147, 148, 149, 150, 151, 152, 153, 154, 155, 156, 157, 158, 159, 160, 161, 162, 163, 164, 165, 166, 167, 168, 169, 170, 171, 172, 173, 174, 175, 176, 177, 178, 179, 180, 181, 182, 183, 184, 185, 186, 187, 188, 189, 190, 191, 192, 193, 194, 195, 196, 197, 198, 199, 200, 201, 202, 203, 204, 205, 206, 207, 261, 262, 263, 264, 265, 266, 267, 268, 269, 270, 271, 272, 273, 274, 275, 276, 277, 278, 279, 280, 281, 282, 283, 284, 285, 286, 287, 288, 289, 290, 291, 292, 293, 294, 295, 296, 297, 298] (by decide +kernel) (by decide +kernel)) (goodIn_sub (fun _ h => List.mem_cons_of_mem _ (List.mem_append_left _ (List.mem_append_left _ (List.mem_append_left _ (List.mem_append_right _ h))))) (by decide +kernel))) (goodIn_sub (fun _ h => List.mem_cons_of_mem _ (List.mem_append_left _ (List.mem_append_left _ (List.mem_append_right _ h)))) (by decide +kernel))) (goodIn_sub (fun _ h => List.mem_cons_of_mem _ (List.mem_append_left _ (List.mem_append_left _ (List.mem_append_left _ (List.mem_append_left _ (List.mem_append_right _ h)))))) (by decide +kernel))
set_option maxRecDepth 20000 in
theorem gL_isLaid_L_reasonFor : GoodIn wsL_isLaid (va_wsS RL 164 yL_reasonFor wsL_reasonFor) := goodIn_app (goodIn_of _ (by decide +kernel)) ggL_isLaid_L_reasonFor
set_option maxRecDepth 20000 in
theorem ggL_isLaid_L_lay : GoodIn wsL_isLaid wsL_lay := goodIn_ca (goodIn_ca (goodIn_ca (goodIn_ca (goodIn_ca (goodIn_r _ [210, 38, 39, 211, 212, 40, 41, 1, 2, 213, 214, 215, 45, 216, 217, 218, 219, 220, 67, 62, 63, 68, 65, 47, 48, 49, 50, 51, 52, 53, 54, 55, 56, 57, 58, 59, 60, 61, 64, 66, 69, 70, 71, 72, 73, 74, 75, 76, 77, 78, 79, 80, 81, 82, 83, 84, 85, 86, 87, 88, 89, 90, 91, 92, 93, 94, 95, 96, 97, 98, 99, 100, 101, 102, 103, 104, 105, 106, 107, 108, 109, 110, 111, 112, 113, 114, 115, 116, 117, 118, 119, 120, 121, 122, 123, 124, 125, 126, 127, 128, 129, 130, 131, 132, 133, 134, 135, 136, 137, 138, 139, 140, 141, 142, 143, 144, 145, 146, 147, 148, 149, 150, 151, 152, 153, 154, 155, 156, 157, 158, 159, 160, 161, 162, 163, 164, 165, 166, 167, 168, 169, 170, 171, 172, 173, 174, 175, 176, 177, 178, 179, 180, 181, 182, 183, 184, 185, 186, 187, 188, 189, 190, 191, 192, 193, 194, 195, 196, 197, 198, 199, 200, 201, 202, 203, 204, 205, 206, 207, 221, 222, 223, 224, 225, 226, 227, 228, 229, 230, 231, 232, 233, 234, 235, 236, 237, 238, 239, 240, 241, 242, 243, 244, 245, 246, 247, 248, 249, 250, 251, 252, 253, 254, 255, 256, 257, 258, 259, 260, 261, 262, 263, 264, 265, 266, 267, 268, 269, 270, 271, 272, 273, 274, 275, 276, 277, 278, 279, 280, 281, 282, 283, 284, 285, 286, 287, 288, 289, 290, 291, 292, 293, 294, 295, 296, 297, 298] (by decide +kernel) (by decide +kernel)) (goodIn_sub (fun _ h => List.mem_cons_of_mem _ (List.mem_append_left _ (List.mem_append_right _ h))) (by decide +kernel))) (goodIn_sub (fun _ h => List.mem_cons_of_mem _ (List.mem_append_right _ h)) (by decide +kernel))) (goodIn_sub (fun _ h => List.mem_cons_of_mem _ (List.mem_append_left _ (List.mem_append_left _ (List.mem_append_left _ (List.mem_append_right _ h))))) (by decide +kernel))) (goodIn_sub (fun _ h => List.mem_cons_of_mem _ (List.mem_append_left _ (List.mem_append_left _ (List.mem_append_right _ h)))) (by decide +kernel))) (goodIn_sub (fun _ h => List.mem_cons_of_mem _ (List.mem_append_left _ (List.mem_append_left _ (List.mem_append_left _ (List.mem_append_left _ (List.mem_append_right _ h)))))) (by decide +kernel))
set_option maxRecDepth 20000 in
theorem gL_isLaid_L_lay : GoodIn wsL_isLaid (va_wsS RL 166 yL_lay wsL_lay) := goodIn_app (goodIn_of _ (by decide +kernel)) ggL_isLaid_L_lay
set_option maxRecDepth 20000 in
theorem ggL_isLaid_L_takes : GoodIn wsL_isLaid wsL_takes := goodIn_ca (goodIn_r _ [15] (by decide +kernel) (by decide +kernel)) (goodIn_sub (fun _ h => List.mem_cons_of_mem _ (List.mem_append_left _ (List.mem_append_left _ (List.mem_append_left _ (List.mem_append_left _ (List.mem_append_right _ h)))))) (by decide +kernel))
set_option maxRecDepth 20000 in
theorem gL_isLaid_L_takes : GoodIn wsL_isLaid (va_wsS RL 153 yL_takes wsL_takes) := goodIn_app (goodIn_of _ (by decide +kernel)) ggL_isLaid_L_takes
set_option maxRecDepth 20000 in
theorem ggL_isLaid_L_topOf : GoodIn wsL_isLaid wsL_topOf := goodIn_ca (goodIn_r _ [9] (by decide +kernel) (by decide +kernel)) (goodIn_sub (fun _ h => List.mem_cons_of_mem _ (List.mem_append_left _ (List.mem_append_left _ (List.mem_append_left _ (List.mem_append_left _ (List.mem_append_right _ h)))))) (by decide +kernel))
set_option maxRecDepth 20000 in
theorem gL_isLaid_L_topOf : GoodIn wsL_isLaid (va_wsS RL 126 yL_topOf wsL_topOf) := goodIn_app (goodIn_of _ (by decide +kernel)) ggL_isLaid_L_topOf
set_option maxRecDepth 20000 in
theorem ggL_isLaid_L_offset : GoodIn wsL_isLaid wsL_offset := goodIn_ca (goodIn_r _ [22, 23, 24, 5, 25, 19, 26, 27, 28] (by decide +kernel) (by decide +kernel)) (goodIn_sub (fun _ h => List.mem_cons_of_mem _ (List.mem_append_left _ (List.mem_append_left _ (List.mem_append_left _ (List.mem_append_left _ (List.mem_append_right _ h)))))) (by decide +kernel))
set_option maxRecDepth 20000 in
theorem gL_isLaid_L_offset : GoodIn wsL_isLaid (va_wsS RL 141 yL_offset wsL_offset) := goodIn_app (goodIn_of _ (by decide +kernel)) ggL_isLaid_L_offset
theorem dL_isLaid_0 : decode cL_isLaid 0 = .ok (.aload_n 1, 1) := by decide +kernel
theorem dL_isLaid_1 : decode cL_isLaid 1 = .ok (.iload_n 2, 1) := by decide +kernel
theorem dL_isLaid_2 : decode cL_isLaid 2 = .ok (.iload_n 3, 1) := by decide +kernel
theorem dL_isLaid_3 : decode cL_isLaid 3 = .ok (.invokestatic 160, 3) := by decide +kernel
theorem dL_isLaid_6 : decode cL_isLaid 6 = .ok (.istore 4, 2) := by decide +kernel
theorem dL_isLaid_8 : decode cL_isLaid 8 = .ok (.aload_n 0, 1) := by decide +kernel
theorem dL_isLaid_9 : decode cL_isLaid 9 = .ok (.iload_n 2, 1) := by decide +kernel
theorem dL_isLaid_10 : decode cL_isLaid 10 = .ok (.iload_n 3, 1) := by decide +kernel
theorem dL_isLaid_11 : decode cL_isLaid 11 = .ok (.invokestatic 164, 3) := by decide +kernel
theorem dL_isLaid_14 : decode cL_isLaid 14 = .ok (.iload 4, 2) := by decide +kernel
theorem dL_isLaid_16 : decode cL_isLaid 16 = .ok (.if_icmp .eq 5, 3) := by decide +kernel
theorem dL_isLaid_19 : decode cL_isLaid 19 = .ok (.iconst 0, 1) := by decide +kernel
theorem dL_isLaid_20 : decode cL_isLaid 20 = .ok (.ireturn, 1) := by decide +kernel
theorem dL_isLaid_21 : decode cL_isLaid 21 = .ok (.iload 4, 2) := by decide +kernel
theorem dL_isLaid_23 : decode cL_isLaid 23 = .ok (.bipush 45, 2) := by decide +kernel
theorem dL_isLaid_25 : decode cL_isLaid 25 = .ok (.if_icmp .ne 14, 3) := by decide +kernel
theorem dL_isLaid_28 : decode cL_isLaid 28 = .ok (.aload_n 1, 1) := by decide +kernel
theorem dL_isLaid_29 : decode cL_isLaid 29 = .ok (.iconst 4, 1) := by decide +kernel
theorem dL_isLaid_30 : decode cL_isLaid 30 = .ok (.iaload, 1) := by decide +kernel
theorem dL_isLaid_31 : decode cL_isLaid 31 = .ok (.iconst 2, 1) := by decide +kernel
theorem dL_isLaid_32 : decode cL_isLaid 32 = .ok (.iadd, 1) := by decide +kernel
theorem dL_isLaid_33 : decode cL_isLaid 33 = .ok (.sipush 5000, 3) := by decide +kernel
theorem dL_isLaid_36 : decode cL_isLaid 36 = .ok (.if_icmp .le 32, 3) := by decide +kernel
theorem dL_isLaid_39 : decode cL_isLaid 39 = .ok (.aload_n 0, 1) := by decide +kernel
theorem dL_isLaid_40 : decode cL_isLaid 40 = .ok (.iload_n 2, 1) := by decide +kernel
theorem dL_isLaid_41 : decode cL_isLaid 41 = .ok (.iload_n 3, 1) := by decide +kernel
theorem dL_isLaid_42 : decode cL_isLaid 42 = .ok (.invokestatic 166, 3) := by decide +kernel
theorem dL_isLaid_45 : decode cL_isLaid 45 = .ok (.iload 4, 2) := by decide +kernel
theorem dL_isLaid_47 : decode cL_isLaid 47 = .ok (.bipush 45, 2) := by decide +kernel
theorem dL_isLaid_49 : decode cL_isLaid 49 = .ok (.if_icmp .eq 8, 3) := by decide +kernel
theorem dL_isLaid_52 : decode cL_isLaid 52 = .ok (.ldc 30, 2) := by decide +kernel
theorem dL_isLaid_54 : decode cL_isLaid 54 = .ok (.goto 5, 3) := by decide +kernel
theorem dL_isLaid_57 : decode cL_isLaid 57 = .ok (.ldc 79, 2) := by decide +kernel
theorem dL_isLaid_59 : decode cL_isLaid 59 = .ok (.if_icmp .ne 7, 3) := by decide +kernel
theorem dL_isLaid_62 : decode cL_isLaid 62 = .ok (.iconst 1, 1) := by decide +kernel
theorem dL_isLaid_63 : decode cL_isLaid 63 = .ok (.goto 4, 3) := by decide +kernel
theorem dL_isLaid_66 : decode cL_isLaid 66 = .ok (.iconst 0, 1) := by decide +kernel
theorem dL_isLaid_67 : decode cL_isLaid 67 = .ok (.ireturn, 1) := by decide +kernel
theorem dL_isLaid_68 : decode cL_isLaid 68 = .ok (.aload_n 1, 1) := by decide +kernel
theorem dL_isLaid_69 : decode cL_isLaid 69 = .ok (.iconst 2, 1) := by decide +kernel
theorem dL_isLaid_70 : decode cL_isLaid 70 = .ok (.iaload, 1) := by decide +kernel
theorem dL_isLaid_71 : decode cL_isLaid 71 = .ok (.istore 5, 2) := by decide +kernel
theorem dL_isLaid_73 : decode cL_isLaid 73 = .ok (.aload_n 1, 1) := by decide +kernel
theorem dL_isLaid_74 : decode cL_isLaid 74 = .ok (.bipush 20, 2) := by decide +kernel
theorem dL_isLaid_76 : decode cL_isLaid 76 = .ok (.iload 5, 2) := by decide +kernel
theorem dL_isLaid_78 : decode cL_isLaid 78 = .ok (.iadd, 1) := by decide +kernel
theorem dL_isLaid_79 : decode cL_isLaid 79 = .ok (.iaload, 1) := by decide +kernel
theorem dL_isLaid_80 : decode cL_isLaid 80 = .ok (.aload_n 1, 1) := by decide +kernel
theorem dL_isLaid_81 : decode cL_isLaid 81 = .ok (.iconst 5, 1) := by decide +kernel
theorem dL_isLaid_82 : decode cL_isLaid 82 = .ok (.iaload, 1) := by decide +kernel
theorem dL_isLaid_83 : decode cL_isLaid 83 = .ok (.isub, 1) := by decide +kernel
theorem dL_isLaid_84 : decode cL_isLaid 84 = .ok (.istore 6, 2) := by decide +kernel
theorem dL_isLaid_86 : decode cL_isLaid 86 = .ok (.iload 6, 2) := by decide +kernel
theorem dL_isLaid_88 : decode cL_isLaid 88 = .ok (.ifCond .le 20, 3) := by decide +kernel
theorem dL_isLaid_91 : decode cL_isLaid 91 = .ok (.iload 6, 2) := by decide +kernel
theorem dL_isLaid_93 : decode cL_isLaid 93 = .ok (.aload_n 1, 1) := by decide +kernel
theorem dL_isLaid_94 : decode cL_isLaid 94 = .ok (.sipush 220, 3) := by decide +kernel
theorem dL_isLaid_97 : decode cL_isLaid 97 = .ok (.iload 5, 2) := by decide +kernel
theorem dL_isLaid_99 : decode cL_isLaid 99 = .ok (.iadd, 1) := by decide +kernel
theorem dL_isLaid_100 : decode cL_isLaid 100 = .ok (.iaload, 1) := by decide +kernel
theorem dL_isLaid_101 : decode cL_isLaid 101 = .ok (.imul, 1) := by decide +kernel
theorem dL_isLaid_102 : decode cL_isLaid 102 = .ok (.bipush 10, 2) := by decide +kernel
theorem dL_isLaid_104 : decode cL_isLaid 104 = .ok (.idiv, 1) := by decide +kernel
theorem dL_isLaid_105 : decode cL_isLaid 105 = .ok (.goto 4, 3) := by decide +kernel
theorem dL_isLaid_108 : decode cL_isLaid 108 = .ok (.iconst 0, 1) := by decide +kernel
theorem dL_isLaid_109 : decode cL_isLaid 109 = .ok (.istore 7, 2) := by decide +kernel
theorem dL_isLaid_111 : decode cL_isLaid 111 = .ok (.aload_n 1, 1) := by decide +kernel
theorem dL_isLaid_112 : decode cL_isLaid 112 = .ok (.sipush 820, 3) := by decide +kernel
theorem dL_isLaid_115 : decode cL_isLaid 115 = .ok (.iload 5, 2) := by decide +kernel
theorem dL_isLaid_117 : decode cL_isLaid 117 = .ok (.iadd, 1) := by decide +kernel
theorem dL_isLaid_118 : decode cL_isLaid 118 = .ok (.dup2, 1) := by decide +kernel
theorem dL_isLaid_119 : decode cL_isLaid 119 = .ok (.iaload, 1) := by decide +kernel
theorem dL_isLaid_120 : decode cL_isLaid 120 = .ok (.iload 7, 2) := by decide +kernel
theorem dL_isLaid_122 : decode cL_isLaid 122 = .ok (.iadd, 1) := by decide +kernel
theorem dL_isLaid_123 : decode cL_isLaid 123 = .ok (.iastore, 1) := by decide +kernel
theorem dL_isLaid_124 : decode cL_isLaid 124 = .ok (.aload_n 1, 1) := by decide +kernel
theorem dL_isLaid_125 : decode cL_isLaid 125 = .ok (.sipush 820, 3) := by decide +kernel
theorem dL_isLaid_128 : decode cL_isLaid 128 = .ok (.iload 5, 2) := by decide +kernel
theorem dL_isLaid_130 : decode cL_isLaid 130 = .ok (.iadd, 1) := by decide +kernel
theorem dL_isLaid_131 : decode cL_isLaid 131 = .ok (.iconst 1, 1) := by decide +kernel
theorem dL_isLaid_132 : decode cL_isLaid 132 = .ok (.iadd, 1) := by decide +kernel
theorem dL_isLaid_133 : decode cL_isLaid 133 = .ok (.dup2, 1) := by decide +kernel
theorem dL_isLaid_134 : decode cL_isLaid 134 = .ok (.iaload, 1) := by decide +kernel
theorem dL_isLaid_135 : decode cL_isLaid 135 = .ok (.iload 5, 2) := by decide +kernel
theorem dL_isLaid_137 : decode cL_isLaid 137 = .ok (.iconst 1, 1) := by decide +kernel
theorem dL_isLaid_138 : decode cL_isLaid 138 = .ok (.iadd, 1) := by decide +kernel
theorem dL_isLaid_139 : decode cL_isLaid 139 = .ok (.aload_n 1, 1) := by decide +kernel
theorem dL_isLaid_140 : decode cL_isLaid 140 = .ok (.iconst 0, 1) := by decide +kernel
theorem dL_isLaid_141 : decode cL_isLaid 141 = .ok (.iaload, 1) := by decide +kernel
theorem dL_isLaid_142 : decode cL_isLaid 142 = .ok (.if_icmp .ge 10, 3) := by decide +kernel
theorem dL_isLaid_145 : decode cL_isLaid 145 = .ok (.iload 7, 2) := by decide +kernel
theorem dL_isLaid_147 : decode cL_isLaid 147 = .ok (.iconst 2, 1) := by decide +kernel
theorem dL_isLaid_148 : decode cL_isLaid 148 = .ok (.idiv, 1) := by decide +kernel
theorem dL_isLaid_149 : decode cL_isLaid 149 = .ok (.goto 4, 3) := by decide +kernel
theorem dL_isLaid_152 : decode cL_isLaid 152 = .ok (.iconst 0, 1) := by decide +kernel
theorem dL_isLaid_153 : decode cL_isLaid 153 = .ok (.iadd, 1) := by decide +kernel
theorem dL_isLaid_154 : decode cL_isLaid 154 = .ok (.iastore, 1) := by decide +kernel
theorem dL_isLaid_155 : decode cL_isLaid 155 = .ok (.iload 5, 2) := by decide +kernel
theorem dL_isLaid_157 : decode cL_isLaid 157 = .ok (.ifCond .le 18, 3) := by decide +kernel
theorem dL_isLaid_160 : decode cL_isLaid 160 = .ok (.aload_n 1, 1) := by decide +kernel
theorem dL_isLaid_161 : decode cL_isLaid 161 = .ok (.sipush 819, 3) := by decide +kernel
theorem dL_isLaid_164 : decode cL_isLaid 164 = .ok (.iload 5, 2) := by decide +kernel
theorem dL_isLaid_166 : decode cL_isLaid 166 = .ok (.iadd, 1) := by decide +kernel
theorem dL_isLaid_167 : decode cL_isLaid 167 = .ok (.dup2, 1) := by decide +kernel
theorem dL_isLaid_168 : decode cL_isLaid 168 = .ok (.iaload, 1) := by decide +kernel
theorem dL_isLaid_169 : decode cL_isLaid 169 = .ok (.iload 7, 2) := by decide +kernel
theorem dL_isLaid_171 : decode cL_isLaid 171 = .ok (.iconst 2, 1) := by decide +kernel
theorem dL_isLaid_172 : decode cL_isLaid 172 = .ok (.idiv, 1) := by decide +kernel
theorem dL_isLaid_173 : decode cL_isLaid 173 = .ok (.iadd, 1) := by decide +kernel
theorem dL_isLaid_174 : decode cL_isLaid 174 = .ok (.iastore, 1) := by decide +kernel
theorem dL_isLaid_175 : decode cL_isLaid 175 = .ok (.aload_n 1, 1) := by decide +kernel
theorem dL_isLaid_176 : decode cL_isLaid 176 = .ok (.bipush 6, 2) := by decide +kernel
theorem dL_isLaid_178 : decode cL_isLaid 178 = .ok (.dup2, 1) := by decide +kernel
theorem dL_isLaid_179 : decode cL_isLaid 179 = .ok (.iaload, 1) := by decide +kernel
theorem dL_isLaid_180 : decode cL_isLaid 180 = .ok (.aload_n 1, 1) := by decide +kernel
theorem dL_isLaid_181 : decode cL_isLaid 181 = .ok (.invokestatic 153, 3) := by decide +kernel
theorem dL_isLaid_184 : decode cL_isLaid 184 = .ok (.isub, 1) := by decide +kernel
theorem dL_isLaid_185 : decode cL_isLaid 185 = .ok (.iastore, 1) := by decide +kernel
theorem dL_isLaid_186 : decode cL_isLaid 186 = .ok (.aload_n 1, 1) := by decide +kernel
theorem dL_isLaid_187 : decode cL_isLaid 187 = .ok (.sipush 1020, 3) := by decide +kernel
theorem dL_isLaid_190 : decode cL_isLaid 190 = .ok (.iload 5, 2) := by decide +kernel
theorem dL_isLaid_192 : decode cL_isLaid 192 = .ok (.iadd, 1) := by decide +kernel
theorem dL_isLaid_193 : decode cL_isLaid 193 = .ok (.iload_n 3, 1) := by decide +kernel
theorem dL_isLaid_194 : decode cL_isLaid 194 = .ok (.iastore, 1) := by decide +kernel
theorem dL_isLaid_195 : decode cL_isLaid 195 = .ok (.aload_n 1, 1) := by decide +kernel
theorem dL_isLaid_196 : decode cL_isLaid 196 = .ok (.sipush 1220, 3) := by decide +kernel
theorem dL_isLaid_199 : decode cL_isLaid 199 = .ok (.iload 5, 2) := by decide +kernel
theorem dL_isLaid_201 : decode cL_isLaid 201 = .ok (.iadd, 1) := by decide +kernel
theorem dL_isLaid_202 : decode cL_isLaid 202 = .ok (.aload_n 1, 1) := by decide +kernel
theorem dL_isLaid_203 : decode cL_isLaid 203 = .ok (.aload_n 1, 1) := by decide +kernel
theorem dL_isLaid_204 : decode cL_isLaid 204 = .ok (.iload_n 2, 1) := by decide +kernel
theorem dL_isLaid_205 : decode cL_isLaid 205 = .ok (.invokestatic 126, 3) := by decide +kernel
theorem dL_isLaid_208 : decode cL_isLaid 208 = .ok (.iaload, 1) := by decide +kernel
theorem dL_isLaid_209 : decode cL_isLaid 209 = .ok (.iastore, 1) := by decide +kernel
theorem dL_isLaid_210 : decode cL_isLaid 210 = .ok (.aload_n 1, 1) := by decide +kernel
theorem dL_isLaid_211 : decode cL_isLaid 211 = .ok (.bipush 10, 2) := by decide +kernel
theorem dL_isLaid_213 : decode cL_isLaid 213 = .ok (.iload_n 2, 1) := by decide +kernel
theorem dL_isLaid_214 : decode cL_isLaid 214 = .ok (.iadd, 1) := by decide +kernel
theorem dL_isLaid_215 : decode cL_isLaid 215 = .ok (.dup2, 1) := by decide +kernel
theorem dL_isLaid_216 : decode cL_isLaid 216 = .ok (.iaload, 1) := by decide +kernel
theorem dL_isLaid_217 : decode cL_isLaid 217 = .ok (.iconst 1, 1) := by decide +kernel
theorem dL_isLaid_218 : decode cL_isLaid 218 = .ok (.isub, 1) := by decide +kernel
theorem dL_isLaid_219 : decode cL_isLaid 219 = .ok (.iastore, 1) := by decide +kernel
theorem dL_isLaid_220 : decode cL_isLaid 220 = .ok (.aload_n 1, 1) := by decide +kernel
theorem dL_isLaid_221 : decode cL_isLaid 221 = .ok (.iconst 2, 1) := by decide +kernel
theorem dL_isLaid_222 : decode cL_isLaid 222 = .ok (.dup2, 1) := by decide +kernel
theorem dL_isLaid_223 : decode cL_isLaid 223 = .ok (.iaload, 1) := by decide +kernel
theorem dL_isLaid_224 : decode cL_isLaid 224 = .ok (.iconst 1, 1) := by decide +kernel
theorem dL_isLaid_225 : decode cL_isLaid 225 = .ok (.iadd, 1) := by decide +kernel
theorem dL_isLaid_226 : decode cL_isLaid 226 = .ok (.iastore, 1) := by decide +kernel
theorem dL_isLaid_227 : decode cL_isLaid 227 = .ok (.aload_n 1, 1) := by decide +kernel
theorem dL_isLaid_228 : decode cL_isLaid 228 = .ok (.sipush 1420, 3) := by decide +kernel
theorem dL_isLaid_231 : decode cL_isLaid 231 = .ok (.iload 5, 2) := by decide +kernel
theorem dL_isLaid_233 : decode cL_isLaid 233 = .ok (.iadd, 1) := by decide +kernel
theorem dL_isLaid_234 : decode cL_isLaid 234 = .ok (.aload_n 1, 1) := by decide +kernel
theorem dL_isLaid_235 : decode cL_isLaid 235 = .ok (.aload_n 1, 1) := by decide +kernel
theorem dL_isLaid_236 : decode cL_isLaid 236 = .ok (.iconst 2, 1) := by decide +kernel
theorem dL_isLaid_237 : decode cL_isLaid 237 = .ok (.iaload, 1) := by decide +kernel
theorem dL_isLaid_238 : decode cL_isLaid 238 = .ok (.iconst 1, 1) := by decide +kernel
theorem dL_isLaid_239 : decode cL_isLaid 239 = .ok (.invokestatic 141, 3) := by decide +kernel
theorem dL_isLaid_242 : decode cL_isLaid 242 = .ok (.iastore, 1) := by decide +kernel
theorem dL_isLaid_243 : decode cL_isLaid 243 = .ok (.aload_n 1, 1) := by decide +kernel
theorem dL_isLaid_244 : decode cL_isLaid 244 = .ok (.sipush 1620, 3) := by decide +kernel
theorem dL_isLaid_247 : decode cL_isLaid 247 = .ok (.iload 5, 2) := by decide +kernel
theorem dL_isLaid_249 : decode cL_isLaid 249 = .ok (.iadd, 1) := by decide +kernel
theorem dL_isLaid_250 : decode cL_isLaid 250 = .ok (.aload_n 1, 1) := by decide +kernel
theorem dL_isLaid_251 : decode cL_isLaid 251 = .ok (.aload_n 1, 1) := by decide +kernel
theorem dL_isLaid_252 : decode cL_isLaid 252 = .ok (.iconst 2, 1) := by decide +kernel
theorem dL_isLaid_253 : decode cL_isLaid 253 = .ok (.iaload, 1) := by decide +kernel
theorem dL_isLaid_254 : decode cL_isLaid 254 = .ok (.iconst 0, 1) := by decide +kernel
theorem dL_isLaid_255 : decode cL_isLaid 255 = .ok (.invokestatic 141, 3) := by decide +kernel
theorem dL_isLaid_258 : decode cL_isLaid 258 = .ok (.iastore, 1) := by decide +kernel
theorem dL_isLaid_259 : decode cL_isLaid 259 = .ok (.aload_n 1, 1) := by decide +kernel
theorem dL_isLaid_260 : decode cL_isLaid 260 = .ok (.iconst 4, 1) := by decide +kernel
theorem dL_isLaid_261 : decode cL_isLaid 261 = .ok (.dup2, 1) := by decide +kernel
theorem dL_isLaid_262 : decode cL_isLaid 262 = .ok (.iaload, 1) := by decide +kernel
theorem dL_isLaid_263 : decode cL_isLaid 263 = .ok (.iconst 2, 1) := by decide +kernel
theorem dL_isLaid_264 : decode cL_isLaid 264 = .ok (.iadd, 1) := by decide +kernel
theorem dL_isLaid_265 : decode cL_isLaid 265 = .ok (.iastore, 1) := by decide +kernel
theorem dL_isLaid_266 : decode cL_isLaid 266 = .ok (.aload_n 0, 1) := by decide +kernel
theorem dL_isLaid_267 : decode cL_isLaid 267 = .ok (.iload_n 2, 1) := by decide +kernel
theorem dL_isLaid_268 : decode cL_isLaid 268 = .ok (.iload_n 3, 1) := by decide +kernel
theorem dL_isLaid_269 : decode cL_isLaid 269 = .ok (.invokestatic 166, 3) := by decide +kernel
theorem dL_isLaid_272 : decode cL_isLaid 272 = .ok (.iload 5, 2) := by decide +kernel
theorem dL_isLaid_274 : decode cL_isLaid 274 = .ok (.if_icmp .ne 7, 3) := by decide +kernel
theorem dL_isLaid_277 : decode cL_isLaid 277 = .ok (.iconst 1, 1) := by decide +kernel
theorem dL_isLaid_278 : decode cL_isLaid 278 = .ok (.goto 4, 3) := by decide +kernel
theorem dL_isLaid_281 : decode cL_isLaid 281 = .ok (.iconst 0, 1) := by decide +kernel
theorem dL_isLaid_282 : decode cL_isLaid 282 = .ok (.ireturn, 1) := by decide +kernel
set_option maxRecDepth 20000 in
theorem ggL_isStopped_L_stop : GoodIn wsL_isStopped wsL_stop := goodIn_ca (goodIn_ca (goodIn_ca (goodIn_r _ [5, 6, 7, 8, 1, 9, 10, 11, 12, 13, 14, 15, 16, 17, 18, 19, 20, 21, 22, 23, 24, 25, 26, 27, 28, 29, 30, 31, 32, 33, 34, 35, 36, 37, 38, 39, 40, 41, 42, 43, 44, 45, 46, 47, 48, 49, 50, 51, 52, 53, 54, 55, 56, 57, 58, 59, 60, 61, 62, 63, 64, 65, 66, 67, 68, 69, 70, 71, 72, 73, 74, 75, 76, 77, 78, 79, 80] (by decide +kernel) (by decide +kernel)) (goodIn_sub (fun _ h => List.mem_cons_of_mem _ (List.mem_append_left _ (List.mem_append_right _ h))) (by decide +kernel))) (goodIn_sub (fun _ h => List.mem_cons_of_mem _ (List.mem_append_right _ h)) (by decide +kernel))) (goodIn_sub (fun _ h => List.mem_cons_of_mem _ (List.mem_append_left _ (List.mem_append_left _ (List.mem_append_right _ h)))) (by decide +kernel))
set_option maxRecDepth 20000 in
theorem gL_isStopped_L_stop : GoodIn wsL_isStopped (va_wsS RL 168 yL_stop wsL_stop) := goodIn_app (goodIn_of _ (by decide +kernel)) ggL_isStopped_L_stop
theorem dL_isStopped_0 : decode cL_isStopped 0 = .ok (.aload_n 1, 1) := by decide +kernel
theorem dL_isStopped_1 : decode cL_isStopped 1 = .ok (.iconst 4, 1) := by decide +kernel
theorem dL_isStopped_2 : decode cL_isStopped 2 = .ok (.iaload, 1) := by decide +kernel
theorem dL_isStopped_3 : decode cL_isStopped 3 = .ok (.iload_n 2, 1) := by decide +kernel
theorem dL_isStopped_4 : decode cL_isStopped 4 = .ok (.iadd, 1) := by decide +kernel
theorem dL_isStopped_5 : decode cL_isStopped 5 = .ok (.sipush 5000, 3) := by decide +kernel
theorem dL_isStopped_8 : decode cL_isStopped 8 = .ok (.if_icmp .le 19, 3) := by decide +kernel
theorem dL_isStopped_11 : decode cL_isStopped 11 = .ok (.aload_n 0, 1) := by decide +kernel
theorem dL_isStopped_12 : decode cL_isStopped 12 = .ok (.iload_n 2, 1) := by decide +kernel
theorem dL_isStopped_13 : decode cL_isStopped 13 = .ok (.invokestatic 168, 3) := by decide +kernel
theorem dL_isStopped_16 : decode cL_isStopped 16 = .ok (.ldc 20, 2) := by decide +kernel
theorem dL_isStopped_18 : decode cL_isStopped 18 = .ok (.if_icmp .ne 7, 3) := by decide +kernel
theorem dL_isStopped_21 : decode cL_isStopped 21 = .ok (.iconst 1, 1) := by decide +kernel
theorem dL_isStopped_22 : decode cL_isStopped 22 = .ok (.goto 4, 3) := by decide +kernel
theorem dL_isStopped_25 : decode cL_isStopped 25 = .ok (.iconst 0, 1) := by decide +kernel
theorem dL_isStopped_26 : decode cL_isStopped 26 = .ok (.ireturn, 1) := by decide +kernel
theorem dL_isStopped_27 : decode cL_isStopped 27 = .ok (.aload_n 1, 1) := by decide +kernel
theorem dL_isStopped_28 : decode cL_isStopped 28 = .ok (.bipush 20, 2) := by decide +kernel
theorem dL_isStopped_30 : decode cL_isStopped 30 = .ok (.aload_n 1, 1) := by decide +kernel
theorem dL_isStopped_31 : decode cL_isStopped 31 = .ok (.iconst 2, 1) := by decide +kernel
theorem dL_isStopped_32 : decode cL_isStopped 32 = .ok (.iaload, 1) := by decide +kernel
theorem dL_isStopped_33 : decode cL_isStopped 33 = .ok (.iadd, 1) := by decide +kernel
theorem dL_isStopped_34 : decode cL_isStopped 34 = .ok (.iaload, 1) := by decide +kernel
theorem dL_isStopped_35 : decode cL_isStopped 35 = .ok (.aload_n 1, 1) := by decide +kernel
theorem dL_isStopped_36 : decode cL_isStopped 36 = .ok (.iconst 5, 1) := by decide +kernel
theorem dL_isStopped_37 : decode cL_isStopped 37 = .ok (.iaload, 1) := by decide +kernel
theorem dL_isStopped_38 : decode cL_isStopped 38 = .ok (.isub, 1) := by decide +kernel
theorem dL_isStopped_39 : decode cL_isStopped 39 = .ok (.istore_n 3, 1) := by decide +kernel
theorem dL_isStopped_40 : decode cL_isStopped 40 = .ok (.iconst 0, 1) := by decide +kernel
theorem dL_isStopped_41 : decode cL_isStopped 41 = .ok (.istore 4, 2) := by decide +kernel
theorem dL_isStopped_43 : decode cL_isStopped 43 = .ok (.iload 4, 2) := by decide +kernel
theorem dL_isStopped_45 : decode cL_isStopped 45 = .ok (.iload_n 2, 1) := by decide +kernel
theorem dL_isStopped_46 : decode cL_isStopped 46 = .ok (.if_icmp .ge 48, 3) := by decide +kernel
theorem dL_isStopped_49 : decode cL_isStopped 49 = .ok (.aload_n 1, 1) := by decide +kernel
theorem dL_isStopped_50 : decode cL_isStopped 50 = .ok (.iconst 2, 1) := by decide +kernel
theorem dL_isStopped_51 : decode cL_isStopped 51 = .ok (.iaload, 1) := by decide +kernel
theorem dL_isStopped_52 : decode cL_isStopped 52 = .ok (.aload_n 1, 1) := by decide +kernel
theorem dL_isStopped_53 : decode cL_isStopped 53 = .ok (.iconst 0, 1) := by decide +kernel
theorem dL_isStopped_54 : decode cL_isStopped 54 = .ok (.iaload, 1) := by decide +kernel
theorem dL_isStopped_55 : decode cL_isStopped 55 = .ok (.if_icmp .ge 39, 3) := by decide +kernel
theorem dL_isStopped_58 : decode cL_isStopped 58 = .ok (.iload_n 3, 1) := by decide +kernel
theorem dL_isStopped_59 : decode cL_isStopped 59 = .ok (.ifCond .le 35, 3) := by decide +kernel
theorem dL_isStopped_62 : decode cL_isStopped 62 = .ok (.aload_n 1, 1) := by decide +kernel
theorem dL_isStopped_63 : decode cL_isStopped 63 = .ok (.sipush 820, 3) := by decide +kernel
theorem dL_isStopped_66 : decode cL_isStopped 66 = .ok (.aload_n 1, 1) := by decide +kernel
theorem dL_isStopped_67 : decode cL_isStopped 67 = .ok (.iconst 2, 1) := by decide +kernel
theorem dL_isStopped_68 : decode cL_isStopped 68 = .ok (.iaload, 1) := by decide +kernel
theorem dL_isStopped_69 : decode cL_isStopped 69 = .ok (.iadd, 1) := by decide +kernel
theorem dL_isStopped_70 : decode cL_isStopped 70 = .ok (.dup2, 1) := by decide +kernel
theorem dL_isStopped_71 : decode cL_isStopped 71 = .ok (.iaload, 1) := by decide +kernel
theorem dL_isStopped_72 : decode cL_isStopped 72 = .ok (.iload_n 3, 1) := by decide +kernel
theorem dL_isStopped_73 : decode cL_isStopped 73 = .ok (.aload_n 1, 1) := by decide +kernel
