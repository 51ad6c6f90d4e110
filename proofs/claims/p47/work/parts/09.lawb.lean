theorem dL_isGround_66 : decode cL_isGround 66 = .ok (.iinc 5 1, 3) := by decide +kernel
theorem dL_isGround_69 : decode cL_isGround 69 = .ok (.goto (-36), 3) := by decide +kernel
theorem dL_isGround_72 : decode cL_isGround 72 = .ok (.aload_n 0, 1) := by decide +kernel
theorem dL_isGround_73 : decode cL_isGround 73 = .ok (.iload_n 2, 1) := by decide +kernel
theorem dL_isGround_74 : decode cL_isGround 74 = .ok (.iload_n 3, 1) := by decide +kernel
theorem dL_isGround_75 : decode cL_isGround 75 = .ok (.iload 4, 2) := by decide +kernel
theorem dL_isGround_77 : decode cL_isGround 77 = .ok (.invokestatic 118, 3) := by decide +kernel
theorem dL_isGround_80 : decode cL_isGround 80 = .ok (.aload_n 1, 1) := by decide +kernel
theorem dL_isGround_81 : decode cL_isGround 81 = .ok (.iconst 0, 1) := by decide +kernel
theorem dL_isGround_82 : decode cL_isGround 82 = .ok (.iaload, 1) := by decide +kernel
theorem dL_isGround_83 : decode cL_isGround 83 = .ok (.if_icmp .ne 7, 3) := by decide +kernel
theorem dL_isGround_86 : decode cL_isGround 86 = .ok (.iconst 1, 1) := by decide +kernel
theorem dL_isGround_87 : decode cL_isGround 87 = .ok (.goto 4, 3) := by decide +kernel
theorem dL_isGround_90 : decode cL_isGround 90 = .ok (.iconst 0, 1) := by decide +kernel
theorem dL_isGround_91 : decode cL_isGround 91 = .ok (.ireturn, 1) := by decide +kernel
set_option maxRecDepth 20000 in
theorem ggL_isCurve_L_addCurve : GoodIn wsL_isCurve wsL_addCurve := goodIn_ca (goodIn_ca (goodIn_ca (goodIn_r _ [5, 6, 7, 8, 1, 9, 10, 11, 12, 13, 14, 15, 16, 17, 18, 19, 20, 21, 22, 23, 24, 25, 26, 27, 28, 29, 30, 31, 32, 33, 34, 35, 36, 37, 38, 39, 40, 41, 42, 43, 44, 45, 46, 47, 48, 49] (by decide +kernel) (by decide +kernel)) (goodIn_sub (fun _ h => List.mem_cons_of_mem _ (List.mem_append_left _ (List.mem_append_right _ h))) (by decide +kernel))) (goodIn_sub (fun _ h => List.mem_cons_of_mem _ (List.mem_append_right _ h)) (by decide +kernel))) (goodIn_sub (fun _ h => List.mem_cons_of_mem _ (List.mem_append_left _ (List.mem_append_left _ (List.mem_append_right _ h)))) (by decide +kernel))
set_option maxRecDepth 20000 in
theorem gL_isCurve_L_addCurve : GoodIn wsL_isCurve (va_wsS RL 121 yL_addCurve wsL_addCurve) := goodIn_app (goodIn_of _ (by decide +kernel)) ggL_isCurve_L_addCurve
theorem dL_isCurve_0 : decode cL_isCurve 0 = .ok (.aload_n 1, 1) := by decide +kernel
theorem dL_isCurve_1 : decode cL_isCurve 1 = .ok (.iconst 1, 1) := by decide +kernel
theorem dL_isCurve_2 : decode cL_isCurve 2 = .ok (.iaload, 1) := by decide +kernel
theorem dL_isCurve_3 : decode cL_isCurve 3 = .ok (.iload_n 2, 1) := by decide +kernel
theorem dL_isCurve_4 : decode cL_isCurve 4 = .ok (.iadd, 1) := by decide +kernel
theorem dL_isCurve_5 : decode cL_isCurve 5 = .ok (.sipush 200, 3) := by decide +kernel
theorem dL_isCurve_8 : decode cL_isCurve 8 = .ok (.if_icmp .le 22, 3) := by decide +kernel
theorem dL_isCurve_11 : decode cL_isCurve 11 = .ok (.aload_n 0, 1) := by decide +kernel
theorem dL_isCurve_12 : decode cL_isCurve 12 = .ok (.iload_n 2, 1) := by decide +kernel
theorem dL_isCurve_13 : decode cL_isCurve 13 = .ok (.iload_n 3, 1) := by decide +kernel
theorem dL_isCurve_14 : decode cL_isCurve 14 = .ok (.iload 4, 2) := by decide +kernel
theorem dL_isCurve_16 : decode cL_isCurve 16 = .ok (.invokestatic 121, 3) := by decide +kernel
theorem dL_isCurve_19 : decode cL_isCurve 19 = .ok (.ldc 20, 2) := by decide +kernel
theorem dL_isCurve_21 : decode cL_isCurve 21 = .ok (.if_icmp .ne 7, 3) := by decide +kernel
theorem dL_isCurve_24 : decode cL_isCurve 24 = .ok (.iconst 1, 1) := by decide +kernel
theorem dL_isCurve_25 : decode cL_isCurve 25 = .ok (.goto 4, 3) := by decide +kernel
theorem dL_isCurve_28 : decode cL_isCurve 28 = .ok (.iconst 0, 1) := by decide +kernel
theorem dL_isCurve_29 : decode cL_isCurve 29 = .ok (.ireturn, 1) := by decide +kernel
theorem dL_isCurve_30 : decode cL_isCurve 30 = .ok (.iconst 0, 1) := by decide +kernel
theorem dL_isCurve_31 : decode cL_isCurve 31 = .ok (.istore 5, 2) := by decide +kernel
theorem dL_isCurve_33 : decode cL_isCurve 33 = .ok (.iload 5, 2) := by decide +kernel
theorem dL_isCurve_35 : decode cL_isCurve 35 = .ok (.iload_n 2, 1) := by decide +kernel
theorem dL_isCurve_36 : decode cL_isCurve 36 = .ok (.if_icmp .ge 37, 3) := by decide +kernel
theorem dL_isCurve_39 : decode cL_isCurve 39 = .ok (.aload_n 1, 1) := by decide +kernel
theorem dL_isCurve_40 : decode cL_isCurve 40 = .ok (.sipush 420, 3) := by decide +kernel
theorem dL_isCurve_43 : decode cL_isCurve 43 = .ok (.aload_n 1, 1) := by decide +kernel
theorem dL_isCurve_44 : decode cL_isCurve 44 = .ok (.iconst 1, 1) := by decide +kernel
theorem dL_isCurve_45 : decode cL_isCurve 45 = .ok (.iaload, 1) := by decide +kernel
theorem dL_isCurve_46 : decode cL_isCurve 46 = .ok (.iadd, 1) := by decide +kernel
theorem dL_isCurve_47 : decode cL_isCurve 47 = .ok (.iload_n 3, 1) := by decide +kernel
theorem dL_isCurve_48 : decode cL_isCurve 48 = .ok (.iastore, 1) := by decide +kernel
theorem dL_isCurve_49 : decode cL_isCurve 49 = .ok (.aload_n 1, 1) := by decide +kernel
theorem dL_isCurve_50 : decode cL_isCurve 50 = .ok (.sipush 620, 3) := by decide +kernel
theorem dL_isCurve_53 : decode cL_isCurve 53 = .ok (.aload_n 1, 1) := by decide +kernel
theorem dL_isCurve_54 : decode cL_isCurve 54 = .ok (.iconst 1, 1) := by decide +kernel
theorem dL_isCurve_55 : decode cL_isCurve 55 = .ok (.iaload, 1) := by decide +kernel
theorem dL_isCurve_56 : decode cL_isCurve 56 = .ok (.iadd, 1) := by decide +kernel
theorem dL_isCurve_57 : decode cL_isCurve 57 = .ok (.iload 4, 2) := by decide +kernel
theorem dL_isCurve_59 : decode cL_isCurve 59 = .ok (.iastore, 1) := by decide +kernel
theorem dL_isCurve_60 : decode cL_isCurve 60 = .ok (.aload_n 1, 1) := by decide +kernel
theorem dL_isCurve_61 : decode cL_isCurve 61 = .ok (.iconst 1, 1) := by decide +kernel
theorem dL_isCurve_62 : decode cL_isCurve 62 = .ok (.dup2, 1) := by decide +kernel
theorem dL_isCurve_63 : decode cL_isCurve 63 = .ok (.iaload, 1) := by decide +kernel
theorem dL_isCurve_64 : decode cL_isCurve 64 = .ok (.iconst 1, 1) := by decide +kernel
theorem dL_isCurve_65 : decode cL_isCurve 65 = .ok (.iadd, 1) := by decide +kernel
theorem dL_isCurve_66 : decode cL_isCurve 66 = .ok (.iastore, 1) := by decide +kernel
theorem dL_isCurve_67 : decode cL_isCurve 67 = .ok (.iinc 5 1, 3) := by decide +kernel
theorem dL_isCurve_70 : decode cL_isCurve 70 = .ok (.goto (-37), 3) := by decide +kernel
theorem dL_isCurve_73 : decode cL_isCurve 73 = .ok (.aload_n 0, 1) := by decide +kernel
theorem dL_isCurve_74 : decode cL_isCurve 74 = .ok (.iload_n 2, 1) := by decide +kernel
theorem dL_isCurve_75 : decode cL_isCurve 75 = .ok (.iload_n 3, 1) := by decide +kernel
theorem dL_isCurve_76 : decode cL_isCurve 76 = .ok (.iload 4, 2) := by decide +kernel
theorem dL_isCurve_78 : decode cL_isCurve 78 = .ok (.invokestatic 121, 3) := by decide +kernel
theorem dL_isCurve_81 : decode cL_isCurve 81 = .ok (.aload_n 1, 1) := by decide +kernel
theorem dL_isCurve_82 : decode cL_isCurve 82 = .ok (.iconst 1, 1) := by decide +kernel
theorem dL_isCurve_83 : decode cL_isCurve 83 = .ok (.iaload, 1) := by decide +kernel
theorem dL_isCurve_84 : decode cL_isCurve 84 = .ok (.if_icmp .ne 7, 3) := by decide +kernel
theorem dL_isCurve_87 : decode cL_isCurve 87 = .ok (.iconst 1, 1) := by decide +kernel
theorem dL_isCurve_88 : decode cL_isCurve 88 = .ok (.goto 4, 3) := by decide +kernel
theorem dL_isCurve_91 : decode cL_isCurve 91 = .ok (.iconst 0, 1) := by decide +kernel
theorem dL_isCurve_92 : decode cL_isCurve 92 = .ok (.ireturn, 1) := by decide +kernel
theorem dL_topOf_0 : decode cL_topOf 0 = .ok (.sipush 1818, 3) := by decide +kernel
theorem dL_topOf_3 : decode cL_topOf 3 = .ok (.bipush 24, 2) := by decide +kernel
theorem dL_topOf_5 : decode cL_topOf 5 = .ok (.iload_n 1, 1) := by decide +kernel
theorem dL_topOf_6 : decode cL_topOf 6 = .ok (.imul, 1) := by decide +kernel
theorem dL_topOf_7 : decode cL_topOf 7 = .ok (.iadd, 1) := by decide +kernel
theorem dL_topOf_8 : decode cL_topOf 8 = .ok (.iconst 2, 1) := by decide +kernel
theorem dL_topOf_9 : decode cL_topOf 9 = .ok (.aload_n 0, 1) := by decide +kernel
theorem dL_topOf_10 : decode cL_topOf 10 = .ok (.bipush 10, 2) := by decide +kernel
theorem dL_topOf_12 : decode cL_topOf 12 = .ok (.iload_n 1, 1) := by decide +kernel
theorem dL_topOf_13 : decode cL_topOf 13 = .ok (.iadd, 1) := by decide +kernel
theorem dL_topOf_14 : decode cL_topOf 14 = .ok (.iaload, 1) := by decide +kernel
theorem dL_topOf_15 : decode cL_topOf 15 = .ok (.imul, 1) := by decide +kernel
theorem dL_topOf_16 : decode cL_topOf 16 = .ok (.iadd, 1) := by decide +kernel
theorem dL_topOf_17 : decode cL_topOf 17 = .ok (.ireturn, 1) := by decide +kernel
set_option maxRecDepth 20000 in
theorem ggL_isCast_L_cast : GoodIn wsL_isCast wsL_cast := goodIn_ca (goodIn_ca (goodIn_ca (goodIn_ca (goodIn_r _ [5, 6, 7, 8, 9, 10, 1, 11, 12, 13, 14, 15, 16, 17, 18, 19, 20, 21, 22, 23, 24, 25, 26, 27, 28, 29, 30, 31, 32, 33, 34, 35, 36, 37, 38, 39, 40, 41, 42, 46, 47, 48, 49, 50, 51, 52, 53, 54, 55, 56, 57, 58, 59, 60] (by decide +kernel) (by decide +kernel)) (goodIn_sub (fun _ h => List.mem_cons_of_mem _ (List.mem_append_left _ (List.mem_append_left _ (List.mem_append_right _ h)))) (by decide +kernel))) (goodIn_sub (fun _ h => List.mem_cons_of_mem _ (List.mem_append_left _ (List.mem_append_left _ (List.mem_append_left _ (List.mem_append_right _ h))))) (by decide +kernel))) (goodIn_sub (fun _ h => List.mem_cons_of_mem _ (List.mem_append_left _ (List.mem_append_right _ h))) (by decide +kernel))) (goodIn_sub (fun _ h => List.mem_cons_of_mem _ (List.mem_append_right _ h)) (by decide +kernel))
set_option maxRecDepth 20000 in
theorem gL_isCast_L_cast : GoodIn wsL_isCast (va_wsS RL 123 yL_cast wsL_cast) := goodIn_app (goodIn_of _ (by decide +kernel)) ggL_isCast_L_cast
set_option maxRecDepth 20000 in
theorem ggL_isCast_L_topOf : GoodIn wsL_isCast wsL_topOf := goodIn_ca (goodIn_r _ [45] (by decide +kernel) (by decide +kernel)) (goodIn_sub (fun _ h => List.mem_cons_of_mem _ (List.mem_append_left _ (List.mem_append_left _ (List.mem_append_left _ (List.mem_append_right _ h))))) (by decide +kernel))
set_option maxRecDepth 20000 in
theorem gL_isCast_L_topOf : GoodIn wsL_isCast (va_wsS RL 126 yL_topOf wsL_topOf) := goodIn_app (goodIn_of _ (by decide +kernel)) ggL_isCast_L_topOf
theorem dL_isCast_0 : decode cL_isCast 0 = .ok (.aload_n 1, 1) := by decide +kernel
theorem dL_isCast_1 : decode cL_isCast 1 = .ok (.bipush 10, 2) := by decide +kernel
theorem dL_isCast_3 : decode cL_isCast 3 = .ok (.iload_n 2, 1) := by decide +kernel
theorem dL_isCast_4 : decode cL_isCast 4 = .ok (.iadd, 1) := by decide +kernel
theorem dL_isCast_5 : decode cL_isCast 5 = .ok (.iaload, 1) := by decide +kernel
theorem dL_isCast_6 : decode cL_isCast 6 = .ok (.bipush 12, 2) := by decide +kernel
theorem dL_isCast_8 : decode cL_isCast 8 = .ok (.if_icmp .ne 20, 3) := by decide +kernel
theorem dL_isCast_11 : decode cL_isCast 11 = .ok (.aload_n 0, 1) := by decide +kernel
theorem dL_isCast_12 : decode cL_isCast 12 = .ok (.iload_n 2, 1) := by decide +kernel
theorem dL_isCast_13 : decode cL_isCast 13 = .ok (.iload_n 3, 1) := by decide +kernel
theorem dL_isCast_14 : decode cL_isCast 14 = .ok (.invokestatic 123, 3) := by decide +kernel
theorem dL_isCast_17 : decode cL_isCast 17 = .ok (.ldc 30, 2) := by decide +kernel
theorem dL_isCast_19 : decode cL_isCast 19 = .ok (.if_icmp .ne 7, 3) := by decide +kernel
theorem dL_isCast_22 : decode cL_isCast 22 = .ok (.iconst 1, 1) := by decide +kernel
theorem dL_isCast_23 : decode cL_isCast 23 = .ok (.goto 4, 3) := by decide +kernel
theorem dL_isCast_26 : decode cL_isCast 26 = .ok (.iconst 0, 1) := by decide +kernel
theorem dL_isCast_27 : decode cL_isCast 27 = .ok (.ireturn, 1) := by decide +kernel
theorem dL_isCast_28 : decode cL_isCast 28 = .ok (.aload_n 1, 1) := by decide +kernel
theorem dL_isCast_29 : decode cL_isCast 29 = .ok (.bipush 10, 2) := by decide +kernel
theorem dL_isCast_31 : decode cL_isCast 31 = .ok (.iload_n 2, 1) := by decide +kernel
theorem dL_isCast_32 : decode cL_isCast 32 = .ok (.iadd, 1) := by decide +kernel
theorem dL_isCast_33 : decode cL_isCast 33 = .ok (.dup2, 1) := by decide +kernel
theorem dL_isCast_34 : decode cL_isCast 34 = .ok (.iaload, 1) := by decide +kernel
theorem dL_isCast_35 : decode cL_isCast 35 = .ok (.iconst 1, 1) := by decide +kernel
theorem dL_isCast_36 : decode cL_isCast 36 = .ok (.iadd, 1) := by decide +kernel
theorem dL_isCast_37 : decode cL_isCast 37 = .ok (.iastore, 1) := by decide +kernel
theorem dL_isCast_38 : decode cL_isCast 38 = .ok (.aload_n 1, 1) := by decide +kernel
theorem dL_isCast_39 : decode cL_isCast 39 = .ok (.aload_n 1, 1) := by decide +kernel
theorem dL_isCast_40 : decode cL_isCast 40 = .ok (.iload_n 2, 1) := by decide +kernel
theorem dL_isCast_41 : decode cL_isCast 41 = .ok (.invokestatic 126, 3) := by decide +kernel
theorem dL_isCast_44 : decode cL_isCast 44 = .ok (.iload_n 3, 1) := by decide +kernel
theorem dL_isCast_45 : decode cL_isCast 45 = .ok (.iastore, 1) := by decide +kernel
theorem dL_isCast_46 : decode cL_isCast 46 = .ok (.aload_n 1, 1) := by decide +kernel
theorem dL_isCast_47 : decode cL_isCast 47 = .ok (.aload_n 1, 1) := by decide +kernel
theorem dL_isCast_48 : decode cL_isCast 48 = .ok (.iload_n 2, 1) := by decide +kernel
theorem dL_isCast_49 : decode cL_isCast 49 = .ok (.invokestatic 126, 3) := by decide +kernel
theorem dL_isCast_52 : decode cL_isCast 52 = .ok (.iconst 1, 1) := by decide +kernel
theorem dL_isCast_53 : decode cL_isCast 53 = .ok (.iadd, 1) := by decide +kernel
theorem dL_isCast_54 : decode cL_isCast 54 = .ok (.aload_n 1, 1) := by decide +kernel
theorem dL_isCast_55 : decode cL_isCast 55 = .ok (.iconst 4, 1) := by decide +kernel
theorem dL_isCast_56 : decode cL_isCast 56 = .ok (.iaload, 1) := by decide +kernel
theorem dL_isCast_57 : decode cL_isCast 57 = .ok (.iastore, 1) := by decide +kernel
theorem dL_isCast_58 : decode cL_isCast 58 = .ok (.aload_n 0, 1) := by decide +kernel
theorem dL_isCast_59 : decode cL_isCast 59 = .ok (.iload_n 2, 1) := by decide +kernel
theorem dL_isCast_60 : decode cL_isCast 60 = .ok (.iload_n 3, 1) := by decide +kernel
theorem dL_isCast_61 : decode cL_isCast 61 = .ok (.invokestatic 123, 3) := by decide +kernel
theorem dL_isCast_64 : decode cL_isCast 64 = .ok (.aload_n 1, 1) := by decide +kernel
theorem dL_isCast_65 : decode cL_isCast 65 = .ok (.bipush 10, 2) := by decide +kernel
theorem dL_isCast_67 : decode cL_isCast 67 = .ok (.iload_n 2, 1) := by decide +kernel
theorem dL_isCast_68 : decode cL_isCast 68 = .ok (.iadd, 1) := by decide +kernel
theorem dL_isCast_69 : decode cL_isCast 69 = .ok (.iaload, 1) := by decide +kernel
theorem dL_isCast_70 : decode cL_isCast 70 = .ok (.if_icmp .ne 7, 3) := by decide +kernel
theorem dL_isCast_73 : decode cL_isCast 73 = .ok (.iconst 1, 1) := by decide +kernel
theorem dL_isCast_74 : decode cL_isCast 74 = .ok (.goto 4, 3) := by decide +kernel
theorem dL_isCast_77 : decode cL_isCast 77 = .ok (.iconst 0, 1) := by decide +kernel
theorem dL_isCast_78 : decode cL_isCast 78 = .ok (.ireturn, 1) := by decide +kernel
set_option maxRecDepth 20000 in
theorem ggL_isRestacked_L_restack : GoodIn wsL_isRestacked wsL_restack := goodIn_ca (goodIn_ca (goodIn_ca (goodIn_ca (goodIn_r _ [6, 7, 8, 9, 10, 1, 2, 11, 12, 13, 14, 15, 16, 17, 18, 19, 20, 21, 22, 23, 24, 25, 26, 27, 28, 29, 30, 31, 32, 33, 34, 35, 36, 37, 38, 39, 40, 41, 42, 43, 44, 45, 46, 47, 48, 49, 50, 54, 55, 56, 57, 58, 59, 60, 61, 62, 63, 64, 65, 66, 67, 68] (by decide +kernel) (by decide +kernel)) (goodIn_sub (fun _ h => List.mem_cons_of_mem _ (List.mem_append_left _ (List.mem_append_left _ (List.mem_append_right _ h)))) (by decide +kernel))) (goodIn_sub (fun _ h => List.mem_cons_of_mem _ (List.mem_append_left _ (List.mem_append_left _ (List.mem_append_left _ (List.mem_append_right _ h))))) (by decide +kernel))) (goodIn_sub (fun _ h => List.mem_cons_of_mem _ (List.mem_append_left _ (List.mem_append_right _ h))) (by decide +kernel))) (goodIn_sub (fun _ h => List.mem_cons_of_mem _ (List.mem_append_right _ h)) (by decide +kernel))
set_option maxRecDepth 20000 in
theorem gL_isRestacked_L_restack : GoodIn wsL_isRestacked (va_wsS RL 129 yL_restack wsL_restack) := goodIn_app (goodIn_of _ (by decide +kernel)) ggL_isRestacked_L_restack
set_option maxRecDepth 20000 in
theorem ggL_isRestacked_L_topOf : GoodIn wsL_isRestacked wsL_topOf := goodIn_ca (goodIn_r _ [53] (by decide +kernel) (by decide +kernel)) (goodIn_sub (fun _ h => List.mem_cons_of_mem _ (List.mem_append_left _ (List.mem_append_left _ (List.mem_append_left _ (List.mem_append_right _ h))))) (by decide +kernel))
set_option maxRecDepth 20000 in
theorem gL_isRestacked_L_topOf : GoodIn wsL_isRestacked (va_wsS RL 126 yL_topOf wsL_topOf) := goodIn_app (goodIn_of _ (by decide +kernel)) ggL_isRestacked_L_topOf
theorem dL_isRestacked_0 : decode cL_isRestacked 0 = .ok (.aload_n 1, 1) := by decide +kernel
theorem dL_isRestacked_1 : decode cL_isRestacked 1 = .ok (.bipush 10, 2) := by decide +kernel
theorem dL_isRestacked_3 : decode cL_isRestacked 3 = .ok (.iload_n 2, 1) := by decide +kernel
theorem dL_isRestacked_4 : decode cL_isRestacked 4 = .ok (.iadd, 1) := by decide +kernel
theorem dL_isRestacked_5 : decode cL_isRestacked 5 = .ok (.iaload, 1) := by decide +kernel
theorem dL_isRestacked_6 : decode cL_isRestacked 6 = .ok (.ifCond .eq 19, 3) := by decide +kernel
theorem dL_isRestacked_9 : decode cL_isRestacked 9 = .ok (.iload_n 2, 1) := by decide +kernel
theorem dL_isRestacked_10 : decode cL_isRestacked 10 = .ok (.iload_n 3, 1) := by decide +kernel
theorem dL_isRestacked_11 : decode cL_isRestacked 11 = .ok (.if_icmp .eq 45, 3) := by decide +kernel
theorem dL_isRestacked_14 : decode cL_isRestacked 14 = .ok (.aload_n 1, 1) := by decide +kernel
theorem dL_isRestacked_15 : decode cL_isRestacked 15 = .ok (.bipush 10, 2) := by decide +kernel
theorem dL_isRestacked_17 : decode cL_isRestacked 17 = .ok (.iload_n 3, 1) := by decide +kernel
theorem dL_isRestacked_18 : decode cL_isRestacked 18 = .ok (.iadd, 1) := by decide +kernel
theorem dL_isRestacked_19 : decode cL_isRestacked 19 = .ok (.iaload, 1) := by decide +kernel
theorem dL_isRestacked_20 : decode cL_isRestacked 20 = .ok (.bipush 12, 2) := by decide +kernel
theorem dL_isRestacked_22 : decode cL_isRestacked 22 = .ok (.if_icmp .ne 34, 3) := by decide +kernel
theorem dL_isRestacked_25 : decode cL_isRestacked 25 = .ok (.aload_n 0, 1) := by decide +kernel
theorem dL_isRestacked_26 : decode cL_isRestacked 26 = .ok (.iload_n 2, 1) := by decide +kernel
theorem dL_isRestacked_27 : decode cL_isRestacked 27 = .ok (.iload_n 3, 1) := by decide +kernel
theorem dL_isRestacked_28 : decode cL_isRestacked 28 = .ok (.invokestatic 129, 3) := by decide +kernel
theorem dL_isRestacked_31 : decode cL_isRestacked 31 = .ok (.aload_n 1, 1) := by decide +kernel
theorem dL_isRestacked_32 : decode cL_isRestacked 32 = .ok (.bipush 10, 2) := by decide +kernel
theorem dL_isRestacked_34 : decode cL_isRestacked 34 = .ok (.iload_n 2, 1) := by decide +kernel
theorem dL_isRestacked_35 : decode cL_isRestacked 35 = .ok (.iadd, 1) := by decide +kernel
theorem dL_isRestacked_36 : decode cL_isRestacked 36 = .ok (.iaload, 1) := by decide +kernel
theorem dL_isRestacked_37 : decode cL_isRestacked 37 = .ok (.ifCond .ne 8, 3) := by decide +kernel
theorem dL_isRestacked_40 : decode cL_isRestacked 40 = .ok (.ldc 20, 2) := by decide +kernel
theorem dL_isRestacked_42 : decode cL_isRestacked 42 = .ok (.goto 5, 3) := by decide +kernel
theorem dL_isRestacked_45 : decode cL_isRestacked 45 = .ok (.ldc 30, 2) := by decide +kernel
theorem dL_isRestacked_47 : decode cL_isRestacked 47 = .ok (.if_icmp .ne 7, 3) := by decide +kernel
theorem dL_isRestacked_50 : decode cL_isRestacked 50 = .ok (.iconst 1, 1) := by decide +kernel
theorem dL_isRestacked_51 : decode cL_isRestacked 51 = .ok (.goto 4, 3) := by decide +kernel
theorem dL_isRestacked_54 : decode cL_isRestacked 54 = .ok (.iconst 0, 1) := by decide +kernel
theorem dL_isRestacked_55 : decode cL_isRestacked 55 = .ok (.ireturn, 1) := by decide +kernel
theorem dL_isRestacked_56 : decode cL_isRestacked 56 = .ok (.aload_n 1, 1) := by decide +kernel
theorem dL_isRestacked_57 : decode cL_isRestacked 57 = .ok (.aload_n 1, 1) := by decide +kernel
theorem dL_isRestacked_58 : decode cL_isRestacked 58 = .ok (.iload_n 2, 1) := by decide +kernel
theorem dL_isRestacked_59 : decode cL_isRestacked 59 = .ok (.invokestatic 126, 3) := by decide +kernel
theorem dL_isRestacked_62 : decode cL_isRestacked 62 = .ok (.iaload, 1) := by decide +kernel
theorem dL_isRestacked_63 : decode cL_isRestacked 63 = .ok (.istore 4, 2) := by decide +kernel
theorem dL_isRestacked_65 : decode cL_isRestacked 65 = .ok (.aload_n 1, 1) := by decide +kernel
theorem dL_isRestacked_66 : decode cL_isRestacked 66 = .ok (.aload_n 1, 1) := by decide +kernel
theorem dL_isRestacked_67 : decode cL_isRestacked 67 = .ok (.iload_n 2, 1) := by decide +kernel
theorem dL_isRestacked_68 : decode cL_isRestacked 68 = .ok (.invokestatic 126, 3) := by decide +kernel
theorem dL_isRestacked_71 : decode cL_isRestacked 71 = .ok (.iconst 1, 1) := by decide +kernel
theorem dL_isRestacked_72 : decode cL_isRestacked 72 = .ok (.iadd, 1) := by decide +kernel
theorem dL_isRestacked_73 : decode cL_isRestacked 73 = .ok (.iaload, 1) := by decide +kernel
theorem dL_isRestacked_74 : decode cL_isRestacked 74 = .ok (.istore 5, 2) := by decide +kernel
theorem dL_isRestacked_76 : decode cL_isRestacked 76 = .ok (.aload_n 1, 1) := by decide +kernel
theorem dL_isRestacked_77 : decode cL_isRestacked 77 = .ok (.bipush 10, 2) := by decide +kernel
theorem dL_isRestacked_79 : decode cL_isRestacked 79 = .ok (.iload_n 2, 1) := by decide +kernel
theorem dL_isRestacked_80 : decode cL_isRestacked 80 = .ok (.iadd, 1) := by decide +kernel
theorem dL_isRestacked_81 : decode cL_isRestacked 81 = .ok (.dup2, 1) := by decide +kernel
theorem dL_isRestacked_82 : decode cL_isRestacked 82 = .ok (.iaload, 1) := by decide +kernel
theorem dL_isRestacked_83 : decode cL_isRestacked 83 = .ok (.iconst 1, 1) := by decide +kernel
theorem dL_isRestacked_84 : decode cL_isRestacked 84 = .ok (.isub, 1) := by decide +kernel
theorem dL_isRestacked_85 : decode cL_isRestacked 85 = .ok (.iastore, 1) := by decide +kernel
theorem dL_isRestacked_86 : decode cL_isRestacked 86 = .ok (.aload_n 1, 1) := by decide +kernel
theorem dL_isRestacked_87 : decode cL_isRestacked 87 = .ok (.bipush 10, 2) := by decide +kernel
theorem dL_isRestacked_89 : decode cL_isRestacked 89 = .ok (.iload_n 3, 1) := by decide +kernel
theorem dL_isRestacked_90 : decode cL_isRestacked 90 = .ok (.iadd, 1) := by decide +kernel
theorem dL_isRestacked_91 : decode cL_isRestacked 91 = .ok (.dup2, 1) := by decide +kernel
theorem dL_isRestacked_92 : decode cL_isRestacked 92 = .ok (.iaload, 1) := by decide +kernel
theorem dL_isRestacked_93 : decode cL_isRestacked 93 = .ok (.iconst 1, 1) := by decide +kernel
theorem dL_isRestacked_94 : decode cL_isRestacked 94 = .ok (.iadd, 1) := by decide +kernel
theorem dL_isRestacked_95 : decode cL_isRestacked 95 = .ok (.iastore, 1) := by decide +kernel
theorem dL_isRestacked_96 : decode cL_isRestacked 96 = .ok (.aload_n 1, 1) := by decide +kernel
theorem dL_isRestacked_97 : decode cL_isRestacked 97 = .ok (.aload_n 1, 1) := by decide +kernel
theorem dL_isRestacked_98 : decode cL_isRestacked 98 = .ok (.iload_n 3, 1) := by decide +kernel
theorem dL_isRestacked_99 : decode cL_isRestacked 99 = .ok (.invokestatic 126, 3) := by decide +kernel
theorem dL_isRestacked_102 : decode cL_isRestacked 102 = .ok (.iload 4, 2) := by decide +kernel
theorem dL_isRestacked_104 : decode cL_isRestacked 104 = .ok (.iastore, 1) := by decide +kernel
theorem dL_isRestacked_105 : decode cL_isRestacked 105 = .ok (.aload_n 1, 1) := by decide +kernel
theorem dL_isRestacked_106 : decode cL_isRestacked 106 = .ok (.aload_n 1, 1) := by decide +kernel
theorem dL_isRestacked_107 : decode cL_isRestacked 107 = .ok (.iload_n 3, 1) := by decide +kernel
theorem dL_isRestacked_108 : decode cL_isRestacked 108 = .ok (.invokestatic 126, 3) := by decide +kernel
theorem dL_isRestacked_111 : decode cL_isRestacked 111 = .ok (.iconst 1, 1) := by decide +kernel
theorem dL_isRestacked_112 : decode cL_isRestacked 112 = .ok (.iadd, 1) := by decide +kernel
theorem dL_isRestacked_113 : decode cL_isRestacked 113 = .ok (.iload 5, 2) := by decide +kernel
theorem dL_isRestacked_115 : decode cL_isRestacked 115 = .ok (.iastore, 1) := by decide +kernel
theorem dL_isRestacked_116 : decode cL_isRestacked 116 = .ok (.aload_n 0, 1) := by decide +kernel
theorem dL_isRestacked_117 : decode cL_isRestacked 117 = .ok (.iload_n 2, 1) := by decide +kernel
theorem dL_isRestacked_118 : decode cL_isRestacked 118 = .ok (.iload_n 3, 1) := by decide +kernel
theorem dL_isRestacked_119 : decode cL_isRestacked 119 = .ok (.invokestatic 129, 3) := by decide +kernel
theorem dL_isRestacked_122 : decode cL_isRestacked 122 = .ok (.aload_n 1, 1) := by decide +kernel
theorem dL_isRestacked_123 : decode cL_isRestacked 123 = .ok (.bipush 10, 2) := by decide +kernel
theorem dL_isRestacked_125 : decode cL_isRestacked 125 = .ok (.iload_n 3, 1) := by decide +kernel
theorem dL_isRestacked_126 : decode cL_isRestacked 126 = .ok (.iadd, 1) := by decide +kernel
theorem dL_isRestacked_127 : decode cL_isRestacked 127 = .ok (.iaload, 1) := by decide +kernel
theorem dL_isRestacked_128 : decode cL_isRestacked 128 = .ok (.if_icmp .ne 7, 3) := by decide +kernel
theorem dL_isRestacked_131 : decode cL_isRestacked 131 = .ok (.iconst 1, 1) := by decide +kernel
theorem dL_isRestacked_132 : decode cL_isRestacked 132 = .ok (.goto 4, 3) := by decide +kernel
theorem dL_isRestacked_135 : decode cL_isRestacked 135 = .ok (.iconst 0, 1) := by decide +kernel
theorem dL_isRestacked_136 : decode cL_isRestacked 136 = .ok (.ireturn, 1) := by decide +kernel
theorem dL_side_0 : decode cL_side 0 = .ok (.bipush 8, 2) := by decide +kernel
theorem dL_side_2 : decode cL_side 2 = .ok (.newarray .int, 2) := by decide +kernel
theorem dL_side_4 : decode cL_side 4 = .ok (.dup, 1) := by decide +kernel
theorem dL_side_5 : decode cL_side 5 = .ok (.iconst 0, 1) := by decide +kernel
theorem dL_side_6 : decode cL_side 6 = .ok (.iconst 0, 1) := by decide +kernel
theorem dL_side_7 : decode cL_side 7 = .ok (.iastore, 1) := by decide +kernel
theorem dL_side_8 : decode cL_side 8 = .ok (.dup, 1) := by decide +kernel
theorem dL_side_9 : decode cL_side 9 = .ok (.iconst 1, 1) := by decide +kernel
theorem dL_side_10 : decode cL_side 10 = .ok (.iconst 1, 1) := by decide +kernel
theorem dL_side_11 : decode cL_side 11 = .ok (.iastore, 1) := by decide +kernel
theorem dL_side_12 : decode cL_side 12 = .ok (.dup, 1) := by decide +kernel
theorem dL_side_13 : decode cL_side 13 = .ok (.iconst 2, 1) := by decide +kernel
theorem dL_side_14 : decode cL_side 14 = .ok (.iconst 1, 1) := by decide +kernel
theorem dL_side_15 : decode cL_side 15 = .ok (.iastore, 1) := by decide +kernel
theorem dL_side_16 : decode cL_side 16 = .ok (.dup, 1) := by decide +kernel
theorem dL_side_17 : decode cL_side 17 = .ok (.iconst 3, 1) := by decide +kernel
theorem dL_side_18 : decode cL_side 18 = .ok (.iconst 1, 1) := by decide +kernel
theorem dL_side_19 : decode cL_side 19 = .ok (.iastore, 1) := by decide +kernel
theorem dL_side_20 : decode cL_side 20 = .ok (.dup, 1) := by decide +kernel
theorem dL_side_21 : decode cL_side 21 = .ok (.iconst 4, 1) := by decide +kernel
theorem dL_side_22 : decode cL_side 22 = .ok (.iconst 0, 1) := by decide +kernel
theorem dL_side_23 : decode cL_side 23 = .ok (.iastore, 1) := by decide +kernel
theorem dL_side_24 : decode cL_side 24 = .ok (.dup, 1) := by decide +kernel
theorem dL_side_25 : decode cL_side 25 = .ok (.iconst 5, 1) := by decide +kernel
theorem dL_side_26 : decode cL_side 26 = .ok (.iconst (-1), 1) := by decide +kernel
theorem dL_side_27 : decode cL_side 27 = .ok (.iastore, 1) := by decide +kernel
theorem dL_side_28 : decode cL_side 28 = .ok (.dup, 1) := by decide +kernel
theorem dL_side_29 : decode cL_side 29 = .ok (.bipush 6, 2) := by decide +kernel
theorem dL_side_31 : decode cL_side 31 = .ok (.iconst (-1), 1) := by decide +kernel
theorem dL_side_32 : decode cL_side 32 = .ok (.iastore, 1) := by decide +kernel
theorem dL_side_33 : decode cL_side 33 = .ok (.dup, 1) := by decide +kernel
theorem dL_side_34 : decode cL_side 34 = .ok (.bipush 7, 2) := by decide +kernel
theorem dL_side_36 : decode cL_side 36 = .ok (.iconst (-1), 1) := by decide +kernel
theorem dL_side_37 : decode cL_side 37 = .ok (.iastore, 1) := by decide +kernel
theorem dL_side_38 : decode cL_side 38 = .ok (.astore_n 1, 1) := by decide +kernel
theorem dL_side_39 : decode cL_side 39 = .ok (.aload_n 1, 1) := by decide +kernel
theorem dL_side_40 : decode cL_side 40 = .ok (.iload_n 0, 1) := by decide +kernel
theorem dL_side_41 : decode cL_side 41 = .ok (.iaload, 1) := by decide +kernel
theorem dL_side_42 : decode cL_side 42 = .ok (.ireturn, 1) := by decide +kernel
set_option maxRecDepth 20000 in
theorem ggL_upward_L_side : GoodIn wsL_upward wsL_side := goodIn_ca (goodIn_r _ [4, 5] (by decide +kernel) (by decide +kernel)) (goodIn_sub (fun _ h => List.mem_cons_of_mem _ (List.mem_append_right _ h)) (by decide +kernel))
set_option maxRecDepth 20000 in
theorem gL_upward_L_side : GoodIn wsL_upward (va_wsS RL 131 yL_side wsL_side) := goodIn_app (goodIn_of _ (by decide +kernel)) ggL_upward_L_side
theorem dL_upward_0 : decode cL_upward 0 = .ok (.iload_n 0, 1) := by decide +kernel
theorem dL_upward_1 : decode cL_upward 1 = .ok (.iconst 2, 1) := by decide +kernel
theorem dL_upward_2 : decode cL_upward 2 = .ok (.iadd, 1) := by decide +kernel
theorem dL_upward_3 : decode cL_upward 3 = .ok (.bipush 8, 2) := by decide +kernel
theorem dL_upward_5 : decode cL_upward 5 = .ok (.irem, 1) := by decide +kernel
theorem dL_upward_6 : decode cL_upward 6 = .ok (.invokestatic 131, 3) := by decide +kernel
theorem dL_upward_9 : decode cL_upward 9 = .ok (.ireturn, 1) := by decide +kernel
theorem dL_fits_0 : decode cL_fits 0 = .ok (.iload_n 1, 1) := by decide +kernel
theorem dL_fits_1 : decode cL_fits 1 = .ok (.ifCond .ne 7, 3) := by decide +kernel
theorem dL_fits_4 : decode cL_fits 4 = .ok (.iconst 1, 1) := by decide +kernel
theorem dL_fits_5 : decode cL_fits 5 = .ok (.goto 18, 3) := by decide +kernel
theorem dL_fits_8 : decode cL_fits 8 = .ok (.iload_n 2, 1) := by decide +kernel
theorem dL_fits_9 : decode cL_fits 9 = .ok (.aload_n 0, 1) := by decide +kernel
theorem dL_fits_10 : decode cL_fits 10 = .ok (.sipush 1019, 3) := by decide +kernel
theorem dL_fits_13 : decode cL_fits 13 = .ok (.iload_n 1, 1) := by decide +kernel
theorem dL_fits_14 : decode cL_fits 14 = .ok (.iadd, 1) := by decide +kernel
theorem dL_fits_15 : decode cL_fits 15 = .ok (.iaload, 1) := by decide +kernel
theorem dL_fits_16 : decode cL_fits 16 = .ok (.isub, 1) := by decide +kernel
theorem dL_fits_17 : decode cL_fits 17 = .ok (.bipush 8, 2) := by decide +kernel
theorem dL_fits_19 : decode cL_fits 19 = .ok (.iadd, 1) := by decide +kernel
theorem dL_fits_20 : decode cL_fits 20 = .ok (.bipush 8, 2) := by decide +kernel
theorem dL_fits_22 : decode cL_fits 22 = .ok (.irem, 1) := by decide +kernel
theorem dL_fits_23 : decode cL_fits 23 = .ok (.istore_n 3, 1) := by decide +kernel
theorem dL_fits_24 : decode cL_fits 24 = .ok (.iload_n 3, 1) := by decide +kernel
theorem dL_fits_25 : decode cL_fits 25 = .ok (.iconst 4, 1) := by decide +kernel
theorem dL_fits_26 : decode cL_fits 26 = .ok (.irem, 1) := by decide +kernel
theorem dL_fits_27 : decode cL_fits 27 = .ok (.ifCond .eq 7, 3) := by decide +kernel
theorem dL_fits_30 : decode cL_fits 30 = .ok (.iconst 1, 1) := by decide +kernel
theorem dL_fits_31 : decode cL_fits 31 = .ok (.goto 4, 3) := by decide +kernel
theorem dL_fits_34 : decode cL_fits 34 = .ok (.iconst 0, 1) := by decide +kernel
theorem dL_fits_35 : decode cL_fits 35 = .ok (.ireturn, 1) := by decide +kernel
theorem dL_planned_0 : decode cL_planned 0 = .ok (.iconst 0, 1) := by decide +kernel
theorem dL_planned_1 : decode cL_planned 1 = .ok (.istore_n 3, 1) := by decide +kernel
theorem dL_planned_2 : decode cL_planned 2 = .ok (.iconst 0, 1) := by decide +kernel
theorem dL_planned_3 : decode cL_planned 3 = .ok (.istore 4, 2) := by decide +kernel
theorem dL_planned_5 : decode cL_planned 5 = .ok (.iload 4, 2) := by decide +kernel
theorem dL_planned_7 : decode cL_planned 7 = .ok (.iload_n 1, 1) := by decide +kernel
theorem dL_planned_8 : decode cL_planned 8 = .ok (.if_icmp .gt 33, 3) := by decide +kernel
theorem dL_planned_11 : decode cL_planned 11 = .ok (.iload 4, 2) := by decide +kernel
theorem dL_planned_13 : decode cL_planned 13 = .ok (.aload_n 0, 1) := by decide +kernel
theorem dL_planned_14 : decode cL_planned 14 = .ok (.iconst 1, 1) := by decide +kernel
theorem dL_planned_15 : decode cL_planned 15 = .ok (.iaload, 1) := by decide +kernel
theorem dL_planned_16 : decode cL_planned 16 = .ok (.if_icmp .ge 25, 3) := by decide +kernel
theorem dL_planned_19 : decode cL_planned 19 = .ok (.iload_n 3, 1) := by decide +kernel
theorem dL_planned_20 : decode cL_planned 20 = .ok (.iload_n 1, 1) := by decide +kernel
theorem dL_planned_21 : decode cL_planned 21 = .ok (.iload 4, 2) := by decide +kernel
theorem dL_planned_23 : decode cL_planned 23 = .ok (.isub, 1) := by decide +kernel
theorem dL_planned_24 : decode cL_planned 24 = .ok (.iconst 1, 1) := by decide +kernel
theorem dL_planned_25 : decode cL_planned 25 = .ok (.iadd, 1) := by decide +kernel
theorem dL_planned_26 : decode cL_planned 26 = .ok (.aload_n 0, 1) := by decide +kernel
theorem dL_planned_27 : decode cL_planned 27 = .ok (.iload_n 2, 1) := by decide +kernel
theorem dL_planned_28 : decode cL_planned 28 = .ok (.iload 4, 2) := by decide +kernel
theorem dL_planned_30 : decode cL_planned 30 = .ok (.iadd, 1) := by decide +kernel
theorem dL_planned_31 : decode cL_planned 31 = .ok (.iaload, 1) := by decide +kernel
theorem dL_planned_32 : decode cL_planned 32 = .ok (.imul, 1) := by decide +kernel
theorem dL_planned_33 : decode cL_planned 33 = .ok (.iadd, 1) := by decide +kernel
theorem dL_planned_34 : decode cL_planned 34 = .ok (.istore_n 3, 1) := by decide +kernel
theorem dL_planned_35 : decode cL_planned 35 = .ok (.iinc 4 1, 3) := by decide +kernel
theorem dL_planned_38 : decode cL_planned 38 = .ok (.goto (-33), 3) := by decide +kernel
theorem dL_planned_41 : decode cL_planned 41 = .ok (.iload_n 3, 1) := by decide +kernel
theorem dL_planned_42 : decode cL_planned 42 = .ok (.ireturn, 1) := by decide +kernel
set_option maxRecDepth 20000 in
theorem ggL_apart_L_planned : GoodIn wsL_apart wsL_planned := goodIn_ca (goodIn_r _ [4] (by decide +kernel) (by decide +kernel)) (goodIn_sub (fun _ h => List.mem_cons_of_mem _ (List.mem_append_right _ h)) (by decide +kernel))
set_option maxRecDepth 20000 in
theorem gL_apart_L_planned : GoodIn wsL_apart (va_wsS RL 134 yL_planned wsL_planned) := goodIn_app (goodIn_of _ (by decide +kernel)) ggL_apart_L_planned
theorem dL_apart_0 : decode cL_apart 0 = .ok (.iload_n 2, 1) := by decide +kernel
theorem dL_apart_1 : decode cL_apart 1 = .ok (.aload_n 0, 1) := by decide +kernel
theorem dL_apart_2 : decode cL_apart 2 = .ok (.iload_n 1, 1) := by decide +kernel
theorem dL_apart_3 : decode cL_apart 3 = .ok (.sipush 420, 3) := by decide +kernel
theorem dL_apart_6 : decode cL_apart 6 = .ok (.invokestatic 134, 3) := by decide +kernel
theorem dL_apart_9 : decode cL_apart 9 = .ok (.isub, 1) := by decide +kernel
theorem dL_apart_10 : decode cL_apart 10 = .ok (.istore 4, 2) := by decide +kernel
theorem dL_apart_12 : decode cL_apart 12 = .ok (.iload_n 3, 1) := by decide +kernel
theorem dL_apart_13 : decode cL_apart 13 = .ok (.aload_n 0, 1) := by decide +kernel
theorem dL_apart_14 : decode cL_apart 14 = .ok (.iload_n 1, 1) := by decide +kernel
theorem dL_apart_15 : decode cL_apart 15 = .ok (.sipush 620, 3) := by decide +kernel
theorem dL_apart_18 : decode cL_apart 18 = .ok (.invokestatic 134, 3) := by decide +kernel
theorem dL_apart_21 : decode cL_apart 21 = .ok (.isub, 1) := by decide +kernel
theorem dL_apart_22 : decode cL_apart 22 = .ok (.istore 5, 2) := by decide +kernel
theorem dL_apart_24 : decode cL_apart 24 = .ok (.iload 4, 2) := by decide +kernel
theorem dL_apart_26 : decode cL_apart 26 = .ok (.ifCond .ge 9, 3) := by decide +kernel
theorem dL_apart_29 : decode cL_apart 29 = .ok (.iload 4, 2) := by decide +kernel
theorem dL_apart_31 : decode cL_apart 31 = .ok (.ineg, 1) := by decide +kernel
theorem dL_apart_32 : decode cL_apart 32 = .ok (.goto 5, 3) := by decide +kernel
theorem dL_apart_35 : decode cL_apart 35 = .ok (.iload 4, 2) := by decide +kernel
theorem dL_apart_37 : decode cL_apart 37 = .ok (.iload 5, 2) := by decide +kernel
theorem dL_apart_39 : decode cL_apart 39 = .ok (.ifCond .ge 9, 3) := by decide +kernel
theorem dL_apart_42 : decode cL_apart 42 = .ok (.iload 5, 2) := by decide +kernel
theorem dL_apart_44 : decode cL_apart 44 = .ok (.ineg, 1) := by decide +kernel
theorem dL_apart_45 : decode cL_apart 45 = .ok (.goto 5, 3) := by decide +kernel
theorem dL_apart_48 : decode cL_apart 48 = .ok (.iload 5, 2) := by decide +kernel
theorem dL_apart_50 : decode cL_apart 50 = .ok (.iadd, 1) := by decide +kernel
theorem dL_apart_51 : decode cL_apart 51 = .ok (.ireturn, 1) := by decide +kernel
set_option maxRecDepth 20000 in
theorem ggL_offset_L_side : GoodIn wsL_offset wsL_side := goodIn_ca (goodIn_r _ [4, 5] (by decide +kernel) (by decide +kernel)) (goodIn_sub (fun _ h => List.mem_cons_of_mem _ (List.mem_append_right _ h)) (by decide +kernel))
set_option maxRecDepth 20000 in
theorem gL_offset_L_side : GoodIn wsL_offset (va_wsS RL 131 yL_side wsL_side) := goodIn_app (goodIn_of _ (by decide +kernel)) ggL_offset_L_side
set_option maxRecDepth 20000 in
theorem ggL_offset_L_upward : GoodIn wsL_offset wsL_upward := goodIn_ca (goodIn_r _ [8, 1, 2, 3, 4, 5] (by decide +kernel) (by decide +kernel)) (goodIn_sub (fun _ h => List.mem_cons_of_mem _ (List.mem_append_right _ h)) (by decide +kernel))
set_option maxRecDepth 20000 in
theorem gL_offset_L_upward : GoodIn wsL_offset (va_wsS RL 138 yL_upward wsL_upward) := goodIn_app (goodIn_of _ (by decide +kernel)) ggL_offset_L_upward
theorem dL_offset_0 : decode cL_offset 0 = .ok (.iconst 0, 1) := by decide +kernel
theorem dL_offset_1 : decode cL_offset 1 = .ok (.istore_n 3, 1) := by decide +kernel
theorem dL_offset_2 : decode cL_offset 2 = .ok (.iconst 0, 1) := by decide +kernel
theorem dL_offset_3 : decode cL_offset 3 = .ok (.istore 4, 2) := by decide +kernel
theorem dL_offset_5 : decode cL_offset 5 = .ok (.iload 4, 2) := by decide +kernel
theorem dL_offset_7 : decode cL_offset 7 = .ok (.iload_n 1, 1) := by decide +kernel
theorem dL_offset_8 : decode cL_offset 8 = .ok (.if_icmp .ge 59, 3) := by decide +kernel
theorem dL_offset_11 : decode cL_offset 11 = .ok (.iload_n 2, 1) := by decide +kernel
theorem dL_offset_12 : decode cL_offset 12 = .ok (.ifCond .eq 17, 3) := by decide +kernel
theorem dL_offset_15 : decode cL_offset 15 = .ok (.aload_n 0, 1) := by decide +kernel
theorem dL_offset_16 : decode cL_offset 16 = .ok (.sipush 1020, 3) := by decide +kernel
theorem dL_offset_19 : decode cL_offset 19 = .ok (.iload 4, 2) := by decide +kernel
theorem dL_offset_21 : decode cL_offset 21 = .ok (.iadd, 1) := by decide +kernel
theorem dL_offset_22 : decode cL_offset 22 = .ok (.iaload, 1) := by decide +kernel
theorem dL_offset_23 : decode cL_offset 23 = .ok (.invokestatic 131, 3) := by decide +kernel
theorem dL_offset_26 : decode cL_offset 26 = .ok (.goto 14, 3) := by decide +kernel
theorem dL_offset_29 : decode cL_offset 29 = .ok (.aload_n 0, 1) := by decide +kernel
theorem dL_offset_30 : decode cL_offset 30 = .ok (.sipush 1020, 3) := by decide +kernel
theorem dL_offset_33 : decode cL_offset 33 = .ok (.iload 4, 2) := by decide +kernel
theorem dL_offset_35 : decode cL_offset 35 = .ok (.iadd, 1) := by decide +kernel
theorem dL_offset_36 : decode cL_offset 36 = .ok (.iaload, 1) := by decide +kernel
theorem dL_offset_37 : decode cL_offset 37 = .ok (.invokestatic 138, 3) := by decide +kernel
theorem dL_offset_40 : decode cL_offset 40 = .ok (.istore 5, 2) := by decide +kernel
theorem dL_offset_42 : decode cL_offset 42 = .ok (.iload_n 3, 1) := by decide +kernel
theorem dL_offset_43 : decode cL_offset 43 = .ok (.iload_n 1, 1) := by decide +kernel
theorem dL_offset_44 : decode cL_offset 44 = .ok (.iload 4, 2) := by decide +kernel
theorem dL_offset_46 : decode cL_offset 46 = .ok (.isub, 1) := by decide +kernel
theorem dL_offset_47 : decode cL_offset 47 = .ok (.aload_n 0, 1) := by decide +kernel
theorem dL_offset_48 : decode cL_offset 48 = .ok (.sipush 1220, 3) := by decide +kernel
theorem dL_offset_51 : decode cL_offset 51 = .ok (.iload 4, 2) := by decide +kernel
theorem dL_offset_53 : decode cL_offset 53 = .ok (.iadd, 1) := by decide +kernel
theorem dL_offset_54 : decode cL_offset 54 = .ok (.iaload, 1) := by decide +kernel
theorem dL_offset_55 : decode cL_offset 55 = .ok (.imul, 1) := by decide +kernel
theorem dL_offset_56 : decode cL_offset 56 = .ok (.iload 5, 2) := by decide +kernel
theorem dL_offset_58 : decode cL_offset 58 = .ok (.imul, 1) := by decide +kernel
theorem dL_offset_59 : decode cL_offset 59 = .ok (.iadd, 1) := by decide +kernel
theorem dL_offset_60 : decode cL_offset 60 = .ok (.istore_n 3, 1) := by decide +kernel
