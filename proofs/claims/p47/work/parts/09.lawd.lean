theorem dL_isStopped_74 : decode cL_isStopped 74 = .ok (.sipush 220, 3) := by decide +kernel
theorem dL_isStopped_77 : decode cL_isStopped 77 = .ok (.aload_n 1, 1) := by decide +kernel
theorem dL_isStopped_78 : decode cL_isStopped 78 = .ok (.iconst 2, 1) := by decide +kernel
theorem dL_isStopped_79 : decode cL_isStopped 79 = .ok (.iaload, 1) := by decide +kernel
theorem dL_isStopped_80 : decode cL_isStopped 80 = .ok (.iadd, 1) := by decide +kernel
theorem dL_isStopped_81 : decode cL_isStopped 81 = .ok (.iaload, 1) := by decide +kernel
theorem dL_isStopped_82 : decode cL_isStopped 82 = .ok (.imul, 1) := by decide +kernel
theorem dL_isStopped_83 : decode cL_isStopped 83 = .ok (.bipush 50, 2) := by decide +kernel
theorem dL_isStopped_85 : decode cL_isStopped 85 = .ok (.idiv, 1) := by decide +kernel
theorem dL_isStopped_86 : decode cL_isStopped 86 = .ok (.iadd, 1) := by decide +kernel
theorem dL_isStopped_87 : decode cL_isStopped 87 = .ok (.iastore, 1) := by decide +kernel
theorem dL_isStopped_88 : decode cL_isStopped 88 = .ok (.iinc 4 1, 3) := by decide +kernel
theorem dL_isStopped_91 : decode cL_isStopped 91 = .ok (.goto (-48), 3) := by decide +kernel
theorem dL_isStopped_94 : decode cL_isStopped 94 = .ok (.aload_n 1, 1) := by decide +kernel
theorem dL_isStopped_95 : decode cL_isStopped 95 = .ok (.iconst 4, 1) := by decide +kernel
theorem dL_isStopped_96 : decode cL_isStopped 96 = .ok (.dup2, 1) := by decide +kernel
theorem dL_isStopped_97 : decode cL_isStopped 97 = .ok (.iaload, 1) := by decide +kernel
theorem dL_isStopped_98 : decode cL_isStopped 98 = .ok (.iload_n 2, 1) := by decide +kernel
theorem dL_isStopped_99 : decode cL_isStopped 99 = .ok (.iadd, 1) := by decide +kernel
theorem dL_isStopped_100 : decode cL_isStopped 100 = .ok (.iastore, 1) := by decide +kernel
theorem dL_isStopped_101 : decode cL_isStopped 101 = .ok (.aload_n 0, 1) := by decide +kernel
theorem dL_isStopped_102 : decode cL_isStopped 102 = .ok (.iload_n 2, 1) := by decide +kernel
theorem dL_isStopped_103 : decode cL_isStopped 103 = .ok (.invokestatic 168, 3) := by decide +kernel
theorem dL_isStopped_106 : decode cL_isStopped 106 = .ok (.aload_n 1, 1) := by decide +kernel
theorem dL_isStopped_107 : decode cL_isStopped 107 = .ok (.iconst 4, 1) := by decide +kernel
theorem dL_isStopped_108 : decode cL_isStopped 108 = .ok (.iaload, 1) := by decide +kernel
theorem dL_isStopped_109 : decode cL_isStopped 109 = .ok (.if_icmp .ne 7, 3) := by decide +kernel
theorem dL_isStopped_112 : decode cL_isStopped 112 = .ok (.iconst 1, 1) := by decide +kernel
theorem dL_isStopped_113 : decode cL_isStopped 113 = .ok (.goto 4, 3) := by decide +kernel
theorem dL_isStopped_116 : decode cL_isStopped 116 = .ok (.iconst 0, 1) := by decide +kernel
theorem dL_isStopped_117 : decode cL_isStopped 117 = .ok (.ireturn, 1) := by decide +kernel
set_option maxRecDepth 20000 in
theorem ggL_isHouse_L_addHouse : GoodIn wsL_isHouse wsL_addHouse := goodIn_ca (goodIn_ca (goodIn_ca (goodIn_ca (goodIn_r _ [11, 12, 13, 14, 5, 6, 7, 15, 16, 17, 18, 19, 20, 21, 22, 23, 24, 25, 26, 27, 28, 29, 30, 31, 32, 33, 34, 35, 36, 37, 38, 39, 40, 41, 42, 43, 44, 45, 46, 47, 48, 49, 50, 51, 52, 53, 54, 55, 56, 57, 58, 59, 60, 61, 62, 63, 64, 65, 66, 67, 68, 69, 70, 71, 72, 73] (by decide +kernel) (by decide +kernel)) (goodIn_sub (fun _ h => List.mem_cons_of_mem _ (List.mem_append_left _ (List.mem_append_left _ (List.mem_append_right _ h)))) (by decide +kernel))) (goodIn_sub (fun _ h => List.mem_cons_of_mem _ (List.mem_append_left _ (List.mem_append_right _ h))) (by decide +kernel))) (goodIn_sub (fun _ h => List.mem_cons_of_mem _ (List.mem_append_right _ h)) (by decide +kernel))) (goodIn_sub (fun _ h => List.mem_cons_of_mem _ (List.mem_append_left _ (List.mem_append_left _ (List.mem_append_left _ (List.mem_append_right _ h))))) (by decide +kernel))
set_option maxRecDepth 20000 in
theorem gL_isHouse_L_addHouse : GoodIn wsL_isHouse (va_wsS RL 176 yL_addHouse wsL_addHouse) := goodIn_app (goodIn_of _ (by decide +kernel)) ggL_isHouse_L_addHouse
theorem dL_isHouse_0 : decode cL_isHouse 0 = .ok (.iload_n 2, 1) := by decide +kernel
theorem dL_isHouse_1 : decode cL_isHouse 1 = .ok (.iload_n 3, 1) := by decide +kernel
theorem dL_isHouse_2 : decode cL_isHouse 2 = .ok (.invokestatic 171, 3) := by decide +kernel
theorem dL_isHouse_5 : decode cL_isHouse 5 = .ok (.aload_n 1, 1) := by decide +kernel
theorem dL_isHouse_6 : decode cL_isHouse 6 = .ok (.iconst 0, 1) := by decide +kernel
theorem dL_isHouse_7 : decode cL_isHouse 7 = .ok (.iaload, 1) := by decide +kernel
theorem dL_isHouse_8 : decode cL_isHouse 8 = .ok (.if_icmp .lt 7, 3) := by decide +kernel
theorem dL_isHouse_11 : decode cL_isHouse 11 = .ok (.iconst 1, 1) := by decide +kernel
theorem dL_isHouse_12 : decode cL_isHouse 12 = .ok (.goto 4, 3) := by decide +kernel
theorem dL_isHouse_15 : decode cL_isHouse 15 = .ok (.iconst 0, 1) := by decide +kernel
theorem dL_isHouse_16 : decode cL_isHouse 16 = .ok (.istore 6, 2) := by decide +kernel
theorem dL_isHouse_18 : decode cL_isHouse 18 = .ok (.iload 6, 2) := by decide +kernel
theorem dL_isHouse_20 : decode cL_isHouse 20 = .ok (.ifCond .ne 8, 3) := by decide +kernel
theorem dL_isHouse_23 : decode cL_isHouse 23 = .ok (.iload_n 3, 1) := by decide +kernel
theorem dL_isHouse_24 : decode cL_isHouse 24 = .ok (.iload_n 2, 1) := by decide +kernel
theorem dL_isHouse_25 : decode cL_isHouse 25 = .ok (.if_icmp .ge 34, 3) := by decide +kernel
theorem dL_isHouse_28 : decode cL_isHouse 28 = .ok (.aload_n 0, 1) := by decide +kernel
theorem dL_isHouse_29 : decode cL_isHouse 29 = .ok (.iload_n 2, 1) := by decide +kernel
theorem dL_isHouse_30 : decode cL_isHouse 30 = .ok (.iload_n 3, 1) := by decide +kernel
theorem dL_isHouse_31 : decode cL_isHouse 31 = .ok (.iload 4, 2) := by decide +kernel
theorem dL_isHouse_33 : decode cL_isHouse 33 = .ok (.iload 5, 2) := by decide +kernel
theorem dL_isHouse_35 : decode cL_isHouse 35 = .ok (.invokestatic 176, 3) := by decide +kernel
theorem dL_isHouse_38 : decode cL_isHouse 38 = .ok (.iload 6, 2) := by decide +kernel
theorem dL_isHouse_40 : decode cL_isHouse 40 = .ok (.ifCond .eq 8, 3) := by decide +kernel
theorem dL_isHouse_43 : decode cL_isHouse 43 = .ok (.ldc 17, 2) := by decide +kernel
theorem dL_isHouse_45 : decode cL_isHouse 45 = .ok (.goto 5, 3) := by decide +kernel
theorem dL_isHouse_48 : decode cL_isHouse 48 = .ok (.ldc 20, 2) := by decide +kernel
theorem dL_isHouse_50 : decode cL_isHouse 50 = .ok (.if_icmp .ne 7, 3) := by decide +kernel
theorem dL_isHouse_53 : decode cL_isHouse 53 = .ok (.iconst 1, 1) := by decide +kernel
theorem dL_isHouse_54 : decode cL_isHouse 54 = .ok (.goto 4, 3) := by decide +kernel
theorem dL_isHouse_57 : decode cL_isHouse 57 = .ok (.iconst 0, 1) := by decide +kernel
theorem dL_isHouse_58 : decode cL_isHouse 58 = .ok (.ireturn, 1) := by decide +kernel
theorem dL_isHouse_59 : decode cL_isHouse 59 = .ok (.aload_n 1, 1) := by decide +kernel
theorem dL_isHouse_60 : decode cL_isHouse 60 = .ok (.iconst 3, 1) := by decide +kernel
theorem dL_isHouse_61 : decode cL_isHouse 61 = .ok (.iaload, 1) := by decide +kernel
theorem dL_isHouse_62 : decode cL_isHouse 62 = .ok (.bipush 8, 2) := by decide +kernel
theorem dL_isHouse_64 : decode cL_isHouse 64 = .ok (.if_icmp .ne 24, 3) := by decide +kernel
theorem dL_isHouse_67 : decode cL_isHouse 67 = .ok (.aload_n 0, 1) := by decide +kernel
theorem dL_isHouse_68 : decode cL_isHouse 68 = .ok (.iload_n 2, 1) := by decide +kernel
theorem dL_isHouse_69 : decode cL_isHouse 69 = .ok (.iload_n 3, 1) := by decide +kernel
theorem dL_isHouse_70 : decode cL_isHouse 70 = .ok (.iload 4, 2) := by decide +kernel
theorem dL_isHouse_72 : decode cL_isHouse 72 = .ok (.iload 5, 2) := by decide +kernel
theorem dL_isHouse_74 : decode cL_isHouse 74 = .ok (.invokestatic 176, 3) := by decide +kernel
theorem dL_isHouse_77 : decode cL_isHouse 77 = .ok (.ldc 30, 2) := by decide +kernel
theorem dL_isHouse_79 : decode cL_isHouse 79 = .ok (.if_icmp .ne 7, 3) := by decide +kernel
theorem dL_isHouse_82 : decode cL_isHouse 82 = .ok (.iconst 1, 1) := by decide +kernel
theorem dL_isHouse_83 : decode cL_isHouse 83 = .ok (.goto 4, 3) := by decide +kernel
theorem dL_isHouse_86 : decode cL_isHouse 86 = .ok (.iconst 0, 1) := by decide +kernel
theorem dL_isHouse_87 : decode cL_isHouse 87 = .ok (.ireturn, 1) := by decide +kernel
theorem dL_isHouse_88 : decode cL_isHouse 88 = .ok (.sipush 1900, 3) := by decide +kernel
theorem dL_isHouse_91 : decode cL_isHouse 91 = .ok (.iconst 5, 1) := by decide +kernel
theorem dL_isHouse_92 : decode cL_isHouse 92 = .ok (.aload_n 1, 1) := by decide +kernel
theorem dL_isHouse_93 : decode cL_isHouse 93 = .ok (.iconst 3, 1) := by decide +kernel
theorem dL_isHouse_94 : decode cL_isHouse 94 = .ok (.iaload, 1) := by decide +kernel
theorem dL_isHouse_95 : decode cL_isHouse 95 = .ok (.imul, 1) := by decide +kernel
theorem dL_isHouse_96 : decode cL_isHouse 96 = .ok (.iadd, 1) := by decide +kernel
theorem dL_isHouse_97 : decode cL_isHouse 97 = .ok (.istore 7, 2) := by decide +kernel
theorem dL_isHouse_99 : decode cL_isHouse 99 = .ok (.aload_n 1, 1) := by decide +kernel
theorem dL_isHouse_100 : decode cL_isHouse 100 = .ok (.iload 7, 2) := by decide +kernel
theorem dL_isHouse_102 : decode cL_isHouse 102 = .ok (.iload_n 2, 1) := by decide +kernel
theorem dL_isHouse_103 : decode cL_isHouse 103 = .ok (.iastore, 1) := by decide +kernel
theorem dL_isHouse_104 : decode cL_isHouse 104 = .ok (.aload_n 1, 1) := by decide +kernel
theorem dL_isHouse_105 : decode cL_isHouse 105 = .ok (.iload 7, 2) := by decide +kernel
theorem dL_isHouse_107 : decode cL_isHouse 107 = .ok (.iconst 1, 1) := by decide +kernel
theorem dL_isHouse_108 : decode cL_isHouse 108 = .ok (.iadd, 1) := by decide +kernel
theorem dL_isHouse_109 : decode cL_isHouse 109 = .ok (.iload_n 3, 1) := by decide +kernel
theorem dL_isHouse_110 : decode cL_isHouse 110 = .ok (.iastore, 1) := by decide +kernel
theorem dL_isHouse_111 : decode cL_isHouse 111 = .ok (.aload_n 1, 1) := by decide +kernel
theorem dL_isHouse_112 : decode cL_isHouse 112 = .ok (.iload 7, 2) := by decide +kernel
theorem dL_isHouse_114 : decode cL_isHouse 114 = .ok (.iconst 2, 1) := by decide +kernel
theorem dL_isHouse_115 : decode cL_isHouse 115 = .ok (.iadd, 1) := by decide +kernel
theorem dL_isHouse_116 : decode cL_isHouse 116 = .ok (.iload 4, 2) := by decide +kernel
theorem dL_isHouse_118 : decode cL_isHouse 118 = .ok (.iastore, 1) := by decide +kernel
theorem dL_isHouse_119 : decode cL_isHouse 119 = .ok (.aload_n 1, 1) := by decide +kernel
theorem dL_isHouse_120 : decode cL_isHouse 120 = .ok (.iload 7, 2) := by decide +kernel
theorem dL_isHouse_122 : decode cL_isHouse 122 = .ok (.iconst 3, 1) := by decide +kernel
theorem dL_isHouse_123 : decode cL_isHouse 123 = .ok (.iadd, 1) := by decide +kernel
theorem dL_isHouse_124 : decode cL_isHouse 124 = .ok (.iload 5, 2) := by decide +kernel
theorem dL_isHouse_126 : decode cL_isHouse 126 = .ok (.iastore, 1) := by decide +kernel
theorem dL_isHouse_127 : decode cL_isHouse 127 = .ok (.aload_n 1, 1) := by decide +kernel
theorem dL_isHouse_128 : decode cL_isHouse 128 = .ok (.iconst 3, 1) := by decide +kernel
theorem dL_isHouse_129 : decode cL_isHouse 129 = .ok (.dup2, 1) := by decide +kernel
theorem dL_isHouse_130 : decode cL_isHouse 130 = .ok (.iaload, 1) := by decide +kernel
theorem dL_isHouse_131 : decode cL_isHouse 131 = .ok (.iconst 1, 1) := by decide +kernel
theorem dL_isHouse_132 : decode cL_isHouse 132 = .ok (.iadd, 1) := by decide +kernel
theorem dL_isHouse_133 : decode cL_isHouse 133 = .ok (.iastore, 1) := by decide +kernel
theorem dL_isHouse_134 : decode cL_isHouse 134 = .ok (.aload_n 0, 1) := by decide +kernel
theorem dL_isHouse_135 : decode cL_isHouse 135 = .ok (.iload_n 2, 1) := by decide +kernel
theorem dL_isHouse_136 : decode cL_isHouse 136 = .ok (.iload_n 3, 1) := by decide +kernel
theorem dL_isHouse_137 : decode cL_isHouse 137 = .ok (.iload 4, 2) := by decide +kernel
theorem dL_isHouse_139 : decode cL_isHouse 139 = .ok (.iload 5, 2) := by decide +kernel
theorem dL_isHouse_141 : decode cL_isHouse 141 = .ok (.invokestatic 176, 3) := by decide +kernel
theorem dL_isHouse_144 : decode cL_isHouse 144 = .ok (.aload_n 1, 1) := by decide +kernel
theorem dL_isHouse_145 : decode cL_isHouse 145 = .ok (.iconst 3, 1) := by decide +kernel
theorem dL_isHouse_146 : decode cL_isHouse 146 = .ok (.iaload, 1) := by decide +kernel
theorem dL_isHouse_147 : decode cL_isHouse 147 = .ok (.iconst 1, 1) := by decide +kernel
theorem dL_isHouse_148 : decode cL_isHouse 148 = .ok (.isub, 1) := by decide +kernel
theorem dL_isHouse_149 : decode cL_isHouse 149 = .ok (.if_icmp .ne 7, 3) := by decide +kernel
theorem dL_isHouse_152 : decode cL_isHouse 152 = .ok (.iconst 1, 1) := by decide +kernel
theorem dL_isHouse_153 : decode cL_isHouse 153 = .ok (.goto 4, 3) := by decide +kernel
theorem dL_isHouse_156 : decode cL_isHouse 156 = .ok (.iconst 0, 1) := by decide +kernel
theorem dL_isHouse_157 : decode cL_isHouse 157 = .ok (.ireturn, 1) := by decide +kernel
set_option maxRecDepth 20000 in
theorem ggL_isDone_L_in : GoodIn wsL_isDone wsL_in := goodIn_ca (goodIn_ca (goodIn_r _ [5, 6, 7, 8, 4, 9, 10, 11] (by decide +kernel) (by decide +kernel)) (goodIn_sub (fun _ h => List.mem_cons_of_mem _ (List.mem_append_left _ (List.mem_append_left _ (List.mem_append_left _ (List.mem_append_left _ (List.mem_append_left _ (List.mem_append_right _ h))))))) (by decide +kernel))) (goodIn_sub (fun _ h => List.mem_cons_of_mem _ (List.mem_append_left _ (List.mem_append_left _ (List.mem_append_left _ (List.mem_append_left _ (List.mem_append_left _ (List.mem_append_left _ (List.mem_append_right _ h)))))))) (by decide +kernel))
set_option maxRecDepth 20000 in
theorem gL_isDone_L_in : GoodIn wsL_isDone (va_wsS RL 179 yL_in wsL_in) := goodIn_app (goodIn_of _ (by decide +kernel)) ggL_isDone_L_in
set_option maxRecDepth 20000 in
theorem ggL_isDone_L_isGround : GoodIn wsL_isDone wsL_isGround := goodIn_ca (goodIn_ca (goodIn_ca (goodIn_r _ [14, 1, 15, 16, 4, 17, 18, 19, 20, 21, 22, 23, 24, 25, 26, 27, 28, 29, 30, 31, 32, 33, 34, 35, 36, 37, 38, 39, 40, 41, 42, 43, 44, 45, 46, 413, 414, 415, 416, 417, 418, 419, 420, 421, 422, 423, 424, 425, 426, 427, 428] (by decide +kernel) (by decide +kernel)) (goodIn_sub (fun _ h => List.mem_cons_of_mem _ (List.mem_append_left _ (List.mem_append_left _ (List.mem_append_left _ (List.mem_append_left _ (List.mem_append_left _ (List.mem_append_left _ (List.mem_append_right _ h)))))))) (by decide +kernel))) (goodIn_sub (fun _ h => List.mem_cons_of_mem _ (List.mem_append_left _ (List.mem_append_left _ (List.mem_append_left _ (List.mem_append_left _ (List.mem_append_right _ h)))))) (by decide +kernel))) (goodIn_sub (fun _ h => List.mem_cons_of_mem _ (List.mem_append_left _ (List.mem_append_left _ (List.mem_append_left _ (List.mem_append_right _ h))))) (by decide +kernel))
set_option maxRecDepth 20000 in
theorem gL_isDone_L_isGround : GoodIn wsL_isDone (va_wsS RL 182 yL_isGround wsL_isGround) := goodIn_app (goodIn_of _ (by decide +kernel)) ggL_isDone_L_isGround
set_option maxRecDepth 20000 in
theorem ggL_isDone_L_isCurve : GoodIn wsL_isDone wsL_isCurve := goodIn_ca (goodIn_ca (goodIn_ca (goodIn_r _ [49, 1, 50, 51, 4, 52, 18, 19, 20, 53, 54, 55, 24, 56, 26, 27, 57, 58, 30, 31, 32, 33, 34, 59, 60, 61, 62, 63, 64, 65, 42, 43, 44, 66, 67, 413, 414, 415, 416, 417, 418, 419, 420, 421, 422, 423, 424, 429, 430, 431] (by decide +kernel) (by decide +kernel)) (goodIn_sub (fun _ h => List.mem_cons_of_mem _ (List.mem_append_left _ (List.mem_append_left _ (List.mem_append_left _ (List.mem_append_left _ (List.mem_append_left _ (List.mem_append_left _ (List.mem_append_right _ h)))))))) (by decide +kernel))) (goodIn_sub (fun _ h => List.mem_cons_of_mem _ (List.mem_append_left _ (List.mem_append_left _ (List.mem_append_left _ (List.mem_append_left _ (List.mem_append_right _ h)))))) (by decide +kernel))) (goodIn_sub (fun _ h => List.mem_cons_of_mem _ (List.mem_append_left _ (List.mem_append_left _ (List.mem_append_left _ (List.mem_append_right _ h))))) (by decide +kernel))
set_option maxRecDepth 20000 in
theorem gL_isDone_L_isCurve : GoodIn wsL_isDone (va_wsS RL 186 yL_isCurve wsL_isCurve) := goodIn_app (goodIn_of _ (by decide +kernel)) ggL_isDone_L_isCurve
set_option maxRecDepth 20000 in
theorem ggL_isDone_L_isCast : GoodIn wsL_isDone wsL_isCast := goodIn_ca (goodIn_ca (goodIn_ca (goodIn_ca (goodIn_r _ [70, 71, 72, 73, 4, 74, 75, 18, 19, 20, 1, 76, 77, 78, 24, 79, 26, 27, 80, 81, 82, 83, 84, 85, 86, 87, 30, 31, 32, 33, 34, 88, 89, 90, 91, 92, 93, 94, 95, 96, 97, 98, 99, 100, 101, 102, 413, 414, 415, 416, 417, 418, 419, 420, 421, 422, 423, 424, 432, 433, 434] (by decide +kernel) (by decide +kernel)) (goodIn_sub (fun _ h => List.mem_cons_of_mem _ (List.mem_append_left _ (List.mem_append_left _ (List.mem_append_left _ (List.mem_append_left _ (List.mem_append_left _ (List.mem_append_left _ (List.mem_append_right _ h)))))))) (by decide +kernel))) (goodIn_sub (fun _ h => List.mem_cons_of_mem _ (List.mem_append_left _ (List.mem_append_left _ (List.mem_append_left _ (List.mem_append_left _ (List.mem_append_right _ h)))))) (by decide +kernel))) (goodIn_sub (fun _ h => List.mem_cons_of_mem _ (List.mem_append_left _ (List.mem_append_left _ (List.mem_append_right _ h)))) (by decide +kernel))) (goodIn_sub (fun _ h => List.mem_cons_of_mem _ (List.mem_append_left _ (List.mem_append_left _ (List.mem_append_left _ (List.mem_append_right _ h))))) (by decide +kernel))
set_option maxRecDepth 20000 in
theorem gL_isDone_L_isCast : GoodIn wsL_isDone (va_wsS RL 189 yL_isCast wsL_isCast) := goodIn_app (goodIn_of _ (by decide +kernel)) ggL_isDone_L_isCast
set_option maxRecDepth 20000 in
theorem ggL_isDone_L_isRestacked : GoodIn wsL_isDone wsL_isRestacked := goodIn_ca (goodIn_ca (goodIn_ca (goodIn_ca (goodIn_r _ [105, 1, 71, 106, 107, 4, 108, 75, 109, 19, 20, 110, 111, 112, 24, 113, 26, 27, 80, 82, 83, 84, 85, 86, 87, 114, 115, 116, 117, 118, 119, 88, 89, 90, 91, 92, 93, 120, 121, 122, 123, 98, 99, 124, 125, 126, 127, 128, 95, 96, 97, 100, 101, 102, 413, 414, 415, 416, 417, 418, 419, 420, 421, 422, 423, 424, 432, 433, 434] (by decide +kernel) (by decide +kernel)) (goodIn_sub (fun _ h => List.mem_cons_of_mem _ (List.mem_append_left _ (List.mem_append_left _ (List.mem_append_left _ (List.mem_append_left _ (List.mem_append_left _ (List.mem_append_left _ (List.mem_append_right _ h)))))))) (by decide +kernel))) (goodIn_sub (fun _ h => List.mem_cons_of_mem _ (List.mem_append_left _ (List.mem_append_left _ (List.mem_append_left _ (List.mem_append_left _ (List.mem_append_right _ h)))))) (by decide +kernel))) (goodIn_sub (fun _ h => List.mem_cons_of_mem _ (List.mem_append_left _ (List.mem_append_left _ (List.mem_append_right _ h)))) (by decide +kernel))) (goodIn_sub (fun _ h => List.mem_cons_of_mem _ (List.mem_append_left _ (List.mem_append_right _ h))) (by decide +kernel))
set_option maxRecDepth 20000 in
theorem gL_isDone_L_isRestacked : GoodIn wsL_isDone (va_wsS RL 193 yL_isRestacked wsL_isRestacked) := goodIn_app (goodIn_of _ (by decide +kernel)) ggL_isDone_L_isRestacked
set_option maxRecDepth 20000 in
theorem ggL_isDone_L_setPressure : GoodIn wsL_isDone wsL_setPressure := goodIn_ca (goodIn_r _ [131, 18, 20, 132, 133, 134, 24, 135, 136, 30, 31, 32, 33, 34, 413, 414, 415, 416, 417, 418, 419, 420, 421, 422, 423, 424] (by decide +kernel) (by decide +kernel)) (goodIn_sub (fun _ h => List.mem_cons_of_mem _ (List.mem_append_left _ (List.mem_append_left _ (List.mem_append_left _ (List.mem_append_right _ h))))) (by decide +kernel))
set_option maxRecDepth 20000 in
theorem gL_isDone_L_setPressure : GoodIn wsL_isDone (va_wsS RL 196 yL_setPressure wsL_setPressure) := goodIn_app (goodIn_of _ (by decide +kernel)) ggL_isDone_L_setPressure
set_option maxRecDepth 20000 in
theorem ggL_isDone_L_addSlurry : GoodIn wsL_isDone wsL_addSlurry := goodIn_ca (goodIn_ca (goodIn_r _ [139, 18, 19, 20, 1, 140, 141, 142, 24, 143, 26, 27, 144, 30, 31, 32, 33, 34, 413, 414, 415, 416, 417, 418, 419, 420, 421, 422, 423, 424] (by decide +kernel) (by decide +kernel)) (goodIn_sub (fun _ h => List.mem_cons_of_mem _ (List.mem_append_left _ (List.mem_append_left _ (List.mem_append_left _ (List.mem_append_left _ (List.mem_append_right _ h)))))) (by decide +kernel))) (goodIn_sub (fun _ h => List.mem_cons_of_mem _ (List.mem_append_left _ (List.mem_append_left _ (List.mem_append_left _ (List.mem_append_right _ h))))) (by decide +kernel))
set_option maxRecDepth 20000 in
theorem gL_isDone_L_addSlurry : GoodIn wsL_isDone (va_wsS RL 198 yL_addSlurry wsL_addSlurry) := goodIn_app (goodIn_of _ (by decide +kernel)) ggL_isDone_L_addSlurry
set_option maxRecDepth 20000 in
theorem ggL_isDone_L_setTolerance : GoodIn wsL_isDone wsL_setTolerance := goodIn_ca (goodIn_r _ [147, 18, 20, 148, 149, 150, 24, 151, 152, 30, 31, 32, 33, 34, 413, 414, 415, 416, 417, 418, 419, 420, 421, 422, 423, 424] (by decide +kernel) (by decide +kernel)) (goodIn_sub (fun _ h => List.mem_cons_of_mem _ (List.mem_append_left _ (List.mem_append_left _ (List.mem_append_left _ (List.mem_append_right _ h))))) (by decide +kernel))
set_option maxRecDepth 20000 in
theorem gL_isDone_L_setTolerance : GoodIn wsL_isDone (va_wsS RL 200 yL_setTolerance wsL_setTolerance) := goodIn_app (goodIn_of _ (by decide +kernel)) ggL_isDone_L_setTolerance
set_option maxRecDepth 20000 in
theorem ggL_isDone_L_isHouse : GoodIn wsL_isDone wsL_isHouse := goodIn_ca (goodIn_ca (goodIn_ca (goodIn_ca (goodIn_r _ [155, 156, 157, 43, 158, 20, 1, 71, 159, 160, 4, 161, 75, 18, 19, 162, 163, 164, 24, 165, 33, 34, 26, 27, 166, 167, 168, 169, 170, 171, 86, 87, 28, 172, 173, 174, 38, 175, 40, 30, 31, 32, 176, 177, 178, 179, 180, 181, 182, 183, 184, 185, 413, 414, 415, 416, 417, 418, 419, 420, 421, 422, 423, 424, 435, 436, 437, 438, 439, 440, 425, 426, 427, 428] (by decide +kernel) (by decide +kernel)) (goodIn_sub (fun _ h => List.mem_cons_of_mem _ (List.mem_append_left _ (List.mem_append_left _ (List.mem_append_left _ (List.mem_append_left _ (List.mem_append_left _ (List.mem_append_left _ (List.mem_append_right _ h)))))))) (by decide +kernel))) (goodIn_sub (fun _ h => List.mem_cons_of_mem _ (List.mem_append_left _ (List.mem_append_left _ (List.mem_append_left _ (List.mem_append_right _ h))))) (by decide +kernel))) (goodIn_sub (fun _ h => List.mem_cons_of_mem _ (List.mem_append_left _ (List.mem_append_left _ (List.mem_append_left _ (List.mem_append_left _ (List.mem_append_right _ h)))))) (by decide +kernel))) (goodIn_sub (fun _ h => List.mem_cons_of_mem _ (List.mem_append_left _ (List.mem_append_left _ (List.mem_append_right _ h)))) (by decide +kernel))
set_option maxRecDepth 20000 in
theorem gL_isDone_L_isHouse : GoodIn wsL_isDone (va_wsS RL 202 yL_isHouse wsL_isHouse) := goodIn_app (goodIn_of _ (by decide +kernel)) ggL_isDone_L_isHouse
set_option maxRecDepth 20000 in
theorem ggL_isDone_L_isStopped : GoodIn wsL_isDone wsL_isStopped := goodIn_ca (goodIn_ca (goodIn_ca (goodIn_r _ [188, 1, 189, 190, 4, 191, 18, 19, 20, 192, 193, 194, 24, 195, 26, 27, 81, 196, 197, 30, 31, 32, 33, 34, 198, 199, 200, 201, 28, 136, 202, 203, 204, 38, 205, 206, 157, 43, 158, 207, 208, 209, 210, 45, 211, 173, 174, 175, 40, 212, 213, 214, 215, 46, 216, 217, 218, 219, 220, 413, 414, 415, 416, 417, 418, 419, 420, 421, 422, 423, 424, 441, 442, 443, 444, 445, 446, 425, 426, 427, 428] (by decide +kernel) (by decide +kernel)) (goodIn_sub (fun _ h => List.mem_cons_of_mem _ (List.mem_append_left _ (List.mem_append_left _ (List.mem_append_left _ (List.mem_append_left _ (List.mem_append_left _ (List.mem_append_left _ (List.mem_append_right _ h)))))))) (by decide +kernel))) (goodIn_sub (fun _ h => List.mem_cons_of_mem _ (List.mem_append_left _ (List.mem_append_left _ (List.mem_append_left _ (List.mem_append_left _ (List.mem_append_right _ h)))))) (by decide +kernel))) (goodIn_sub (fun _ h => List.mem_cons_of_mem _ (List.mem_append_left _ (List.mem_append_left _ (List.mem_append_left _ (List.mem_append_right _ h))))) (by decide +kernel))
set_option maxRecDepth 20000 in
theorem gL_isDone_L_isStopped : GoodIn wsL_isDone (va_wsS RL 206 yL_isStopped wsL_isStopped) := goodIn_app (goodIn_of _ (by decide +kernel)) ggL_isDone_L_isStopped
set_option maxRecDepth 20000 in
theorem ggL_isDone_L_isLaid : GoodIn wsL_isDone wsL_isLaid := goodIn_ca (goodIn_ca (goodIn_ca (goodIn_ca (goodIn_ca (goodIn_r _ [223, 71, 224, 225, 226, 4, 227, 100, 101, 102, 228, 229, 230, 231, 232, 233, 234, 235, 236, 237, 238, 239, 240, 241, 242, 243, 244, 245, 246, 247, 248, 249, 250, 251, 252, 253, 254, 255, 75, 18, 20, 1, 256, 257, 258, 24, 259, 83, 84, 85, 86, 87, 260, 261, 262, 33, 34, 263, 264, 265, 266, 267, 196, 197, 28, 80, 82, 81, 144, 268, 152, 172, 173, 174, 38, 175, 40, 269, 270, 271, 91, 272, 99, 273, 157, 43, 158, 274, 275, 276, 277, 278, 279, 280, 281, 282, 283, 284, 285, 286, 287, 288, 289, 290, 136, 291, 292, 208, 209, 210, 45, 211, 212, 213, 214, 215, 46, 293, 294, 295, 296, 297, 298, 57, 299, 300, 301, 302, 303, 304, 305, 306, 307, 308, 309, 310, 311, 312, 313, 314, 62, 315, 64, 66, 316, 317, 318, 319, 67, 320, 321, 322, 323, 324, 325, 326, 327, 328, 329, 330, 331, 332, 333, 334, 335, 336, 337, 338, 339, 340, 98, 341, 342, 343, 344, 345, 346, 347, 348, 349, 350, 351, 352, 353, 354, 355, 356, 357, 358, 359, 360, 361, 362, 363, 364, 365, 366, 367, 368, 369, 370, 371, 372, 373, 374, 375, 376, 377, 378, 379, 380, 381, 19, 382, 383, 384, 385, 386, 387, 26, 27, 388, 389, 390, 391, 202, 203, 204, 205, 206, 207, 216, 217, 218, 219, 220, 392, 393, 394, 395, 93, 396, 397, 398, 399, 400, 401, 402, 403, 404, 405, 406, 407, 408, 409, 410, 411, 412, 125, 126, 127, 413, 414, 415, 416, 417, 418, 419, 420, 421, 422, 423, 424, 441, 442, 443, 444, 445, 446, 432, 433, 434, 425, 426, 427, 428, 447, 448, 449, 450, 429, 430, 431, 451, 452, 453, 454, 455, 456] (by decide +kernel) (by decide +kernel)) (goodIn_sub (fun _ h => List.mem_cons_of_mem _ (List.mem_append_left _ (List.mem_append_left _ (List.mem_append_left _ (List.mem_append_left _ (List.mem_append_left _ (List.mem_append_left _ (List.mem_append_right _ h)))))))) (by decide +kernel))) (goodIn_sub (fun _ h => List.mem_cons_of_mem _ (List.mem_append_left _ (List.mem_append_left _ (List.mem_append_right _ h)))) (by decide +kernel))) (goodIn_sub (fun _ h => List.mem_cons_of_mem _ (List.mem_append_left _ (List.mem_append_left _ (List.mem_append_left _ (List.mem_append_right _ h))))) (by decide +kernel))) (goodIn_sub (fun _ h => List.mem_cons_of_mem _ (List.mem_append_right _ h)) (by decide +kernel))) (goodIn_sub (fun _ h => List.mem_cons_of_mem _ (List.mem_append_left _ (List.mem_append_left _ (List.mem_append_left _ (List.mem_append_left _ (List.mem_append_right _ h)))))) (by decide +kernel))
set_option maxRecDepth 20000 in
theorem gL_isDone_L_isLaid : GoodIn wsL_isDone (va_wsS RL 210 yL_isLaid wsL_isLaid) := goodIn_app (goodIn_of _ (by decide +kernel)) ggL_isDone_L_isLaid
theorem dL_isDone_0 : decode cL_isDone 0 = .ok (.aload_n 2, 1) := by decide +kernel
theorem dL_isDone_1 : decode cL_isDone 1 = .ok (.iload_n 3, 1) := by decide +kernel
theorem dL_isDone_2 : decode cL_isDone 2 = .ok (.iconst 1, 1) := by decide +kernel
theorem dL_isDone_3 : decode cL_isDone 3 = .ok (.iadd, 1) := by decide +kernel
theorem dL_isDone_4 : decode cL_isDone 4 = .ok (.iconst 3, 1) := by decide +kernel
theorem dL_isDone_5 : decode cL_isDone 5 = .ok (.invokestatic 179, 3) := by decide +kernel
theorem dL_isDone_8 : decode cL_isDone 8 = .ok (.istore 4, 2) := by decide +kernel
theorem dL_isDone_10 : decode cL_isDone 10 = .ok (.aload_n 2, 1) := by decide +kernel
theorem dL_isDone_11 : decode cL_isDone 11 = .ok (.iload_n 3, 1) := by decide +kernel
theorem dL_isDone_12 : decode cL_isDone 12 = .ok (.bipush 16, 2) := by decide +kernel
theorem dL_isDone_14 : decode cL_isDone 14 = .ok (.invokestatic 179, 3) := by decide +kernel
theorem dL_isDone_17 : decode cL_isDone 17 = .ok (.tableswitch 409 0 11 #[63, 98, 137, 137, 137, 154, 170, 205, 277, 342, 392, 392], 63) := by decide +kernel
theorem dL_isDone_80 : decode cL_isDone 80 = .ok (.aload_n 0, 1) := by decide +kernel
theorem dL_isDone_81 : decode cL_isDone 81 = .ok (.aload_n 1, 1) := by decide +kernel
theorem dL_isDone_82 : decode cL_isDone 82 = .ok (.iconst 1, 1) := by decide +kernel
theorem dL_isDone_83 : decode cL_isDone 83 = .ok (.aload_n 2, 1) := by decide +kernel
theorem dL_isDone_84 : decode cL_isDone 84 = .ok (.iload_n 3, 1) := by decide +kernel
theorem dL_isDone_85 : decode cL_isDone 85 = .ok (.iconst 1, 1) := by decide +kernel
theorem dL_isDone_86 : decode cL_isDone 86 = .ok (.iadd, 1) := by decide +kernel
theorem dL_isDone_87 : decode cL_isDone 87 = .ok (.bipush 8, 2) := by decide +kernel
theorem dL_isDone_89 : decode cL_isDone 89 = .ok (.invokestatic 179, 3) := by decide +kernel
theorem dL_isDone_92 : decode cL_isDone 92 = .ok (.iadd, 1) := by decide +kernel
theorem dL_isDone_93 : decode cL_isDone 93 = .ok (.aload_n 2, 1) := by decide +kernel
theorem dL_isDone_94 : decode cL_isDone 94 = .ok (.iload_n 3, 1) := by decide +kernel
theorem dL_isDone_95 : decode cL_isDone 95 = .ok (.iconst 2, 1) := by decide +kernel
theorem dL_isDone_96 : decode cL_isDone 96 = .ok (.iadd, 1) := by decide +kernel
theorem dL_isDone_97 : decode cL_isDone 97 = .ok (.bipush 101, 2) := by decide +kernel
theorem dL_isDone_99 : decode cL_isDone 99 = .ok (.invokestatic 179, 3) := by decide +kernel
theorem dL_isDone_102 : decode cL_isDone 102 = .ok (.aload_n 2, 1) := by decide +kernel
theorem dL_isDone_103 : decode cL_isDone 103 = .ok (.iload_n 3, 1) := by decide +kernel
theorem dL_isDone_104 : decode cL_isDone 104 = .ok (.iconst 3, 1) := by decide +kernel
theorem dL_isDone_105 : decode cL_isDone 105 = .ok (.iadd, 1) := by decide +kernel
theorem dL_isDone_106 : decode cL_isDone 106 = .ok (.bipush 21, 2) := by decide +kernel
theorem dL_isDone_108 : decode cL_isDone 108 = .ok (.invokestatic 179, 3) := by decide +kernel
theorem dL_isDone_111 : decode cL_isDone 111 = .ok (.invokestatic 182, 3) := by decide +kernel
theorem dL_isDone_114 : decode cL_isDone 114 = .ok (.ireturn, 1) := by decide +kernel
theorem dL_isDone_115 : decode cL_isDone 115 = .ok (.aload_n 0, 1) := by decide +kernel
theorem dL_isDone_116 : decode cL_isDone 116 = .ok (.aload_n 1, 1) := by decide +kernel
theorem dL_isDone_117 : decode cL_isDone 117 = .ok (.iconst 1, 1) := by decide +kernel
theorem dL_isDone_118 : decode cL_isDone 118 = .ok (.aload_n 2, 1) := by decide +kernel
theorem dL_isDone_119 : decode cL_isDone 119 = .ok (.iload_n 3, 1) := by decide +kernel
theorem dL_isDone_120 : decode cL_isDone 120 = .ok (.iconst 1, 1) := by decide +kernel
theorem dL_isDone_121 : decode cL_isDone 121 = .ok (.iadd, 1) := by decide +kernel
theorem dL_isDone_122 : decode cL_isDone 122 = .ok (.bipush 6, 2) := by decide +kernel
theorem dL_isDone_124 : decode cL_isDone 124 = .ok (.invokestatic 179, 3) := by decide +kernel
theorem dL_isDone_127 : decode cL_isDone 127 = .ok (.iadd, 1) := by decide +kernel
theorem dL_isDone_128 : decode cL_isDone 128 = .ok (.aload_n 2, 1) := by decide +kernel
theorem dL_isDone_129 : decode cL_isDone 129 = .ok (.iload_n 3, 1) := by decide +kernel
theorem dL_isDone_130 : decode cL_isDone 130 = .ok (.iconst 2, 1) := by decide +kernel
theorem dL_isDone_131 : decode cL_isDone 131 = .ok (.iadd, 1) := by decide +kernel
theorem dL_isDone_132 : decode cL_isDone 132 = .ok (.bipush 11, 2) := by decide +kernel
theorem dL_isDone_134 : decode cL_isDone 134 = .ok (.invokestatic 179, 3) := by decide +kernel
theorem dL_isDone_137 : decode cL_isDone 137 = .ok (.iconst 5, 1) := by decide +kernel
theorem dL_isDone_138 : decode cL_isDone 138 = .ok (.isub, 1) := by decide +kernel
theorem dL_isDone_139 : decode cL_isDone 139 = .ok (.aload_n 2, 1) := by decide +kernel
theorem dL_isDone_140 : decode cL_isDone 140 = .ok (.iload_n 3, 1) := by decide +kernel
theorem dL_isDone_141 : decode cL_isDone 141 = .ok (.iconst 3, 1) := by decide +kernel
theorem dL_isDone_142 : decode cL_isDone 142 = .ok (.iadd, 1) := by decide +kernel
theorem dL_isDone_143 : decode cL_isDone 143 = .ok (.bipush 11, 2) := by decide +kernel
theorem dL_isDone_145 : decode cL_isDone 145 = .ok (.invokestatic 179, 3) := by decide +kernel
theorem dL_isDone_148 : decode cL_isDone 148 = .ok (.iconst 5, 1) := by decide +kernel
theorem dL_isDone_149 : decode cL_isDone 149 = .ok (.isub, 1) := by decide +kernel
theorem dL_isDone_150 : decode cL_isDone 150 = .ok (.invokestatic 186, 3) := by decide +kernel
theorem dL_isDone_153 : decode cL_isDone 153 = .ok (.ireturn, 1) := by decide +kernel
theorem dL_isDone_154 : decode cL_isDone 154 = .ok (.aload_n 0, 1) := by decide +kernel
theorem dL_isDone_155 : decode cL_isDone 155 = .ok (.aload_n 1, 1) := by decide +kernel
theorem dL_isDone_156 : decode cL_isDone 156 = .ok (.iload 4, 2) := by decide +kernel
theorem dL_isDone_158 : decode cL_isDone 158 = .ok (.aload_n 2, 1) := by decide +kernel
theorem dL_isDone_159 : decode cL_isDone 159 = .ok (.iload_n 3, 1) := by decide +kernel
theorem dL_isDone_160 : decode cL_isDone 160 = .ok (.iconst 2, 1) := by decide +kernel
theorem dL_isDone_161 : decode cL_isDone 161 = .ok (.iadd, 1) := by decide +kernel
theorem dL_isDone_162 : decode cL_isDone 162 = .ok (.bipush 10, 2) := by decide +kernel
theorem dL_isDone_164 : decode cL_isDone 164 = .ok (.invokestatic 179, 3) := by decide +kernel
theorem dL_isDone_167 : decode cL_isDone 167 = .ok (.invokestatic 189, 3) := by decide +kernel
theorem dL_isDone_170 : decode cL_isDone 170 = .ok (.ireturn, 1) := by decide +kernel
theorem dL_isDone_171 : decode cL_isDone 171 = .ok (.aload_n 0, 1) := by decide +kernel
theorem dL_isDone_172 : decode cL_isDone 172 = .ok (.aload_n 1, 1) := by decide +kernel
theorem dL_isDone_173 : decode cL_isDone 173 = .ok (.iload 4, 2) := by decide +kernel
theorem dL_isDone_175 : decode cL_isDone 175 = .ok (.aload_n 2, 1) := by decide +kernel
theorem dL_isDone_176 : decode cL_isDone 176 = .ok (.iload_n 3, 1) := by decide +kernel
theorem dL_isDone_177 : decode cL_isDone 177 = .ok (.iconst 2, 1) := by decide +kernel
theorem dL_isDone_178 : decode cL_isDone 178 = .ok (.iadd, 1) := by decide +kernel
theorem dL_isDone_179 : decode cL_isDone 179 = .ok (.iconst 3, 1) := by decide +kernel
theorem dL_isDone_180 : decode cL_isDone 180 = .ok (.invokestatic 179, 3) := by decide +kernel
theorem dL_isDone_183 : decode cL_isDone 183 = .ok (.invokestatic 193, 3) := by decide +kernel
theorem dL_isDone_186 : decode cL_isDone 186 = .ok (.ireturn, 1) := by decide +kernel
theorem dL_isDone_187 : decode cL_isDone 187 = .ok (.aload_n 1, 1) := by decide +kernel
theorem dL_isDone_188 : decode cL_isDone 188 = .ok (.iconst 5, 1) := by decide +kernel
theorem dL_isDone_189 : decode cL_isDone 189 = .ok (.iaload, 1) := by decide +kernel
theorem dL_isDone_190 : decode cL_isDone 190 = .ok (.istore 5, 2) := by decide +kernel
theorem dL_isDone_192 : decode cL_isDone 192 = .ok (.aload_n 1, 1) := by decide +kernel
theorem dL_isDone_193 : decode cL_isDone 193 = .ok (.iconst 5, 1) := by decide +kernel
theorem dL_isDone_194 : decode cL_isDone 194 = .ok (.aload_n 2, 1) := by decide +kernel
theorem dL_isDone_195 : decode cL_isDone 195 = .ok (.iload_n 3, 1) := by decide +kernel
theorem dL_isDone_196 : decode cL_isDone 196 = .ok (.iconst 1, 1) := by decide +kernel
theorem dL_isDone_197 : decode cL_isDone 197 = .ok (.iadd, 1) := by decide +kernel
theorem dL_isDone_198 : decode cL_isDone 198 = .ok (.bipush 101, 2) := by decide +kernel
theorem dL_isDone_200 : decode cL_isDone 200 = .ok (.invokestatic 179, 3) := by decide +kernel
theorem dL_isDone_203 : decode cL_isDone 203 = .ok (.iastore, 1) := by decide +kernel
theorem dL_isDone_204 : decode cL_isDone 204 = .ok (.aload_n 0, 1) := by decide +kernel
theorem dL_isDone_205 : decode cL_isDone 205 = .ok (.aload_n 1, 1) := by decide +kernel
theorem dL_isDone_206 : decode cL_isDone 206 = .ok (.iconst 5, 1) := by decide +kernel
theorem dL_isDone_207 : decode cL_isDone 207 = .ok (.iaload, 1) := by decide +kernel
theorem dL_isDone_208 : decode cL_isDone 208 = .ok (.invokestatic 196, 3) := by decide +kernel
theorem dL_isDone_211 : decode cL_isDone 211 = .ok (.iload 5, 2) := by decide +kernel
theorem dL_isDone_213 : decode cL_isDone 213 = .ok (.if_icmp .ne 7, 3) := by decide +kernel
theorem dL_isDone_216 : decode cL_isDone 216 = .ok (.iconst 1, 1) := by decide +kernel
theorem dL_isDone_217 : decode cL_isDone 217 = .ok (.goto 4, 3) := by decide +kernel
theorem dL_isDone_220 : decode cL_isDone 220 = .ok (.iconst 0, 1) := by decide +kernel
theorem dL_isDone_221 : decode cL_isDone 221 = .ok (.ireturn, 1) := by decide +kernel
theorem dL_isDone_222 : decode cL_isDone 222 = .ok (.iconst 1, 1) := by decide +kernel
theorem dL_isDone_223 : decode cL_isDone 223 = .ok (.aload_n 2, 1) := by decide +kernel
theorem dL_isDone_224 : decode cL_isDone 224 = .ok (.iload_n 3, 1) := by decide +kernel
theorem dL_isDone_225 : decode cL_isDone 225 = .ok (.iconst 1, 1) := by decide +kernel
theorem dL_isDone_226 : decode cL_isDone 226 = .ok (.iadd, 1) := by decide +kernel
theorem dL_isDone_227 : decode cL_isDone 227 = .ok (.sipush 300, 3) := by decide +kernel
theorem dL_isDone_230 : decode cL_isDone 230 = .ok (.invokestatic 179, 3) := by decide +kernel
theorem dL_isDone_233 : decode cL_isDone 233 = .ok (.iadd, 1) := by decide +kernel
theorem dL_isDone_234 : decode cL_isDone 234 = .ok (.istore 5, 2) := by decide +kernel
theorem dL_isDone_236 : decode cL_isDone 236 = .ok (.aload_n 1, 1) := by decide +kernel
theorem dL_isDone_237 : decode cL_isDone 237 = .ok (.bipush 6, 2) := by decide +kernel
theorem dL_isDone_239 : decode cL_isDone 239 = .ok (.iaload, 1) := by decide +kernel
theorem dL_isDone_240 : decode cL_isDone 240 = .ok (.iload 5, 2) := by decide +kernel
theorem dL_isDone_242 : decode cL_isDone 242 = .ok (.iadd, 1) := by decide +kernel
theorem dL_isDone_243 : decode cL_isDone 243 = .ok (.sipush 1000, 3) := by decide +kernel
theorem dL_isDone_246 : decode cL_isDone 246 = .ok (.if_icmp .le 20, 3) := by decide +kernel
theorem dL_isDone_249 : decode cL_isDone 249 = .ok (.aload_n 0, 1) := by decide +kernel
theorem dL_isDone_250 : decode cL_isDone 250 = .ok (.iload 5, 2) := by decide +kernel
theorem dL_isDone_252 : decode cL_isDone 252 = .ok (.invokestatic 198, 3) := by decide +kernel
theorem dL_isDone_255 : decode cL_isDone 255 = .ok (.ldc 20, 2) := by decide +kernel
theorem dL_isDone_257 : decode cL_isDone 257 = .ok (.if_icmp .ne 7, 3) := by decide +kernel
theorem dL_isDone_260 : decode cL_isDone 260 = .ok (.iconst 1, 1) := by decide +kernel
theorem dL_isDone_261 : decode cL_isDone 261 = .ok (.goto 4, 3) := by decide +kernel
theorem dL_isDone_264 : decode cL_isDone 264 = .ok (.iconst 0, 1) := by decide +kernel
theorem dL_isDone_265 : decode cL_isDone 265 = .ok (.ireturn, 1) := by decide +kernel
theorem dL_isDone_266 : decode cL_isDone 266 = .ok (.aload_n 1, 1) := by decide +kernel
theorem dL_isDone_267 : decode cL_isDone 267 = .ok (.bipush 6, 2) := by decide +kernel
theorem dL_isDone_269 : decode cL_isDone 269 = .ok (.dup2, 1) := by decide +kernel
theorem dL_isDone_270 : decode cL_isDone 270 = .ok (.iaload, 1) := by decide +kernel
theorem dL_isDone_271 : decode cL_isDone 271 = .ok (.iload 5, 2) := by decide +kernel
theorem dL_isDone_273 : decode cL_isDone 273 = .ok (.iadd, 1) := by decide +kernel
theorem dL_isDone_274 : decode cL_isDone 274 = .ok (.iastore, 1) := by decide +kernel
theorem dL_isDone_275 : decode cL_isDone 275 = .ok (.aload_n 0, 1) := by decide +kernel
theorem dL_isDone_276 : decode cL_isDone 276 = .ok (.iload 5, 2) := by decide +kernel
theorem dL_isDone_278 : decode cL_isDone 278 = .ok (.invokestatic 198, 3) := by decide +kernel
theorem dL_isDone_281 : decode cL_isDone 281 = .ok (.aload_n 1, 1) := by decide +kernel
theorem dL_isDone_282 : decode cL_isDone 282 = .ok (.bipush 6, 2) := by decide +kernel
theorem dL_isDone_284 : decode cL_isDone 284 = .ok (.iaload, 1) := by decide +kernel
theorem dL_isDone_285 : decode cL_isDone 285 = .ok (.if_icmp .ne 7, 3) := by decide +kernel
theorem dL_isDone_288 : decode cL_isDone 288 = .ok (.iconst 1, 1) := by decide +kernel
theorem dL_isDone_289 : decode cL_isDone 289 = .ok (.goto 4, 3) := by decide +kernel
theorem dL_isDone_292 : decode cL_isDone 292 = .ok (.iconst 0, 1) := by decide +kernel
theorem dL_isDone_293 : decode cL_isDone 293 = .ok (.ireturn, 1) := by decide +kernel
theorem dL_isDone_294 : decode cL_isDone 294 = .ok (.aload_n 1, 1) := by decide +kernel
theorem dL_isDone_295 : decode cL_isDone 295 = .ok (.bipush 7, 2) := by decide +kernel
theorem dL_isDone_297 : decode cL_isDone 297 = .ok (.iaload, 1) := by decide +kernel
theorem dL_isDone_298 : decode cL_isDone 298 = .ok (.istore 5, 2) := by decide +kernel
theorem dL_isDone_300 : decode cL_isDone 300 = .ok (.aload_n 1, 1) := by decide +kernel
theorem dL_isDone_301 : decode cL_isDone 301 = .ok (.bipush 7, 2) := by decide +kernel
theorem dL_isDone_303 : decode cL_isDone 303 = .ok (.aload_n 2, 1) := by decide +kernel
theorem dL_isDone_304 : decode cL_isDone 304 = .ok (.iload_n 3, 1) := by decide +kernel
theorem dL_isDone_305 : decode cL_isDone 305 = .ok (.iconst 1, 1) := by decide +kernel
theorem dL_isDone_306 : decode cL_isDone 306 = .ok (.iadd, 1) := by decide +kernel
theorem dL_isDone_307 : decode cL_isDone 307 = .ok (.iconst 3, 1) := by decide +kernel
theorem dL_isDone_308 : decode cL_isDone 308 = .ok (.invokestatic 179, 3) := by decide +kernel
theorem dL_isDone_311 : decode cL_isDone 311 = .ok (.ifCond .ne 15, 3) := by decide +kernel
theorem dL_isDone_314 : decode cL_isDone 314 = .ok (.aload_n 2, 1) := by decide +kernel
theorem dL_isDone_315 : decode cL_isDone 315 = .ok (.iload_n 3, 1) := by decide +kernel
theorem dL_isDone_316 : decode cL_isDone 316 = .ok (.iconst 2, 1) := by decide +kernel
theorem dL_isDone_317 : decode cL_isDone 317 = .ok (.iadd, 1) := by decide +kernel
theorem dL_isDone_318 : decode cL_isDone 318 = .ok (.bipush 60, 2) := by decide +kernel
theorem dL_isDone_320 : decode cL_isDone 320 = .ok (.invokestatic 179, 3) := by decide +kernel
theorem dL_isDone_323 : decode cL_isDone 323 = .ok (.goto 16, 3) := by decide +kernel
theorem dL_isDone_326 : decode cL_isDone 326 = .ok (.bipush 100, 2) := by decide +kernel
theorem dL_isDone_328 : decode cL_isDone 328 = .ok (.aload_n 2, 1) := by decide +kernel
theorem dL_isDone_329 : decode cL_isDone 329 = .ok (.iload_n 3, 1) := by decide +kernel
theorem dL_isDone_330 : decode cL_isDone 330 = .ok (.iconst 2, 1) := by decide +kernel
theorem dL_isDone_331 : decode cL_isDone 331 = .ok (.iadd, 1) := by decide +kernel
theorem dL_isDone_332 : decode cL_isDone 332 = .ok (.sipush 900, 3) := by decide +kernel
theorem dL_isDone_335 : decode cL_isDone 335 = .ok (.invokestatic 179, 3) := by decide +kernel
theorem dL_isDone_338 : decode cL_isDone 338 = .ok (.iadd, 1) := by decide +kernel
theorem dL_isDone_339 : decode cL_isDone 339 = .ok (.iastore, 1) := by decide +kernel
theorem dL_isDone_340 : decode cL_isDone 340 = .ok (.aload_n 0, 1) := by decide +kernel
theorem dL_isDone_341 : decode cL_isDone 341 = .ok (.aload_n 1, 1) := by decide +kernel
theorem dL_isDone_342 : decode cL_isDone 342 = .ok (.bipush 7, 2) := by decide +kernel
theorem dL_isDone_344 : decode cL_isDone 344 = .ok (.iaload, 1) := by decide +kernel
theorem dL_isDone_345 : decode cL_isDone 345 = .ok (.invokestatic 200, 3) := by decide +kernel
theorem dL_isDone_348 : decode cL_isDone 348 = .ok (.iload 5, 2) := by decide +kernel
theorem dL_isDone_350 : decode cL_isDone 350 = .ok (.if_icmp .ne 7, 3) := by decide +kernel
theorem dL_isDone_353 : decode cL_isDone 353 = .ok (.iconst 1, 1) := by decide +kernel
theorem dL_isDone_354 : decode cL_isDone 354 = .ok (.goto 4, 3) := by decide +kernel
theorem dL_isDone_357 : decode cL_isDone 357 = .ok (.iconst 0, 1) := by decide +kernel
theorem dL_isDone_358 : decode cL_isDone 358 = .ok (.ireturn, 1) := by decide +kernel
theorem dL_isDone_359 : decode cL_isDone 359 = .ok (.aload_n 0, 1) := by decide +kernel
theorem dL_isDone_360 : decode cL_isDone 360 = .ok (.aload_n 1, 1) := by decide +kernel
theorem dL_isDone_361 : decode cL_isDone 361 = .ok (.aload_n 2, 1) := by decide +kernel
theorem dL_isDone_362 : decode cL_isDone 362 = .ok (.iload_n 3, 1) := by decide +kernel
theorem dL_isDone_363 : decode cL_isDone 363 = .ok (.iconst 1, 1) := by decide +kernel
theorem dL_isDone_364 : decode cL_isDone 364 = .ok (.iadd, 1) := by decide +kernel
theorem dL_isDone_365 : decode cL_isDone 365 = .ok (.aload_n 1, 1) := by decide +kernel
theorem dL_isDone_366 : decode cL_isDone 366 = .ok (.iconst 0, 1) := by decide +kernel
theorem dL_isDone_367 : decode cL_isDone 367 = .ok (.iaload, 1) := by decide +kernel
theorem dL_isDone_368 : decode cL_isDone 368 = .ok (.iconst 1, 1) := by decide +kernel
theorem dL_isDone_369 : decode cL_isDone 369 = .ok (.iadd, 1) := by decide +kernel
theorem dL_isDone_370 : decode cL_isDone 370 = .ok (.invokestatic 179, 3) := by decide +kernel
theorem dL_isDone_373 : decode cL_isDone 373 = .ok (.aload_n 2, 1) := by decide +kernel
theorem dL_isDone_374 : decode cL_isDone 374 = .ok (.iload_n 3, 1) := by decide +kernel
theorem dL_isDone_375 : decode cL_isDone 375 = .ok (.iconst 2, 1) := by decide +kernel
theorem dL_isDone_376 : decode cL_isDone 376 = .ok (.iadd, 1) := by decide +kernel
theorem dL_isDone_377 : decode cL_isDone 377 = .ok (.aload_n 1, 1) := by decide +kernel
theorem dL_isDone_378 : decode cL_isDone 378 = .ok (.iconst 0, 1) := by decide +kernel
theorem dL_isDone_379 : decode cL_isDone 379 = .ok (.iaload, 1) := by decide +kernel
theorem dL_isDone_380 : decode cL_isDone 380 = .ok (.iconst 1, 1) := by decide +kernel
theorem dL_isDone_381 : decode cL_isDone 381 = .ok (.iadd, 1) := by decide +kernel
theorem dL_isDone_382 : decode cL_isDone 382 = .ok (.invokestatic 179, 3) := by decide +kernel
theorem dL_isDone_385 : decode cL_isDone 385 = .ok (.aload_n 2, 1) := by decide +kernel
theorem dL_isDone_386 : decode cL_isDone 386 = .ok (.iload_n 3, 1) := by decide +kernel
theorem dL_isDone_387 : decode cL_isDone 387 = .ok (.iconst 3, 1) := by decide +kernel
theorem dL_isDone_388 : decode cL_isDone 388 = .ok (.iadd, 1) := by decide +kernel
theorem dL_isDone_389 : decode cL_isDone 389 = .ok (.bipush 30, 2) := by decide +kernel
theorem dL_isDone_391 : decode cL_isDone 391 = .ok (.invokestatic 179, 3) := by decide +kernel
theorem dL_isDone_394 : decode cL_isDone 394 = .ok (.iconst 1, 1) := by decide +kernel
theorem dL_isDone_395 : decode cL_isDone 395 = .ok (.aload_n 2, 1) := by decide +kernel
theorem dL_isDone_396 : decode cL_isDone 396 = .ok (.iload_n 3, 1) := by decide +kernel
theorem dL_isDone_397 : decode cL_isDone 397 = .ok (.iconst 4, 1) := by decide +kernel
theorem dL_isDone_398 : decode cL_isDone 398 = .ok (.iadd, 1) := by decide +kernel
theorem dL_isDone_399 : decode cL_isDone 399 = .ok (.bipush 50, 2) := by decide +kernel
theorem dL_isDone_401 : decode cL_isDone 401 = .ok (.invokestatic 179, 3) := by decide +kernel
theorem dL_isDone_404 : decode cL_isDone 404 = .ok (.iadd, 1) := by decide +kernel
theorem dL_isDone_405 : decode cL_isDone 405 = .ok (.invokestatic 202, 3) := by decide +kernel
theorem dL_isDone_408 : decode cL_isDone 408 = .ok (.ireturn, 1) := by decide +kernel
theorem dL_isDone_409 : decode cL_isDone 409 = .ok (.aload_n 0, 1) := by decide +kernel
theorem dL_isDone_410 : decode cL_isDone 410 = .ok (.aload_n 1, 1) := by decide +kernel
theorem dL_isDone_411 : decode cL_isDone 411 = .ok (.iconst 1, 1) := by decide +kernel
theorem dL_isDone_412 : decode cL_isDone 412 = .ok (.aload_n 2, 1) := by decide +kernel
theorem dL_isDone_413 : decode cL_isDone 413 = .ok (.iload_n 3, 1) := by decide +kernel
theorem dL_isDone_414 : decode cL_isDone 414 = .ok (.iconst 1, 1) := by decide +kernel
theorem dL_isDone_415 : decode cL_isDone 415 = .ok (.iadd, 1) := by decide +kernel
theorem dL_isDone_416 : decode cL_isDone 416 = .ok (.bipush 40, 2) := by decide +kernel
theorem dL_isDone_418 : decode cL_isDone 418 = .ok (.invokestatic 179, 3) := by decide +kernel
theorem dL_isDone_421 : decode cL_isDone 421 = .ok (.iadd, 1) := by decide +kernel
theorem dL_isDone_422 : decode cL_isDone 422 = .ok (.invokestatic 206, 3) := by decide +kernel
theorem dL_isDone_425 : decode cL_isDone 425 = .ok (.ireturn, 1) := by decide +kernel
theorem dL_isDone_426 : decode cL_isDone 426 = .ok (.aload_n 0, 1) := by decide +kernel
theorem dL_isDone_427 : decode cL_isDone 427 = .ok (.aload_n 1, 1) := by decide +kernel
theorem dL_isDone_428 : decode cL_isDone 428 = .ok (.iload 4, 2) := by decide +kernel
theorem dL_isDone_430 : decode cL_isDone 430 = .ok (.aload_n 2, 1) := by decide +kernel
theorem dL_isDone_431 : decode cL_isDone 431 = .ok (.iload_n 3, 1) := by decide +kernel
theorem dL_isDone_432 : decode cL_isDone 432 = .ok (.iconst 2, 1) := by decide +kernel
theorem dL_isDone_433 : decode cL_isDone 433 = .ok (.iadd, 1) := by decide +kernel
theorem dL_isDone_434 : decode cL_isDone 434 = .ok (.bipush 8, 2) := by decide +kernel
theorem dL_isDone_436 : decode cL_isDone 436 = .ok (.invokestatic 179, 3) := by decide +kernel
theorem dL_isDone_439 : decode cL_isDone 439 = .ok (.invokestatic 210, 3) := by decide +kernel
theorem dL_isDone_442 : decode cL_isDone 442 = .ok (.ireturn, 1) := by decide +kernel
set_option maxRecDepth 20000 in
theorem ggL_begun__X8_init : GoodIn wsL_begun_ wsX8_init := goodIn_r _ [6, 7, 8, 9, 10, 11, 12, 13, 14, 15, 16, 17, 18, 19, 20, 21, 22, 23, 24, 25, 26, 27, 28, 29, 30, 31, 32, 33, 34, 35, 36, 37, 38, 39, 40, 41, 42, 43, 44, 45, 46, 47, 48, 49, 50, 51, 52, 53, 54, 55, 56, 57, 58, 59, 60, 61, 62, 63, 64, 65, 66, 67, 68, 69, 70, 71, 72, 73, 74, 75, 76, 77, 78, 79, 80, 81, 82, 83, 84, 85, 86, 87, 88, 89, 90, 91, 92, 93, 94, 95, 96, 224, 225, 226, 227, 212, 213, 214, 215, 216, 217, 218, 219, 220, 221, 222, 223, 228, 229, 230, 231, 232, 233, 234, 235, 236, 237, 238, 239, 240, 241, 242, 243, 244, 245, 246, 247, 248, 249, 250, 251, 252, 253, 254, 255, 256, 257] (by decide +kernel) (by decide +kernel)
set_option maxRecDepth 20000 in
theorem gL_begun__X8_init : GoodIn wsL_begun_ (wsX8_init) := ggL_begun__X8_init
set_option maxRecDepth 20000 in
theorem ggL_begun__L_in : GoodIn wsL_begun_ wsL_in := goodIn_ca (goodIn_ca (goodIn_r _ [100, 101, 102, 103, 99, 104, 105, 106] (by decide +kernel) (by decide +kernel)) (goodIn_sub (fun _ h => List.mem_cons_of_mem _ (List.mem_append_left _ (List.mem_append_left _ (List.mem_append_left _ (List.mem_append_right _ h))))) (by decide +kernel))) (goodIn_sub (fun _ h => List.mem_cons_of_mem _ (List.mem_append_left _ (List.mem_append_left _ (List.mem_append_left _ (List.mem_append_left _ (List.mem_append_right _ h)))))) (by decide +kernel))
set_option maxRecDepth 20000 in
theorem gL_begun__L_in : GoodIn wsL_begun_ (va_wsS RL 179 yL_in wsL_in) := goodIn_app (goodIn_of _ (by decide +kernel)) ggL_begun__L_in
set_option maxRecDepth 20000 in
theorem ggL_begun__L_isGround : GoodIn wsL_begun_ wsL_isGround := goodIn_ca (goodIn_ca (goodIn_ca (goodIn_r _ [109, 110, 111, 112, 99, 113, 114, 115, 116, 117, 118, 119, 3, 120, 121, 122, 13, 123, 124, 125, 126, 127, 128, 129, 130, 131, 12, 132, 133, 134, 135, 136, 137, 50, 51, 212, 213, 214, 215, 216, 217, 218, 219, 220, 221, 222, 223, 224, 225, 226, 227] (by decide +kernel) (by decide +kernel)) (goodIn_sub (fun _ h => List.mem_cons_of_mem _ (List.mem_append_left _ (List.mem_append_left _ (List.mem_append_left _ (List.mem_append_left _ (List.mem_append_right _ h)))))) (by decide +kernel))) (goodIn_sub (fun _ h => List.mem_cons_of_mem _ (List.mem_append_left _ (List.mem_append_left _ (List.mem_append_right _ h)))) (by decide +kernel))) (goodIn_sub (fun _ h => List.mem_cons_of_mem _ (List.mem_append_left _ (List.mem_append_right _ h))) (by decide +kernel))
set_option maxRecDepth 20000 in
theorem gL_begun__L_isGround : GoodIn wsL_begun_ (va_wsS RL 182 yL_isGround wsL_isGround) := goodIn_app (goodIn_of _ (by decide +kernel)) ggL_begun__L_isGround
set_option maxRecDepth 20000 in
theorem ggL_begun__L_isCast : GoodIn wsL_begun_ wsL_isCast := goodIn_ca (goodIn_ca (goodIn_ca (goodIn_ca (goodIn_r _ [140, 141, 142, 143, 99, 144, 145, 114, 115, 116, 110, 146, 147, 148, 3, 149, 121, 122, 25, 45, 150, 151, 152, 153, 154, 155, 124, 125, 126, 127, 128, 156, 157, 158, 24, 159, 69, 160, 161, 162, 163, 70, 71, 164, 165, 166, 212, 213, 214, 215, 216, 217, 218, 219, 220, 221, 222, 223, 237, 238, 239] (by decide +kernel) (by decide +kernel)) (goodIn_sub (fun _ h => List.mem_cons_of_mem _ (List.mem_append_left _ (List.mem_append_left _ (List.mem_append_left _ (List.mem_append_left _ (List.mem_append_right _ h)))))) (by decide +kernel))) (goodIn_sub (fun _ h => List.mem_cons_of_mem _ (List.mem_append_left _ (List.mem_append_left _ (List.mem_append_right _ h)))) (by decide +kernel))) (goodIn_sub (fun _ h => List.mem_cons_of_mem _ (List.mem_append_right _ h)) (by decide +kernel))) (goodIn_sub (fun _ h => List.mem_cons_of_mem _ (List.mem_append_left _ (List.mem_append_right _ h))) (by decide +kernel))
set_option maxRecDepth 20000 in
theorem gL_begun__L_isCast : GoodIn wsL_begun_ (va_wsS RL 189 yL_isCast wsL_isCast) := goodIn_app (goodIn_of _ (by decide +kernel)) ggL_begun__L_isCast
set_option maxRecDepth 20000 in
theorem ggL_begun__L_addSlurry : GoodIn wsL_begun_ wsL_addSlurry := goodIn_ca (goodIn_ca (goodIn_r _ [169, 114, 115, 116, 110, 170, 171, 172, 3, 173, 121, 122, 43, 124, 125, 126, 127, 128, 212, 213, 214, 215, 216, 217, 218, 219, 220, 221, 222, 223] (by decide +kernel) (by decide +kernel)) (goodIn_sub (fun _ h => List.mem_cons_of_mem _ (List.mem_append_left _ (List.mem_append_left _ (List.mem_append_right _ h)))) (by decide +kernel))) (goodIn_sub (fun _ h => List.mem_cons_of_mem _ (List.mem_append_left _ (List.mem_append_right _ h))) (by decide +kernel))
set_option maxRecDepth 20000 in
theorem gL_begun__L_addSlurry : GoodIn wsL_begun_ (va_wsS RL 198 yL_addSlurry wsL_addSlurry) := goodIn_app (goodIn_of _ (by decide +kernel)) ggL_begun__L_addSlurry
set_option maxRecDepth 20000 in
theorem ggL_begun__L_isStopped : GoodIn wsL_begun_ wsL_isStopped := goodIn_ca (goodIn_ca (goodIn_ca (goodIn_r _ [176, 110, 177, 178, 99, 179, 114, 115, 116, 180, 181, 182, 3, 183, 121, 122, 45, 29, 184, 124, 125, 126, 127, 128, 185, 186, 187, 188, 13, 42, 189, 190, 191, 12, 192, 193, 194, 136, 195, 196, 197, 198, 199, 50, 200, 201, 202, 203, 133, 204, 205, 206, 207, 51, 208, 209, 210, 211, 52, 212, 213, 214, 215, 216, 217, 218, 219, 220, 221, 222, 223, 240, 241, 242, 243, 244, 245, 224, 225, 226, 227] (by decide +kernel) (by decide +kernel)) (goodIn_sub (fun _ h => List.mem_cons_of_mem _ (List.mem_append_left _ (List.mem_append_left _ (List.mem_append_left _ (List.mem_append_left _ (List.mem_append_right _ h)))))) (by decide +kernel))) (goodIn_sub (fun _ h => List.mem_cons_of_mem _ (List.mem_append_left _ (List.mem_append_left _ (List.mem_append_right _ h)))) (by decide +kernel))) (goodIn_sub (fun _ h => List.mem_cons_of_mem _ (List.mem_append_left _ (List.mem_append_right _ h))) (by decide +kernel))
set_option maxRecDepth 20000 in
theorem gL_begun__L_isStopped : GoodIn wsL_begun_ (va_wsS RL 206 yL_isStopped wsL_isStopped) := goodIn_app (goodIn_of _ (by decide +kernel)) ggL_begun__L_isStopped
theorem dL_begun__0 : decode cL_begun_ 0 = .ok (.new 10, 3) := by decide +kernel
