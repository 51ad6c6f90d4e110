set_option maxRecDepth 20000 in
theorem ggL_law_L_taperOf : GoodIn wsL_law wsL_taperOf := goodIn_ca (goodIn_ca (goodIn_r _ [235, 150, 0, 236, 237, 238, 12, 239, 38, 240, 229, 230, 231, 232, 159, 160, 189, 861, 862, 863, 864, 865, 866, 867, 868, 869, 870, 871, 872, 889, 890, 891, 892, 893, 894] (by decide +kernel) (by decide +kernel)) (goodIn_sub (fun _ h => List.mem_append_left _ (List.mem_append_left _ (List.mem_append_left _ (List.mem_append_left _ (List.mem_append_left _ (List.mem_append_left _ (List.mem_append_left _ (List.mem_append_right _ h)))))))) (by decide +kernel))) (goodIn_sub (fun _ h => List.mem_append_left _ (List.mem_append_left _ (List.mem_append_left _ (List.mem_append_right _ h)))) (by decide +kernel))
set_option maxRecDepth 20000 in
theorem gL_law_L_taperOf : GoodIn wsL_law (va_wsS RL 216 yL_taperOf wsL_taperOf) := goodIn_app (goodIn_of _ (by decide +kernel)) ggL_law_L_taperOf
set_option maxRecDepth 20000 in
theorem ggL_law_L_xAfter : GoodIn wsL_law wsL_xAfter := goodIn_ca (goodIn_ca (goodIn_r _ [243, 150, 0, 244, 245, 246, 12, 247, 38, 248, 229, 230, 231, 232, 159, 160, 189, 861, 862, 863, 864, 865, 866, 867, 868, 869, 870, 871, 872, 889, 890, 891, 892, 893, 894] (by decide +kernel) (by decide +kernel)) (goodIn_sub (fun _ h => List.mem_append_left _ (List.mem_append_left _ (List.mem_append_left _ (List.mem_append_left _ (List.mem_append_left _ (List.mem_append_left _ (List.mem_append_left _ (List.mem_append_right _ h)))))))) (by decide +kernel))) (goodIn_sub (fun _ h => List.mem_append_left _ (List.mem_append_left _ (List.mem_append_left _ (List.mem_append_right _ h)))) (by decide +kernel))
set_option maxRecDepth 20000 in
theorem gL_law_L_xAfter : GoodIn wsL_law (va_wsS RL 218 yL_xAfter wsL_xAfter) := goodIn_app (goodIn_of _ (by decide +kernel)) ggL_law_L_xAfter
set_option maxRecDepth 20000 in
theorem ggL_law_L_yAfter : GoodIn wsL_law wsL_yAfter := goodIn_ca (goodIn_ca (goodIn_r _ [251, 150, 0, 252, 253, 254, 12, 255, 38, 256, 229, 230, 231, 232, 159, 160, 189, 861, 862, 863, 864, 865, 866, 867, 868, 869, 870, 871, 872, 889, 890, 891, 892, 893, 894] (by decide +kernel) (by decide +kernel)) (goodIn_sub (fun _ h => List.mem_append_left _ (List.mem_append_left _ (List.mem_append_left _ (List.mem_append_left _ (List.mem_append_left _ (List.mem_append_left _ (List.mem_append_left _ (List.mem_append_right _ h)))))))) (by decide +kernel))) (goodIn_sub (fun _ h => List.mem_append_left _ (List.mem_append_left _ (List.mem_append_left _ (List.mem_append_right _ h)))) (by decide +kernel))
set_option maxRecDepth 20000 in
theorem gL_law_L_yAfter : GoodIn wsL_law (va_wsS RL 220 yL_yAfter wsL_yAfter) := goodIn_app (goodIn_of _ (by decide +kernel)) ggL_law_L_yAfter
set_option maxRecDepth 20000 in
theorem zgL_law_L_xAnew_r1 : GoodIn wsL_law wsL_xAnew_r1 := goodIn_r _ [150, 0, 260, 261, 262, 12, 263, 46, 264, 229, 230, 231, 232, 159, 160, 38, 189, 265, 266, 267, 268, 228, 240, 269] (by decide +kernel) (by decide +kernel)
set_option maxRecDepth 20000 in
theorem zgL_law_L_xAnew_r2 : GoodIn wsL_law wsL_xAnew_r2 := goodIn_r _ [270, 271, 45, 272, 273, 274, 275, 276, 277, 278, 279, 280, 281, 282, 283, 284] (by decide +kernel) (by decide +kernel)
set_option maxRecDepth 20000 in
theorem ggL_law_L_xAnew : GoodIn wsL_law wsL_xAnew := goodIn_ca (goodIn_ca (goodIn_c1 (goodIn_r _ [259] (by decide +kernel) (by decide +kernel)) (goodIn_app (goodIn_app (goodIn_app (goodIn_app zgL_law_L_xAnew_r1 zgL_law_L_xAnew_r2) zgL_law_X8) zgL_law_X0) zgL_law_X6)) (goodIn_sub (fun _ h => List.mem_append_left _ (List.mem_append_left _ (List.mem_append_left _ (List.mem_append_right _ h)))) (by decide +kernel))) (goodIn_sub (fun _ h => List.mem_append_left _ (List.mem_append_left _ (List.mem_append_left _ (List.mem_append_left _ (List.mem_append_left _ (List.mem_append_left _ (List.mem_append_left _ (List.mem_append_right _ h)))))))) (by decide +kernel))
set_option maxRecDepth 20000 in
theorem gL_law_L_xAnew : GoodIn wsL_law (va_wsS RL 222 yL_xAnew wsL_xAnew) := goodIn_app (goodIn_of _ (by decide +kernel)) ggL_law_L_xAnew
set_option maxRecDepth 20000 in
theorem zgL_law_L_yAnew_r1 : GoodIn wsL_law wsL_yAnew_r1 := goodIn_r _ [150, 0, 288, 289, 290, 12, 291, 46, 292, 229, 230, 231, 232, 159, 160, 38, 189, 265, 266, 267, 268, 228, 240, 269] (by decide +kernel) (by decide +kernel)
set_option maxRecDepth 20000 in
theorem zgL_law_L_yAnew_r2 : GoodIn wsL_law wsL_yAnew_r2 := goodIn_r _ [270, 271, 45, 272, 273, 274, 275, 276, 277, 278, 279, 280, 281, 282, 283, 284] (by decide +kernel) (by decide +kernel)
set_option maxRecDepth 20000 in
theorem ggL_law_L_yAnew : GoodIn wsL_law wsL_yAnew := goodIn_ca (goodIn_ca (goodIn_c1 (goodIn_r _ [287] (by decide +kernel) (by decide +kernel)) (goodIn_app (goodIn_app (goodIn_app (goodIn_app zgL_law_L_yAnew_r1 zgL_law_L_yAnew_r2) zgL_law_X8) zgL_law_X0) zgL_law_X6)) (goodIn_sub (fun _ h => List.mem_append_left _ (List.mem_append_left _ (List.mem_append_left _ (List.mem_append_right _ h)))) (by decide +kernel))) (goodIn_sub (fun _ h => List.mem_append_left _ (List.mem_append_left _ (List.mem_append_left _ (List.mem_append_left _ (List.mem_append_left _ (List.mem_append_left _ (List.mem_append_left _ (List.mem_append_right _ h)))))))) (by decide +kernel))
set_option maxRecDepth 20000 in
theorem gL_law_L_yAnew : GoodIn wsL_law (va_wsS RL 224 yL_yAnew wsL_yAnew) := goodIn_app (goodIn_of _ (by decide +kernel)) ggL_law_L_yAnew
set_option maxRecDepth 20000 in
theorem zgL_law_L_deviationAfter_r1 : GoodIn wsL_law wsL_deviationAfter_r1 := goodIn_r _ [150, 0, 296, 297, 298, 12, 299, 38, 248, 46, 264, 300, 301, 141, 302, 256, 292, 229, 230, 231, 232, 159, 160, 189] (by decide +kernel) (by decide +kernel)
set_option maxRecDepth 20000 in
theorem zgL_law_L_deviationAfter_r2 : GoodIn wsL_law wsL_deviationAfter_r2 := goodIn_r _ [303, 304, 305, 306, 26, 269, 270, 271, 45, 272, 273, 274, 275, 276, 307, 308, 309, 25, 310, 311, 64, 312, 313, 314] (by decide +kernel) (by decide +kernel)
set_option maxRecDepth 20000 in
theorem zgL_law_L_deviationAfter_r3 : GoodIn wsL_law wsL_deviationAfter_r3 := goodIn_r _ [315, 65, 316, 282, 283, 284] (by decide +kernel) (by decide +kernel)
set_option maxRecDepth 20000 in
theorem ggL_law_L_deviationAfter : GoodIn wsL_law wsL_deviationAfter := goodIn_ca (goodIn_ca (goodIn_c1 (goodIn_r _ [295] (by decide +kernel) (by decide +kernel)) (goodIn_app (goodIn_app (goodIn_app (goodIn_app (goodIn_app zgL_law_L_deviationAfter_r1 (goodIn_app zgL_law_L_deviationAfter_r2 zgL_law_L_deviationAfter_r3)) zgL_law_X8) zgL_law_X6) zgL_law_X0) zgL_law_X3)) (goodIn_sub (fun _ h => List.mem_append_left _ (List.mem_append_left _ (List.mem_append_left _ (List.mem_append_left _ (List.mem_append_left _ (List.mem_append_left _ (List.mem_append_left _ (List.mem_append_right _ h)))))))) (by decide +kernel))) (goodIn_sub (fun _ h => List.mem_append_left _ (List.mem_append_left _ (List.mem_append_left _ (List.mem_append_right _ h)))) (by decide +kernel))
set_option maxRecDepth 20000 in
theorem gL_law_L_deviationAfter : GoodIn wsL_law (va_wsS RL 226 yL_deviationAfter wsL_deviationAfter) := goodIn_app (goodIn_of _ (by decide +kernel)) ggL_law_L_deviationAfter
set_option maxRecDepth 20000 in
theorem zgL_law_L_writeRings_r1 : GoodIn wsL_law wsL_writeRings_r1 := goodIn_r _ [150, 0, 612, 613, 614, 12, 615, 38, 189, 616, 140, 141, 142, 50, 228, 240, 617, 229, 230, 231, 232, 159, 160, 618] (by decide +kernel) (by decide +kernel)
set_option maxRecDepth 20000 in
theorem zgL_law_L_writeRings_r2 : GoodIn wsL_law wsL_writeRings_r2 := goodIn_r _ [619, 620, 49, 621, 622, 623, 624, 625, 626, 104, 627, 628, 629, 630, 631] (by decide +kernel) (by decide +kernel)
set_option maxRecDepth 20000 in
theorem ggL_law_L_writeRings : GoodIn wsL_law wsL_writeRings := goodIn_ca (goodIn_ca (goodIn_c1 (goodIn_r _ [611] (by decide +kernel) (by decide +kernel)) (goodIn_app (goodIn_app (goodIn_app (goodIn_app zgL_law_L_writeRings_r1 zgL_law_L_writeRings_r2) zgL_law_X8) zgL_law_X6) zgL_law_X5)) (goodIn_sub (fun _ h => List.mem_append_left _ (List.mem_append_left _ (List.mem_append_left _ (List.mem_append_left _ (List.mem_append_left _ (List.mem_append_left _ (List.mem_append_left _ (List.mem_append_right _ h)))))))) (by decide +kernel))) (goodIn_sub (fun _ h => List.mem_append_left _ (List.mem_append_left _ (List.mem_append_left _ (List.mem_append_right _ h)))) (by decide +kernel))
set_option maxRecDepth 20000 in
theorem gL_law_L_writeRings : GoodIn wsL_law (va_wsS RL 249 yL_writeRings wsL_writeRings) := goodIn_app (goodIn_of _ (by decide +kernel)) ggL_law_L_writeRings
set_option maxRecDepth 20000 in
theorem zgL_law_X8_isConsistent_r1 : GoodIn wsL_law wsX8_isConsistent_r1 := goodIn_r _ [46, 38, 189, 228, 240, 264, 248, 292, 256, 269, 270, 271, 45, 272, 273, 274, 275, 276, 277, 278, 279, 280, 281, 282] (by decide +kernel) (by decide +kernel)
set_option maxRecDepth 20000 in
theorem zgL_law_X8_isConsistent_r2 : GoodIn wsL_law wsX8_isConsistent_r2 := goodIn_r _ [283, 284, 523, 524, 12, 525, 300, 301, 141, 302] (by decide +kernel) (by decide +kernel)
set_option maxRecDepth 20000 in
theorem ggL_law_X8_isConsistent : GoodIn wsL_law wsX8_isConsistent := goodIn_ca (goodIn_c1 (goodIn_r _ [860] (by decide +kernel) (by decide +kernel)) (goodIn_app (goodIn_app (goodIn_app (goodIn_app zgL_law_X8_isConsistent_r1 zgL_law_X8_isConsistent_r2) zgL_law_X8) zgL_law_X6) zgL_law_X0)) (goodIn_sub (fun _ h => List.mem_append_left _ (List.mem_append_left _ (List.mem_append_left _ (List.mem_append_left _ (List.mem_append_left _ (List.mem_append_left _ (List.mem_append_left _ (List.mem_append_right _ h)))))))) (by decide +kernel))
set_option maxRecDepth 20000 in
theorem gL_law_X8_isConsistent : GoodIn wsL_law (wsV RL 294 RX8 yX8_isConsistent wsX8_isConsistent) := goodIn_app (goodIn_of _ (by decide +kernel)) ggL_law_X8_isConsistent
theorem dL_law_0 : decode cL_law 0 = .ok (.invokestatic 276, 3) := by decide +kernel
theorem dL_law_3 : decode cL_law 3 = .ok (.astore_n 1, 1) := by decide +kernel
theorem dL_law_4 : decode cL_law 4 = .ok (.aload_n 0, 1) := by decide +kernel
theorem dL_law_5 : decode cL_law 5 = .ok (.aload_n 1, 1) := by decide +kernel
theorem dL_law_6 : decode cL_law 6 = .ok (.invokestatic 280, 3) := by decide +kernel
theorem dL_law_9 : decode cL_law 9 = .ok (.astore_n 2, 1) := by decide +kernel
theorem dL_law_10 : decode cL_law 10 = .ok (.aload_n 2, 1) := by decide +kernel
theorem dL_law_11 : decode cL_law 11 = .ok (.ifnull 11, 3) := by decide +kernel
theorem dL_law_14 : decode cL_law 14 = .ok (.aload_n 2, 1) := by decide +kernel
theorem dL_law_15 : decode cL_law 15 = .ok (.aload_n 1, 1) := by decide +kernel
theorem dL_law_16 : decode cL_law 16 = .ok (.invokestatic 283, 3) := by decide +kernel
theorem dL_law_19 : decode cL_law 19 = .ok (.ifCond .ne 5, 3) := by decide +kernel
theorem dL_law_22 : decode cL_law 22 = .ok (.iconst 0, 1) := by decide +kernel
theorem dL_law_23 : decode cL_law 23 = .ok (.ireturn, 1) := by decide +kernel
theorem dL_law_24 : decode cL_law 24 = .ok (.iconst 0, 1) := by decide +kernel
theorem dL_law_25 : decode cL_law 25 = .ok (.istore_n 3, 1) := by decide +kernel
theorem dL_law_26 : decode cL_law 26 = .ok (.iload_n 3, 1) := by decide +kernel
theorem dL_law_27 : decode cL_law 27 = .ok (.bipush 50, 2) := by decide +kernel
theorem dL_law_29 : decode cL_law 29 = .ok (.if_icmp .ge 57, 3) := by decide +kernel
theorem dL_law_32 : decode cL_law 32 = .ok (.aload_n 2, 1) := by decide +kernel
theorem dL_law_33 : decode cL_law 33 = .ok (.aload_n 1, 1) := by decide +kernel
theorem dL_law_34 : decode cL_law 34 = .ok (.aload_n 0, 1) := by decide +kernel
theorem dL_law_35 : decode cL_law 35 = .ok (.bipush 30, 2) := by decide +kernel
theorem dL_law_37 : decode cL_law 37 = .ok (.iconst 5, 1) := by decide +kernel
theorem dL_law_38 : decode cL_law 38 = .ok (.iload_n 3, 1) := by decide +kernel
theorem dL_law_39 : decode cL_law 39 = .ok (.imul, 1) := by decide +kernel
theorem dL_law_40 : decode cL_law 40 = .ok (.iadd, 1) := by decide +kernel
theorem dL_law_41 : decode cL_law 41 = .ok (.invokestatic 287, 3) := by decide +kernel
theorem dL_law_44 : decode cL_law 44 = .ok (.ifCond .eq 34, 3) := by decide +kernel
theorem dL_law_47 : decode cL_law 47 = .ok (.aload_n 2, 1) := by decide +kernel
theorem dL_law_48 : decode cL_law 48 = .ok (.aload_n 1, 1) := by decide +kernel
theorem dL_law_49 : decode cL_law 49 = .ok (.invokestatic 283, 3) := by decide +kernel
theorem dL_law_52 : decode cL_law 52 = .ok (.ifCond .eq 26, 3) := by decide +kernel
theorem dL_law_55 : decode cL_law 55 = .ok (.aload_n 2, 1) := by decide +kernel
theorem dL_law_56 : decode cL_law 56 = .ok (.aload_n 1, 1) := by decide +kernel
theorem dL_law_57 : decode cL_law 57 = .ok (.aload_n 0, 1) := by decide +kernel
theorem dL_law_58 : decode cL_law 58 = .ok (.bipush 34, 2) := by decide +kernel
theorem dL_law_60 : decode cL_law 60 = .ok (.iconst 5, 1) := by decide +kernel
theorem dL_law_61 : decode cL_law 61 = .ok (.iload_n 3, 1) := by decide +kernel
theorem dL_law_62 : decode cL_law 62 = .ok (.imul, 1) := by decide +kernel
theorem dL_law_63 : decode cL_law 63 = .ok (.iadd, 1) := by decide +kernel
theorem dL_law_64 : decode cL_law 64 = .ok (.aload_n 1, 1) := by decide +kernel
theorem dL_law_65 : decode cL_law 65 = .ok (.iconst 2, 1) := by decide +kernel
theorem dL_law_66 : decode cL_law 66 = .ok (.iaload, 1) := by decide +kernel
theorem dL_law_67 : decode cL_law 67 = .ok (.iconst 1, 1) := by decide +kernel
theorem dL_law_68 : decode cL_law 68 = .ok (.iadd, 1) := by decide +kernel
theorem dL_law_69 : decode cL_law 69 = .ok (.invokestatic 179, 3) := by decide +kernel
theorem dL_law_72 : decode cL_law 72 = .ok (.invokestatic 291, 3) := by decide +kernel
theorem dL_law_75 : decode cL_law 75 = .ok (.ifCond .ne 5, 3) := by decide +kernel
theorem dL_law_78 : decode cL_law 78 = .ok (.iconst 0, 1) := by decide +kernel
theorem dL_law_79 : decode cL_law 79 = .ok (.ireturn, 1) := by decide +kernel
theorem dL_law_80 : decode cL_law 80 = .ok (.iinc 3 1, 3) := by decide +kernel
theorem dL_law_83 : decode cL_law 83 = .ok (.goto (-57), 3) := by decide +kernel
theorem dL_law_86 : decode cL_law 86 = .ok (.aload_n 2, 1) := by decide +kernel
theorem dL_law_87 : decode cL_law 87 = .ok (.iconst 0, 1) := by decide +kernel
theorem dL_law_88 : decode cL_law 88 = .ok (.iconst 0, 1) := by decide +kernel
theorem dL_law_89 : decode cL_law 89 = .ok (.iconst 0, 1) := by decide +kernel
theorem dL_law_90 : decode cL_law 90 = .ok (.invokestatic 118, 3) := by decide +kernel
theorem dL_law_93 : decode cL_law 93 = .ok (.ldc 17, 2) := by decide +kernel
theorem dL_law_95 : decode cL_law 95 = .ok (.if_icmp .ne 180, 3) := by decide +kernel
theorem dL_law_98 : decode cL_law 98 = .ok (.aload_n 2, 1) := by decide +kernel
theorem dL_law_99 : decode cL_law 99 = .ok (.iconst 1, 1) := by decide +kernel
theorem dL_law_100 : decode cL_law 100 = .ok (.bipush 101, 2) := by decide +kernel
theorem dL_law_102 : decode cL_law 102 = .ok (.iconst 0, 1) := by decide +kernel
theorem dL_law_103 : decode cL_law 103 = .ok (.invokestatic 118, 3) := by decide +kernel
theorem dL_law_106 : decode cL_law 106 = .ok (.ldc 17, 2) := by decide +kernel
theorem dL_law_108 : decode cL_law 108 = .ok (.if_icmp .ne 167, 3) := by decide +kernel
theorem dL_law_111 : decode cL_law 111 = .ok (.aload_n 2, 1) := by decide +kernel
theorem dL_law_112 : decode cL_law 112 = .ok (.iconst 1, 1) := by decide +kernel
theorem dL_law_113 : decode cL_law 113 = .ok (.iconst 0, 1) := by decide +kernel
theorem dL_law_114 : decode cL_law 114 = .ok (.bipush 21, 2) := by decide +kernel
theorem dL_law_116 : decode cL_law 116 = .ok (.invokestatic 118, 3) := by decide +kernel
theorem dL_law_119 : decode cL_law 119 = .ok (.ldc 17, 2) := by decide +kernel
theorem dL_law_121 : decode cL_law 121 = .ok (.if_icmp .ne 154, 3) := by decide +kernel
theorem dL_law_124 : decode cL_law 124 = .ok (.aload_n 2, 1) := by decide +kernel
theorem dL_law_125 : decode cL_law 125 = .ok (.bipush 51, 2) := by decide +kernel
theorem dL_law_127 : decode cL_law 127 = .ok (.iconst 0, 1) := by decide +kernel
theorem dL_law_128 : decode cL_law 128 = .ok (.iconst 0, 1) := by decide +kernel
theorem dL_law_129 : decode cL_law 129 = .ok (.invokestatic 121, 3) := by decide +kernel
theorem dL_law_132 : decode cL_law 132 = .ok (.ldc 17, 2) := by decide +kernel
theorem dL_law_134 : decode cL_law 134 = .ok (.if_icmp .ne 141, 3) := by decide +kernel
theorem dL_law_137 : decode cL_law 137 = .ok (.aload_n 2, 1) := by decide +kernel
theorem dL_law_138 : decode cL_law 138 = .ok (.iconst 1, 1) := by decide +kernel
theorem dL_law_139 : decode cL_law 139 = .ok (.bipush 6, 2) := by decide +kernel
theorem dL_law_141 : decode cL_law 141 = .ok (.iconst 0, 1) := by decide +kernel
theorem dL_law_142 : decode cL_law 142 = .ok (.invokestatic 121, 3) := by decide +kernel
theorem dL_law_145 : decode cL_law 145 = .ok (.ldc 17, 2) := by decide +kernel
theorem dL_law_147 : decode cL_law 147 = .ok (.if_icmp .ne 128, 3) := by decide +kernel
theorem dL_law_150 : decode cL_law 150 = .ok (.aload_n 2, 1) := by decide +kernel
theorem dL_law_151 : decode cL_law 151 = .ok (.iconst 3, 1) := by decide +kernel
theorem dL_law_152 : decode cL_law 152 = .ok (.iconst 0, 1) := by decide +kernel
theorem dL_law_153 : decode cL_law 153 = .ok (.invokestatic 123, 3) := by decide +kernel
theorem dL_law_156 : decode cL_law 156 = .ok (.ldc 17, 2) := by decide +kernel
theorem dL_law_158 : decode cL_law 158 = .ok (.if_icmp .ne 117, 3) := by decide +kernel
theorem dL_law_161 : decode cL_law 161 = .ok (.aload_n 2, 1) := by decide +kernel
theorem dL_law_162 : decode cL_law 162 = .ok (.iconst 0, 1) := by decide +kernel
theorem dL_law_163 : decode cL_law 163 = .ok (.bipush 10, 2) := by decide +kernel
theorem dL_law_165 : decode cL_law 165 = .ok (.invokestatic 123, 3) := by decide +kernel
theorem dL_law_168 : decode cL_law 168 = .ok (.ldc 20, 2) := by decide +kernel
theorem dL_law_170 : decode cL_law 170 = .ok (.if_icmp .ne 105, 3) := by decide +kernel
theorem dL_law_173 : decode cL_law 173 = .ok (.aload_n 2, 1) := by decide +kernel
theorem dL_law_174 : decode cL_law 174 = .ok (.iconst (-1), 1) := by decide +kernel
theorem dL_law_175 : decode cL_law 175 = .ok (.invokestatic 230, 3) := by decide +kernel
theorem dL_law_178 : decode cL_law 178 = .ok (.ldc 17, 2) := by decide +kernel
theorem dL_law_180 : decode cL_law 180 = .ok (.if_icmp .ne 95, 3) := by decide +kernel
theorem dL_law_183 : decode cL_law 183 = .ok (.aload_n 2, 1) := by decide +kernel
theorem dL_law_184 : decode cL_law 184 = .ok (.iconst 3, 1) := by decide +kernel
theorem dL_law_185 : decode cL_law 185 = .ok (.iconst 0, 1) := by decide +kernel
theorem dL_law_186 : decode cL_law 186 = .ok (.invokestatic 228, 3) := by decide +kernel
theorem dL_law_189 : decode cL_law 189 = .ok (.ldc 17, 2) := by decide +kernel
theorem dL_law_191 : decode cL_law 191 = .ok (.if_icmp .ne 84, 3) := by decide +kernel
theorem dL_law_194 : decode cL_law 194 = .ok (.aload_n 2, 1) := by decide +kernel
theorem dL_law_195 : decode cL_law 195 = .ok (.iconst (-1), 1) := by decide +kernel
theorem dL_law_196 : decode cL_law 196 = .ok (.invokestatic 232, 3) := by decide +kernel
theorem dL_law_199 : decode cL_law 199 = .ok (.ldc 17, 2) := by decide +kernel
theorem dL_law_201 : decode cL_law 201 = .ok (.if_icmp .ne 74, 3) := by decide +kernel
theorem dL_law_204 : decode cL_law 204 = .ok (.aload_n 2, 1) := by decide +kernel
theorem dL_law_205 : decode cL_law 205 = .ok (.iconst 0, 1) := by decide +kernel
theorem dL_law_206 : decode cL_law 206 = .ok (.iconst 3, 1) := by decide +kernel
theorem dL_law_207 : decode cL_law 207 = .ok (.invokestatic 129, 3) := by decide +kernel
theorem dL_law_210 : decode cL_law 210 = .ok (.ldc 17, 2) := by decide +kernel
theorem dL_law_212 : decode cL_law 212 = .ok (.if_icmp .ne 63, 3) := by decide +kernel
theorem dL_law_215 : decode cL_law 215 = .ok (.aload_n 2, 1) := by decide +kernel
theorem dL_law_216 : decode cL_law 216 = .ok (.bipush 101, 2) := by decide +kernel
theorem dL_law_218 : decode cL_law 218 = .ok (.invokestatic 196, 3) := by decide +kernel
theorem dL_law_221 : decode cL_law 221 = .ok (.ldc 17, 2) := by decide +kernel
theorem dL_law_223 : decode cL_law 223 = .ok (.if_icmp .ne 52, 3) := by decide +kernel
theorem dL_law_226 : decode cL_law 226 = .ok (.aload_n 2, 1) := by decide +kernel
theorem dL_law_227 : decode cL_law 227 = .ok (.sipush 501, 3) := by decide +kernel
theorem dL_law_230 : decode cL_law 230 = .ok (.invokestatic 198, 3) := by decide +kernel
theorem dL_law_233 : decode cL_law 233 = .ok (.ldc 17, 2) := by decide +kernel
theorem dL_law_235 : decode cL_law 235 = .ok (.if_icmp .ne 40, 3) := by decide +kernel
theorem dL_law_238 : decode cL_law 238 = .ok (.aload_n 2, 1) := by decide +kernel
theorem dL_law_239 : decode cL_law 239 = .ok (.iconst (-1), 1) := by decide +kernel
theorem dL_law_240 : decode cL_law 240 = .ok (.invokestatic 200, 3) := by decide +kernel
theorem dL_law_243 : decode cL_law 243 = .ok (.ldc 17, 2) := by decide +kernel
theorem dL_law_245 : decode cL_law 245 = .ok (.if_icmp .ne 30, 3) := by decide +kernel
theorem dL_law_248 : decode cL_law 248 = .ok (.aload_n 2, 1) := by decide +kernel
theorem dL_law_249 : decode cL_law 249 = .ok (.iconst 3, 1) := by decide +kernel
theorem dL_law_250 : decode cL_law 250 = .ok (.iconst 0, 1) := by decide +kernel
theorem dL_law_251 : decode cL_law 251 = .ok (.invokestatic 164, 3) := by decide +kernel
theorem dL_law_254 : decode cL_law 254 = .ok (.ldc 17, 2) := by decide +kernel
theorem dL_law_256 : decode cL_law 256 = .ok (.if_icmp .ne 19, 3) := by decide +kernel
theorem dL_law_259 : decode cL_law 259 = .ok (.aload_n 2, 1) := by decide +kernel
theorem dL_law_260 : decode cL_law 260 = .ok (.iconst 0, 1) := by decide +kernel
theorem dL_law_261 : decode cL_law 261 = .ok (.bipush 8, 2) := by decide +kernel
theorem dL_law_263 : decode cL_law 263 = .ok (.invokestatic 164, 3) := by decide +kernel
theorem dL_law_266 : decode cL_law 266 = .ok (.ldc 20, 2) := by decide +kernel
theorem dL_law_268 : decode cL_law 268 = .ok (.if_icmp .ne 7, 3) := by decide +kernel
theorem dL_law_271 : decode cL_law 271 = .ok (.iconst 1, 1) := by decide +kernel
theorem dL_law_272 : decode cL_law 272 = .ok (.goto 4, 3) := by decide +kernel
theorem dL_law_275 : decode cL_law 275 = .ok (.iconst 0, 1) := by decide +kernel
theorem dL_law_276 : decode cL_law 276 = .ok (.istore_n 3, 1) := by decide +kernel
theorem dL_law_277 : decode cL_law 277 = .ok (.iload_n 3, 1) := by decide +kernel
theorem dL_law_278 : decode cL_law 278 = .ok (.ifCond .eq 146, 3) := by decide +kernel
theorem dL_law_281 : decode cL_law 281 = .ok (.aload_n 2, 1) := by decide +kernel
theorem dL_law_282 : decode cL_law 282 = .ok (.iconst (-1), 1) := by decide +kernel
theorem dL_law_283 : decode cL_law 283 = .ok (.bipush 9, 2) := by decide +kernel
theorem dL_law_285 : decode cL_law 285 = .ok (.invokestatic 166, 3) := by decide +kernel
theorem dL_law_288 : decode cL_law 288 = .ok (.ldc 17, 2) := by decide +kernel
theorem dL_law_290 : decode cL_law 290 = .ok (.if_icmp .ne 134, 3) := by decide +kernel
theorem dL_law_293 : decode cL_law 293 = .ok (.aload_n 2, 1) := by decide +kernel
theorem dL_law_294 : decode cL_law 294 = .ok (.iconst 0, 1) := by decide +kernel
theorem dL_law_295 : decode cL_law 295 = .ok (.iconst (-1), 1) := by decide +kernel
theorem dL_law_296 : decode cL_law 296 = .ok (.invokestatic 166, 3) := by decide +kernel
theorem dL_law_299 : decode cL_law 299 = .ok (.ldc 20, 2) := by decide +kernel
theorem dL_law_301 : decode cL_law 301 = .ok (.if_icmp .ne 123, 3) := by decide +kernel
theorem dL_law_304 : decode cL_law 304 = .ok (.aload_n 2, 1) := by decide +kernel
theorem dL_law_305 : decode cL_law 305 = .ok (.iconst 0, 1) := by decide +kernel
theorem dL_law_306 : decode cL_law 306 = .ok (.invokestatic 168, 3) := by decide +kernel
theorem dL_law_309 : decode cL_law 309 = .ok (.ldc 17, 2) := by decide +kernel
theorem dL_law_311 : decode cL_law 311 = .ok (.if_icmp .ne 113, 3) := by decide +kernel
theorem dL_law_314 : decode cL_law 314 = .ok (.aload_n 2, 1) := by decide +kernel
theorem dL_law_315 : decode cL_law 315 = .ok (.bipush 101, 2) := by decide +kernel
theorem dL_law_317 : decode cL_law 317 = .ok (.invokestatic 168, 3) := by decide +kernel
theorem dL_law_320 : decode cL_law 320 = .ok (.ldc 17, 2) := by decide +kernel
theorem dL_law_322 : decode cL_law 322 = .ok (.if_icmp .ne 102, 3) := by decide +kernel
theorem dL_law_325 : decode cL_law 325 = .ok (.aload_n 2, 1) := by decide +kernel
theorem dL_law_326 : decode cL_law 326 = .ok (.aload_n 1, 1) := by decide +kernel
theorem dL_law_327 : decode cL_law 327 = .ok (.iconst 2, 1) := by decide +kernel
theorem dL_law_328 : decode cL_law 328 = .ok (.iaload, 1) := by decide +kernel
theorem dL_law_329 : decode cL_law 329 = .ok (.invokestatic 214, 3) := by decide +kernel
theorem dL_law_332 : decode cL_law 332 = .ok (.ldc 17, 2) := by decide +kernel
theorem dL_law_334 : decode cL_law 334 = .ok (.if_icmp .ne 90, 3) := by decide +kernel
theorem dL_law_337 : decode cL_law 337 = .ok (.aload_n 2, 1) := by decide +kernel
theorem dL_law_338 : decode cL_law 338 = .ok (.iconst (-1), 1) := by decide +kernel
theorem dL_law_339 : decode cL_law 339 = .ok (.invokestatic 216, 3) := by decide +kernel
theorem dL_law_342 : decode cL_law 342 = .ok (.ldc 17, 2) := by decide +kernel
theorem dL_law_344 : decode cL_law 344 = .ok (.if_icmp .ne 80, 3) := by decide +kernel
theorem dL_law_347 : decode cL_law 347 = .ok (.aload_n 2, 1) := by decide +kernel
theorem dL_law_348 : decode cL_law 348 = .ok (.aload_n 1, 1) := by decide +kernel
theorem dL_law_349 : decode cL_law 349 = .ok (.iconst 2, 1) := by decide +kernel
theorem dL_law_350 : decode cL_law 350 = .ok (.iaload, 1) := by decide +kernel
theorem dL_law_351 : decode cL_law 351 = .ok (.invokestatic 218, 3) := by decide +kernel
theorem dL_law_354 : decode cL_law 354 = .ok (.ldc 17, 2) := by decide +kernel
theorem dL_law_356 : decode cL_law 356 = .ok (.if_icmp .ne 68, 3) := by decide +kernel
theorem dL_law_359 : decode cL_law 359 = .ok (.aload_n 2, 1) := by decide +kernel
theorem dL_law_360 : decode cL_law 360 = .ok (.iconst (-1), 1) := by decide +kernel
theorem dL_law_361 : decode cL_law 361 = .ok (.invokestatic 220, 3) := by decide +kernel
theorem dL_law_364 : decode cL_law 364 = .ok (.ldc 17, 2) := by decide +kernel
theorem dL_law_366 : decode cL_law 366 = .ok (.if_icmp .ne 58, 3) := by decide +kernel
theorem dL_law_369 : decode cL_law 369 = .ok (.aload_n 2, 1) := by decide +kernel
theorem dL_law_370 : decode cL_law 370 = .ok (.aload_n 1, 1) := by decide +kernel
theorem dL_law_371 : decode cL_law 371 = .ok (.iconst 2, 1) := by decide +kernel
theorem dL_law_372 : decode cL_law 372 = .ok (.iaload, 1) := by decide +kernel
theorem dL_law_373 : decode cL_law 373 = .ok (.invokestatic 222, 3) := by decide +kernel
theorem dL_law_376 : decode cL_law 376 = .ok (.ldc 17, 2) := by decide +kernel
theorem dL_law_378 : decode cL_law 378 = .ok (.if_icmp .ne 46, 3) := by decide +kernel
theorem dL_law_381 : decode cL_law 381 = .ok (.aload_n 2, 1) := by decide +kernel
theorem dL_law_382 : decode cL_law 382 = .ok (.iconst (-1), 1) := by decide +kernel
theorem dL_law_383 : decode cL_law 383 = .ok (.invokestatic 224, 3) := by decide +kernel
theorem dL_law_386 : decode cL_law 386 = .ok (.ldc 17, 2) := by decide +kernel
theorem dL_law_388 : decode cL_law 388 = .ok (.if_icmp .ne 36, 3) := by decide +kernel
theorem dL_law_391 : decode cL_law 391 = .ok (.aload_n 2, 1) := by decide +kernel
theorem dL_law_392 : decode cL_law 392 = .ok (.aload_n 1, 1) := by decide +kernel
theorem dL_law_393 : decode cL_law 393 = .ok (.iconst 2, 1) := by decide +kernel
theorem dL_law_394 : decode cL_law 394 = .ok (.iaload, 1) := by decide +kernel
theorem dL_law_395 : decode cL_law 395 = .ok (.invokestatic 226, 3) := by decide +kernel
theorem dL_law_398 : decode cL_law 398 = .ok (.ldc 17, 2) := by decide +kernel
theorem dL_law_400 : decode cL_law 400 = .ok (.if_icmp .ne 24, 3) := by decide +kernel
theorem dL_law_403 : decode cL_law 403 = .ok (.aload_n 2, 1) := by decide +kernel
theorem dL_law_404 : decode cL_law 404 = .ok (.iconst (-1), 1) := by decide +kernel
theorem dL_law_405 : decode cL_law 405 = .ok (.invokestatic 249, 3) := by decide +kernel
theorem dL_law_408 : decode cL_law 408 = .ok (.ldc 17, 2) := by decide +kernel
theorem dL_law_410 : decode cL_law 410 = .ok (.if_icmp .ne 14, 3) := by decide +kernel
theorem dL_law_413 : decode cL_law 413 = .ok (.aload_n 2, 1) := by decide +kernel
theorem dL_law_414 : decode cL_law 414 = .ok (.invokevirtual 294, 3) := by decide +kernel
theorem dL_law_417 : decode cL_law 417 = .ok (.ifCond .eq 7, 3) := by decide +kernel
theorem dL_law_420 : decode cL_law 420 = .ok (.iconst 1, 1) := by decide +kernel
theorem dL_law_421 : decode cL_law 421 = .ok (.goto 4, 3) := by decide +kernel
theorem dL_law_424 : decode cL_law 424 = .ok (.iconst 0, 1) := by decide +kernel
theorem dL_law_425 : decode cL_law 425 = .ok (.ireturn, 1) := by decide +kernel

