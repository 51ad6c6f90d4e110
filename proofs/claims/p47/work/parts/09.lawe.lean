theorem dL_begun__3 : decode cL_begun_ 3 = .ok (.dup, 1) := by decide +kernel
theorem dL_begun__4 : decode cL_begun_ 4 = .ok (.invokespecial 213, 3) := by decide +kernel
theorem dL_begun__7 : decode cL_begun_ 7 = .ok (.astore_n 2, 1) := by decide +kernel
theorem dL_begun__8 : decode cL_begun_ 8 = .ok (.aload_n 2, 1) := by decide +kernel
theorem dL_begun__9 : decode cL_begun_ 9 = .ok (.aload_n 1, 1) := by decide +kernel
theorem dL_begun__10 : decode cL_begun_ 10 = .ok (.iconst 4, 1) := by decide +kernel
theorem dL_begun__11 : decode cL_begun_ 11 = .ok (.aload_n 0, 1) := by decide +kernel
theorem dL_begun__12 : decode cL_begun_ 12 = .ok (.iconst 0, 1) := by decide +kernel
theorem dL_begun__13 : decode cL_begun_ 13 = .ok (.bipush 12, 2) := by decide +kernel
theorem dL_begun__15 : decode cL_begun_ 15 = .ok (.invokestatic 179, 3) := by decide +kernel
theorem dL_begun__18 : decode cL_begun_ 18 = .ok (.iadd, 1) := by decide +kernel
theorem dL_begun__19 : decode cL_begun_ 19 = .ok (.aload_n 0, 1) := by decide +kernel
theorem dL_begun__20 : decode cL_begun_ 20 = .ok (.iconst 1, 1) := by decide +kernel
theorem dL_begun__21 : decode cL_begun_ 21 = .ok (.bipush 101, 2) := by decide +kernel
theorem dL_begun__23 : decode cL_begun_ 23 = .ok (.invokestatic 179, 3) := by decide +kernel
theorem dL_begun__26 : decode cL_begun_ 26 = .ok (.aload_n 0, 1) := by decide +kernel
theorem dL_begun__27 : decode cL_begun_ 27 = .ok (.iconst 2, 1) := by decide +kernel
theorem dL_begun__28 : decode cL_begun_ 28 = .ok (.bipush 21, 2) := by decide +kernel
theorem dL_begun__30 : decode cL_begun_ 30 = .ok (.invokestatic 179, 3) := by decide +kernel
theorem dL_begun__33 : decode cL_begun_ 33 = .ok (.invokestatic 182, 3) := by decide +kernel
theorem dL_begun__36 : decode cL_begun_ 36 = .ok (.istore_n 3, 1) := by decide +kernel
theorem dL_begun__37 : decode cL_begun_ 37 = .ok (.iconst 0, 1) := by decide +kernel
theorem dL_begun__38 : decode cL_begun_ 38 = .ok (.istore 4, 2) := by decide +kernel
theorem dL_begun__40 : decode cL_begun_ 40 = .ok (.iload 4, 2) := by decide +kernel
theorem dL_begun__42 : decode cL_begun_ 42 = .ok (.iconst 5, 1) := by decide +kernel
theorem dL_begun__43 : decode cL_begun_ 43 = .ok (.if_icmp .ge 40, 3) := by decide +kernel
theorem dL_begun__46 : decode cL_begun_ 46 = .ok (.iload_n 3, 1) := by decide +kernel
theorem dL_begun__47 : decode cL_begun_ 47 = .ok (.aload_n 2, 1) := by decide +kernel
theorem dL_begun__48 : decode cL_begun_ 48 = .ok (.aload_n 1, 1) := by decide +kernel
theorem dL_begun__49 : decode cL_begun_ 49 = .ok (.aload_n 0, 1) := by decide +kernel
theorem dL_begun__50 : decode cL_begun_ 50 = .ok (.iconst 3, 1) := by decide +kernel
theorem dL_begun__51 : decode cL_begun_ 51 = .ok (.iconst 2, 1) := by decide +kernel
theorem dL_begun__52 : decode cL_begun_ 52 = .ok (.iload 4, 2) := by decide +kernel
theorem dL_begun__54 : decode cL_begun_ 54 = .ok (.imul, 1) := by decide +kernel
theorem dL_begun__55 : decode cL_begun_ 55 = .ok (.iadd, 1) := by decide +kernel
theorem dL_begun__56 : decode cL_begun_ 56 = .ok (.iconst 3, 1) := by decide +kernel
theorem dL_begun__57 : decode cL_begun_ 57 = .ok (.invokestatic 179, 3) := by decide +kernel
theorem dL_begun__60 : decode cL_begun_ 60 = .ok (.aload_n 0, 1) := by decide +kernel
theorem dL_begun__61 : decode cL_begun_ 61 = .ok (.iconst 4, 1) := by decide +kernel
theorem dL_begun__62 : decode cL_begun_ 62 = .ok (.iconst 2, 1) := by decide +kernel
theorem dL_begun__63 : decode cL_begun_ 63 = .ok (.iload 4, 2) := by decide +kernel
theorem dL_begun__65 : decode cL_begun_ 65 = .ok (.imul, 1) := by decide +kernel
theorem dL_begun__66 : decode cL_begun_ 66 = .ok (.iadd, 1) := by decide +kernel
theorem dL_begun__67 : decode cL_begun_ 67 = .ok (.bipush 10, 2) := by decide +kernel
theorem dL_begun__69 : decode cL_begun_ 69 = .ok (.invokestatic 179, 3) := by decide +kernel
theorem dL_begun__72 : decode cL_begun_ 72 = .ok (.invokestatic 189, 3) := by decide +kernel
theorem dL_begun__75 : decode cL_begun_ 75 = .ok (.iand, 1) := by decide +kernel
theorem dL_begun__76 : decode cL_begun_ 76 = .ok (.istore_n 3, 1) := by decide +kernel
theorem dL_begun__77 : decode cL_begun_ 77 = .ok (.iinc 4 1, 3) := by decide +kernel
theorem dL_begun__80 : decode cL_begun_ 80 = .ok (.goto (-40), 3) := by decide +kernel
theorem dL_begun__83 : decode cL_begun_ 83 = .ok (.aload_n 1, 1) := by decide +kernel
theorem dL_begun__84 : decode cL_begun_ 84 = .ok (.bipush 6, 2) := by decide +kernel
theorem dL_begun__86 : decode cL_begun_ 86 = .ok (.sipush 300, 3) := by decide +kernel
theorem dL_begun__89 : decode cL_begun_ 89 = .ok (.iastore, 1) := by decide +kernel
theorem dL_begun__90 : decode cL_begun_ 90 = .ok (.iload_n 3, 1) := by decide +kernel
theorem dL_begun__91 : decode cL_begun_ 91 = .ok (.ifCond .eq 39, 3) := by decide +kernel
theorem dL_begun__94 : decode cL_begun_ 94 = .ok (.aload_n 2, 1) := by decide +kernel
theorem dL_begun__95 : decode cL_begun_ 95 = .ok (.sipush 300, 3) := by decide +kernel
theorem dL_begun__98 : decode cL_begun_ 98 = .ok (.invokestatic 198, 3) := by decide +kernel
theorem dL_begun__101 : decode cL_begun_ 101 = .ok (.sipush 300, 3) := by decide +kernel
theorem dL_begun__104 : decode cL_begun_ 104 = .ok (.if_icmp .ne 26, 3) := by decide +kernel
theorem dL_begun__107 : decode cL_begun_ 107 = .ok (.aload_n 2, 1) := by decide +kernel
theorem dL_begun__108 : decode cL_begun_ 108 = .ok (.aload_n 1, 1) := by decide +kernel
theorem dL_begun__109 : decode cL_begun_ 109 = .ok (.bipush 20, 2) := by decide +kernel
theorem dL_begun__111 : decode cL_begun_ 111 = .ok (.aload_n 0, 1) := by decide +kernel
theorem dL_begun__112 : decode cL_begun_ 112 = .ok (.bipush 14, 2) := by decide +kernel
theorem dL_begun__114 : decode cL_begun_ 114 = .ok (.bipush 10, 2) := by decide +kernel
theorem dL_begun__116 : decode cL_begun_ 116 = .ok (.invokestatic 179, 3) := by decide +kernel
theorem dL_begun__119 : decode cL_begun_ 119 = .ok (.iadd, 1) := by decide +kernel
theorem dL_begun__120 : decode cL_begun_ 120 = .ok (.invokestatic 206, 3) := by decide +kernel
theorem dL_begun__123 : decode cL_begun_ 123 = .ok (.ifCond .eq 7, 3) := by decide +kernel
theorem dL_begun__126 : decode cL_begun_ 126 = .ok (.aload_n 2, 1) := by decide +kernel
theorem dL_begun__127 : decode cL_begun_ 127 = .ok (.goto 4, 3) := by decide +kernel
theorem dL_begun__130 : decode cL_begun_ 130 = .ok (.aconst_null, 1) := by decide +kernel
theorem dL_begun__131 : decode cL_begun_ 131 = .ok (.areturn, 1) := by decide +kernel
set_option maxRecDepth 20000 in
theorem ggL_areRings_L_positionOf : GoodIn wsL_areRings wsL_positionOf := goodIn_ca (goodIn_ca (goodIn_r _ [7, 8, 2, 9, 10, 11, 12, 13, 14, 15, 16, 17, 18, 19, 20, 21, 22, 238, 239, 240, 241, 242, 243, 244, 245, 246, 247, 248, 249, 250, 251, 252, 253, 254, 255] (by decide +kernel) (by decide +kernel)) (goodIn_sub (fun _ h => List.mem_cons_of_mem _ (List.mem_append_left _ (List.mem_append_left _ (List.mem_append_left _ (List.mem_append_right _ h))))) (by decide +kernel))) (goodIn_sub (fun _ h => List.mem_cons_of_mem _ (List.mem_append_left _ (List.mem_append_left _ (List.mem_append_right _ h)))) (by decide +kernel))
set_option maxRecDepth 20000 in
theorem gL_areRings_L_positionOf : GoodIn wsL_areRings (va_wsS RL 214 yL_positionOf wsL_positionOf) := goodIn_app (goodIn_of _ (by decide +kernel)) ggL_areRings_L_positionOf
set_option maxRecDepth 20000 in
theorem ggL_areRings_L_taperOf : GoodIn wsL_areRings wsL_taperOf := goodIn_ca (goodIn_ca (goodIn_r _ [25, 8, 2, 26, 27, 28, 12, 29, 14, 30, 16, 17, 18, 19, 20, 21, 22, 238, 239, 240, 241, 242, 243, 244, 245, 246, 247, 248, 249, 250, 251, 252, 253, 254, 255] (by decide +kernel) (by decide +kernel)) (goodIn_sub (fun _ h => List.mem_cons_of_mem _ (List.mem_append_left _ (List.mem_append_left _ (List.mem_append_left _ (List.mem_append_right _ h))))) (by decide +kernel))) (goodIn_sub (fun _ h => List.mem_cons_of_mem _ (List.mem_append_left _ (List.mem_append_left _ (List.mem_append_right _ h)))) (by decide +kernel))
set_option maxRecDepth 20000 in
theorem gL_areRings_L_taperOf : GoodIn wsL_areRings (va_wsS RL 216 yL_taperOf wsL_taperOf) := goodIn_app (goodIn_of _ (by decide +kernel)) ggL_areRings_L_taperOf
set_option maxRecDepth 20000 in
theorem ggL_areRings_L_xAfter : GoodIn wsL_areRings wsL_xAfter := goodIn_ca (goodIn_ca (goodIn_r _ [33, 8, 2, 34, 35, 36, 12, 37, 14, 38, 16, 17, 18, 19, 20, 21, 22, 238, 239, 240, 241, 242, 243, 244, 245, 246, 247, 248, 249, 250, 251, 252, 253, 254, 255] (by decide +kernel) (by decide +kernel)) (goodIn_sub (fun _ h => List.mem_cons_of_mem _ (List.mem_append_left _ (List.mem_append_left _ (List.mem_append_left _ (List.mem_append_right _ h))))) (by decide +kernel))) (goodIn_sub (fun _ h => List.mem_cons_of_mem _ (List.mem_append_left _ (List.mem_append_left _ (List.mem_append_right _ h)))) (by decide +kernel))
set_option maxRecDepth 20000 in
theorem gL_areRings_L_xAfter : GoodIn wsL_areRings (va_wsS RL 218 yL_xAfter wsL_xAfter) := goodIn_app (goodIn_of _ (by decide +kernel)) ggL_areRings_L_xAfter
set_option maxRecDepth 20000 in
theorem ggL_areRings_L_yAfter : GoodIn wsL_areRings wsL_yAfter := goodIn_ca (goodIn_ca (goodIn_r _ [41, 8, 2, 42, 43, 44, 12, 45, 14, 46, 16, 17, 18, 19, 20, 21, 22, 238, 239, 240, 241, 242, 243, 244, 245, 246, 247, 248, 249, 250, 251, 252, 253, 254, 255] (by decide +kernel) (by decide +kernel)) (goodIn_sub (fun _ h => List.mem_cons_of_mem _ (List.mem_append_left _ (List.mem_append_left _ (List.mem_append_left _ (List.mem_append_right _ h))))) (by decide +kernel))) (goodIn_sub (fun _ h => List.mem_cons_of_mem _ (List.mem_append_left _ (List.mem_append_left _ (List.mem_append_right _ h)))) (by decide +kernel))
set_option maxRecDepth 20000 in
theorem gL_areRings_L_yAfter : GoodIn wsL_areRings (va_wsS RL 220 yL_yAfter wsL_yAfter) := goodIn_app (goodIn_of _ (by decide +kernel)) ggL_areRings_L_yAfter
set_option maxRecDepth 20000 in
theorem ggL_areRings_L_xAnew : GoodIn wsL_areRings wsL_xAnew := goodIn_ca (goodIn_ca (goodIn_r _ [49, 8, 2, 50, 51, 52, 12, 53, 54, 55, 16, 17, 18, 19, 20, 21, 14, 22, 56, 57, 58, 59, 15, 30, 60, 61, 62, 63, 64, 65, 66, 67, 68, 69, 70, 71, 72, 73, 74, 75, 76, 238, 239, 240, 241, 242, 243, 244, 245, 246, 247, 248, 249, 256, 257, 258, 259, 250, 251, 252, 253, 254, 255] (by decide +kernel) (by decide +kernel)) (goodIn_sub (fun _ h => List.mem_cons_of_mem _ (List.mem_append_left _ (List.mem_append_left _ (List.mem_append_right _ h)))) (by decide +kernel))) (goodIn_sub (fun _ h => List.mem_cons_of_mem _ (List.mem_append_left _ (List.mem_append_left _ (List.mem_append_left _ (List.mem_append_right _ h))))) (by decide +kernel))
set_option maxRecDepth 20000 in
theorem gL_areRings_L_xAnew : GoodIn wsL_areRings (va_wsS RL 222 yL_xAnew wsL_xAnew) := goodIn_app (goodIn_of _ (by decide +kernel)) ggL_areRings_L_xAnew
set_option maxRecDepth 20000 in
theorem ggL_areRings_L_yAnew : GoodIn wsL_areRings wsL_yAnew := goodIn_ca (goodIn_ca (goodIn_r _ [79, 8, 2, 80, 81, 82, 12, 83, 54, 84, 16, 17, 18, 19, 20, 21, 14, 22, 56, 57, 58, 59, 15, 30, 60, 61, 62, 63, 64, 65, 66, 67, 68, 69, 70, 71, 72, 73, 74, 75, 76, 238, 239, 240, 241, 242, 243, 244, 245, 246, 247, 248, 249, 256, 257, 258, 259, 250, 251, 252, 253, 254, 255] (by decide +kernel) (by decide +kernel)) (goodIn_sub (fun _ h => List.mem_cons_of_mem _ (List.mem_append_left _ (List.mem_append_left _ (List.mem_append_right _ h)))) (by decide +kernel))) (goodIn_sub (fun _ h => List.mem_cons_of_mem _ (List.mem_append_left _ (List.mem_append_left _ (List.mem_append_left _ (List.mem_append_right _ h))))) (by decide +kernel))
set_option maxRecDepth 20000 in
theorem gL_areRings_L_yAnew : GoodIn wsL_areRings (va_wsS RL 224 yL_yAnew wsL_yAnew) := goodIn_app (goodIn_of _ (by decide +kernel)) ggL_areRings_L_yAnew
set_option maxRecDepth 20000 in
theorem ggL_areRings_L_deviationAfter : GoodIn wsL_areRings wsL_deviationAfter := goodIn_ca (goodIn_ca (goodIn_r _ [87, 8, 2, 88, 89, 90, 12, 91, 14, 38, 54, 55, 92, 93, 94, 95, 46, 84, 16, 17, 18, 19, 20, 21, 22, 96, 97, 98, 99, 100, 60, 61, 62, 63, 64, 65, 66, 67, 68, 101, 102, 103, 104, 105, 106, 107, 108, 109, 110, 111, 112, 113, 74, 75, 76, 238, 239, 240, 241, 242, 243, 244, 245, 246, 247, 248, 249, 250, 251, 252, 253, 254, 255, 256, 257, 258, 259, 260, 261, 262] (by decide +kernel) (by decide +kernel)) (goodIn_sub (fun _ h => List.mem_cons_of_mem _ (List.mem_append_left _ (List.mem_append_left _ (List.mem_append_left _ (List.mem_append_right _ h))))) (by decide +kernel))) (goodIn_sub (fun _ h => List.mem_cons_of_mem _ (List.mem_append_left _ (List.mem_append_left _ (List.mem_append_right _ h)))) (by decide +kernel))
set_option maxRecDepth 20000 in
theorem gL_areRings_L_deviationAfter : GoodIn wsL_areRings (va_wsS RL 226 yL_deviationAfter wsL_deviationAfter) := goodIn_app (goodIn_of _ (by decide +kernel)) ggL_areRings_L_deviationAfter
set_option maxRecDepth 20000 in
theorem ggL_areRings_L_apart : GoodIn wsL_areRings wsL_apart := goodIn_ca (goodIn_r _ [116, 117, 118, 6, 119] (by decide +kernel) (by decide +kernel)) (goodIn_sub (fun _ h => List.mem_cons_of_mem _ (List.mem_append_left _ (List.mem_append_left _ (List.mem_append_left _ (List.mem_append_right _ h))))) (by decide +kernel))
set_option maxRecDepth 20000 in
theorem gL_areRings_L_apart : GoodIn wsL_areRings (va_wsS RL 145 yL_apart wsL_apart) := goodIn_app (goodIn_of _ (by decide +kernel)) ggL_areRings_L_apart
set_option maxRecDepth 20000 in
theorem ggL_areRings_L_taperAt : GoodIn wsL_areRings wsL_taperAt := goodIn_ca (goodIn_ca (goodIn_ca (goodIn_r _ [122, 8, 123, 2, 1, 124, 125, 126, 12, 127, 128, 129, 130, 131, 132, 133, 134, 20, 21, 135, 136, 137, 138, 139, 140, 238, 239, 240, 241, 242, 243, 244, 245, 246, 247, 248, 249, 263, 264, 265] (by decide +kernel) (by decide +kernel)) (goodIn_sub (fun _ h => List.mem_cons_of_mem _ (List.mem_append_left _ (List.mem_append_left _ (List.mem_append_left _ (List.mem_append_right _ h))))) (by decide +kernel))) (goodIn_sub (fun _ h => List.mem_cons_of_mem _ (List.mem_append_left _ (List.mem_append_right _ h))) (by decide +kernel))) (goodIn_sub (fun _ h => List.mem_cons_of_mem _ (List.mem_append_left _ (List.mem_append_left _ (List.mem_append_right _ h)))) (by decide +kernel))
set_option maxRecDepth 20000 in
theorem gL_areRings_L_taperAt : GoodIn wsL_areRings (va_wsS RL 228 yL_taperAt wsL_taperAt) := goodIn_app (goodIn_of _ (by decide +kernel)) ggL_areRings_L_taperAt
set_option maxRecDepth 20000 in
theorem ggL_areRings_L_topOf : GoodIn wsL_areRings wsL_topOf := goodIn_ca (goodIn_r _ [143] (by decide +kernel) (by decide +kernel)) (goodIn_sub (fun _ h => List.mem_cons_of_mem _ (List.mem_append_left _ (List.mem_append_left _ (List.mem_append_left _ (List.mem_append_right _ h))))) (by decide +kernel))
set_option maxRecDepth 20000 in
theorem gL_areRings_L_topOf : GoodIn wsL_areRings (va_wsS RL 126 yL_topOf wsL_topOf) := goodIn_app (goodIn_of _ (by decide +kernel)) ggL_areRings_L_topOf
set_option maxRecDepth 20000 in
theorem ggL_areRings_L_heightOf : GoodIn wsL_areRings wsL_heightOf := goodIn_ca (goodIn_ca (goodIn_r _ [146, 8, 2, 147, 148, 149, 12, 150, 130, 131, 132, 133, 134, 20, 21, 238, 239, 240, 241, 242, 243, 244, 245, 246, 247, 248, 249, 263, 264, 265] (by decide +kernel) (by decide +kernel)) (goodIn_sub (fun _ h => List.mem_cons_of_mem _ (List.mem_append_left _ (List.mem_append_left _ (List.mem_append_left _ (List.mem_append_right _ h))))) (by decide +kernel))) (goodIn_sub (fun _ h => List.mem_cons_of_mem _ (List.mem_append_left _ (List.mem_append_left _ (List.mem_append_right _ h)))) (by decide +kernel))
set_option maxRecDepth 20000 in
theorem gL_areRings_L_heightOf : GoodIn wsL_areRings (va_wsS RL 230 yL_heightOf wsL_heightOf) := goodIn_app (goodIn_of _ (by decide +kernel)) ggL_areRings_L_heightOf
set_option maxRecDepth 20000 in
theorem ggL_areRings_L_hoursToCure : GoodIn wsL_areRings wsL_hoursToCure := goodIn_ca (goodIn_ca (goodIn_ca (goodIn_r _ [153, 8, 123, 2, 1, 154, 155, 156, 12, 157, 130, 131, 158, 132, 133, 134, 20, 21, 159, 160, 161, 162, 128, 129, 163, 164, 165, 138, 166, 167, 168, 169, 94, 170, 238, 239, 240, 241, 242, 243, 244, 245, 246, 247, 248, 249, 263, 264, 265] (by decide +kernel) (by decide +kernel)) (goodIn_sub (fun _ h => List.mem_cons_of_mem _ (List.mem_append_left _ (List.mem_append_left _ (List.mem_append_left _ (List.mem_append_right _ h))))) (by decide +kernel))) (goodIn_sub (fun _ h => List.mem_cons_of_mem _ (List.mem_append_left _ (List.mem_append_left _ (List.mem_append_right _ h)))) (by decide +kernel))) (goodIn_sub (fun _ h => List.mem_cons_of_mem _ (List.mem_append_left _ (List.mem_append_right _ h))) (by decide +kernel))
set_option maxRecDepth 20000 in
theorem gL_areRings_L_hoursToCure : GoodIn wsL_areRings (va_wsS RL 232 yL_hoursToCure wsL_hoursToCure) := goodIn_app (goodIn_of _ (by decide +kernel)) ggL_areRings_L_hoursToCure
set_option maxRecDepth 20000 in
theorem ggL_areRings_L_takes : GoodIn wsL_areRings wsL_takes := goodIn_ca (goodIn_r _ [173] (by decide +kernel) (by decide +kernel)) (goodIn_sub (fun _ h => List.mem_cons_of_mem _ (List.mem_append_left _ (List.mem_append_left _ (List.mem_append_left _ (List.mem_append_right _ h))))) (by decide +kernel))
set_option maxRecDepth 20000 in
theorem gL_areRings_L_takes : GoodIn wsL_areRings (va_wsS RL 153 yL_takes wsL_takes) := goodIn_app (goodIn_of _ (by decide +kernel)) ggL_areRings_L_takes
set_option maxRecDepth 20000 in
theorem ggL_areRings_X8_ringCount : GoodIn wsL_areRings wsX8_ringCount := goodIn_r _ [177, 14, 22, 238, 239, 240, 241, 242, 243, 244, 245, 246, 247, 248, 249, 250, 251, 252, 253, 254, 255] (by decide +kernel) (by decide +kernel)
set_option maxRecDepth 20000 in
theorem gL_areRings_X8_ringCount : GoodIn wsL_areRings (wsV RL 234 RX8 yX8_ringCount wsX8_ringCount) := goodIn_app (goodIn_of _ (by decide +kernel)) ggL_areRings_X8_ringCount
set_option maxRecDepth 20000 in
theorem ggL_areRings_X8_clock : GoodIn wsL_areRings wsX8_clock := goodIn_r _ [181, 158, 238, 239, 240, 241, 242, 243, 244, 245, 246, 247, 248, 249] (by decide +kernel) (by decide +kernel)
set_option maxRecDepth 20000 in
theorem gL_areRings_X8_clock : GoodIn wsL_areRings (wsV RL 237 RX8 yX8_clock wsX8_clock) := goodIn_app (goodIn_of _ (by decide +kernel)) ggL_areRings_X8_clock
set_option maxRecDepth 20000 in
theorem ggL_areRings_X8_slurry : GoodIn wsL_areRings wsX8_slurry := goodIn_r _ [185, 186, 238, 239, 240, 241, 242, 243, 244, 245, 246, 247, 248, 249] (by decide +kernel) (by decide +kernel)
set_option maxRecDepth 20000 in
theorem gL_areRings_X8_slurry : GoodIn wsL_areRings (wsV RL 240 RX8 yX8_slurry wsX8_slurry) := goodIn_app (goodIn_of _ (by decide +kernel)) ggL_areRings_X8_slurry
set_option maxRecDepth 20000 in
theorem ggL_areRings_L_slurryFor : GoodIn wsL_areRings wsL_slurryFor := goodIn_ca (goodIn_ca (goodIn_r _ [189, 123, 2, 190, 191, 192, 12, 193, 128, 129, 194, 14, 22, 195, 196, 197, 198, 199, 200, 201, 202, 203, 204, 205, 206, 169, 94, 170, 207, 208, 209, 210, 211, 212, 213, 214, 215, 216, 217, 238, 239, 240, 241, 242, 243, 244, 245, 246, 247, 248, 249, 250, 251, 252, 253, 254, 255, 266, 267, 268, 269] (by decide +kernel) (by decide +kernel)) (goodIn_sub (fun _ h => List.mem_cons_of_mem _ (List.mem_append_left _ (List.mem_append_right _ h))) (by decide +kernel))) (goodIn_sub (fun _ h => List.mem_cons_of_mem _ (List.mem_append_left _ (List.mem_append_left _ (List.mem_append_left _ (List.mem_append_right _ h))))) (by decide +kernel))
set_option maxRecDepth 20000 in
theorem gL_areRings_L_slurryFor : GoodIn wsL_areRings (va_wsS RL 243 yL_slurryFor wsL_slurryFor) := goodIn_app (goodIn_of _ (by decide +kernel)) ggL_areRings_L_slurryFor
set_option maxRecDepth 20000 in
theorem ggL_areRings_L_curedShare : GoodIn wsL_areRings wsL_curedShare := goodIn_ca (goodIn_ca (goodIn_r _ [220, 221, 3, 222, 223, 224, 12, 225, 226, 227, 130, 158, 228, 229, 230, 138, 231, 232, 233, 234, 235, 236, 237, 164, 165, 166, 167, 168, 169, 94, 170, 238, 239, 240, 241, 242, 243, 244, 245, 246, 247, 248, 249, 263, 264, 265] (by decide +kernel) (by decide +kernel)) (goodIn_sub (fun _ h => List.mem_cons_of_mem _ (List.mem_append_right _ h)) (by decide +kernel))) (goodIn_sub (fun _ h => List.mem_cons_of_mem _ (List.mem_append_left _ (List.mem_append_left _ (List.mem_append_left _ (List.mem_append_right _ h))))) (by decide +kernel))
set_option maxRecDepth 20000 in
theorem gL_areRings_L_curedShare : GoodIn wsL_areRings (va_wsS RL 246 yL_curedShare wsL_curedShare) := goodIn_app (goodIn_of _ (by decide +kernel)) ggL_areRings_L_curedShare
theorem dL_areRings_0 : decode cL_areRings 0 = .ok (.iconst 0, 1) := by decide +kernel
theorem dL_areRings_1 : decode cL_areRings 1 = .ok (.istore_n 2, 1) := by decide +kernel
theorem dL_areRings_2 : decode cL_areRings 2 = .ok (.iload_n 2, 1) := by decide +kernel
theorem dL_areRings_3 : decode cL_areRings 3 = .ok (.aload_n 1, 1) := by decide +kernel
theorem dL_areRings_4 : decode cL_areRings 4 = .ok (.iconst 2, 1) := by decide +kernel
theorem dL_areRings_5 : decode cL_areRings 5 = .ok (.iaload, 1) := by decide +kernel
theorem dL_areRings_6 : decode cL_areRings 6 = .ok (.if_icmp .ge 138, 3) := by decide +kernel
theorem dL_areRings_9 : decode cL_areRings 9 = .ok (.aload_n 0, 1) := by decide +kernel
theorem dL_areRings_10 : decode cL_areRings 10 = .ok (.iload_n 2, 1) := by decide +kernel
theorem dL_areRings_11 : decode cL_areRings 11 = .ok (.invokestatic 214, 3) := by decide +kernel
theorem dL_areRings_14 : decode cL_areRings 14 = .ok (.aload_n 1, 1) := by decide +kernel
theorem dL_areRings_15 : decode cL_areRings 15 = .ok (.sipush 1020, 3) := by decide +kernel
theorem dL_areRings_18 : decode cL_areRings 18 = .ok (.iload_n 2, 1) := by decide +kernel
theorem dL_areRings_19 : decode cL_areRings 19 = .ok (.iadd, 1) := by decide +kernel
theorem dL_areRings_20 : decode cL_areRings 20 = .ok (.iaload, 1) := by decide +kernel
theorem dL_areRings_21 : decode cL_areRings 21 = .ok (.if_icmp .ne 52, 3) := by decide +kernel
theorem dL_areRings_24 : decode cL_areRings 24 = .ok (.aload_n 0, 1) := by decide +kernel
theorem dL_areRings_25 : decode cL_areRings 25 = .ok (.iload_n 2, 1) := by decide +kernel
theorem dL_areRings_26 : decode cL_areRings 26 = .ok (.invokestatic 216, 3) := by decide +kernel
theorem dL_areRings_29 : decode cL_areRings 29 = .ok (.aload_n 1, 1) := by decide +kernel
theorem dL_areRings_30 : decode cL_areRings 30 = .ok (.sipush 1220, 3) := by decide +kernel
theorem dL_areRings_33 : decode cL_areRings 33 = .ok (.iload_n 2, 1) := by decide +kernel
theorem dL_areRings_34 : decode cL_areRings 34 = .ok (.iadd, 1) := by decide +kernel
theorem dL_areRings_35 : decode cL_areRings 35 = .ok (.iaload, 1) := by decide +kernel
theorem dL_areRings_36 : decode cL_areRings 36 = .ok (.if_icmp .ne 37, 3) := by decide +kernel
theorem dL_areRings_39 : decode cL_areRings 39 = .ok (.aload_n 0, 1) := by decide +kernel
theorem dL_areRings_40 : decode cL_areRings 40 = .ok (.iload_n 2, 1) := by decide +kernel
theorem dL_areRings_41 : decode cL_areRings 41 = .ok (.invokestatic 218, 3) := by decide +kernel
theorem dL_areRings_44 : decode cL_areRings 44 = .ok (.aload_n 1, 1) := by decide +kernel
theorem dL_areRings_45 : decode cL_areRings 45 = .ok (.sipush 1420, 3) := by decide +kernel
theorem dL_areRings_48 : decode cL_areRings 48 = .ok (.iload_n 2, 1) := by decide +kernel
theorem dL_areRings_49 : decode cL_areRings 49 = .ok (.iadd, 1) := by decide +kernel
theorem dL_areRings_50 : decode cL_areRings 50 = .ok (.iaload, 1) := by decide +kernel
theorem dL_areRings_51 : decode cL_areRings 51 = .ok (.if_icmp .ne 22, 3) := by decide +kernel
theorem dL_areRings_54 : decode cL_areRings 54 = .ok (.aload_n 0, 1) := by decide +kernel
theorem dL_areRings_55 : decode cL_areRings 55 = .ok (.iload_n 2, 1) := by decide +kernel
theorem dL_areRings_56 : decode cL_areRings 56 = .ok (.invokestatic 220, 3) := by decide +kernel
theorem dL_areRings_59 : decode cL_areRings 59 = .ok (.aload_n 1, 1) := by decide +kernel
theorem dL_areRings_60 : decode cL_areRings 60 = .ok (.sipush 1620, 3) := by decide +kernel
theorem dL_areRings_63 : decode cL_areRings 63 = .ok (.iload_n 2, 1) := by decide +kernel
theorem dL_areRings_64 : decode cL_areRings 64 = .ok (.iadd, 1) := by decide +kernel
theorem dL_areRings_65 : decode cL_areRings 65 = .ok (.iaload, 1) := by decide +kernel
theorem dL_areRings_66 : decode cL_areRings 66 = .ok (.if_icmp .ne 7, 3) := by decide +kernel
theorem dL_areRings_69 : decode cL_areRings 69 = .ok (.iconst 1, 1) := by decide +kernel
theorem dL_areRings_70 : decode cL_areRings 70 = .ok (.goto 4, 3) := by decide +kernel
theorem dL_areRings_73 : decode cL_areRings 73 = .ok (.iconst 0, 1) := by decide +kernel
theorem dL_areRings_74 : decode cL_areRings 74 = .ok (.istore_n 3, 1) := by decide +kernel
theorem dL_areRings_75 : decode cL_areRings 75 = .ok (.iload_n 3, 1) := by decide +kernel
theorem dL_areRings_76 : decode cL_areRings 76 = .ok (.ifCond .eq 60, 3) := by decide +kernel
theorem dL_areRings_79 : decode cL_areRings 79 = .ok (.aload_n 0, 1) := by decide +kernel
theorem dL_areRings_80 : decode cL_areRings 80 = .ok (.iload_n 2, 1) := by decide +kernel
theorem dL_areRings_81 : decode cL_areRings 81 = .ok (.invokestatic 222, 3) := by decide +kernel
theorem dL_areRings_84 : decode cL_areRings 84 = .ok (.aload_n 1, 1) := by decide +kernel
theorem dL_areRings_85 : decode cL_areRings 85 = .ok (.sipush 1420, 3) := by decide +kernel
theorem dL_areRings_88 : decode cL_areRings 88 = .ok (.iload_n 2, 1) := by decide +kernel
theorem dL_areRings_89 : decode cL_areRings 89 = .ok (.iadd, 1) := by decide +kernel
theorem dL_areRings_90 : decode cL_areRings 90 = .ok (.iaload, 1) := by decide +kernel
theorem dL_areRings_91 : decode cL_areRings 91 = .ok (.if_icmp .ne 45, 3) := by decide +kernel
theorem dL_areRings_94 : decode cL_areRings 94 = .ok (.aload_n 0, 1) := by decide +kernel
theorem dL_areRings_95 : decode cL_areRings 95 = .ok (.iload_n 2, 1) := by decide +kernel
theorem dL_areRings_96 : decode cL_areRings 96 = .ok (.invokestatic 224, 3) := by decide +kernel
theorem dL_areRings_99 : decode cL_areRings 99 = .ok (.aload_n 1, 1) := by decide +kernel
theorem dL_areRings_100 : decode cL_areRings 100 = .ok (.sipush 1620, 3) := by decide +kernel
theorem dL_areRings_103 : decode cL_areRings 103 = .ok (.iload_n 2, 1) := by decide +kernel
theorem dL_areRings_104 : decode cL_areRings 104 = .ok (.iadd, 1) := by decide +kernel
theorem dL_areRings_105 : decode cL_areRings 105 = .ok (.iaload, 1) := by decide +kernel
theorem dL_areRings_106 : decode cL_areRings 106 = .ok (.if_icmp .ne 30, 3) := by decide +kernel
theorem dL_areRings_109 : decode cL_areRings 109 = .ok (.aload_n 0, 1) := by decide +kernel
theorem dL_areRings_110 : decode cL_areRings 110 = .ok (.iload_n 2, 1) := by decide +kernel
theorem dL_areRings_111 : decode cL_areRings 111 = .ok (.invokestatic 226, 3) := by decide +kernel
theorem dL_areRings_114 : decode cL_areRings 114 = .ok (.aload_n 1, 1) := by decide +kernel
theorem dL_areRings_115 : decode cL_areRings 115 = .ok (.iload_n 2, 1) := by decide +kernel
theorem dL_areRings_116 : decode cL_areRings 116 = .ok (.aload_n 1, 1) := by decide +kernel
theorem dL_areRings_117 : decode cL_areRings 117 = .ok (.sipush 1420, 3) := by decide +kernel
theorem dL_areRings_120 : decode cL_areRings 120 = .ok (.iload_n 2, 1) := by decide +kernel
theorem dL_areRings_121 : decode cL_areRings 121 = .ok (.iadd, 1) := by decide +kernel
theorem dL_areRings_122 : decode cL_areRings 122 = .ok (.iaload, 1) := by decide +kernel
theorem dL_areRings_123 : decode cL_areRings 123 = .ok (.aload_n 1, 1) := by decide +kernel
theorem dL_areRings_124 : decode cL_areRings 124 = .ok (.sipush 1620, 3) := by decide +kernel
theorem dL_areRings_127 : decode cL_areRings 127 = .ok (.iload_n 2, 1) := by decide +kernel
theorem dL_areRings_128 : decode cL_areRings 128 = .ok (.iadd, 1) := by decide +kernel
theorem dL_areRings_129 : decode cL_areRings 129 = .ok (.iaload, 1) := by decide +kernel
theorem dL_areRings_130 : decode cL_areRings 130 = .ok (.invokestatic 145, 3) := by decide +kernel
theorem dL_areRings_133 : decode cL_areRings 133 = .ok (.if_icmp .eq 5, 3) := by decide +kernel
theorem dL_areRings_136 : decode cL_areRings 136 = .ok (.iconst 0, 1) := by decide +kernel
theorem dL_areRings_137 : decode cL_areRings 137 = .ok (.ireturn, 1) := by decide +kernel
theorem dL_areRings_138 : decode cL_areRings 138 = .ok (.iinc 2 1, 3) := by decide +kernel
theorem dL_areRings_141 : decode cL_areRings 141 = .ok (.goto (-139), 3) := by decide +kernel
theorem dL_areRings_144 : decode cL_areRings 144 = .ok (.iconst 0, 1) := by decide +kernel
theorem dL_areRings_145 : decode cL_areRings 145 = .ok (.istore_n 2, 1) := by decide +kernel
theorem dL_areRings_146 : decode cL_areRings 146 = .ok (.iconst 0, 1) := by decide +kernel
theorem dL_areRings_147 : decode cL_areRings 147 = .ok (.istore_n 3, 1) := by decide +kernel
theorem dL_areRings_148 : decode cL_areRings 148 = .ok (.iconst 0, 1) := by decide +kernel
theorem dL_areRings_149 : decode cL_areRings 149 = .ok (.istore 4, 2) := by decide +kernel
theorem dL_areRings_151 : decode cL_areRings 151 = .ok (.iload 4, 2) := by decide +kernel
theorem dL_areRings_153 : decode cL_areRings 153 = .ok (.iconst 3, 1) := by decide +kernel
theorem dL_areRings_154 : decode cL_areRings 154 = .ok (.if_icmp .ge 175, 3) := by decide +kernel
theorem dL_areRings_157 : decode cL_areRings 157 = .ok (.aload_n 1, 1) := by decide +kernel
theorem dL_areRings_158 : decode cL_areRings 158 = .ok (.bipush 10, 2) := by decide +kernel
theorem dL_areRings_160 : decode cL_areRings 160 = .ok (.iload 4, 2) := by decide +kernel
theorem dL_areRings_162 : decode cL_areRings 162 = .ok (.iadd, 1) := by decide +kernel
theorem dL_areRings_163 : decode cL_areRings 163 = .ok (.iaload, 1) := by decide +kernel
theorem dL_areRings_164 : decode cL_areRings 164 = .ok (.istore 5, 2) := by decide +kernel
theorem dL_areRings_166 : decode cL_areRings 166 = .ok (.iconst 0, 1) := by decide +kernel
theorem dL_areRings_167 : decode cL_areRings 167 = .ok (.istore 6, 2) := by decide +kernel
theorem dL_areRings_169 : decode cL_areRings 169 = .ok (.iload 6, 2) := by decide +kernel
theorem dL_areRings_171 : decode cL_areRings 171 = .ok (.iload 5, 2) := by decide +kernel
theorem dL_areRings_173 : decode cL_areRings 173 = .ok (.if_icmp .ge 65, 3) := by decide +kernel
theorem dL_areRings_176 : decode cL_areRings 176 = .ok (.sipush 1820, 3) := by decide +kernel
theorem dL_areRings_179 : decode cL_areRings 179 = .ok (.bipush 24, 2) := by decide +kernel
theorem dL_areRings_181 : decode cL_areRings 181 = .ok (.iload 4, 2) := by decide +kernel
theorem dL_areRings_183 : decode cL_areRings 183 = .ok (.imul, 1) := by decide +kernel
theorem dL_areRings_184 : decode cL_areRings 184 = .ok (.iadd, 1) := by decide +kernel
theorem dL_areRings_185 : decode cL_areRings 185 = .ok (.iconst 2, 1) := by decide +kernel
theorem dL_areRings_186 : decode cL_areRings 186 = .ok (.iload 6, 2) := by decide +kernel
theorem dL_areRings_188 : decode cL_areRings 188 = .ok (.imul, 1) := by decide +kernel
theorem dL_areRings_189 : decode cL_areRings 189 = .ok (.iadd, 1) := by decide +kernel
theorem dL_areRings_190 : decode cL_areRings 190 = .ok (.istore 7, 2) := by decide +kernel
theorem dL_areRings_192 : decode cL_areRings 192 = .ok (.iload_n 2, 1) := by decide +kernel
theorem dL_areRings_193 : decode cL_areRings 193 = .ok (.aload_n 1, 1) := by decide +kernel
theorem dL_areRings_194 : decode cL_areRings 194 = .ok (.iconst 4, 1) := by decide +kernel
theorem dL_areRings_195 : decode cL_areRings 195 = .ok (.iaload, 1) := by decide +kernel
theorem dL_areRings_196 : decode cL_areRings 196 = .ok (.aload_n 1, 1) := by decide +kernel
theorem dL_areRings_197 : decode cL_areRings 197 = .ok (.iload 7, 2) := by decide +kernel
theorem dL_areRings_199 : decode cL_areRings 199 = .ok (.iconst 1, 1) := by decide +kernel
theorem dL_areRings_200 : decode cL_areRings 200 = .ok (.iadd, 1) := by decide +kernel
theorem dL_areRings_201 : decode cL_areRings 201 = .ok (.iaload, 1) := by decide +kernel
theorem dL_areRings_202 : decode cL_areRings 202 = .ok (.isub, 1) := by decide +kernel
theorem dL_areRings_203 : decode cL_areRings 203 = .ok (.bipush 24, 2) := by decide +kernel
theorem dL_areRings_205 : decode cL_areRings 205 = .ok (.if_icmp .lt 7, 3) := by decide +kernel
theorem dL_areRings_208 : decode cL_areRings 208 = .ok (.iconst 1, 1) := by decide +kernel
theorem dL_areRings_209 : decode cL_areRings 209 = .ok (.goto 4, 3) := by decide +kernel
theorem dL_areRings_212 : decode cL_areRings 212 = .ok (.iconst 0, 1) := by decide +kernel
theorem dL_areRings_213 : decode cL_areRings 213 = .ok (.iadd, 1) := by decide +kernel
theorem dL_areRings_214 : decode cL_areRings 214 = .ok (.istore_n 2, 1) := by decide +kernel
theorem dL_areRings_215 : decode cL_areRings 215 = .ok (.aload_n 0, 1) := by decide +kernel
theorem dL_areRings_216 : decode cL_areRings 216 = .ok (.iload 4, 2) := by decide +kernel
theorem dL_areRings_218 : decode cL_areRings 218 = .ok (.iload 6, 2) := by decide +kernel
theorem dL_areRings_220 : decode cL_areRings 220 = .ok (.invokestatic 228, 3) := by decide +kernel
theorem dL_areRings_223 : decode cL_areRings 223 = .ok (.aload_n 1, 1) := by decide +kernel
theorem dL_areRings_224 : decode cL_areRings 224 = .ok (.iload 7, 2) := by decide +kernel
theorem dL_areRings_226 : decode cL_areRings 226 = .ok (.iaload, 1) := by decide +kernel
theorem dL_areRings_227 : decode cL_areRings 227 = .ok (.if_icmp .eq 5, 3) := by decide +kernel
theorem dL_areRings_230 : decode cL_areRings 230 = .ok (.iconst 0, 1) := by decide +kernel
theorem dL_areRings_231 : decode cL_areRings 231 = .ok (.ireturn, 1) := by decide +kernel
theorem dL_areRings_232 : decode cL_areRings 232 = .ok (.iinc 6 1, 3) := by decide +kernel
theorem dL_areRings_235 : decode cL_areRings 235 = .ok (.goto (-66), 3) := by decide +kernel
theorem dL_areRings_238 : decode cL_areRings 238 = .ok (.iload_n 3, 1) := by decide +kernel
theorem dL_areRings_239 : decode cL_areRings 239 = .ok (.iload 5, 2) := by decide +kernel
theorem dL_areRings_241 : decode cL_areRings 241 = .ok (.iadd, 1) := by decide +kernel
theorem dL_areRings_242 : decode cL_areRings 242 = .ok (.istore_n 3, 1) := by decide +kernel
theorem dL_areRings_243 : decode cL_areRings 243 = .ok (.iload 5, 2) := by decide +kernel
theorem dL_areRings_245 : decode cL_areRings 245 = .ok (.ifCond .ne 8, 3) := by decide +kernel
theorem dL_areRings_248 : decode cL_areRings 248 = .ok (.ldc 20, 2) := by decide +kernel
theorem dL_areRings_250 : decode cL_areRings 250 = .ok (.goto 20, 3) := by decide +kernel
theorem dL_areRings_253 : decode cL_areRings 253 = .ok (.bipush 24, 2) := by decide +kernel
theorem dL_areRings_255 : decode cL_areRings 255 = .ok (.aload_n 1, 1) := by decide +kernel
theorem dL_areRings_256 : decode cL_areRings 256 = .ok (.iconst 4, 1) := by decide +kernel
theorem dL_areRings_257 : decode cL_areRings 257 = .ok (.iaload, 1) := by decide +kernel
theorem dL_areRings_258 : decode cL_areRings 258 = .ok (.isub, 1) := by decide +kernel
theorem dL_areRings_259 : decode cL_areRings 259 = .ok (.aload_n 1, 1) := by decide +kernel
theorem dL_areRings_260 : decode cL_areRings 260 = .ok (.aload_n 1, 1) := by decide +kernel
theorem dL_areRings_261 : decode cL_areRings 261 = .ok (.iload 4, 2) := by decide +kernel
theorem dL_areRings_263 : decode cL_areRings 263 = .ok (.invokestatic 126, 3) := by decide +kernel
theorem dL_areRings_266 : decode cL_areRings 266 = .ok (.iconst 1, 1) := by decide +kernel
theorem dL_areRings_267 : decode cL_areRings 267 = .ok (.iadd, 1) := by decide +kernel
theorem dL_areRings_268 : decode cL_areRings 268 = .ok (.iaload, 1) := by decide +kernel
theorem dL_areRings_269 : decode cL_areRings 269 = .ok (.iadd, 1) := by decide +kernel
theorem dL_areRings_270 : decode cL_areRings 270 = .ok (.istore 6, 2) := by decide +kernel
theorem dL_areRings_272 : decode cL_areRings 272 = .ok (.aload_n 0, 1) := by decide +kernel
theorem dL_areRings_273 : decode cL_areRings 273 = .ok (.iload 4, 2) := by decide +kernel
theorem dL_areRings_275 : decode cL_areRings 275 = .ok (.invokestatic 230, 3) := by decide +kernel
theorem dL_areRings_278 : decode cL_areRings 278 = .ok (.iload 5, 2) := by decide +kernel
theorem dL_areRings_280 : decode cL_areRings 280 = .ok (.if_icmp .ne 41, 3) := by decide +kernel
theorem dL_areRings_283 : decode cL_areRings 283 = .ok (.aload_n 0, 1) := by decide +kernel
theorem dL_areRings_284 : decode cL_areRings 284 = .ok (.iload 4, 2) := by decide +kernel
theorem dL_areRings_286 : decode cL_areRings 286 = .ok (.iload 5, 2) := by decide +kernel
theorem dL_areRings_288 : decode cL_areRings 288 = .ok (.invokestatic 228, 3) := by decide +kernel
theorem dL_areRings_291 : decode cL_areRings 291 = .ok (.ldc 20, 2) := by decide +kernel
theorem dL_areRings_293 : decode cL_areRings 293 = .ok (.if_icmp .ne 28, 3) := by decide +kernel
theorem dL_areRings_296 : decode cL_areRings 296 = .ok (.aload_n 0, 1) := by decide +kernel
theorem dL_areRings_297 : decode cL_areRings 297 = .ok (.iload 4, 2) := by decide +kernel
theorem dL_areRings_299 : decode cL_areRings 299 = .ok (.invokestatic 232, 3) := by decide +kernel
theorem dL_areRings_302 : decode cL_areRings 302 = .ok (.iload 5, 2) := by decide +kernel
theorem dL_areRings_304 : decode cL_areRings 304 = .ok (.ifCond .le 12, 3) := by decide +kernel
theorem dL_areRings_307 : decode cL_areRings 307 = .ok (.iload 6, 2) := by decide +kernel
theorem dL_areRings_309 : decode cL_areRings 309 = .ok (.ifCond .ge 7, 3) := by decide +kernel
theorem dL_areRings_312 : decode cL_areRings 312 = .ok (.iconst 0, 1) := by decide +kernel
theorem dL_areRings_313 : decode cL_areRings 313 = .ok (.goto 5, 3) := by decide +kernel
theorem dL_areRings_316 : decode cL_areRings 316 = .ok (.iload 6, 2) := by decide +kernel
theorem dL_areRings_318 : decode cL_areRings 318 = .ok (.if_icmp .eq 5, 3) := by decide +kernel
theorem dL_areRings_321 : decode cL_areRings 321 = .ok (.iconst 0, 1) := by decide +kernel
theorem dL_areRings_322 : decode cL_areRings 322 = .ok (.ireturn, 1) := by decide +kernel
theorem dL_areRings_323 : decode cL_areRings 323 = .ok (.iinc 4 1, 3) := by decide +kernel
theorem dL_areRings_326 : decode cL_areRings 326 = .ok (.goto (-175), 3) := by decide +kernel
theorem dL_areRings_329 : decode cL_areRings 329 = .ok (.aload_n 1, 1) := by decide +kernel
theorem dL_areRings_330 : decode cL_areRings 330 = .ok (.iconst 2, 1) := by decide +kernel
theorem dL_areRings_331 : decode cL_areRings 331 = .ok (.iaload, 1) := by decide +kernel
theorem dL_areRings_332 : decode cL_areRings 332 = .ok (.aload_n 1, 1) := by decide +kernel
theorem dL_areRings_333 : decode cL_areRings 333 = .ok (.iconst 0, 1) := by decide +kernel
theorem dL_areRings_334 : decode cL_areRings 334 = .ok (.iaload, 1) := by decide +kernel
theorem dL_areRings_335 : decode cL_areRings 335 = .ok (.if_icmp .ne 8, 3) := by decide +kernel
theorem dL_areRings_338 : decode cL_areRings 338 = .ok (.ldc 17, 2) := by decide +kernel
theorem dL_areRings_340 : decode cL_areRings 340 = .ok (.goto 7, 3) := by decide +kernel
theorem dL_areRings_343 : decode cL_areRings 343 = .ok (.aload_n 1, 1) := by decide +kernel
theorem dL_areRings_344 : decode cL_areRings 344 = .ok (.invokestatic 153, 3) := by decide +kernel
theorem dL_areRings_347 : decode cL_areRings 347 = .ok (.istore 4, 2) := by decide +kernel
theorem dL_areRings_349 : decode cL_areRings 349 = .ok (.aload_n 0, 1) := by decide +kernel
theorem dL_areRings_350 : decode cL_areRings 350 = .ok (.invokevirtual 234, 3) := by decide +kernel
theorem dL_areRings_353 : decode cL_areRings 353 = .ok (.aload_n 1, 1) := by decide +kernel
theorem dL_areRings_354 : decode cL_areRings 354 = .ok (.iconst 2, 1) := by decide +kernel
theorem dL_areRings_355 : decode cL_areRings 355 = .ok (.iaload, 1) := by decide +kernel
theorem dL_areRings_356 : decode cL_areRings 356 = .ok (.if_icmp .ne 59, 3) := by decide +kernel
theorem dL_areRings_359 : decode cL_areRings 359 = .ok (.aload_n 0, 1) := by decide +kernel
theorem dL_areRings_360 : decode cL_areRings 360 = .ok (.invokevirtual 237, 3) := by decide +kernel
theorem dL_areRings_363 : decode cL_areRings 363 = .ok (.aload_n 1, 1) := by decide +kernel
theorem dL_areRings_364 : decode cL_areRings 364 = .ok (.iconst 4, 1) := by decide +kernel
theorem dL_areRings_365 : decode cL_areRings 365 = .ok (.iaload, 1) := by decide +kernel
theorem dL_areRings_366 : decode cL_areRings 366 = .ok (.if_icmp .ne 49, 3) := by decide +kernel
theorem dL_areRings_369 : decode cL_areRings 369 = .ok (.aload_n 0, 1) := by decide +kernel
theorem dL_areRings_370 : decode cL_areRings 370 = .ok (.invokevirtual 240, 3) := by decide +kernel
theorem dL_areRings_373 : decode cL_areRings 373 = .ok (.aload_n 1, 1) := by decide +kernel
theorem dL_areRings_374 : decode cL_areRings 374 = .ok (.bipush 6, 2) := by decide +kernel
theorem dL_areRings_376 : decode cL_areRings 376 = .ok (.iaload, 1) := by decide +kernel
theorem dL_areRings_377 : decode cL_areRings 377 = .ok (.if_icmp .ne 38, 3) := by decide +kernel
theorem dL_areRings_380 : decode cL_areRings 380 = .ok (.aload_n 0, 1) := by decide +kernel
theorem dL_areRings_381 : decode cL_areRings 381 = .ok (.invokestatic 243, 3) := by decide +kernel
theorem dL_areRings_384 : decode cL_areRings 384 = .ok (.iload 4, 2) := by decide +kernel
theorem dL_areRings_386 : decode cL_areRings 386 = .ok (.if_icmp .ne 29, 3) := by decide +kernel
theorem dL_areRings_389 : decode cL_areRings 389 = .ok (.aload_n 0, 1) := by decide +kernel
theorem dL_areRings_390 : decode cL_areRings 390 = .ok (.invokestatic 246, 3) := by decide +kernel
theorem dL_areRings_393 : decode cL_areRings 393 = .ok (.iload_n 3, 1) := by decide +kernel
theorem dL_areRings_394 : decode cL_areRings 394 = .ok (.ifCond .ne 8, 3) := by decide +kernel
theorem dL_areRings_397 : decode cL_areRings 397 = .ok (.ldc 56, 2) := by decide +kernel
theorem dL_areRings_399 : decode cL_areRings 399 = .ok (.goto 8, 3) := by decide +kernel
theorem dL_areRings_402 : decode cL_areRings 402 = .ok (.iload_n 2, 1) := by decide +kernel
theorem dL_areRings_403 : decode cL_areRings 403 = .ok (.i2f, 1) := by decide +kernel
theorem dL_areRings_404 : decode cL_areRings 404 = .ok (.iload_n 3, 1) := by decide +kernel
theorem dL_areRings_405 : decode cL_areRings 405 = .ok (.i2f, 1) := by decide +kernel
theorem dL_areRings_406 : decode cL_areRings 406 = .ok (.fdiv, 1) := by decide +kernel
theorem dL_areRings_407 : decode cL_areRings 407 = .ok (.fcmp .l, 1) := by decide +kernel
theorem dL_areRings_408 : decode cL_areRings 408 = .ok (.ifCond .ne 7, 3) := by decide +kernel
theorem dL_areRings_411 : decode cL_areRings 411 = .ok (.iconst 1, 1) := by decide +kernel
theorem dL_areRings_412 : decode cL_areRings 412 = .ok (.goto 4, 3) := by decide +kernel
theorem dL_areRings_415 : decode cL_areRings 415 = .ok (.iconst 0, 1) := by decide +kernel
theorem dL_areRings_416 : decode cL_areRings 416 = .ok (.ireturn, 1) := by decide +kernel
set_option maxRecDepth 20000 in
theorem ggL_isWritten_L_writeRings : GoodIn wsL_isWritten wsL_writeRings := goodIn_ca (goodIn_ca (goodIn_r _ [8, 9, 1, 10, 11, 12, 13, 14, 15, 16, 17, 18, 19, 20, 21, 22, 23, 24, 25, 26, 27, 28, 29, 30, 31, 32, 33, 34, 35, 36, 37, 38, 39, 40, 41, 42, 43, 44, 45, 46, 280, 281, 282, 283, 284, 285, 286, 287, 288, 289, 290, 291, 292, 293, 294, 295, 296, 297, 298, 299] (by decide +kernel) (by decide +kernel)) (goodIn_sub (fun _ h => List.mem_cons_of_mem _ (List.mem_append_left _ (List.mem_append_right _ h))) (by decide +kernel))) (goodIn_sub (fun _ h => List.mem_cons_of_mem _ (List.mem_append_right _ h)) (by decide +kernel))
set_option maxRecDepth 20000 in
theorem gL_isWritten_L_writeRings : GoodIn wsL_isWritten (va_wsS RL 249 yL_writeRings wsL_writeRings) := goodIn_app (goodIn_of _ (by decide +kernel)) ggL_isWritten_L_writeRings
set_option maxRecDepth 20000 in
theorem ggL_isWritten_J4_init_da8c8 : GoodIn wsL_isWritten wsJ4_init_da8c8 := goodIn_r _ [49, 50, 51, 52, 53, 54, 55, 56, 57, 58, 59, 60, 61, 62, 63, 64, 65, 66, 67, 68, 276, 277, 278, 279] (by decide +kernel) (by decide +kernel)
set_option maxRecDepth 20000 in
theorem gL_isWritten_J4_init_da8c8 : GoodIn wsL_isWritten (wsJ4_init_da8c8) := ggL_isWritten_J4_init_da8c8
set_option maxRecDepth 20000 in
theorem ggL_isWritten_J4_append_15ec4 : GoodIn wsL_isWritten wsJ4_append_15ec4 := goodIn_r _ [72, 73, 74, 75, 76, 52, 77, 78, 79, 80, 81, 82, 83, 59, 84, 85, 86, 87, 88, 60, 89, 90, 91, 92, 93, 94, 95, 96, 97, 98, 99, 100, 19, 101, 102, 103, 104, 105, 106, 107, 108, 109, 110, 111, 112, 113, 114, 115, 58, 116, 18, 20, 117, 118, 119, 120, 121, 122, 123, 124, 125, 57, 126, 127, 63, 128, 129, 130, 131, 132, 133, 134, 135, 136, 137, 138, 139, 140, 141, 142, 143, 144, 145, 146, 147, 148, 149, 150, 151, 152, 153, 154, 155, 156, 157, 158, 159, 160, 161, 162, 163, 164, 165, 166, 167, 168, 169, 170, 171, 172, 173, 174, 175, 176, 61, 62, 64, 65, 66, 67, 68, 177, 178, 179, 180, 181, 182, 183, 184, 185, 186, 187, 188, 189, 190, 191, 192, 193, 194, 195, 196, 197, 198, 276, 277, 278, 279, 300, 301] (by decide +kernel) (by decide +kernel)
set_option maxRecDepth 20000 in
theorem gL_isWritten_J4_append_15ec4 : GoodIn wsL_isWritten (wsV RL 258 RJ4 yJ4_append_15ec4 wsJ4_append_15ec4) := goodIn_app (goodIn_of _ (by decide +kernel)) ggL_isWritten_J4_append_15ec4
set_option maxRecDepth 20000 in
theorem ggL_isWritten_J4_append_bf812 : GoodIn wsL_isWritten wsJ4_append_bf812 := goodIn_r _ [202, 203, 204, 75, 205, 52, 206, 78, 59, 207, 208, 209, 210, 84, 85, 86, 87, 88, 60, 89, 90, 91, 92, 93, 94, 95, 96, 97, 98, 99, 100, 19, 101, 102, 103, 104, 105, 106, 107, 108, 109, 110, 111, 112, 113, 114, 115, 58, 116, 18, 20, 117, 118, 119, 120, 121, 122, 123, 124, 125, 57, 211, 212, 213, 214, 215, 216, 217, 63, 218, 129, 130, 131, 132, 133, 134, 135, 136, 137, 138, 139, 140, 141, 142, 143, 144, 219, 220, 221, 222, 223, 145, 146, 147, 148, 149, 276, 277, 278, 279] (by decide +kernel) (by decide +kernel)
set_option maxRecDepth 20000 in
theorem gL_isWritten_J4_append_bf812 : GoodIn wsL_isWritten (wsV RL 262 RJ4 yJ4_append_bf812 wsJ4_append_bf812) := goodIn_app (goodIn_of _ (by decide +kernel)) ggL_isWritten_J4_append_bf812
set_option maxRecDepth 20000 in
theorem ggL_isWritten_J4_append_cf468 : GoodIn wsL_isWritten wsJ4_append_cf468 := goodIn_r _ [227, 228, 229, 75, 230, 52, 231, 78, 59, 84, 85, 86, 87, 88, 60, 89, 90, 91, 92, 93, 94, 95, 96, 97, 98, 99, 100, 19, 101, 102, 103, 104, 105, 106, 107, 108, 109, 110, 111, 112, 113, 114, 115, 58, 116, 18, 20, 117, 118, 119, 120, 121, 122, 123, 124, 125, 57, 232, 233, 179, 234, 172, 173, 174, 175, 176, 61, 62, 63, 64, 65, 66, 67, 68, 177, 178, 180, 181, 182, 183, 184, 185, 186, 133, 134, 135, 187, 188, 138, 189, 140, 190, 191, 143, 192, 145, 146, 147, 129, 148, 149, 235, 236, 237, 238, 239, 240, 241, 242, 243, 244, 245, 246, 276, 277, 278, 279] (by decide +kernel) (by decide +kernel)
set_option maxRecDepth 20000 in
theorem gL_isWritten_J4_append_cf468 : GoodIn wsL_isWritten (wsV RL 265 RJ4 yJ4_append_cf468 wsJ4_append_cf468) := goodIn_app (goodIn_of _ (by decide +kernel)) ggL_isWritten_J4_append_cf468
set_option maxRecDepth 20000 in
theorem ggL_isWritten_J4_length_8abf5 : GoodIn wsL_isWritten wsJ4_length_8abf5 := goodIn_r _ [250, 251, 252, 75, 253, 52, 254, 78, 276, 277, 278, 279] (by decide +kernel) (by decide +kernel)
set_option maxRecDepth 20000 in
theorem gL_isWritten_J4_length_8abf5 : GoodIn wsL_isWritten (wsV RL 268 RJ4 yJ4_length_8abf5 wsJ4_length_8abf5) := goodIn_app (goodIn_of _ (by decide +kernel)) ggL_isWritten_J4_length_8abf5
set_option maxRecDepth 20000 in
theorem ggL_isWritten_L_lineAt : GoodIn wsL_isWritten wsL_lineAt := goodIn_ca (goodIn_ca (goodIn_r _ [257, 9, 1, 258, 259, 260, 13, 261, 29, 30, 21, 24, 262, 280, 281, 282, 283, 284, 285, 286, 287, 288, 289, 290, 291, 298, 299] (by decide +kernel) (by decide +kernel)) (goodIn_sub (fun _ h => List.mem_cons_of_mem _ (List.mem_append_right _ h)) (by decide +kernel))) (goodIn_sub (fun _ h => List.mem_cons_of_mem _ (List.mem_append_left _ (List.mem_append_right _ h))) (by decide +kernel))
set_option maxRecDepth 20000 in
theorem gL_isWritten_L_lineAt : GoodIn wsL_isWritten (va_wsS RL 271 yL_lineAt wsL_lineAt) := goodIn_app (goodIn_of _ (by decide +kernel)) ggL_isWritten_L_lineAt
set_option maxRecDepth 20000 in
theorem ggL_isWritten_J4_charAt_5068e : GoodIn wsL_isWritten wsJ4_charAt_5068e := goodIn_r _ [266, 267, 268, 75, 269, 52, 270, 60, 59, 78, 271, 18, 19, 20, 272, 242, 138, 243, 140, 244, 245, 143, 246, 273, 274, 63, 275, 129, 148, 149, 133, 134, 135, 276, 277, 278, 279] (by decide +kernel) (by decide +kernel)
set_option maxRecDepth 20000 in
theorem gL_isWritten_J4_charAt_5068e : GoodIn wsL_isWritten (wsV RL 273 RJ4 yJ4_charAt_5068e wsJ4_charAt_5068e) := goodIn_app (goodIn_of _ (by decide +kernel)) ggL_isWritten_J4_charAt_5068e
theorem dL_isWritten_0 : decode cL_isWritten 0 = .ok (.iload_n 2, 1) := by decide +kernel
