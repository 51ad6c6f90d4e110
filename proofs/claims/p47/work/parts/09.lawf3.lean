set_option maxRecDepth 20000 in
theorem zgL_law_L_hoursToCure_r1 : GoodIn wsL_law wsL_hoursToCure_r1 := goodIn_r _ [150, 326, 0, 1, 347, 348, 349, 12, 350, 34, 155, 54, 156, 157, 158, 159, 160, 351, 352, 353, 354, 331, 332, 355] (by decide +kernel) (by decide +kernel)
set_option maxRecDepth 20000 in
theorem zgL_law_L_hoursToCure_r2 : GoodIn wsL_law wsL_hoursToCure_r2 := goodIn_r _ [356, 357, 33, 358, 79, 359, 199, 141, 200] (by decide +kernel) (by decide +kernel)
set_option maxRecDepth 20000 in
theorem ggL_law_L_hoursToCure : GoodIn wsL_law wsL_hoursToCure := goodIn_ca (goodIn_ca (goodIn_ca (goodIn_c1 (goodIn_r _ [346] (by decide +kernel) (by decide +kernel)) (goodIn_app (goodIn_app (goodIn_app zgL_law_L_hoursToCure_r1 zgL_law_L_hoursToCure_r2) zgL_law_X8) zgL_law_X7)) (goodIn_sub (fun _ h => List.mem_append_left _ (List.mem_append_left _ (List.mem_append_left _ (List.mem_append_left _ (List.mem_append_left _ (List.mem_append_left _ (List.mem_append_left _ (List.mem_append_right _ h)))))))) (by decide +kernel))) (goodIn_sub (fun _ h => List.mem_append_left _ (List.mem_append_left _ (List.mem_append_left _ (List.mem_append_right _ h)))) (by decide +kernel))) (goodIn_sub (fun _ h => List.mem_append_left _ (List.mem_append_left _ (List.mem_append_right _ h))) (by decide +kernel))
set_option maxRecDepth 20000 in
theorem gL_law_L_hoursToCure : GoodIn wsL_law (va_wsS RL 232 yL_hoursToCure wsL_hoursToCure) := goodIn_app (goodIn_of _ (by decide +kernel)) ggL_law_L_hoursToCure
set_option maxRecDepth 20000 in
theorem zgL_law_L_restack_r1 : GoodIn wsL_law wsL_restack_r1 := goodIn_r _ [150, 326, 121, 0, 1, 146, 433, 434, 435, 12, 436, 126, 127, 34, 155, 156, 157, 158, 159, 160, 351, 352, 353, 354] (by decide +kernel) (by decide +kernel)
set_option maxRecDepth 20000 in
theorem zgL_law_L_restack_r2 : GoodIn wsL_law wsL_restack_r2 := goodIn_r _ [331, 332, 161, 162, 163, 33, 164, 77, 437, 438, 439, 440, 78, 79, 441, 442, 443, 444, 445, 166, 167, 168] (by decide +kernel) (by decide +kernel)
set_option maxRecDepth 20000 in
theorem ggL_law_L_restack : GoodIn wsL_law wsL_restack := goodIn_ca (goodIn_ca (goodIn_ca (goodIn_ca (goodIn_c1 (goodIn_r _ [432] (by decide +kernel) (by decide +kernel)) (goodIn_app (goodIn_app (goodIn_app zgL_law_L_restack_r1 zgL_law_L_restack_r2) zgL_law_X8) zgL_law_X7)) (goodIn_sub (fun _ h => List.mem_append_left _ (List.mem_append_left _ (List.mem_append_left _ (List.mem_append_left _ (List.mem_append_left _ (List.mem_append_right _ h)))))) (by decide +kernel))) (goodIn_sub (fun _ h => List.mem_append_left _ (List.mem_append_left _ (List.mem_append_left _ (List.mem_append_left _ (List.mem_append_left _ (List.mem_append_left _ (List.mem_append_left _ (List.mem_append_right _ h)))))))) (by decide +kernel))) (goodIn_sub (fun _ h => List.mem_append_left _ (List.mem_append_left _ (List.mem_append_left _ (List.mem_append_right _ h)))) (by decide +kernel))) (goodIn_sub (fun _ h => List.mem_append_left _ (List.mem_append_left _ (List.mem_append_right _ h))) (by decide +kernel))
set_option maxRecDepth 20000 in
theorem gL_law_L_restack : GoodIn wsL_law (va_wsS RL 129 yL_restack wsL_restack) := goodIn_app (goodIn_of _ (by decide +kernel)) ggL_law_L_restack
set_option maxRecDepth 20000 in
theorem ggL_law_L_setPressure : GoodIn wsL_law wsL_setPressure := goodIn_ca (goodIn_r _ [448, 120, 0, 449, 450, 451, 12, 452, 51, 129, 130, 131, 132, 133, 861, 862, 863, 864, 865, 866, 867, 868, 869, 870, 871, 872] (by decide +kernel) (by decide +kernel)) (goodIn_sub (fun _ h => List.mem_append_left _ (List.mem_append_left _ (List.mem_append_left _ (List.mem_append_left _ (List.mem_append_right _ h))))) (by decide +kernel))
set_option maxRecDepth 20000 in
theorem gL_law_L_setPressure : GoodIn wsL_law (va_wsS RL 196 yL_setPressure wsL_setPressure) := goodIn_app (goodIn_of _ (by decide +kernel)) ggL_law_L_setPressure
set_option maxRecDepth 20000 in
theorem ggL_law_L_addSlurry : GoodIn wsL_law wsL_addSlurry := goodIn_ca (goodIn_ca (goodIn_r _ [174, 120, 121, 0, 1, 175, 176, 177, 12, 178, 126, 127, 52, 129, 130, 131, 132, 133, 861, 862, 863, 864, 865, 866, 867, 868, 869, 870, 871, 872] (by decide +kernel) (by decide +kernel)) (goodIn_sub (fun _ h => List.mem_append_left _ (List.mem_append_left _ (List.mem_append_left _ (List.mem_append_left _ (List.mem_append_left _ (List.mem_append_right _ h)))))) (by decide +kernel))) (goodIn_sub (fun _ h => List.mem_append_left _ (List.mem_append_left _ (List.mem_append_left _ (List.mem_append_left _ (List.mem_append_right _ h))))) (by decide +kernel))
set_option maxRecDepth 20000 in
theorem gL_law_L_addSlurry : GoodIn wsL_law (va_wsS RL 198 yL_addSlurry wsL_addSlurry) := goodIn_app (goodIn_of _ (by decide +kernel)) ggL_law_L_addSlurry
set_option maxRecDepth 20000 in
theorem ggL_law_L_setTolerance : GoodIn wsL_law wsL_setTolerance := goodIn_ca (goodIn_r _ [455, 120, 0, 456, 457, 458, 12, 459, 53, 129, 130, 131, 132, 133, 861, 862, 863, 864, 865, 866, 867, 868, 869, 870, 871, 872] (by decide +kernel) (by decide +kernel)) (goodIn_sub (fun _ h => List.mem_append_left _ (List.mem_append_left _ (List.mem_append_left _ (List.mem_append_left _ (List.mem_append_right _ h))))) (by decide +kernel))
set_option maxRecDepth 20000 in
theorem gL_law_L_setTolerance : GoodIn wsL_law (va_wsS RL 200 yL_setTolerance wsL_setTolerance) := goodIn_app (goodIn_of _ (by decide +kernel)) ggL_law_L_setTolerance
set_option maxRecDepth 20000 in
theorem zgL_law_L_reasonFor_r1 : GoodIn wsL_law wsL_reasonFor_r1 := goodIn_r _ [150, 120, 0, 1, 506, 507, 508, 12, 509, 156, 157, 158, 159, 160, 510, 511, 512, 132, 133, 513, 514, 515, 516, 517] (by decide +kernel) (by decide +kernel)
set_option maxRecDepth 20000 in
theorem zgL_law_L_reasonFor_r2 : GoodIn wsL_law wsL_reasonFor_r2 := goodIn_r _ [38, 189, 22, 34, 155, 54, 52, 42, 53, 382, 206, 207, 21, 208, 138, 355, 356, 357, 33, 358, 79, 359, 199, 141] (by decide +kernel) (by decide +kernel)
set_option maxRecDepth 20000 in
theorem zgL_law_L_reasonFor_r3 : GoodIn wsL_law wsL_reasonFor_r3 := goodIn_r _ [200, 518, 519, 520, 37, 521, 522, 83, 523, 524, 525, 300, 301, 302, 383, 384, 385, 386, 51, 387, 388, 202, 203, 204] (by decide +kernel) (by decide +kernel)
set_option maxRecDepth 20000 in
theorem zgL_law_L_reasonFor_r4 : GoodIn wsL_law wsL_reasonFor_r4 := goodIn_r _ [58, 205, 209, 210, 211, 212, 59, 526, 527, 528, 529, 530, 46, 26, 303, 304, 305, 306, 269, 270, 271, 45, 272, 273] (by decide +kernel) (by decide +kernel)
set_option maxRecDepth 20000 in
theorem zgL_law_L_reasonFor_r5 : GoodIn wsL_law wsL_reasonFor_r5 := goodIn_r _ [274, 275, 276, 307, 308, 309, 25, 310, 311, 64, 312, 313, 314, 315, 65, 316, 282, 283, 284, 531, 532, 533, 41, 534] (by decide +kernel) (by decide +kernel)
set_option maxRecDepth 20000 in
theorem zgL_law_L_reasonFor_r6 : GoodIn wsL_law wsL_reasonFor_r6 := goodIn_r _ [96, 535, 536, 537, 538, 539, 540, 541, 333, 334, 335, 336, 78, 542, 543, 544, 545, 97, 98, 99, 546, 547, 548, 549] (by decide +kernel) (by decide +kernel)
set_option maxRecDepth 20000 in
theorem zgL_law_L_reasonFor_r7 : GoodIn wsL_law wsL_reasonFor_r7 := goodIn_r _ [550, 551, 552, 553, 554, 555, 556, 557, 558, 559, 560, 561, 562, 563, 564, 565, 566, 567, 568, 569, 570, 571, 572, 573] (by decide +kernel) (by decide +kernel)
set_option maxRecDepth 20000 in
theorem zgL_law_L_reasonFor_r8 : GoodIn wsL_law wsL_reasonFor_r8 := goodIn_r _ [574, 575] (by decide +kernel) (by decide +kernel)
set_option maxRecDepth 20000 in
theorem ggL_law_L_reasonFor : GoodIn wsL_law wsL_reasonFor := goodIn_ca (goodIn_ca (goodIn_ca (goodIn_c1 (goodIn_r _ [505] (by decide +kernel) (by decide +kernel)) (goodIn_app (goodIn_app (goodIn_app (goodIn_app (goodIn_app (goodIn_app (goodIn_app (goodIn_app zgL_law_L_reasonFor_r1 (goodIn_app zgL_law_L_reasonFor_r2 (goodIn_app zgL_law_L_reasonFor_r3 (goodIn_app zgL_law_L_reasonFor_r4 (goodIn_app zgL_law_L_reasonFor_r5 (goodIn_app zgL_law_L_reasonFor_r6 (goodIn_app zgL_law_L_reasonFor_r7 zgL_law_L_reasonFor_r8))))))) zgL_law_X8) zgL_law_X6) zgL_law_X7) zgL_law_X1) zgL_law_X0) zgL_law_X3) zgL_law_X4)) (goodIn_sub (fun _ h => List.mem_append_left _ (List.mem_append_left _ (List.mem_append_left _ (List.mem_append_right _ h)))) (by decide +kernel))) (goodIn_sub (fun _ h => List.mem_append_left _ (List.mem_append_left _ (List.mem_append_left _ (List.mem_append_left _ (List.mem_append_right _ h))))) (by decide +kernel))) (goodIn_sub (fun _ h => List.mem_append_left _ (List.mem_append_left _ (List.mem_append_left _ (List.mem_append_left _ (List.mem_append_left _ (List.mem_append_left _ (List.mem_append_left _ (List.mem_append_right _ h)))))))) (by decide +kernel))
set_option maxRecDepth 20000 in
theorem gL_law_L_reasonFor : GoodIn wsL_law (va_wsS RL 164 yL_reasonFor wsL_reasonFor) := goodIn_app (goodIn_of _ (by decide +kernel)) ggL_law_L_reasonFor
set_option maxRecDepth 20000 in
theorem zgL_law_L_lay_r1 : GoodIn wsL_law wsL_lay_r1 := goodIn_r _ [150, 120, 579, 121, 0, 1, 146, 484, 580, 581, 582, 12, 583, 584, 585, 126, 127, 54, 38, 189, 52, 34, 156, 157] (by decide +kernel) (by decide +kernel)
set_option maxRecDepth 20000 in
theorem zgL_law_L_lay_r2 : GoodIn wsL_law wsL_lay_r2 := goodIn_r _ [158, 159, 160, 510, 511, 512, 132, 133, 513, 514, 515, 516, 517, 22, 155, 42, 53, 382, 206, 207, 21, 208, 138, 355] (by decide +kernel) (by decide +kernel)
set_option maxRecDepth 20000 in
theorem zgL_law_L_lay_r3 : GoodIn wsL_law wsL_lay_r3 := goodIn_r _ [356, 357, 33, 358, 79, 359, 199, 141, 200, 518, 519, 520, 37, 521, 522, 83, 523, 524, 525, 300, 301, 302, 383, 384] (by decide +kernel) (by decide +kernel)
set_option maxRecDepth 20000 in
theorem zgL_law_L_lay_r4 : GoodIn wsL_law wsL_lay_r4 := goodIn_r _ [385, 386, 51, 387, 388, 202, 203, 204, 58, 205, 209, 210, 211, 212, 59, 526, 527, 528, 529, 530, 46, 26, 303, 304] (by decide +kernel) (by decide +kernel)
set_option maxRecDepth 20000 in
theorem zgL_law_L_lay_r5 : GoodIn wsL_law wsL_lay_r5 := goodIn_r _ [305, 306, 269, 270, 271, 45, 272, 273, 274, 275, 276, 307, 308, 309, 25, 310, 311, 64, 312, 313, 314, 315, 65, 316] (by decide +kernel) (by decide +kernel)
set_option maxRecDepth 20000 in
theorem zgL_law_L_lay_r6 : GoodIn wsL_law wsL_lay_r6 := goodIn_r _ [282, 283, 284, 531, 532, 533, 41, 534, 96, 535, 536, 537, 538, 539, 540, 541, 333, 334, 335, 336, 78, 542, 543, 544] (by decide +kernel) (by decide +kernel)
set_option maxRecDepth 20000 in
theorem zgL_law_L_lay_r7 : GoodIn wsL_law wsL_lay_r7 := goodIn_r _ [545, 97, 98, 99, 546, 547, 548, 549, 550, 551, 552, 553, 554, 555, 556, 557, 558, 559, 560, 561, 562, 563, 564, 565] (by decide +kernel) (by decide +kernel)
set_option maxRecDepth 20000 in
theorem zgL_law_L_lay_r8 : GoodIn wsL_law wsL_lay_r8 := goodIn_r _ [566, 567, 568, 569, 570, 571, 572, 573, 574, 575, 586, 587, 588, 589, 194, 195, 196, 197, 198, 201, 213, 214, 215, 216] (by decide +kernel) (by decide +kernel)
set_option maxRecDepth 20000 in
theorem zgL_law_L_lay_r9 : GoodIn wsL_law wsL_lay_r9 := goodIn_r _ [60, 590, 591, 592, 593, 77, 594, 595, 596, 597, 598, 88, 84, 85, 599, 86, 600, 601, 278, 279, 280, 281, 602, 442] (by decide +kernel) (by decide +kernel)
set_option maxRecDepth 20000 in
theorem zgL_law_L_lay_r10 : GoodIn wsL_law wsL_lay_r10 := goodIn_r _ [443, 444] (by decide +kernel) (by decide +kernel)
set_option maxRecDepth 20000 in
theorem ggL_law_L_lay : GoodIn wsL_law wsL_lay := goodIn_ca (goodIn_ca (goodIn_ca (goodIn_ca (goodIn_ca (goodIn_c1 (goodIn_r _ [578] (by decide +kernel) (by decide +kernel)) (goodIn_app (goodIn_app (goodIn_app (goodIn_app (goodIn_app (goodIn_app (goodIn_app (goodIn_app zgL_law_L_lay_r1 (goodIn_app zgL_law_L_lay_r2 (goodIn_app zgL_law_L_lay_r3 (goodIn_app zgL_law_L_lay_r4 (goodIn_app zgL_law_L_lay_r5 (goodIn_app zgL_law_L_lay_r6 (goodIn_app zgL_law_L_lay_r7 (goodIn_app zgL_law_L_lay_r8 (goodIn_app zgL_law_L_lay_r9 zgL_law_L_lay_r10))))))))) zgL_law_X8) zgL_law_X6) zgL_law_X7) zgL_law_X1) zgL_law_X0) zgL_law_X3) zgL_law_X4)) (goodIn_sub (fun _ h => List.mem_append_right _ h) (by decide +kernel))) (goodIn_sub (fun _ h => List.mem_append_left _ (List.mem_append_left _ (List.mem_append_left _ (List.mem_append_left _ (List.mem_append_left _ (List.mem_append_right _ h)))))) (by decide +kernel))) (goodIn_sub (fun _ h => List.mem_append_left _ (List.mem_append_left _ (List.mem_append_left _ (List.mem_append_right _ h)))) (by decide +kernel))) (goodIn_sub (fun _ h => List.mem_append_left _ (List.mem_append_left _ (List.mem_append_left _ (List.mem_append_left _ (List.mem_append_right _ h))))) (by decide +kernel))) (goodIn_sub (fun _ h => List.mem_append_left _ (List.mem_append_left _ (List.mem_append_left _ (List.mem_append_left _ (List.mem_append_left _ (List.mem_append_left _ (List.mem_append_left _ (List.mem_append_right _ h)))))))) (by decide +kernel))
set_option maxRecDepth 20000 in
theorem gL_law_L_lay : GoodIn wsL_law (va_wsS RL 166 yL_lay wsL_lay) := goodIn_app (goodIn_of _ (by decide +kernel)) ggL_law_L_lay
set_option maxRecDepth 20000 in
theorem zgL_law_L_stop_r1 : GoodIn wsL_law wsL_stop_r1 := goodIn_r _ [120, 121, 0, 1, 185, 186, 187, 12, 188, 126, 127, 54, 38, 189, 129, 130, 131, 132, 133, 190, 191, 192, 193, 22] (by decide +kernel) (by decide +kernel)
set_option maxRecDepth 20000 in
theorem zgL_law_L_stop_r2 : GoodIn wsL_law wsL_stop_r2 := goodIn_r _ [51, 194, 195, 196, 21, 197, 198, 199, 141, 200, 201, 202, 203, 204, 58, 205, 206, 207, 208, 138, 209, 210, 211, 212] (by decide +kernel) (by decide +kernel)
set_option maxRecDepth 20000 in
theorem zgL_law_L_stop_r3 : GoodIn wsL_law wsL_stop_r3 := goodIn_r _ [59, 213, 214, 215, 216, 60] (by decide +kernel) (by decide +kernel)
set_option maxRecDepth 20000 in
theorem ggL_law_L_stop : GoodIn wsL_law wsL_stop := goodIn_ca (goodIn_ca (goodIn_ca (goodIn_c1 (goodIn_r _ [184] (by decide +kernel) (by decide +kernel)) (goodIn_app (goodIn_app (goodIn_app (goodIn_app zgL_law_L_stop_r1 (goodIn_app zgL_law_L_stop_r2 zgL_law_L_stop_r3)) zgL_law_X8) zgL_law_X6) zgL_law_X1)) (goodIn_sub (fun _ h => List.mem_append_left _ (List.mem_append_left _ (List.mem_append_left _ (List.mem_append_left _ (List.mem_append_left _ (List.mem_append_right _ h)))))) (by decide +kernel))) (goodIn_sub (fun _ h => List.mem_append_left _ (List.mem_append_left _ (List.mem_append_left _ (List.mem_append_left _ (List.mem_append_right _ h))))) (by decide +kernel))) (goodIn_sub (fun _ h => List.mem_append_left _ (List.mem_append_left _ (List.mem_append_left _ (List.mem_append_left _ (List.mem_append_left _ (List.mem_append_left _ (List.mem_append_left _ (List.mem_append_right _ h)))))))) (by decide +kernel))
set_option maxRecDepth 20000 in
theorem gL_law_L_stop : GoodIn wsL_law (va_wsS RL 168 yL_stop wsL_stop) := goodIn_app (goodIn_of _ (by decide +kernel)) ggL_law_L_stop
set_option maxRecDepth 20000 in
theorem ggL_law_L_positionOf : GoodIn wsL_law wsL_positionOf := goodIn_ca (goodIn_ca (goodIn_r _ [223, 150, 0, 224, 225, 226, 12, 227, 38, 228, 229, 230, 231, 232, 159, 160, 189, 861, 862, 863, 864, 865, 866, 867, 868, 869, 870, 871, 872, 889, 890, 891, 892, 893, 894] (by decide +kernel) (by decide +kernel)) (goodIn_sub (fun _ h => List.mem_append_left _ (List.mem_append_left _ (List.mem_append_left _ (List.mem_append_left _ (List.mem_append_left _ (List.mem_append_left _ (List.mem_append_left _ (List.mem_append_right _ h)))))))) (by decide +kernel))) (goodIn_sub (fun _ h => List.mem_append_left _ (List.mem_append_left _ (List.mem_append_left _ (List.mem_append_right _ h)))) (by decide +kernel))
set_option maxRecDepth 20000 in
theorem gL_law_L_positionOf : GoodIn wsL_law (va_wsS RL 214 yL_positionOf wsL_positionOf) := goodIn_app (goodIn_of _ (by decide +kernel)) ggL_law_L_positionOf
