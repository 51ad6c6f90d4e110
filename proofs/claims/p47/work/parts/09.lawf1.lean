theorem goodIn_c1 {big a : List Cond} {c : Cond} (hc : GoodIn big [c]) (ha : GoodIn big a) : GoodIn big (c :: a) := fun w h => (List.mem_cons.mp h).elim (fun e => hc w (by rw [e]; exact List.mem_cons_self)) (ha w)
set_option maxRecDepth 20000 in
theorem ggL_law_L_begun : GoodIn wsL_law wsL_begun := goodIn_ca (goodIn_r _ [5, 6] (by decide +kernel) (by decide +kernel)) (goodIn_sub (fun _ h => List.mem_append_left _ (List.mem_append_left _ (List.mem_append_left _ (List.mem_append_left _ (List.mem_append_left _ (List.mem_append_left _ (List.mem_append_left _ (List.mem_append_right _ h)))))))) (by decide +kernel))
set_option maxRecDepth 20000 in
theorem gL_law_L_begun : GoodIn wsL_law (va_wsS RL 276 yL_begun wsL_begun) := goodIn_app (goodIn_of _ (by decide +kernel)) ggL_law_L_begun
set_option maxRecDepth 20000 in
theorem zgL_law_L_begun__r1 : GoodIn wsL_law wsL_begun__r1 := goodIn_r _ [10, 11, 12, 13, 14, 15, 16, 17, 18, 19, 20, 21, 22, 23, 24, 25, 26, 27, 28, 29, 30, 31, 32, 33] (by decide +kernel) (by decide +kernel)
set_option maxRecDepth 20000 in
theorem zgL_law_L_begun__r2 : GoodIn wsL_law wsL_begun__r2 := goodIn_r _ [34, 35, 36, 37, 38, 39, 40, 41, 42, 43, 44, 45, 46, 47, 48, 49, 50, 51, 52, 53, 54, 55, 56, 57] (by decide +kernel) (by decide +kernel)
set_option maxRecDepth 20000 in
theorem zgL_law_L_begun__r3 : GoodIn wsL_law wsL_begun__r3 := goodIn_r _ [6, 58, 59, 60, 61, 62, 63, 64, 65, 66, 67, 68, 69, 70, 71, 72, 73, 74, 75, 76, 77, 78, 79, 80] (by decide +kernel) (by decide +kernel)
set_option maxRecDepth 20000 in
theorem zgL_law_L_begun__r4 : GoodIn wsL_law wsL_begun__r4 := goodIn_r _ [81, 82, 83, 84, 85, 86, 87, 88, 89, 90, 91, 92, 93, 94, 95, 96, 97, 98, 99, 100, 101, 102, 103, 104] (by decide +kernel) (by decide +kernel)
set_option maxRecDepth 20000 in
theorem zgL_law_L_begun__r5 : GoodIn wsL_law wsL_begun__r5 := goodIn_r _ [105, 106, 4, 107, 108, 109, 110, 111, 112, 113, 114, 115, 116, 1, 117, 118, 119, 120, 121, 0, 122, 123, 124, 125] (by decide +kernel) (by decide +kernel)
set_option maxRecDepth 20000 in
theorem zgL_law_L_begun__r6 : GoodIn wsL_law wsL_begun__r6 := goodIn_r _ [126, 127, 128, 129, 130, 131, 132, 133, 134, 135, 136, 137, 138, 139, 140, 141, 142, 143, 144, 145, 146, 147, 148, 149] (by decide +kernel) (by decide +kernel)
set_option maxRecDepth 20000 in
theorem zgL_law_L_begun__r7 : GoodIn wsL_law wsL_begun__r7 := goodIn_r _ [150, 151, 152, 153, 154, 155, 156, 157, 158, 159, 160, 161, 162, 163, 164, 165, 166, 167, 168, 169, 170, 171, 172, 173] (by decide +kernel) (by decide +kernel)
set_option maxRecDepth 20000 in
theorem zgL_law_L_begun__r8 : GoodIn wsL_law wsL_begun__r8 := goodIn_r _ [174, 175, 176, 177, 178, 179, 180, 181, 182, 183, 184, 185, 186, 187, 188, 189, 190, 191, 192, 193, 194, 195, 196, 197] (by decide +kernel) (by decide +kernel)
set_option maxRecDepth 20000 in
theorem zgL_law_L_begun__r9 : GoodIn wsL_law wsL_begun__r9 := goodIn_r _ [198, 199, 200, 201, 202, 203, 204, 205, 206, 207, 208, 209, 210, 211, 212, 213, 214, 215, 216] (by decide +kernel) (by decide +kernel)
set_option maxRecDepth 20000 in
theorem zgL_law_X8 : GoodIn wsL_law wsX80 := goodIn_r _ [861, 862, 863, 864, 865, 866, 867, 868, 869, 870, 871, 872] (by decide +kernel) (by decide +kernel)
set_option maxRecDepth 20000 in
theorem zgL_law_X1 : GoodIn wsL_law wsX10 := goodIn_r _ [873, 874, 875, 876] (by decide +kernel) (by decide +kernel)
set_option maxRecDepth 20000 in
theorem zgL_law_X3 : GoodIn wsL_law wsX30 := goodIn_r _ [877, 878, 879] (by decide +kernel) (by decide +kernel)
set_option maxRecDepth 20000 in
theorem zgL_law_X2 : GoodIn wsL_law wsX20 := goodIn_r _ [880, 881, 882, 883, 884, 885] (by decide +kernel) (by decide +kernel)
set_option maxRecDepth 20000 in
theorem zgL_law_X7 : GoodIn wsL_law wsX70 := goodIn_r _ [886, 887, 888] (by decide +kernel) (by decide +kernel)
set_option maxRecDepth 20000 in
theorem zgL_law_X6 : GoodIn wsL_law wsX60 := goodIn_r _ [889, 890, 891, 892, 893, 894] (by decide +kernel) (by decide +kernel)
set_option maxRecDepth 20000 in
theorem zgL_law_X4 : GoodIn wsL_law wsX40 := goodIn_r _ [895, 896, 897, 898, 899, 900] (by decide +kernel) (by decide +kernel)
set_option maxRecDepth 20000 in
theorem zgL_law_X0 : GoodIn wsL_law wsX00 := goodIn_r _ [901, 902, 903, 904] (by decide +kernel) (by decide +kernel)
set_option maxRecDepth 20000 in
theorem zgL_law_X5 : GoodIn wsL_law wsX50 := goodIn_r _ [905, 906] (by decide +kernel) (by decide +kernel)
set_option maxRecDepth 20000 in
theorem ggL_law_L_begun_ : GoodIn wsL_law wsL_begun_ := goodIn_ca (goodIn_ca (goodIn_ca (goodIn_ca (goodIn_ca (goodIn_c1 (goodIn_r _ [9] (by decide +kernel) (by decide +kernel)) (goodIn_app (goodIn_app (goodIn_app (goodIn_app (goodIn_app (goodIn_app (goodIn_app (goodIn_app (goodIn_app (goodIn_app zgL_law_L_begun__r1 (goodIn_app zgL_law_L_begun__r2 (goodIn_app zgL_law_L_begun__r3 (goodIn_app zgL_law_L_begun__r4 (goodIn_app zgL_law_L_begun__r5 (goodIn_app zgL_law_L_begun__r6 (goodIn_app zgL_law_L_begun__r7 (goodIn_app zgL_law_L_begun__r8 zgL_law_L_begun__r9)))))))) zgL_law_X8) zgL_law_X1) zgL_law_X3) zgL_law_X2) zgL_law_X7) zgL_law_X6) zgL_law_X4) zgL_law_X0) zgL_law_X5)) (goodIn_sub (fun _ h => List.mem_append_left _ (List.mem_append_left _ (List.mem_append_left _ (List.mem_append_left _ (List.mem_append_left _ (List.mem_append_left _ (List.mem_append_left _ (List.mem_append_right _ h)))))))) (by decide +kernel))) (goodIn_sub (fun _ h => List.mem_append_left _ (List.mem_append_left _ (List.mem_append_left _ (List.mem_append_left _ (List.mem_append_left _ (List.mem_append_left _ (List.mem_append_right _ h))))))) (by decide +kernel))) (goodIn_sub (fun _ h => List.mem_append_left _ (List.mem_append_left _ (List.mem_append_left _ (List.mem_append_left _ (List.mem_append_left _ (List.mem_append_right _ h)))))) (by decide +kernel))) (goodIn_sub (fun _ h => List.mem_append_left _ (List.mem_append_left _ (List.mem_append_left _ (List.mem_append_left _ (List.mem_append_right _ h))))) (by decide +kernel))) (goodIn_sub (fun _ h => List.mem_append_left _ (List.mem_append_left _ (List.mem_append_left _ (List.mem_append_right _ h)))) (by decide +kernel))
set_option maxRecDepth 20000 in
theorem gL_law_L_begun_ : GoodIn wsL_law (va_wsS RL 280 yL_begun_ wsL_begun_) := goodIn_app (goodIn_of _ (by decide +kernel)) ggL_law_L_begun_
set_option maxRecDepth 20000 in
theorem zgL_law_L_areRings_r1 : GoodIn wsL_law wsL_areRings_r1 := goodIn_r _ [1, 0, 220, 221, 222, 4, 223, 150, 224, 225, 226, 12, 227, 38, 228, 229, 230, 231, 232, 159, 160, 189, 233, 234] (by decide +kernel) (by decide +kernel)
set_option maxRecDepth 20000 in
theorem zgL_law_L_areRings_r2 : GoodIn wsL_law wsL_areRings_r2 := goodIn_r _ [235, 236, 237, 238, 239, 240, 241, 242, 243, 244, 245, 246, 247, 248, 249, 250, 251, 252, 253, 254, 255, 256, 257, 258] (by decide +kernel) (by decide +kernel)
set_option maxRecDepth 20000 in
theorem zgL_law_L_areRings_r3 : GoodIn wsL_law wsL_areRings_r3 := goodIn_r _ [259, 260, 261, 262, 263, 46, 264, 265, 266, 267, 268, 269, 270, 271, 45, 272, 273, 274, 275, 276, 277, 278, 279, 280] (by decide +kernel) (by decide +kernel)
set_option maxRecDepth 20000 in
theorem zgL_law_L_areRings_r4 : GoodIn wsL_law wsL_areRings_r4 := goodIn_r _ [281, 282, 283, 284, 285, 286, 287, 288, 289, 290, 291, 292, 293, 294, 295, 296, 297, 298, 299, 300, 301, 141, 302, 303] (by decide +kernel) (by decide +kernel)
set_option maxRecDepth 20000 in
theorem zgL_law_L_areRings_r5 : GoodIn wsL_law wsL_areRings_r5 := goodIn_r _ [304, 305, 306, 26, 307, 308, 309, 25, 310, 311, 64, 312, 313, 314, 315, 65, 316, 317, 318, 319, 320, 321, 322, 323] (by decide +kernel) (by decide +kernel)
set_option maxRecDepth 20000 in
theorem zgL_law_L_areRings_r6 : GoodIn wsL_law wsL_areRings_r6 := goodIn_r _ [324, 325, 326, 327, 328, 329, 330, 331, 332, 34, 155, 156, 157, 158, 333, 334, 335, 33, 336, 78, 169, 170, 171, 337] (by decide +kernel) (by decide +kernel)
set_option maxRecDepth 20000 in
theorem zgL_law_L_areRings_r7 : GoodIn wsL_law wsL_areRings_r7 := goodIn_r _ [338, 339, 340, 341, 342, 343, 344, 345, 346, 347, 348, 349, 350, 54, 351, 352, 353, 354, 355, 356, 357, 358, 79, 359] (by decide +kernel) (by decide +kernel)
set_option maxRecDepth 20000 in
theorem zgL_law_L_areRings_r8 : GoodIn wsL_law wsL_areRings_r8 := goodIn_r _ [199, 200, 360, 361, 362, 363, 364, 365, 366, 367, 368, 369, 370, 371, 372, 373, 374, 52, 375, 376, 377, 378, 379, 380] (by decide +kernel) (by decide +kernel)
set_option maxRecDepth 20000 in
theorem zgL_law_L_areRings_r9 : GoodIn wsL_law wsL_areRings_r9 := goodIn_r _ [381, 22, 382, 206, 207, 21, 208, 138, 383, 384, 385, 386, 51, 387, 388, 202, 203, 204, 58, 205, 209, 210, 211, 212] (by decide +kernel) (by decide +kernel)
set_option maxRecDepth 20000 in
theorem zgL_law_L_areRings_r10 : GoodIn wsL_law wsL_areRings_r10 := goodIn_r _ [59, 389, 390, 391, 392, 393, 394, 395, 396, 397, 398, 399, 400, 401, 402, 77, 403, 404, 405, 406, 407] (by decide +kernel) (by decide +kernel)
set_option maxRecDepth 20000 in
theorem ggL_law_L_areRings : GoodIn wsL_law wsL_areRings := goodIn_ca (goodIn_ca (goodIn_ca (goodIn_ca (goodIn_c1 (goodIn_r _ [219] (by decide +kernel) (by decide +kernel)) (goodIn_app (goodIn_app (goodIn_app (goodIn_app (goodIn_app (goodIn_app (goodIn_app zgL_law_L_areRings_r1 (goodIn_app zgL_law_L_areRings_r2 (goodIn_app zgL_law_L_areRings_r3 (goodIn_app zgL_law_L_areRings_r4 (goodIn_app zgL_law_L_areRings_r5 (goodIn_app zgL_law_L_areRings_r6 (goodIn_app zgL_law_L_areRings_r7 (goodIn_app zgL_law_L_areRings_r8 (goodIn_app zgL_law_L_areRings_r9 zgL_law_L_areRings_r10))))))))) zgL_law_X8) zgL_law_X6) zgL_law_X0) zgL_law_X3) zgL_law_X7) zgL_law_X1)) (goodIn_sub (fun _ h => List.mem_append_left _ (List.mem_append_left _ (List.mem_append_left _ (List.mem_append_left _ (List.mem_append_left _ (List.mem_append_left _ (List.mem_append_left _ (List.mem_append_right _ h)))))))) (by decide +kernel))) (goodIn_sub (fun _ h => List.mem_append_left _ (List.mem_append_left _ (List.mem_append_left _ (List.mem_append_right _ h)))) (by decide +kernel))) (goodIn_sub (fun _ h => List.mem_append_left _ (List.mem_append_left _ (List.mem_append_right _ h))) (by decide +kernel))) (goodIn_sub (fun _ h => List.mem_append_left _ (List.mem_append_right _ h)) (by decide +kernel))
set_option maxRecDepth 20000 in
theorem gL_law_L_areRings : GoodIn wsL_law (va_wsS RL 283 yL_areRings wsL_areRings) := goodIn_app (goodIn_of _ (by decide +kernel)) ggL_law_L_areRings
set_option maxRecDepth 20000 in
theorem zgL_law_L_isDone_r1 : GoodIn wsL_law wsL_isDone_r1 := goodIn_r _ [1, 105, 106, 4, 107, 108, 109, 110, 111, 112, 113, 114, 115, 116, 117, 118, 119, 120, 121, 0, 122, 123, 124, 12] (by decide +kernel) (by decide +kernel)
set_option maxRecDepth 20000 in
theorem zgL_law_L_isDone_r2 : GoodIn wsL_law wsL_isDone_r2 := goodIn_r _ [125, 126, 127, 22, 128, 129, 130, 131, 132, 133, 134, 135, 136, 21, 137, 138, 139, 140, 141, 142, 58, 59, 411, 412] (by decide +kernel) (by decide +kernel)
set_option maxRecDepth 20000 in
theorem zgL_law_L_isDone_r3 : GoodIn wsL_law wsL_isDone_r3 := goodIn_r _ [413, 414, 415, 416, 417, 418, 419, 420, 26, 421, 422, 423, 424, 25, 425, 311, 426, 64, 65, 143, 144, 145, 146, 147] (by decide +kernel) (by decide +kernel)
set_option maxRecDepth 20000 in
theorem zgL_law_L_isDone_r4 : GoodIn wsL_law wsL_isDone_r4 := goodIn_r _ [148, 149, 150, 151, 152, 153, 154, 34, 54, 155, 156, 157, 158, 159, 160, 161, 162, 163, 33, 164, 77, 165, 166, 167] (by decide +kernel) (by decide +kernel)
set_option maxRecDepth 20000 in
theorem zgL_law_L_isDone_r5 : GoodIn wsL_law wsL_isDone_r5 := goodIn_r _ [168, 78, 79, 169, 170, 171, 427, 428, 429, 430, 431, 432, 326, 433, 434, 435, 436, 351, 352, 353, 354, 331, 332, 437] (by decide +kernel) (by decide +kernel)
set_option maxRecDepth 20000 in
theorem zgL_law_L_isDone_r6 : GoodIn wsL_law wsL_isDone_r6 := goodIn_r _ [438, 439, 440, 441, 442, 443, 444, 445, 446, 447, 448, 449, 450, 451, 452, 51, 172, 173, 174, 175, 176, 177, 178, 52] (by decide +kernel) (by decide +kernel)
set_option maxRecDepth 20000 in
theorem zgL_law_L_isDone_r7 : GoodIn wsL_law wsL_isDone_r7 := goodIn_r _ [453, 454, 455, 456, 457, 458, 459, 53, 460, 461, 462, 463, 199, 200, 464, 465, 466, 467, 468, 469, 470, 30, 471, 472] (by decide +kernel) (by decide +kernel)
set_option maxRecDepth 20000 in
theorem zgL_law_L_isDone_r8 : GoodIn wsL_law wsL_isDone_r8 := goodIn_r _ [473, 474, 475, 382, 206, 207, 208, 476, 477, 478, 29, 479, 480, 69, 70, 71, 72, 179, 180, 181, 182, 183, 184, 185] (by decide +kernel) (by decide +kernel)
set_option maxRecDepth 20000 in
theorem zgL_law_L_isDone_r9 : GoodIn wsL_law wsL_isDone_r9 := goodIn_r _ [186, 187, 188, 38, 189, 190, 191, 192, 193, 194, 195, 196, 197, 198, 201, 202, 203, 204, 205, 209, 210, 211, 212, 213] (by decide +kernel) (by decide +kernel)
set_option maxRecDepth 20000 in
theorem zgL_law_L_isDone_r10 : GoodIn wsL_law wsL_isDone_r10 := goodIn_r _ [214, 215, 216, 60, 481, 482, 483, 484, 485, 486, 487, 488, 489, 490, 360, 361, 362, 491, 492, 493, 6, 494, 495, 496] (by decide +kernel) (by decide +kernel)
set_option maxRecDepth 20000 in
theorem zgL_law_L_isDone_r11 : GoodIn wsL_law wsL_isDone_r11 := goodIn_r _ [497, 498, 499, 500, 501, 502, 317, 318, 319, 320, 321, 322, 503, 504, 505, 506, 507, 508, 509, 510, 511, 512, 513, 514] (by decide +kernel) (by decide +kernel)
set_option maxRecDepth 20000 in
theorem zgL_law_L_isDone_r12 : GoodIn wsL_law wsL_isDone_r12 := goodIn_r _ [515, 516, 517, 42, 355, 356, 357, 358, 359, 518, 519, 520, 37, 521, 522, 83, 523, 524, 525, 300, 301, 302, 383, 384] (by decide +kernel) (by decide +kernel)
set_option maxRecDepth 20000 in
theorem zgL_law_L_isDone_r13 : GoodIn wsL_law wsL_isDone_r13 := goodIn_r _ [385, 386, 387, 388, 526, 527, 528, 529, 530, 46, 303, 304, 305, 306, 269, 270, 271, 45, 272, 273, 274, 275, 276, 307] (by decide +kernel) (by decide +kernel)
set_option maxRecDepth 20000 in
theorem zgL_law_L_isDone_r14 : GoodIn wsL_law wsL_isDone_r14 := goodIn_r _ [308, 309, 310, 312, 313, 314, 315, 316, 282, 283, 284, 531, 532, 533, 41, 534, 96, 535, 536, 537, 538, 539, 540, 541] (by decide +kernel) (by decide +kernel)
set_option maxRecDepth 20000 in
theorem zgL_law_L_isDone_r15 : GoodIn wsL_law wsL_isDone_r15 := goodIn_r _ [333, 334, 335, 336, 542, 543, 544, 545, 97, 98, 99, 546, 547, 548, 549, 550, 551, 552, 553, 554, 555, 556, 557, 558] (by decide +kernel) (by decide +kernel)
set_option maxRecDepth 20000 in
theorem zgL_law_L_isDone_r16 : GoodIn wsL_law wsL_isDone_r16 := goodIn_r _ [559, 560, 561, 562, 563, 564, 565, 566, 567, 568, 569, 570, 571, 572, 573, 574, 575, 576, 577, 578, 579, 580, 581, 582] (by decide +kernel) (by decide +kernel)
set_option maxRecDepth 20000 in
theorem zgL_law_L_isDone_r17 : GoodIn wsL_law wsL_isDone_r17 := goodIn_r _ [583, 584, 585, 586, 587, 588, 589, 590, 591, 592, 593, 594, 595, 596, 597, 598, 88, 84, 85, 599, 86, 600, 601, 278] (by decide +kernel) (by decide +kernel)
set_option maxRecDepth 20000 in
theorem zgL_law_L_isDone_r18 : GoodIn wsL_law wsL_isDone_r18 := goodIn_r _ [279, 280, 281, 602] (by decide +kernel) (by decide +kernel)
set_option maxRecDepth 20000 in
theorem ggL_law_L_isDone : GoodIn wsL_law wsL_isDone := goodIn_ca (goodIn_ca (goodIn_ca (goodIn_ca (goodIn_ca (goodIn_ca (goodIn_ca (goodIn_c1 (goodIn_r _ [410] (by decide +kernel) (by decide +kernel)) (goodIn_app (goodIn_app (goodIn_app (goodIn_app (goodIn_app (goodIn_app (goodIn_app (goodIn_app (goodIn_app zgL_law_L_isDone_r1 (goodIn_app zgL_law_L_isDone_r2 (goodIn_app zgL_law_L_isDone_r3 (goodIn_app zgL_law_L_isDone_r4 (goodIn_app zgL_law_L_isDone_r5 (goodIn_app zgL_law_L_isDone_r6 (goodIn_app zgL_law_L_isDone_r7 (goodIn_app zgL_law_L_isDone_r8 (goodIn_app zgL_law_L_isDone_r9 (goodIn_app zgL_law_L_isDone_r10 (goodIn_app zgL_law_L_isDone_r11 (goodIn_app zgL_law_L_isDone_r12 (goodIn_app zgL_law_L_isDone_r13 (goodIn_app zgL_law_L_isDone_r14 (goodIn_app zgL_law_L_isDone_r15 (goodIn_app zgL_law_L_isDone_r16 (goodIn_app zgL_law_L_isDone_r17 zgL_law_L_isDone_r18))))))))))))))))) zgL_law_X8) zgL_law_X1) zgL_law_X3) zgL_law_X7) zgL_law_X2) zgL_law_X6) zgL_law_X0) zgL_law_X4)) (goodIn_sub (fun _ h => List.mem_append_left _ (List.mem_append_left _ (List.mem_append_left _ (List.mem_append_left _ (List.mem_append_left _ (List.mem_append_left _ (List.mem_append_left _ (List.mem_append_right _ h)))))))) (by decide +kernel))) (goodIn_sub (fun _ h => List.mem_append_left _ (List.mem_append_left _ (List.mem_append_left _ (List.mem_append_left _ (List.mem_append_left _ (List.mem_append_left _ (List.mem_append_right _ h))))))) (by decide +kernel))) (goodIn_sub (fun _ h => List.mem_append_left _ (List.mem_append_left _ (List.mem_append_left _ (List.mem_append_left _ (List.mem_append_left _ (List.mem_append_right _ h)))))) (by decide +kernel))) (goodIn_sub (fun _ h => List.mem_append_left _ (List.mem_append_left _ (List.mem_append_left _ (List.mem_append_left _ (List.mem_append_right _ h))))) (by decide +kernel))) (goodIn_sub (fun _ h => List.mem_append_left _ (List.mem_append_left _ (List.mem_append_left _ (List.mem_append_right _ h)))) (by decide +kernel))) (goodIn_sub (fun _ h => List.mem_append_left _ (List.mem_append_left _ (List.mem_append_right _ h))) (by decide +kernel))) (goodIn_sub (fun _ h => List.mem_append_right _ h) (by decide +kernel))
set_option maxRecDepth 20000 in
theorem gL_law_L_isDone : GoodIn wsL_law (va_wsS RL 287 yL_isDone wsL_isDone) := goodIn_app (goodIn_of _ (by decide +kernel)) ggL_law_L_isDone
