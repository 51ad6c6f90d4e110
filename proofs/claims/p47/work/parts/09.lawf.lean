theorem dL_isWritten_1 : decode cL_isWritten 1 = .ok (.aload_n 1, 1) := by decide +kernel
theorem dL_isWritten_2 : decode cL_isWritten 2 = .ok (.iconst 2, 1) := by decide +kernel
theorem dL_isWritten_3 : decode cL_isWritten 3 = .ok (.iaload, 1) := by decide +kernel
theorem dL_isWritten_4 : decode cL_isWritten 4 = .ok (.if_icmp .lt 19, 3) := by decide +kernel
theorem dL_isWritten_7 : decode cL_isWritten 7 = .ok (.aload_n 0, 1) := by decide +kernel
theorem dL_isWritten_8 : decode cL_isWritten 8 = .ok (.iload_n 2, 1) := by decide +kernel
theorem dL_isWritten_9 : decode cL_isWritten 9 = .ok (.invokestatic 249, 3) := by decide +kernel
theorem dL_isWritten_12 : decode cL_isWritten 12 = .ok (.ldc 17, 2) := by decide +kernel
theorem dL_isWritten_14 : decode cL_isWritten 14 = .ok (.if_icmp .ne 7, 3) := by decide +kernel
theorem dL_isWritten_17 : decode cL_isWritten 17 = .ok (.iconst 1, 1) := by decide +kernel
theorem dL_isWritten_18 : decode cL_isWritten 18 = .ok (.goto 4, 3) := by decide +kernel
theorem dL_isWritten_21 : decode cL_isWritten 21 = .ok (.iconst 0, 1) := by decide +kernel
theorem dL_isWritten_22 : decode cL_isWritten 22 = .ok (.ireturn, 1) := by decide +kernel
theorem dL_isWritten_23 : decode cL_isWritten 23 = .ok (.new 251, 3) := by decide +kernel
theorem dL_isWritten_26 : decode cL_isWritten 26 = .ok (.dup, 1) := by decide +kernel
theorem dL_isWritten_27 : decode cL_isWritten 27 = .ok (.invokespecial 253, 3) := by decide +kernel
theorem dL_isWritten_30 : decode cL_isWritten 30 = .ok (.astore_n 3, 1) := by decide +kernel
theorem dL_isWritten_31 : decode cL_isWritten 31 = .ok (.iload_n 2, 1) := by decide +kernel
theorem dL_isWritten_32 : decode cL_isWritten 32 = .ok (.istore 4, 2) := by decide +kernel
theorem dL_isWritten_34 : decode cL_isWritten 34 = .ok (.iload 4, 2) := by decide +kernel
theorem dL_isWritten_36 : decode cL_isWritten 36 = .ok (.aload_n 1, 1) := by decide +kernel
theorem dL_isWritten_37 : decode cL_isWritten 37 = .ok (.iconst 2, 1) := by decide +kernel
theorem dL_isWritten_38 : decode cL_isWritten 38 = .ok (.iaload, 1) := by decide +kernel
theorem dL_isWritten_39 : decode cL_isWritten 39 = .ok (.if_icmp .ge 64, 3) := by decide +kernel
theorem dL_isWritten_42 : decode cL_isWritten 42 = .ok (.iload 4, 2) := by decide +kernel
theorem dL_isWritten_44 : decode cL_isWritten 44 = .ok (.iload_n 2, 1) := by decide +kernel
theorem dL_isWritten_45 : decode cL_isWritten 45 = .ok (.bipush 10, 2) := by decide +kernel
theorem dL_isWritten_47 : decode cL_isWritten 47 = .ok (.iadd, 1) := by decide +kernel
theorem dL_isWritten_48 : decode cL_isWritten 48 = .ok (.if_icmp .ge 55, 3) := by decide +kernel
theorem dL_isWritten_51 : decode cL_isWritten 51 = .ok (.aload_n 3, 1) := by decide +kernel
theorem dL_isWritten_52 : decode cL_isWritten 52 = .ok (.iload 4, 2) := by decide +kernel
theorem dL_isWritten_54 : decode cL_isWritten 54 = .ok (.iload_n 2, 1) := by decide +kernel
theorem dL_isWritten_55 : decode cL_isWritten 55 = .ok (.if_icmp .ne 8, 3) := by decide +kernel
theorem dL_isWritten_58 : decode cL_isWritten 58 = .ok (.ldc 254, 2) := by decide +kernel
theorem dL_isWritten_60 : decode cL_isWritten 60 = .ok (.goto 6, 3) := by decide +kernel
theorem dL_isWritten_63 : decode cL_isWritten 63 = .ok (.ldc_w 256, 3) := by decide +kernel
theorem dL_isWritten_66 : decode cL_isWritten 66 = .ok (.invokevirtual 258, 3) := by decide +kernel
theorem dL_isWritten_69 : decode cL_isWritten 69 = .ok (.aload_n 1, 1) := by decide +kernel
theorem dL_isWritten_70 : decode cL_isWritten 70 = .ok (.sipush 1020, 3) := by decide +kernel
theorem dL_isWritten_73 : decode cL_isWritten 73 = .ok (.iload 4, 2) := by decide +kernel
theorem dL_isWritten_75 : decode cL_isWritten 75 = .ok (.iadd, 1) := by decide +kernel
theorem dL_isWritten_76 : decode cL_isWritten 76 = .ok (.iaload, 1) := by decide +kernel
theorem dL_isWritten_77 : decode cL_isWritten 77 = .ok (.invokevirtual 262, 3) := by decide +kernel
theorem dL_isWritten_80 : decode cL_isWritten 80 = .ok (.bipush 47, 2) := by decide +kernel
theorem dL_isWritten_82 : decode cL_isWritten 82 = .ok (.invokevirtual 265, 3) := by decide +kernel
theorem dL_isWritten_85 : decode cL_isWritten 85 = .ok (.aload_n 1, 1) := by decide +kernel
theorem dL_isWritten_86 : decode cL_isWritten 86 = .ok (.sipush 1220, 3) := by decide +kernel
theorem dL_isWritten_89 : decode cL_isWritten 89 = .ok (.iload 4, 2) := by decide +kernel
theorem dL_isWritten_91 : decode cL_isWritten 91 = .ok (.iadd, 1) := by decide +kernel
theorem dL_isWritten_92 : decode cL_isWritten 92 = .ok (.iaload, 1) := by decide +kernel
theorem dL_isWritten_93 : decode cL_isWritten 93 = .ok (.invokevirtual 262, 3) := by decide +kernel
theorem dL_isWritten_96 : decode cL_isWritten 96 = .ok (.pop, 1) := by decide +kernel
theorem dL_isWritten_97 : decode cL_isWritten 97 = .ok (.iinc 4 1, 3) := by decide +kernel
theorem dL_isWritten_100 : decode cL_isWritten 100 = .ok (.goto (-66), 3) := by decide +kernel
theorem dL_isWritten_103 : decode cL_isWritten 103 = .ok (.aload_n 0, 1) := by decide +kernel
theorem dL_isWritten_104 : decode cL_isWritten 104 = .ok (.iload_n 2, 1) := by decide +kernel
theorem dL_isWritten_105 : decode cL_isWritten 105 = .ok (.invokestatic 249, 3) := by decide +kernel
theorem dL_isWritten_108 : decode cL_isWritten 108 = .ok (.aload_n 3, 1) := by decide +kernel
theorem dL_isWritten_109 : decode cL_isWritten 109 = .ok (.invokevirtual 268, 3) := by decide +kernel
theorem dL_isWritten_112 : decode cL_isWritten 112 = .ok (.if_icmp .ne 20, 3) := by decide +kernel
theorem dL_isWritten_115 : decode cL_isWritten 115 = .ok (.aload_n 0, 1) := by decide +kernel
theorem dL_isWritten_116 : decode cL_isWritten 116 = .ok (.aload_n 3, 1) := by decide +kernel
theorem dL_isWritten_117 : decode cL_isWritten 117 = .ok (.invokevirtual 268, 3) := by decide +kernel
theorem dL_isWritten_120 : decode cL_isWritten 120 = .ok (.invokestatic 271, 3) := by decide +kernel
theorem dL_isWritten_123 : decode cL_isWritten 123 = .ok (.ldc 17, 2) := by decide +kernel
theorem dL_isWritten_125 : decode cL_isWritten 125 = .ok (.if_icmp .ne 7, 3) := by decide +kernel
theorem dL_isWritten_128 : decode cL_isWritten 128 = .ok (.iconst 1, 1) := by decide +kernel
theorem dL_isWritten_129 : decode cL_isWritten 129 = .ok (.goto 4, 3) := by decide +kernel
theorem dL_isWritten_132 : decode cL_isWritten 132 = .ok (.iconst 0, 1) := by decide +kernel
theorem dL_isWritten_133 : decode cL_isWritten 133 = .ok (.istore 4, 2) := by decide +kernel
theorem dL_isWritten_135 : decode cL_isWritten 135 = .ok (.iconst 0, 1) := by decide +kernel
theorem dL_isWritten_136 : decode cL_isWritten 136 = .ok (.istore 5, 2) := by decide +kernel
theorem dL_isWritten_138 : decode cL_isWritten 138 = .ok (.iload 5, 2) := by decide +kernel
theorem dL_isWritten_140 : decode cL_isWritten 140 = .ok (.aload_n 3, 1) := by decide +kernel
theorem dL_isWritten_141 : decode cL_isWritten 141 = .ok (.invokevirtual 268, 3) := by decide +kernel
theorem dL_isWritten_144 : decode cL_isWritten 144 = .ok (.if_icmp .ge 34, 3) := by decide +kernel
theorem dL_isWritten_147 : decode cL_isWritten 147 = .ok (.iload 4, 2) := by decide +kernel
theorem dL_isWritten_149 : decode cL_isWritten 149 = .ok (.aload_n 0, 1) := by decide +kernel
theorem dL_isWritten_150 : decode cL_isWritten 150 = .ok (.iload 5, 2) := by decide +kernel
theorem dL_isWritten_152 : decode cL_isWritten 152 = .ok (.invokestatic 271, 3) := by decide +kernel
theorem dL_isWritten_155 : decode cL_isWritten 155 = .ok (.aload_n 3, 1) := by decide +kernel
theorem dL_isWritten_156 : decode cL_isWritten 156 = .ok (.iload 5, 2) := by decide +kernel
theorem dL_isWritten_158 : decode cL_isWritten 158 = .ok (.invokevirtual 273, 3) := by decide +kernel
theorem dL_isWritten_161 : decode cL_isWritten 161 = .ok (.if_icmp .ne 7, 3) := by decide +kernel
theorem dL_isWritten_164 : decode cL_isWritten 164 = .ok (.iconst 1, 1) := by decide +kernel
theorem dL_isWritten_165 : decode cL_isWritten 165 = .ok (.goto 4, 3) := by decide +kernel
theorem dL_isWritten_168 : decode cL_isWritten 168 = .ok (.iconst 0, 1) := by decide +kernel
theorem dL_isWritten_169 : decode cL_isWritten 169 = .ok (.iand, 1) := by decide +kernel
theorem dL_isWritten_170 : decode cL_isWritten 170 = .ok (.istore 4, 2) := by decide +kernel
theorem dL_isWritten_172 : decode cL_isWritten 172 = .ok (.iinc 5 1, 3) := by decide +kernel
theorem dL_isWritten_175 : decode cL_isWritten 175 = .ok (.goto (-37), 3) := by decide +kernel
theorem dL_isWritten_178 : decode cL_isWritten 178 = .ok (.iload 4, 2) := by decide +kernel
theorem dL_isWritten_180 : decode cL_isWritten 180 = .ok (.ireturn, 1) := by decide +kernel
set_option maxRecDepth 20000 in
theorem ggL_law_L_begun : GoodIn wsL_law wsL_begun := goodIn_ca (goodIn_r _ [5, 6] (by decide +kernel) (by decide +kernel)) (goodIn_sub (fun _ h => List.mem_append_left _ (List.mem_append_left _ (List.mem_append_left _ (List.mem_append_left _ (List.mem_append_left _ (List.mem_append_left _ (List.mem_append_left _ (List.mem_append_right _ h)))))))) (by decide +kernel))
set_option maxRecDepth 20000 in
theorem gL_law_L_begun : GoodIn wsL_law (va_wsS RL 276 yL_begun wsL_begun) := goodIn_app (goodIn_of _ (by decide +kernel)) ggL_law_L_begun
set_option maxRecDepth 20000 in
theorem ggL_law_L_begun_ : GoodIn wsL_law wsL_begun_ := goodIn_ca (goodIn_ca (goodIn_ca (goodIn_ca (goodIn_ca (goodIn_r _ [9, 10, 11, 12, 13, 14, 15, 16, 17, 18, 19, 20, 21, 22, 23, 24, 25, 26, 27, 28, 29, 30, 31, 32, 33, 34, 35, 36, 37, 38, 39, 40, 41, 42, 43, 44, 45, 46, 47, 48, 49, 50, 51, 52, 53, 54, 55, 56, 57, 6, 58, 59, 60, 61, 62, 63, 64, 65, 66, 67, 68, 69, 70, 71, 72, 73, 74, 75, 76, 77, 78, 79, 80, 81, 82, 83, 84, 85, 86, 87, 88, 89, 90, 91, 92, 93, 94, 95, 96, 97, 98, 99, 100, 101, 102, 103, 104, 105, 106, 4, 107, 108, 109, 110, 111, 112, 113, 114, 115, 116, 1, 117, 118, 119, 120, 121, 0, 122, 123, 124, 125, 126, 127, 128, 129, 130, 131, 132, 133, 134, 135, 136, 137, 138, 139, 140, 141, 142, 143, 144, 145, 146, 147, 148, 149, 150, 151, 152, 153, 154, 155, 156, 157, 158, 159, 160, 161, 162, 163, 164, 165, 166, 167, 168, 169, 170, 171, 172, 173, 174, 175, 176, 177, 178, 179, 180, 181, 182, 183, 184, 185, 186, 187, 188, 189, 190, 191, 192, 193, 194, 195, 196, 197, 198, 199, 200, 201, 202, 203, 204, 205, 206, 207, 208, 209, 210, 211, 212, 213, 214, 215, 216, 861, 862, 863, 864, 865, 866, 867, 868, 869, 870, 871, 872, 873, 874, 875, 876, 877, 878, 879, 880, 881, 882, 883, 884, 885, 886, 887, 888, 889, 890, 891, 892, 893, 894, 895, 896, 897, 898, 899, 900, 901, 902, 903, 904, 905, 906] (by decide +kernel) (by decide +kernel)) (goodIn_sub (fun _ h => List.mem_append_left _ (List.mem_append_left _ (List.mem_append_left _ (List.mem_append_left _ (List.mem_append_left _ (List.mem_append_left _ (List.mem_append_left _ (List.mem_append_right _ h)))))))) (by decide +kernel))) (goodIn_sub (fun _ h => List.mem_append_left _ (List.mem_append_left _ (List.mem_append_left _ (List.mem_append_left _ (List.mem_append_left _ (List.mem_append_left _ (List.mem_append_right _ h))))))) (by decide +kernel))) (goodIn_sub (fun _ h => List.mem_append_left _ (List.mem_append_left _ (List.mem_append_left _ (List.mem_append_left _ (List.mem_append_left _ (List.mem_append_right _ h)))))) (by decide +kernel))) (goodIn_sub (fun _ h => List.mem_append_left _ (List.mem_append_left _ (List.mem_append_left _ (List.mem_append_left _ (List.mem_append_right _ h))))) (by decide +kernel))) (goodIn_sub (fun _ h => List.mem_append_left _ (List.mem_append_left _ (List.mem_append_left _ (List.mem_append_right _ h)))) (by decide +kernel))
set_option maxRecDepth 20000 in
theorem gL_law_L_begun_ : GoodIn wsL_law (va_wsS RL 280 yL_begun_ wsL_begun_) := goodIn_app (goodIn_of _ (by decide +kernel)) ggL_law_L_begun_
set_option maxRecDepth 20000 in
theorem ggL_law_L_areRings : GoodIn wsL_law wsL_areRings := goodIn_ca (goodIn_ca (goodIn_ca (goodIn_ca (goodIn_r _ [219, 1, 0, 220, 221, 222, 4, 223, 150, 224, 225, 226, 12, 227, 38, 228, 229, 230, 231, 232, 159, 160, 189, 233, 234, 235, 236, 237, 238, 239, 240, 241, 242, 243, 244, 245, 246, 247, 248, 249, 250, 251, 252, 253, 254, 255, 256, 257, 258, 259, 260, 261, 262, 263, 46, 264, 265, 266, 267, 268, 269, 270, 271, 45, 272, 273, 274, 275, 276, 277, 278, 279, 280, 281, 282, 283, 284, 285, 286, 287, 288, 289, 290, 291, 292, 293, 294, 295, 296, 297, 298, 299, 300, 301, 141, 302, 303, 304, 305, 306, 26, 307, 308, 309, 25, 310, 311, 64, 312, 313, 314, 315, 65, 316, 317, 318, 319, 320, 321, 322, 323, 324, 325, 326, 327, 328, 329, 330, 331, 332, 34, 155, 156, 157, 158, 333, 334, 335, 33, 336, 78, 169, 170, 171, 337, 338, 339, 340, 341, 342, 343, 344, 345, 346, 347, 348, 349, 350, 54, 351, 352, 353, 354, 355, 356, 357, 358, 79, 359, 199, 200, 360, 361, 362, 363, 364, 365, 366, 367, 368, 369, 370, 371, 372, 373, 374, 52, 375, 376, 377, 378, 379, 380, 381, 22, 382, 206, 207, 21, 208, 138, 383, 384, 385, 386, 51, 387, 388, 202, 203, 204, 58, 205, 209, 210, 211, 212, 59, 389, 390, 391, 392, 393, 394, 395, 396, 397, 398, 399, 400, 401, 402, 77, 403, 404, 405, 406, 407, 861, 862, 863, 864, 865, 866, 867, 868, 869, 870, 871, 872, 889, 890, 891, 892, 893, 894, 901, 902, 903, 904, 877, 878, 879, 886, 887, 888, 873, 874, 875, 876] (by decide +kernel) (by decide +kernel)) (goodIn_sub (fun _ h => List.mem_append_left _ (List.mem_append_left _ (List.mem_append_left _ (List.mem_append_left _ (List.mem_append_left _ (List.mem_append_left _ (List.mem_append_left _ (List.mem_append_right _ h)))))))) (by decide +kernel))) (goodIn_sub (fun _ h => List.mem_append_left _ (List.mem_append_left _ (List.mem_append_left _ (List.mem_append_right _ h)))) (by decide +kernel))) (goodIn_sub (fun _ h => List.mem_append_left _ (List.mem_append_left _ (List.mem_append_right _ h))) (by decide +kernel))) (goodIn_sub (fun _ h => List.mem_append_left _ (List.mem_append_right _ h)) (by decide +kernel))
set_option maxRecDepth 20000 in
theorem gL_law_L_areRings : GoodIn wsL_law (va_wsS RL 283 yL_areRings wsL_areRings) := goodIn_app (goodIn_of _ (by decide +kernel)) ggL_law_L_areRings
set_option maxRecDepth 20000 in
theorem ggL_law_L_isDone : GoodIn wsL_law wsL_isDone := goodIn_ca (goodIn_ca (goodIn_ca (goodIn_ca (goodIn_ca (goodIn_ca (goodIn_ca (goodIn_r _ [410, 1, 105, 106, 4, 107, 108, 109, 110, 111, 112, 113, 114, 115, 116, 117, 118, 119, 120, 121, 0, 122, 123, 124, 12, 125, 126, 127, 22, 128, 129, 130, 131, 132, 133, 134, 135, 136, 21, 137, 138, 139, 140, 141, 142, 58, 59, 411, 412, 413, 414, 415, 416, 417, 418, 419, 420, 26, 421, 422, 423, 424, 25, 425, 311, 426, 64, 65, 143, 144, 145, 146, 147, 148, 149, 150, 151, 152, 153, 154, 34, 54, 155, 156, 157, 158, 159, 160, 161, 162, 163, 33, 164, 77, 165, 166, 167, 168, 78, 79, 169, 170, 171, 427, 428, 429, 430, 431, 432, 326, 433, 434, 435, 436, 351, 352, 353, 354, 331, 332, 437, 438, 439, 440, 441, 442, 443, 444, 445, 446, 447, 448, 449, 450, 451, 452, 51, 172, 173, 174, 175, 176, 177, 178, 52, 453, 454, 455, 456, 457, 458, 459, 53, 460, 461, 462, 463, 199, 200, 464, 465, 466, 467, 468, 469, 470, 30, 471, 472, 473, 474, 475, 382, 206, 207, 208, 476, 477, 478, 29, 479, 480, 69, 70, 71, 72, 179, 180, 181, 182, 183, 184, 185, 186, 187, 188, 38, 189, 190, 191, 192, 193, 194, 195, 196, 197, 198, 201, 202, 203, 204, 205, 209, 210, 211, 212, 213, 214, 215, 216, 60, 481, 482, 483, 484, 485, 486, 487, 488, 489, 490, 360, 361, 362, 491, 492, 493, 6, 494, 495, 496, 497, 498, 499, 500, 501, 502, 317, 318, 319, 320, 321, 322, 503, 504, 505, 506, 507, 508, 509, 510, 511, 512, 513, 514, 515, 516, 517, 42, 355, 356, 357, 358, 359, 518, 519, 520, 37, 521, 522, 83, 523, 524, 525, 300, 301, 302, 383, 384, 385, 386, 387, 388, 526, 527, 528, 529, 530, 46, 303, 304, 305, 306, 269, 270, 271, 45, 272, 273, 274, 275, 276, 307, 308, 309, 310, 312, 313, 314, 315, 316, 282, 283, 284, 531, 532, 533, 41, 534, 96, 535, 536, 537, 538, 539, 540, 541, 333, 334, 335, 336, 542, 543, 544, 545, 97, 98, 99, 546, 547, 548, 549, 550, 551, 552, 553, 554, 555, 556, 557, 558, 559, 560, 561, 562, 563, 564, 565, 566, 567, 568, 569, 570, 571, 572, 573, 574, 575, 576, 577, 578, 579, 580, 581, 582, 583, 584, 585, 586, 587, 588, 589, 590, 591, 592, 593, 594, 595, 596, 597, 598, 88, 84, 85, 599, 86, 600, 601, 278, 279, 280, 281, 602, 861, 862, 863, 864, 865, 866, 867, 868, 869, 870, 871, 872, 873, 874, 875, 876, 877, 878, 879, 886, 887, 888, 880, 881, 882, 883, 884, 885, 889, 890, 891, 892, 893, 894, 901, 902, 903, 904, 895, 896, 897, 898, 899, 900] (by decide +kernel) (by decide +kernel)) (goodIn_sub (fun _ h => List.mem_append_left _ (List.mem_append_left _ (List.mem_append_left _ (List.mem_append_left _ (List.mem_append_left _ (List.mem_append_left _ (List.mem_append_left _ (List.mem_append_right _ h)))))))) (by decide +kernel))) (goodIn_sub (fun _ h => List.mem_append_left _ (List.mem_append_left _ (List.mem_append_left _ (List.mem_append_left _ (List.mem_append_left _ (List.mem_append_left _ (List.mem_append_right _ h))))))) (by decide +kernel))) (goodIn_sub (fun _ h => List.mem_append_left _ (List.mem_append_left _ (List.mem_append_left _ (List.mem_append_left _ (List.mem_append_left _ (List.mem_append_right _ h)))))) (by decide +kernel))) (goodIn_sub (fun _ h => List.mem_append_left _ (List.mem_append_left _ (List.mem_append_left _ (List.mem_append_left _ (List.mem_append_right _ h))))) (by decide +kernel))) (goodIn_sub (fun _ h => List.mem_append_left _ (List.mem_append_left _ (List.mem_append_left _ (List.mem_append_right _ h)))) (by decide +kernel))) (goodIn_sub (fun _ h => List.mem_append_left _ (List.mem_append_left _ (List.mem_append_right _ h))) (by decide +kernel))) (goodIn_sub (fun _ h => List.mem_append_right _ h) (by decide +kernel))
set_option maxRecDepth 20000 in
theorem gL_law_L_isDone : GoodIn wsL_law (va_wsS RL 287 yL_isDone wsL_isDone) := goodIn_app (goodIn_of _ (by decide +kernel)) ggL_law_L_isDone
set_option maxRecDepth 20000 in
theorem ggL_law_L_in : GoodIn wsL_law wsL_in := goodIn_ca (goodIn_ca (goodIn_r _ [107, 108, 109, 110, 4, 111, 112, 113] (by decide +kernel) (by decide +kernel)) (goodIn_sub (fun _ h => List.mem_append_left _ (List.mem_append_left _ (List.mem_append_left _ (List.mem_append_left _ (List.mem_append_left _ (List.mem_append_left _ (List.mem_append_right _ h))))))) (by decide +kernel))) (goodIn_sub (fun _ h => List.mem_append_left _ (List.mem_append_left _ (List.mem_append_left _ (List.mem_append_left _ (List.mem_append_left _ (List.mem_append_left _ (List.mem_append_left _ (List.mem_append_right _ h)))))))) (by decide +kernel))
set_option maxRecDepth 20000 in
theorem gL_law_L_in : GoodIn wsL_law (va_wsS RL 179 yL_in wsL_in) := goodIn_app (goodIn_of _ (by decide +kernel)) ggL_law_L_in
set_option maxRecDepth 20000 in
theorem ggL_law_L_isWritten : GoodIn wsL_law wsL_isWritten := goodIn_ca (goodIn_ca (goodIn_r _ [605, 0, 606, 607, 608, 609, 610, 4, 611, 150, 612, 613, 614, 12, 615, 38, 189, 616, 140, 141, 142, 50, 228, 240, 617, 229, 230, 231, 232, 159, 160, 618, 619, 620, 49, 621, 622, 623, 624, 625, 626, 104, 627, 628, 629, 630, 631, 632, 633, 634, 635, 636, 637, 638, 639, 17, 18, 640, 641, 642, 643, 644, 645, 646, 647, 648, 649, 650, 651, 652, 653, 654, 655, 656, 657, 658, 659, 660, 661, 662, 663, 664, 665, 666, 667, 668, 669, 670, 671, 672, 673, 674, 675, 676, 677, 678, 679, 680, 681, 682, 199, 200, 683, 684, 685, 686, 687, 688, 689, 690, 691, 692, 693, 694, 695, 696, 697, 698, 699, 700, 701, 702, 703, 704, 705, 706, 707, 708, 709, 710, 711, 712, 713, 714, 715, 716, 717, 718, 719, 720, 721, 722, 723, 724, 725, 726, 727, 728, 729, 730, 731, 732, 733, 734, 735, 736, 737, 738, 739, 740, 741, 742, 743, 744, 745, 746, 747, 748, 749, 750, 751, 752, 753, 754, 755, 756, 757, 758, 759, 760, 761, 762, 763, 764, 765, 766, 767, 768, 769, 770, 771, 772, 773, 774, 775, 776, 777, 778, 779, 780, 781, 782, 783, 784, 785, 786, 787, 788, 789, 790, 791, 792, 793, 794, 795, 796, 797, 798, 799, 800, 801, 802, 803, 804, 805, 806, 807, 808, 809, 810, 811, 812, 813, 814, 815, 816, 817, 818, 819, 820, 821, 822, 823, 824, 825, 826, 827, 828, 829, 830, 831, 832, 833, 834, 835, 836, 837, 838, 839, 840, 841, 842, 843, 844, 845, 846, 847, 848, 849, 850, 851, 852, 853, 854, 855, 856, 907, 908, 909, 910, 861, 862, 863, 864, 865, 866, 867, 868, 869, 870, 871, 872, 889, 890, 891, 892, 893, 894, 905, 906, 911, 912] (by decide +kernel) (by decide +kernel)) (goodIn_sub (fun _ h => List.mem_append_left _ (List.mem_append_left _ (List.mem_append_left _ (List.mem_append_left _ (List.mem_append_left _ (List.mem_append_left _ (List.mem_append_left _ (List.mem_append_right _ h)))))))) (by decide +kernel))) (goodIn_sub (fun _ h => List.mem_append_left _ (List.mem_append_left _ (List.mem_append_left _ (List.mem_append_right _ h)))) (by decide +kernel))
set_option maxRecDepth 20000 in
theorem gL_law_L_isWritten : GoodIn wsL_law (va_wsS RL 291 yL_isWritten wsL_isWritten) := goodIn_app (goodIn_of _ (by decide +kernel)) ggL_law_L_isWritten
set_option maxRecDepth 20000 in
theorem ggL_law_L_addGround : GoodIn wsL_law wsL_addGround := goodIn_ca (goodIn_ca (goodIn_ca (goodIn_r _ [119, 120, 121, 0, 1, 122, 123, 124, 12, 125, 126, 127, 22, 128, 129, 130, 131, 132, 133, 134, 135, 136, 21, 137, 138, 139, 140, 141, 142, 58, 59, 861, 862, 863, 864, 865, 866, 867, 868, 869, 870, 871, 872, 873, 874, 875, 876] (by decide +kernel) (by decide +kernel)) (goodIn_sub (fun _ h => List.mem_append_left _ (List.mem_append_left _ (List.mem_append_left _ (List.mem_append_left _ (List.mem_append_left _ (List.mem_append_right _ h)))))) (by decide +kernel))) (goodIn_sub (fun _ h => List.mem_append_left _ (List.mem_append_left _ (List.mem_append_left _ (List.mem_append_left _ (List.mem_append_right _ h))))) (by decide +kernel))) (goodIn_sub (fun _ h => List.mem_append_left _ (List.mem_append_left _ (List.mem_append_left _ (List.mem_append_left _ (List.mem_append_left _ (List.mem_append_left _ (List.mem_append_left _ (List.mem_append_right _ h)))))))) (by decide +kernel))
set_option maxRecDepth 20000 in
theorem gL_law_L_addGround : GoodIn wsL_law (va_wsS RL 118 yL_addGround wsL_addGround) := goodIn_app (goodIn_of _ (by decide +kernel)) ggL_law_L_addGround
set_option maxRecDepth 20000 in
theorem ggL_law_L_addCurve : GoodIn wsL_law wsL_addCurve := goodIn_ca (goodIn_ca (goodIn_ca (goodIn_r _ [416, 120, 121, 0, 1, 417, 418, 419, 12, 420, 126, 127, 26, 421, 129, 130, 131, 132, 133, 422, 423, 424, 25, 425, 311, 426, 140, 141, 142, 64, 65, 861, 862, 863, 864, 865, 866, 867, 868, 869, 870, 871, 872, 877, 878, 879] (by decide +kernel) (by decide +kernel)) (goodIn_sub (fun _ h => List.mem_append_left _ (List.mem_append_left _ (List.mem_append_left _ (List.mem_append_left _ (List.mem_append_left _ (List.mem_append_right _ h)))))) (by decide +kernel))) (goodIn_sub (fun _ h => List.mem_append_left _ (List.mem_append_left _ (List.mem_append_left _ (List.mem_append_left _ (List.mem_append_right _ h))))) (by decide +kernel))) (goodIn_sub (fun _ h => List.mem_append_left _ (List.mem_append_left _ (List.mem_append_left _ (List.mem_append_left _ (List.mem_append_left _ (List.mem_append_left _ (List.mem_append_left _ (List.mem_append_right _ h)))))))) (by decide +kernel))
set_option maxRecDepth 20000 in
theorem gL_law_L_addCurve : GoodIn wsL_law (va_wsS RL 121 yL_addCurve wsL_addCurve) := goodIn_app (goodIn_of _ (by decide +kernel)) ggL_law_L_addCurve
set_option maxRecDepth 20000 in
theorem ggL_law_L_cast : GoodIn wsL_law wsL_cast := goodIn_ca (goodIn_ca (goodIn_ca (goodIn_ca (goodIn_r _ [149, 150, 120, 121, 0, 1, 146, 151, 152, 153, 12, 154, 126, 127, 34, 54, 155, 156, 157, 158, 159, 160, 129, 130, 131, 132, 133, 161, 162, 163, 33, 164, 77, 165, 166, 167, 168, 78, 79, 861, 862, 863, 864, 865, 866, 867, 868, 869, 870, 871, 872, 886, 887, 888] (by decide +kernel) (by decide +kernel)) (goodIn_sub (fun _ h => List.mem_append_left _ (List.mem_append_left _ (List.mem_append_left _ (List.mem_append_left _ (List.mem_append_left _ (List.mem_append_right _ h)))))) (by decide +kernel))) (goodIn_sub (fun _ h => List.mem_append_left _ (List.mem_append_left _ (List.mem_append_left _ (List.mem_append_left _ (List.mem_append_left _ (List.mem_append_left _ (List.mem_append_left _ (List.mem_append_right _ h)))))))) (by decide +kernel))) (goodIn_sub (fun _ h => List.mem_append_left _ (List.mem_append_left _ (List.mem_append_left _ (List.mem_append_right _ h)))) (by decide +kernel))) (goodIn_sub (fun _ h => List.mem_append_left _ (List.mem_append_left _ (List.mem_append_left _ (List.mem_append_left _ (List.mem_append_right _ h))))) (by decide +kernel))
set_option maxRecDepth 20000 in
theorem gL_law_L_cast : GoodIn wsL_law (va_wsS RL 123 yL_cast wsL_cast) := goodIn_app (goodIn_of _ (by decide +kernel)) ggL_law_L_cast
set_option maxRecDepth 20000 in
theorem ggL_law_L_heightOf : GoodIn wsL_law wsL_heightOf := goodIn_ca (goodIn_ca (goodIn_r _ [339, 150, 0, 340, 341, 342, 12, 343, 34, 155, 156, 157, 158, 159, 160, 861, 862, 863, 864, 865, 866, 867, 868, 869, 870, 871, 872, 886, 887, 888] (by decide +kernel) (by decide +kernel)) (goodIn_sub (fun _ h => List.mem_append_left _ (List.mem_append_left _ (List.mem_append_left _ (List.mem_append_left _ (List.mem_append_left _ (List.mem_append_left _ (List.mem_append_left _ (List.mem_append_right _ h)))))))) (by decide +kernel))) (goodIn_sub (fun _ h => List.mem_append_left _ (List.mem_append_left _ (List.mem_append_left _ (List.mem_append_right _ h)))) (by decide +kernel))
set_option maxRecDepth 20000 in
theorem gL_law_L_heightOf : GoodIn wsL_law (va_wsS RL 230 yL_heightOf wsL_heightOf) := goodIn_app (goodIn_of _ (by decide +kernel)) ggL_law_L_heightOf
set_option maxRecDepth 20000 in
theorem ggL_law_L_taperAt : GoodIn wsL_law wsL_taperAt := goodIn_ca (goodIn_ca (goodIn_ca (goodIn_r _ [325, 150, 326, 0, 1, 327, 328, 329, 12, 330, 331, 332, 34, 155, 156, 157, 158, 159, 160, 333, 334, 335, 33, 336, 78, 861, 862, 863, 864, 865, 866, 867, 868, 869, 870, 871, 872, 886, 887, 888] (by decide +kernel) (by decide +kernel)) (goodIn_sub (fun _ h => List.mem_append_left _ (List.mem_append_left _ (List.mem_append_left _ (List.mem_append_left _ (List.mem_append_left _ (List.mem_append_left _ (List.mem_append_left _ (List.mem_append_right _ h)))))))) (by decide +kernel))) (goodIn_sub (fun _ h => List.mem_append_left _ (List.mem_append_left _ (List.mem_append_right _ h))) (by decide +kernel))) (goodIn_sub (fun _ h => List.mem_append_left _ (List.mem_append_left _ (List.mem_append_left _ (List.mem_append_right _ h)))) (by decide +kernel))
set_option maxRecDepth 20000 in
theorem gL_law_L_taperAt : GoodIn wsL_law (va_wsS RL 228 yL_taperAt wsL_taperAt) := goodIn_app (goodIn_of _ (by decide +kernel)) ggL_law_L_taperAt
set_option maxRecDepth 20000 in
theorem ggL_law_L_hoursToCure : GoodIn wsL_law wsL_hoursToCure := goodIn_ca (goodIn_ca (goodIn_ca (goodIn_r _ [346, 150, 326, 0, 1, 347, 348, 349, 12, 350, 34, 155, 54, 156, 157, 158, 159, 160, 351, 352, 353, 354, 331, 332, 355, 356, 357, 33, 358, 79, 359, 199, 141, 200, 861, 862, 863, 864, 865, 866, 867, 868, 869, 870, 871, 872, 886, 887, 888] (by decide +kernel) (by decide +kernel)) (goodIn_sub (fun _ h => List.mem_append_left _ (List.mem_append_left _ (List.mem_append_left _ (List.mem_append_left _ (List.mem_append_left _ (List.mem_append_left _ (List.mem_append_left _ (List.mem_append_right _ h)))))))) (by decide +kernel))) (goodIn_sub (fun _ h => List.mem_append_left _ (List.mem_append_left _ (List.mem_append_left _ (List.mem_append_right _ h)))) (by decide +kernel))) (goodIn_sub (fun _ h => List.mem_append_left _ (List.mem_append_left _ (List.mem_append_right _ h))) (by decide +kernel))
set_option maxRecDepth 20000 in
theorem gL_law_L_hoursToCure : GoodIn wsL_law (va_wsS RL 232 yL_hoursToCure wsL_hoursToCure) := goodIn_app (goodIn_of _ (by decide +kernel)) ggL_law_L_hoursToCure
set_option maxRecDepth 20000 in
theorem ggL_law_L_restack : GoodIn wsL_law wsL_restack := goodIn_ca (goodIn_ca (goodIn_ca (goodIn_ca (goodIn_r _ [432, 150, 326, 121, 0, 1, 146, 433, 434, 435, 12, 436, 126, 127, 34, 155, 156, 157, 158, 159, 160, 351, 352, 353, 354, 331, 332, 161, 162, 163, 33, 164, 77, 437, 438, 439, 440, 78, 79, 441, 442, 443, 444, 445, 166, 167, 168, 861, 862, 863, 864, 865, 866, 867, 868, 869, 870, 871, 872, 886, 887, 888] (by decide +kernel) (by decide +kernel)) (goodIn_sub (fun _ h => List.mem_append_left _ (List.mem_append_left _ (List.mem_append_left _ (List.mem_append_left _ (List.mem_append_left _ (List.mem_append_right _ h)))))) (by decide +kernel))) (goodIn_sub (fun _ h => List.mem_append_left _ (List.mem_append_left _ (List.mem_append_left _ (List.mem_append_left _ (List.mem_append_left _ (List.mem_append_left _ (List.mem_append_left _ (List.mem_append_right _ h)))))))) (by decide +kernel))) (goodIn_sub (fun _ h => List.mem_append_left _ (List.mem_append_left _ (List.mem_append_left _ (List.mem_append_right _ h)))) (by decide +kernel))) (goodIn_sub (fun _ h => List.mem_append_left _ (List.mem_append_left _ (List.mem_append_right _ h))) (by decide +kernel))
set_option maxRecDepth 20000 in
theorem gL_law_L_restack : GoodIn wsL_law (va_wsS RL 129 yL_restack wsL_restack) := goodIn_app (goodIn_of _ (by decide +kernel)) ggL_law_L_restack
set_option maxRecDepth 20000 in
theorem ggL_law_L_setPressure : GoodIn wsL_law wsL_setPressure := goodIn_ca (goodIn_r _ [448, 120, 0, 449, 450, 451, 12, 452, 51, 129, 130, 131, 132, 133, 861, 862, 863, 864, 865, 866, 867, 868, 869, 870, 871, 872] (by decide +kernel) (by decide +kernel)) (goodIn_sub (fun _ h => List.mem_append_left _ (List.mem_append_left _ (List.mem_append_left _ (List.mem_append_left _ (List.mem_append_right _ h))))) (by decide +kernel))
set_option maxRecDepth 20000 in
theorem gL_law_L_setPressure : GoodIn wsL_law (va_wsS RL 196 yL_setPressure wsL_setPressure) := goodIn_app (goodIn_of _ (by decide +kernel)) ggL_law_L_setPressure
set_option maxRecDepth 20000 in
theorem ggL_law_L_addSlurry : GoodIn wsL_law wsL_addSlurry := goodIn_ca (goodIn_ca (goodIn_r _ [174, 120, 121, 0, 1, 175, 176, 177, 12, 178, 126, 127, 52, 129, 130, 131, 132, 133, 861, 862, 863, 864, 865, 866, 867, 868, 869, 870, 871, 872] (by decide +kernel) (by decide +kernel)) (goodIn_sub (fun _ h => List.mem_append_left _ (List.mem_append_left _ (List.mem_append_left _ (List.mem_append_left _ (List.mem_append_left _ (List.mem_append_right _ h)))))) (by decide +kernel))) (goodIn_sub (fun _ h => List.mem_append_left _ (List.mem_append_left _ (List.mem_append_left _ (List.mem_append_left _ (List.mem_append_right _ h))))) (by decide +kernel))
set_option maxRecDepth 20000 in
theorem gL_law_L_addSlurry : GoodIn wsL_law (va_wsS RL 198 yL_addSlurry wsL_addSlurry) := goodIn_app (goodIn_of _ (by decide +kernel)) ggL_law_L_addSlurry
set_option maxRecDepth 20000 in
theorem ggL_law_L_setTolerance : GoodIn wsL_law wsL_setTolerance := goodIn_ca (goodIn_r _ [455, 120, 0, 456, 457, 458, 12, 459, 53, 129, 130, 131, 132, 133, 861, 862, 863, 864, 865, 866, 867, 868, 869, 870, 871, 872] (by decide +kernel) (by decide +kernel)) (goodIn_sub (fun _ h => List.mem_append_left _ (List.mem_append_left _ (List.mem_append_left _ (List.mem_append_left _ (List.mem_append_right _ h))))) (by decide +kernel))
set_option maxRecDepth 20000 in
theorem gL_law_L_setTolerance : GoodIn wsL_law (va_wsS RL 200 yL_setTolerance wsL_setTolerance) := goodIn_app (goodIn_of _ (by decide +kernel)) ggL_law_L_setTolerance
set_option maxRecDepth 20000 in
theorem ggL_law_L_reasonFor : GoodIn wsL_law wsL_reasonFor := goodIn_ca (goodIn_ca (goodIn_ca (goodIn_r _ [505, 150, 120, 0, 1, 506, 507, 508, 12, 509, 156, 157, 158, 159, 160, 510, 511, 512, 132, 133, 513, 514, 515, 516, 517, 38, 189, 22, 34, 155, 54, 52, 42, 53, 382, 206, 207, 21, 208, 138, 355, 356, 357, 33, 358, 79, 359, 199, 141, 200, 518, 519, 520, 37, 521, 522, 83, 523, 524, 525, 300, 301, 302, 383, 384, 385, 386, 51, 387, 388, 202, 203, 204, 58, 205, 209, 210, 211, 212, 59, 526, 527, 528, 529, 530, 46, 26, 303, 304, 305, 306, 269, 270, 271, 45, 272, 273, 274, 275, 276, 307, 308, 309, 25, 310, 311, 64, 312, 313, 314, 315, 65, 316, 282, 283, 284, 531, 532, 533, 41, 534, 96, 535, 536, 537, 538, 539, 540, 541, 333, 334, 335, 336, 78, 542, 543, 544, 545, 97, 98, 99, 546, 547, 548, 549, 550, 551, 552, 553, 554, 555, 556, 557, 558, 559, 560, 561, 562, 563, 564, 565, 566, 567, 568, 569, 570, 571, 572, 573, 574, 575, 861, 862, 863, 864, 865, 866, 867, 868, 869, 870, 871, 872, 889, 890, 891, 892, 893, 894, 886, 887, 888, 873, 874, 875, 876, 901, 902, 903, 904, 877, 878, 879, 895, 896, 897, 898, 899, 900] (by decide +kernel) (by decide +kernel)) (goodIn_sub (fun _ h => List.mem_append_left _ (List.mem_append_left _ (List.mem_append_left _ (List.mem_append_right _ h)))) (by decide +kernel))) (goodIn_sub (fun _ h => List.mem_append_left _ (List.mem_append_left _ (List.mem_append_left _ (List.mem_append_left _ (List.mem_append_right _ h))))) (by decide +kernel))) (goodIn_sub (fun _ h => List.mem_append_left _ (List.mem_append_left _ (List.mem_append_left _ (List.mem_append_left _ (List.mem_append_left _ (List.mem_append_left _ (List.mem_append_left _ (List.mem_append_right _ h)))))))) (by decide +kernel))
set_option maxRecDepth 20000 in
theorem gL_law_L_reasonFor : GoodIn wsL_law (va_wsS RL 164 yL_reasonFor wsL_reasonFor) := goodIn_app (goodIn_of _ (by decide +kernel)) ggL_law_L_reasonFor
set_option maxRecDepth 20000 in
theorem ggL_law_L_lay : GoodIn wsL_law wsL_lay := goodIn_ca (goodIn_ca (goodIn_ca (goodIn_ca (goodIn_ca (goodIn_r _ [578, 150, 120, 579, 121, 0, 1, 146, 484, 580, 581, 582, 12, 583, 584, 585, 126, 127, 54, 38, 189, 52, 34, 156, 157, 158, 159, 160, 510, 511, 512, 132, 133, 513, 514, 515, 516, 517, 22, 155, 42, 53, 382, 206, 207, 21, 208, 138, 355, 356, 357, 33, 358, 79, 359, 199, 141, 200, 518, 519, 520, 37, 521, 522, 83, 523, 524, 525, 300, 301, 302, 383, 384, 385, 386, 51, 387, 388, 202, 203, 204, 58, 205, 209, 210, 211, 212, 59, 526, 527, 528, 529, 530, 46, 26, 303, 304, 305, 306, 269, 270, 271, 45, 272, 273, 274, 275, 276, 307, 308, 309, 25, 310, 311, 64, 312, 313, 314, 315, 65, 316, 282, 283, 284, 531, 532, 533, 41, 534, 96, 535, 536, 537, 538, 539, 540, 541, 333, 334, 335, 336, 78, 542, 543, 544, 545, 97, 98, 99, 546, 547, 548, 549, 550, 551, 552, 553, 554, 555, 556, 557, 558, 559, 560, 561, 562, 563, 564, 565, 566, 567, 568, 569, 570, 571, 572, 573, 574, 575, 586, 587, 588, 589, 194, 195, 196, 197, 198, 201, 213, 214, 215, 216, 60, 590, 591, 592, 593, 77, 594, 595, 596, 597, 598, 88, 84, 85, 599, 86, 600, 601, 278, 279, 280, 281, 602, 442, 443, 444, 861, 862, 863, 864, 865, 866, 867, 868, 869, 870, 871, 872, 889, 890, 891, 892, 893, 894, 886, 887, 888, 873, 874, 875, 876, 901, 902, 903, 904, 877, 878, 879, 895, 896, 897, 898, 899, 900] (by decide +kernel) (by decide +kernel)) (goodIn_sub (fun _ h => List.mem_append_right _ h) (by decide +kernel))) (goodIn_sub (fun _ h => List.mem_append_left _ (List.mem_append_left _ (List.mem_append_left _ (List.mem_append_left _ (List.mem_append_left _ (List.mem_append_right _ h)))))) (by decide +kernel))) (goodIn_sub (fun _ h => List.mem_append_left _ (List.mem_append_left _ (List.mem_append_left _ (List.mem_append_right _ h)))) (by decide +kernel))) (goodIn_sub (fun _ h => List.mem_append_left _ (List.mem_append_left _ (List.mem_append_left _ (List.mem_append_left _ (List.mem_append_right _ h))))) (by decide +kernel))) (goodIn_sub (fun _ h => List.mem_append_left _ (List.mem_append_left _ (List.mem_append_left _ (List.mem_append_left _ (List.mem_append_left _ (List.mem_append_left _ (List.mem_append_left _ (List.mem_append_right _ h)))))))) (by decide +kernel))
set_option maxRecDepth 20000 in
theorem gL_law_L_lay : GoodIn wsL_law (va_wsS RL 166 yL_lay wsL_lay) := goodIn_app (goodIn_of _ (by decide +kernel)) ggL_law_L_lay
set_option maxRecDepth 20000 in
theorem ggL_law_L_stop : GoodIn wsL_law wsL_stop := goodIn_ca (goodIn_ca (goodIn_ca (goodIn_r _ [184, 120, 121, 0, 1, 185, 186, 187, 12, 188, 126, 127, 54, 38, 189, 129, 130, 131, 132, 133, 190, 191, 192, 193, 22, 51, 194, 195, 196, 21, 197, 198, 199, 141, 200, 201, 202, 203, 204, 58, 205, 206, 207, 208, 138, 209, 210, 211, 212, 59, 213, 214, 215, 216, 60, 861, 862, 863, 864, 865, 866, 867, 868, 869, 870, 871, 872, 889, 890, 891, 892, 893, 894, 873, 874, 875, 876] (by decide +kernel) (by decide +kernel)) (goodIn_sub (fun _ h => List.mem_append_left _ (List.mem_append_left _ (List.mem_append_left _ (List.mem_append_left _ (List.mem_append_left _ (List.mem_append_right _ h)))))) (by decide +kernel))) (goodIn_sub (fun _ h => List.mem_append_left _ (List.mem_append_left _ (List.mem_append_left _ (List.mem_append_left _ (List.mem_append_right _ h))))) (by decide +kernel))) (goodIn_sub (fun _ h => List.mem_append_left _ (List.mem_append_left _ (List.mem_append_left _ (List.mem_append_left _ (List.mem_append_left _ (List.mem_append_left _ (List.mem_append_left _ (List.mem_append_right _ h)))))))) (by decide +kernel))
set_option maxRecDepth 20000 in
theorem gL_law_L_stop : GoodIn wsL_law (va_wsS RL 168 yL_stop wsL_stop) := goodIn_app (goodIn_of _ (by decide +kernel)) ggL_law_L_stop
set_option maxRecDepth 20000 in
theorem ggL_law_L_positionOf : GoodIn wsL_law wsL_positionOf := goodIn_ca (goodIn_ca (goodIn_r _ [223, 150, 0, 224, 225, 226, 12, 227, 38, 228, 229, 230, 231, 232, 159, 160, 189, 861, 862, 863, 864, 865, 866, 867, 868, 869, 870, 871, 872, 889, 890, 891, 892, 893, 894] (by decide +kernel) (by decide +kernel)) (goodIn_sub (fun _ h => List.mem_append_left _ (List.mem_append_left _ (List.mem_append_left _ (List.mem_append_left _ (List.mem_append_left _ (List.mem_append_left _ (List.mem_append_left _ (List.mem_append_right _ h)))))))) (by decide +kernel))) (goodIn_sub (fun _ h => List.mem_append_left _ (List.mem_append_left _ (List.mem_append_left _ (List.mem_append_right _ h)))) (by decide +kernel))
set_option maxRecDepth 20000 in
theorem gL_law_L_positionOf : GoodIn wsL_law (va_wsS RL 214 yL_positionOf wsL_positionOf) := goodIn_app (goodIn_of _ (by decide +kernel)) ggL_law_L_positionOf
set_option maxRecDepth 20000 in
theorem ggL_law_L_taperOf : GoodIn wsL_law wsL_taperOf := goodIn_ca (goodIn_ca (goodIn_r _ [235, 150, 0, 236, 237, 238, 12, 239, 38, 240, 229, 230, 231, 232, 159, 160, 189, 861, 862, 863, 864, 865, 866, 867, 868, 869, 870, 871, 872, 889, 890, 891, 892, 893, 894] (by decide +kernel) (by decide +kernel)) (goodIn_sub (fun _ h => List.mem_append_left _ (List.mem_append_left _ (List.mem_append_left _ (List.mem_append_left _ (List.mem_append_left _ (List.mem_append_left _ (List.mem_append_left _ (List.mem_append_right _ h)))))))) (by decide +kernel))) (goodIn_sub (fun _ h => List.mem_append_left _ (List.mem_append_left _ (List.mem_append_left _ (List.mem_append_right _ h)))) (by decide +kernel))
set_option maxRecDepth 20000 in
theorem gL_law_L_taperOf : GoodIn wsL_law (va_wsS RL 216 yL_taperOf wsL_taperOf) := goodIn_app (goodIn_of _ (by decide +kernel)) ggL_law_L_taperOf
set_option maxRecDepth 20000 in
theorem ggL_law_L_xAfter : GoodIn wsL_law wsL_xAfter := goodIn_ca (goodIn_ca (goodIn_r _ [243, 150, 0, 244, 245, 246, 12, 247, 38, 248, 229, 230, 231, 232, 159, 160, 189, 861, 862, 863, 864, 865, 866, 867, 868, 869, 870, 871, 872, 889, 890, 891, 892, 893, 894] (by decide +kernel) (by decide +kernel)) (goodIn_sub (fun _ h => List.mem_append_left _ (List.mem_append_left _ (List.mem_append_left _ (List.mem_append_left _ (List.mem_append_left _ (List.mem_append_left _ (List.mem_append_left _ (List.mem_append_right _ h)))))))) (by decide +kernel))) (goodIn_sub (fun _ h => List.mem_append_left _ (List.mem_append_left _ (List.mem_append_left _ (List.mem_append_right _ h)))) (by decide +kernel))
set_option maxRecDepth 20000 in
theorem gL_law_L_xAfter : GoodIn wsL_law (va_wsS RL 218 yL_xAfter wsL_xAfter) := goodIn_app (goodIn_of _ (by decide +kernel)) ggL_law_L_xAfter
set_option maxRecDepth 20000 in
theorem ggL_law_L_yAfter : GoodIn wsL_law wsL_yAfter := goodIn_ca (goodIn_ca (goodIn_r _ [251, 150, 0, 252, 253, 254, 12, 255, 38, 256, 229, 230, 231, 232, 159, 160, 189, 861, 862, 863, 864, 865, 866, 867, 868, 869, 870, 871, 872, 889, 890, 891, 892, 893, 894] (by decide +kernel) (by decide +kernel)) (goodIn_sub (fun _ h => List.mem_append_left _ (List.mem_append_left _ (List.mem_append_left _ (List.mem_append_left _ (List.mem_append_left _ (List.mem_append_left _ (List.mem_append_left _ (List.mem_append_right _ h)))))))) (by decide +kernel))) (goodIn_sub (fun _ h => List.mem_append_left _ (List.mem_append_left _ (List.mem_append_left _ (List.mem_append_right _ h)))) (by decide +kernel))
set_option maxRecDepth 20000 in
theorem gL_law_L_yAfter : GoodIn wsL_law (va_wsS RL 220 yL_yAfter wsL_yAfter) := goodIn_app (goodIn_of _ (by decide +kernel)) ggL_law_L_yAfter
set_option maxRecDepth 20000 in
theorem ggL_law_L_xAnew : GoodIn wsL_law wsL_xAnew := goodIn_ca (goodIn_ca (goodIn_r _ [259, 150, 0, 260, 261, 262, 12, 263, 46, 264, 229, 230, 231, 232, 159, 160, 38, 189, 265, 266, 267, 268, 228, 240, 269, 270, 271, 45, 272, 273, 274, 275, 276, 277, 278, 279, 280, 281, 282, 283, 284, 861, 862, 863, 864, 865, 866, 867, 868, 869, 870, 871, 872, 901, 902, 903, 904, 889, 890, 891, 892, 893, 894] (by decide +kernel) (by decide +kernel)) (goodIn_sub (fun _ h => List.mem_append_left _ (List.mem_append_left _ (List.mem_append_left _ (List.mem_append_right _ h)))) (by decide +kernel))) (goodIn_sub (fun _ h => List.mem_append_left _ (List.mem_append_left _ (List.mem_append_left _ (List.mem_append_left _ (List.mem_append_left _ (List.mem_append_left _ (List.mem_append_left _ (List.mem_append_right _ h)))))))) (by decide +kernel))
set_option maxRecDepth 20000 in
theorem gL_law_L_xAnew : GoodIn wsL_law (va_wsS RL 222 yL_xAnew wsL_xAnew) := goodIn_app (goodIn_of _ (by decide +kernel)) ggL_law_L_xAnew
set_option maxRecDepth 20000 in
theorem ggL_law_L_yAnew : GoodIn wsL_law wsL_yAnew := goodIn_ca (goodIn_ca (goodIn_r _ [287, 150, 0, 288, 289, 290, 12, 291, 46, 292, 229, 230, 231, 232, 159, 160, 38, 189, 265, 266, 267, 268, 228, 240, 269, 270, 271, 45, 272, 273, 274, 275, 276, 277, 278, 279, 280, 281, 282, 283, 284, 861, 862, 863, 864, 865, 866, 867, 868, 869, 870, 871, 872, 901, 902, 903, 904, 889, 890, 891, 892, 893, 894] (by decide +kernel) (by decide +kernel)) (goodIn_sub (fun _ h => List.mem_append_left _ (List.mem_append_left _ (List.mem_append_left _ (List.mem_append_right _ h)))) (by decide +kernel))) (goodIn_sub (fun _ h => List.mem_append_left _ (List.mem_append_left _ (List.mem_append_left _ (List.mem_append_left _ (List.mem_append_left _ (List.mem_append_left _ (List.mem_append_left _ (List.mem_append_right _ h)))))))) (by decide +kernel))
set_option maxRecDepth 20000 in
theorem gL_law_L_yAnew : GoodIn wsL_law (va_wsS RL 224 yL_yAnew wsL_yAnew) := goodIn_app (goodIn_of _ (by decide +kernel)) ggL_law_L_yAnew
set_option maxRecDepth 20000 in
theorem ggL_law_L_deviationAfter : GoodIn wsL_law wsL_deviationAfter := goodIn_ca (goodIn_ca (goodIn_r _ [295, 150, 0, 296, 297, 298, 12, 299, 38, 248, 46, 264, 300, 301, 141, 302, 256, 292, 229, 230, 231, 232, 159, 160, 189, 303, 304, 305, 306, 26, 269, 270, 271, 45, 272, 273, 274, 275, 276, 307, 308, 309, 25, 310, 311, 64, 312, 313, 314, 315, 65, 316, 282, 283, 284, 861, 862, 863, 864, 865, 866, 867, 868, 869, 870, 871, 872, 889, 890, 891, 892, 893, 894, 901, 902, 903, 904, 877, 878, 879] (by decide +kernel) (by decide +kernel)) (goodIn_sub (fun _ h => List.mem_append_left _ (List.mem_append_left _ (List.mem_append_left _ (List.mem_append_left _ (List.mem_append_left _ (List.mem_append_left _ (List.mem_append_left _ (List.mem_append_right _ h)))))))) (by decide +kernel))) (goodIn_sub (fun _ h => List.mem_append_left _ (List.mem_append_left _ (List.mem_append_left _ (List.mem_append_right _ h)))) (by decide +kernel))
set_option maxRecDepth 20000 in
theorem gL_law_L_deviationAfter : GoodIn wsL_law (va_wsS RL 226 yL_deviationAfter wsL_deviationAfter) := goodIn_app (goodIn_of _ (by decide +kernel)) ggL_law_L_deviationAfter
set_option maxRecDepth 20000 in
theorem ggL_law_L_writeRings : GoodIn wsL_law wsL_writeRings := goodIn_ca (goodIn_ca (goodIn_r _ [611, 150, 0, 612, 613, 614, 12, 615, 38, 189, 616, 140, 141, 142, 50, 228, 240, 617, 229, 230, 231, 232, 159, 160, 618, 619, 620, 49, 621, 622, 623, 624, 625, 626, 104, 627, 628, 629, 630, 631, 861, 862, 863, 864, 865, 866, 867, 868, 869, 870, 871, 872, 889, 890, 891, 892, 893, 894, 905, 906] (by decide +kernel) (by decide +kernel)) (goodIn_sub (fun _ h => List.mem_append_left _ (List.mem_append_left _ (List.mem_append_left _ (List.mem_append_left _ (List.mem_append_left _ (List.mem_append_left _ (List.mem_append_left _ (List.mem_append_right _ h)))))))) (by decide +kernel))) (goodIn_sub (fun _ h => List.mem_append_left _ (List.mem_append_left _ (List.mem_append_left _ (List.mem_append_right _ h)))) (by decide +kernel))
set_option maxRecDepth 20000 in
theorem gL_law_L_writeRings : GoodIn wsL_law (va_wsS RL 249 yL_writeRings wsL_writeRings) := goodIn_app (goodIn_of _ (by decide +kernel)) ggL_law_L_writeRings
set_option maxRecDepth 20000 in
theorem ggL_law_X8_isConsistent : GoodIn wsL_law wsX8_isConsistent := goodIn_ca (goodIn_r _ [860, 46, 38, 189, 228, 240, 264, 248, 292, 256, 269, 270, 271, 45, 272, 273, 274, 275, 276, 277, 278, 279, 280, 281, 282, 283, 284, 523, 524, 12, 525, 300, 301, 141, 302, 861, 862, 863, 864, 865, 866, 867, 868, 869, 870, 871, 872, 889, 890, 891, 892, 893, 894, 901, 902, 903, 904] (by decide +kernel) (by decide +kernel)) (goodIn_sub (fun _ h => List.mem_append_left _ (List.mem_append_left _ (List.mem_append_left _ (List.mem_append_left _ (List.mem_append_left _ (List.mem_append_left _ (List.mem_append_left _ (List.mem_append_right _ h)))))))) (by decide +kernel))
set_option maxRecDepth 20000 in
theorem gL_law_X8_isConsistent : GoodIn wsL_law (wsV RL 294 RX8 yX8_isConsistent wsX8_isConsistent) := goodIn_app (goodIn_of _ (by decide +kernel)) ggL_law_X8_isConsistent
theorem dL_law_0 : decode cL_law 0 = .ok (.invokestatic 276, 3) := by decide +kernel
theorem dL_law_3 : decode cL_law 3 = .ok (.astore_n 1, 1) := by decide +kernel
theorem dL_law_4 : decode cL_law 4 = .ok (.aload_n 0, 1) := by decide +kernel
theorem dL_law_5 : decode cL_law 5 = .ok (.aload_n 1, 1) := by decide +kernel
theorem dL_law_6 : decode cL_law 6 = .ok (.invokestatic 280, 3) := by decide +kernel
theorem dL_law_9 : decode cL_law 9 = .ok (.astore_n 2, 1) := by decide +kernel
theorem dL_law_10 : decode cL_law 10 = .ok (.aload_n 2, 1) := by decide +kernel
theorem dL_law_11 : decode cL_law 11 = .ok (.ifnull 11, 3) := by decide +kernel
theorem dL_law_14 : decode cL_law 14 = .ok (.aload_n 2, 1) := by decide +kernel
theorem dL_law_15 : decode cL_law 15 = .ok (.aload_n 1, 1) := by decide +kernel
theorem dL_law_16 : decode cL_law 16 = .ok (.invokestatic 283, 3) := by decide +kernel
theorem dL_law_19 : decode cL_law 19 = .ok (.ifCond .ne 5, 3) := by decide +kernel
theorem dL_law_22 : decode cL_law 22 = .ok (.iconst 0, 1) := by decide +kernel
theorem dL_law_23 : decode cL_law 23 = .ok (.ireturn, 1) := by decide +kernel
theorem dL_law_24 : decode cL_law 24 = .ok (.iconst 0, 1) := by decide +kernel
theorem dL_law_25 : decode cL_law 25 = .ok (.istore_n 3, 1) := by decide +kernel
theorem dL_law_26 : decode cL_law 26 = .ok (.iload_n 3, 1) := by decide +kernel
theorem dL_law_27 : decode cL_law 27 = .ok (.bipush 50, 2) := by decide +kernel
theorem dL_law_29 : decode cL_law 29 = .ok (.if_icmp .ge 57, 3) := by decide +kernel
theorem dL_law_32 : decode cL_law 32 = .ok (.aload_n 2, 1) := by decide +kernel
theorem dL_law_33 : decode cL_law 33 = .ok (.aload_n 1, 1) := by decide +kernel
theorem dL_law_34 : decode cL_law 34 = .ok (.aload_n 0, 1) := by decide +kernel
theorem dL_law_35 : decode cL_law 35 = .ok (.bipush 30, 2) := by decide +kernel
theorem dL_law_37 : decode cL_law 37 = .ok (.iconst 5, 1) := by decide +kernel
theorem dL_law_38 : decode cL_law 38 = .ok (.iload_n 3, 1) := by decide +kernel
theorem dL_law_39 : decode cL_law 39 = .ok (.imul, 1) := by decide +kernel
theorem dL_law_40 : decode cL_law 40 = .ok (.iadd, 1) := by decide +kernel
theorem dL_law_41 : decode cL_law 41 = .ok (.invokestatic 287, 3) := by decide +kernel
theorem dL_law_44 : decode cL_law 44 = .ok (.ifCond .eq 34, 3) := by decide +kernel
theorem dL_law_47 : decode cL_law 47 = .ok (.aload_n 2, 1) := by decide +kernel
theorem dL_law_48 : decode cL_law 48 = .ok (.aload_n 1, 1) := by decide +kernel
theorem dL_law_49 : decode cL_law 49 = .ok (.invokestatic 283, 3) := by decide +kernel
theorem dL_law_52 : decode cL_law 52 = .ok (.ifCond .eq 26, 3) := by decide +kernel
theorem dL_law_55 : decode cL_law 55 = .ok (.aload_n 2, 1) := by decide +kernel
theorem dL_law_56 : decode cL_law 56 = .ok (.aload_n 1, 1) := by decide +kernel
theorem dL_law_57 : decode cL_law 57 = .ok (.aload_n 0, 1) := by decide +kernel
theorem dL_law_58 : decode cL_law 58 = .ok (.bipush 34, 2) := by decide +kernel
theorem dL_law_60 : decode cL_law 60 = .ok (.iconst 5, 1) := by decide +kernel
theorem dL_law_61 : decode cL_law 61 = .ok (.iload_n 3, 1) := by decide +kernel
theorem dL_law_62 : decode cL_law 62 = .ok (.imul, 1) := by decide +kernel
theorem dL_law_63 : decode cL_law 63 = .ok (.iadd, 1) := by decide +kernel
theorem dL_law_64 : decode cL_law 64 = .ok (.aload_n 1, 1) := by decide +kernel
theorem dL_law_65 : decode cL_law 65 = .ok (.iconst 2, 1) := by decide +kernel
theorem dL_law_66 : decode cL_law 66 = .ok (.iaload, 1) := by decide +kernel
theorem dL_law_67 : decode cL_law 67 = .ok (.iconst 1, 1) := by decide +kernel
theorem dL_law_68 : decode cL_law 68 = .ok (.iadd, 1) := by decide +kernel
theorem dL_law_69 : decode cL_law 69 = .ok (.invokestatic 179, 3) := by decide +kernel
theorem dL_law_72 : decode cL_law 72 = .ok (.invokestatic 291, 3) := by decide +kernel
theorem dL_law_75 : decode cL_law 75 = .ok (.ifCond .ne 5, 3) := by decide +kernel
theorem dL_law_78 : decode cL_law 78 = .ok (.iconst 0, 1) := by decide +kernel
theorem dL_law_79 : decode cL_law 79 = .ok (.ireturn, 1) := by decide +kernel
theorem dL_law_80 : decode cL_law 80 = .ok (.iinc 3 1, 3) := by decide +kernel
theorem dL_law_83 : decode cL_law 83 = .ok (.goto (-57), 3) := by decide +kernel
theorem dL_law_86 : decode cL_law 86 = .ok (.aload_n 2, 1) := by decide +kernel
theorem dL_law_87 : decode cL_law 87 = .ok (.iconst 0, 1) := by decide +kernel
theorem dL_law_88 : decode cL_law 88 = .ok (.iconst 0, 1) := by decide +kernel
theorem dL_law_89 : decode cL_law 89 = .ok (.iconst 0, 1) := by decide +kernel
theorem dL_law_90 : decode cL_law 90 = .ok (.invokestatic 118, 3) := by decide +kernel
theorem dL_law_93 : decode cL_law 93 = .ok (.ldc 17, 2) := by decide +kernel
theorem dL_law_95 : decode cL_law 95 = .ok (.if_icmp .ne 180, 3) := by decide +kernel
theorem dL_law_98 : decode cL_law 98 = .ok (.aload_n 2, 1) := by decide +kernel
theorem dL_law_99 : decode cL_law 99 = .ok (.iconst 1, 1) := by decide +kernel
theorem dL_law_100 : decode cL_law 100 = .ok (.bipush 101, 2) := by decide +kernel
theorem dL_law_102 : decode cL_law 102 = .ok (.iconst 0, 1) := by decide +kernel
theorem dL_law_103 : decode cL_law 103 = .ok (.invokestatic 118, 3) := by decide +kernel
theorem dL_law_106 : decode cL_law 106 = .ok (.ldc 17, 2) := by decide +kernel
theorem dL_law_108 : decode cL_law 108 = .ok (.if_icmp .ne 167, 3) := by decide +kernel
theorem dL_law_111 : decode cL_law 111 = .ok (.aload_n 2, 1) := by decide +kernel
theorem dL_law_112 : decode cL_law 112 = .ok (.iconst 1, 1) := by decide +kernel
theorem dL_law_113 : decode cL_law 113 = .ok (.iconst 0, 1) := by decide +kernel
theorem dL_law_114 : decode cL_law 114 = .ok (.bipush 21, 2) := by decide +kernel
theorem dL_law_116 : decode cL_law 116 = .ok (.invokestatic 118, 3) := by decide +kernel
theorem dL_law_119 : decode cL_law 119 = .ok (.ldc 17, 2) := by decide +kernel
theorem dL_law_121 : decode cL_law 121 = .ok (.if_icmp .ne 154, 3) := by decide +kernel
theorem dL_law_124 : decode cL_law 124 = .ok (.aload_n 2, 1) := by decide +kernel
theorem dL_law_125 : decode cL_law 125 = .ok (.bipush 51, 2) := by decide +kernel
theorem dL_law_127 : decode cL_law 127 = .ok (.iconst 0, 1) := by decide +kernel
theorem dL_law_128 : decode cL_law 128 = .ok (.iconst 0, 1) := by decide +kernel
theorem dL_law_129 : decode cL_law 129 = .ok (.invokestatic 121, 3) := by decide +kernel
theorem dL_law_132 : decode cL_law 132 = .ok (.ldc 17, 2) := by decide +kernel
theorem dL_law_134 : decode cL_law 134 = .ok (.if_icmp .ne 141, 3) := by decide +kernel
theorem dL_law_137 : decode cL_law 137 = .ok (.aload_n 2, 1) := by decide +kernel
theorem dL_law_138 : decode cL_law 138 = .ok (.iconst 1, 1) := by decide +kernel
theorem dL_law_139 : decode cL_law 139 = .ok (.bipush 6, 2) := by decide +kernel
theorem dL_law_141 : decode cL_law 141 = .ok (.iconst 0, 1) := by decide +kernel
theorem dL_law_142 : decode cL_law 142 = .ok (.invokestatic 121, 3) := by decide +kernel
theorem dL_law_145 : decode cL_law 145 = .ok (.ldc 17, 2) := by decide +kernel
theorem dL_law_147 : decode cL_law 147 = .ok (.if_icmp .ne 128, 3) := by decide +kernel
theorem dL_law_150 : decode cL_law 150 = .ok (.aload_n 2, 1) := by decide +kernel
theorem dL_law_151 : decode cL_law 151 = .ok (.iconst 3, 1) := by decide +kernel
theorem dL_law_152 : decode cL_law 152 = .ok (.iconst 0, 1) := by decide +kernel
theorem dL_law_153 : decode cL_law 153 = .ok (.invokestatic 123, 3) := by decide +kernel
theorem dL_law_156 : decode cL_law 156 = .ok (.ldc 17, 2) := by decide +kernel
theorem dL_law_158 : decode cL_law 158 = .ok (.if_icmp .ne 117, 3) := by decide +kernel
theorem dL_law_161 : decode cL_law 161 = .ok (.aload_n 2, 1) := by decide +kernel
theorem dL_law_162 : decode cL_law 162 = .ok (.iconst 0, 1) := by decide +kernel
theorem dL_law_163 : decode cL_law 163 = .ok (.bipush 10, 2) := by decide +kernel
theorem dL_law_165 : decode cL_law 165 = .ok (.invokestatic 123, 3) := by decide +kernel
theorem dL_law_168 : decode cL_law 168 = .ok (.ldc 20, 2) := by decide +kernel
theorem dL_law_170 : decode cL_law 170 = .ok (.if_icmp .ne 105, 3) := by decide +kernel
theorem dL_law_173 : decode cL_law 173 = .ok (.aload_n 2, 1) := by decide +kernel
theorem dL_law_174 : decode cL_law 174 = .ok (.iconst (-1), 1) := by decide +kernel
theorem dL_law_175 : decode cL_law 175 = .ok (.invokestatic 230, 3) := by decide +kernel
theorem dL_law_178 : decode cL_law 178 = .ok (.ldc 17, 2) := by decide +kernel
theorem dL_law_180 : decode cL_law 180 = .ok (.if_icmp .ne 95, 3) := by decide +kernel
theorem dL_law_183 : decode cL_law 183 = .ok (.aload_n 2, 1) := by decide +kernel
theorem dL_law_184 : decode cL_law 184 = .ok (.iconst 3, 1) := by decide +kernel
theorem dL_law_185 : decode cL_law 185 = .ok (.iconst 0, 1) := by decide +kernel
theorem dL_law_186 : decode cL_law 186 = .ok (.invokestatic 228, 3) := by decide +kernel
theorem dL_law_189 : decode cL_law 189 = .ok (.ldc 17, 2) := by decide +kernel
theorem dL_law_191 : decode cL_law 191 = .ok (.if_icmp .ne 84, 3) := by decide +kernel
theorem dL_law_194 : decode cL_law 194 = .ok (.aload_n 2, 1) := by decide +kernel
theorem dL_law_195 : decode cL_law 195 = .ok (.iconst (-1), 1) := by decide +kernel
theorem dL_law_196 : decode cL_law 196 = .ok (.invokestatic 232, 3) := by decide +kernel
theorem dL_law_199 : decode cL_law 199 = .ok (.ldc 17, 2) := by decide +kernel
theorem dL_law_201 : decode cL_law 201 = .ok (.if_icmp .ne 74, 3) := by decide +kernel
theorem dL_law_204 : decode cL_law 204 = .ok (.aload_n 2, 1) := by decide +kernel
theorem dL_law_205 : decode cL_law 205 = .ok (.iconst 0, 1) := by decide +kernel
theorem dL_law_206 : decode cL_law 206 = .ok (.iconst 3, 1) := by decide +kernel
theorem dL_law_207 : decode cL_law 207 = .ok (.invokestatic 129, 3) := by decide +kernel
theorem dL_law_210 : decode cL_law 210 = .ok (.ldc 17, 2) := by decide +kernel
theorem dL_law_212 : decode cL_law 212 = .ok (.if_icmp .ne 63, 3) := by decide +kernel
theorem dL_law_215 : decode cL_law 215 = .ok (.aload_n 2, 1) := by decide +kernel
theorem dL_law_216 : decode cL_law 216 = .ok (.bipush 101, 2) := by decide +kernel
theorem dL_law_218 : decode cL_law 218 = .ok (.invokestatic 196, 3) := by decide +kernel
theorem dL_law_221 : decode cL_law 221 = .ok (.ldc 17, 2) := by decide +kernel
theorem dL_law_223 : decode cL_law 223 = .ok (.if_icmp .ne 52, 3) := by decide +kernel
theorem dL_law_226 : decode cL_law 226 = .ok (.aload_n 2, 1) := by decide +kernel
theorem dL_law_227 : decode cL_law 227 = .ok (.sipush 501, 3) := by decide +kernel
theorem dL_law_230 : decode cL_law 230 = .ok (.invokestatic 198, 3) := by decide +kernel
theorem dL_law_233 : decode cL_law 233 = .ok (.ldc 17, 2) := by decide +kernel
theorem dL_law_235 : decode cL_law 235 = .ok (.if_icmp .ne 40, 3) := by decide +kernel
theorem dL_law_238 : decode cL_law 238 = .ok (.aload_n 2, 1) := by decide +kernel
theorem dL_law_239 : decode cL_law 239 = .ok (.iconst (-1), 1) := by decide +kernel
theorem dL_law_240 : decode cL_law 240 = .ok (.invokestatic 200, 3) := by decide +kernel
theorem dL_law_243 : decode cL_law 243 = .ok (.ldc 17, 2) := by decide +kernel
theorem dL_law_245 : decode cL_law 245 = .ok (.if_icmp .ne 30, 3) := by decide +kernel
theorem dL_law_248 : decode cL_law 248 = .ok (.aload_n 2, 1) := by decide +kernel
theorem dL_law_249 : decode cL_law 249 = .ok (.iconst 3, 1) := by decide +kernel
theorem dL_law_250 : decode cL_law 250 = .ok (.iconst 0, 1) := by decide +kernel
theorem dL_law_251 : decode cL_law 251 = .ok (.invokestatic 164, 3) := by decide +kernel
theorem dL_law_254 : decode cL_law 254 = .ok (.ldc 17, 2) := by decide +kernel
theorem dL_law_256 : decode cL_law 256 = .ok (.if_icmp .ne 19, 3) := by decide +kernel
theorem dL_law_259 : decode cL_law 259 = .ok (.aload_n 2, 1) := by decide +kernel
theorem dL_law_260 : decode cL_law 260 = .ok (.iconst 0, 1) := by decide +kernel
theorem dL_law_261 : decode cL_law 261 = .ok (.bipush 8, 2) := by decide +kernel
theorem dL_law_263 : decode cL_law 263 = .ok (.invokestatic 164, 3) := by decide +kernel
theorem dL_law_266 : decode cL_law 266 = .ok (.ldc 20, 2) := by decide +kernel
theorem dL_law_268 : decode cL_law 268 = .ok (.if_icmp .ne 7, 3) := by decide +kernel
theorem dL_law_271 : decode cL_law 271 = .ok (.iconst 1, 1) := by decide +kernel
theorem dL_law_272 : decode cL_law 272 = .ok (.goto 4, 3) := by decide +kernel
theorem dL_law_275 : decode cL_law 275 = .ok (.iconst 0, 1) := by decide +kernel
theorem dL_law_276 : decode cL_law 276 = .ok (.istore_n 3, 1) := by decide +kernel
theorem dL_law_277 : decode cL_law 277 = .ok (.iload_n 3, 1) := by decide +kernel
theorem dL_law_278 : decode cL_law 278 = .ok (.ifCond .eq 146, 3) := by decide +kernel
theorem dL_law_281 : decode cL_law 281 = .ok (.aload_n 2, 1) := by decide +kernel
theorem dL_law_282 : decode cL_law 282 = .ok (.iconst (-1), 1) := by decide +kernel
theorem dL_law_283 : decode cL_law 283 = .ok (.bipush 9, 2) := by decide +kernel
theorem dL_law_285 : decode cL_law 285 = .ok (.invokestatic 166, 3) := by decide +kernel
theorem dL_law_288 : decode cL_law 288 = .ok (.ldc 17, 2) := by decide +kernel
theorem dL_law_290 : decode cL_law 290 = .ok (.if_icmp .ne 134, 3) := by decide +kernel
theorem dL_law_293 : decode cL_law 293 = .ok (.aload_n 2, 1) := by decide +kernel
theorem dL_law_294 : decode cL_law 294 = .ok (.iconst 0, 1) := by decide +kernel
theorem dL_law_295 : decode cL_law 295 = .ok (.iconst (-1), 1) := by decide +kernel
theorem dL_law_296 : decode cL_law 296 = .ok (.invokestatic 166, 3) := by decide +kernel
theorem dL_law_299 : decode cL_law 299 = .ok (.ldc 20, 2) := by decide +kernel
theorem dL_law_301 : decode cL_law 301 = .ok (.if_icmp .ne 123, 3) := by decide +kernel
theorem dL_law_304 : decode cL_law 304 = .ok (.aload_n 2, 1) := by decide +kernel
theorem dL_law_305 : decode cL_law 305 = .ok (.iconst 0, 1) := by decide +kernel
theorem dL_law_306 : decode cL_law 306 = .ok (.invokestatic 168, 3) := by decide +kernel
theorem dL_law_309 : decode cL_law 309 = .ok (.ldc 17, 2) := by decide +kernel
theorem dL_law_311 : decode cL_law 311 = .ok (.if_icmp .ne 113, 3) := by decide +kernel
theorem dL_law_314 : decode cL_law 314 = .ok (.aload_n 2, 1) := by decide +kernel
theorem dL_law_315 : decode cL_law 315 = .ok (.bipush 101, 2) := by decide +kernel
theorem dL_law_317 : decode cL_law 317 = .ok (.invokestatic 168, 3) := by decide +kernel
theorem dL_law_320 : decode cL_law 320 = .ok (.ldc 17, 2) := by decide +kernel
theorem dL_law_322 : decode cL_law 322 = .ok (.if_icmp .ne 102, 3) := by decide +kernel
theorem dL_law_325 : decode cL_law 325 = .ok (.aload_n 2, 1) := by decide +kernel
theorem dL_law_326 : decode cL_law 326 = .ok (.aload_n 1, 1) := by decide +kernel
theorem dL_law_327 : decode cL_law 327 = .ok (.iconst 2, 1) := by decide +kernel
theorem dL_law_328 : decode cL_law 328 = .ok (.iaload, 1) := by decide +kernel
theorem dL_law_329 : decode cL_law 329 = .ok (.invokestatic 214, 3) := by decide +kernel
theorem dL_law_332 : decode cL_law 332 = .ok (.ldc 17, 2) := by decide +kernel
theorem dL_law_334 : decode cL_law 334 = .ok (.if_icmp .ne 90, 3) := by decide +kernel
theorem dL_law_337 : decode cL_law 337 = .ok (.aload_n 2, 1) := by decide +kernel
theorem dL_law_338 : decode cL_law 338 = .ok (.iconst (-1), 1) := by decide +kernel
theorem dL_law_339 : decode cL_law 339 = .ok (.invokestatic 216, 3) := by decide +kernel
theorem dL_law_342 : decode cL_law 342 = .ok (.ldc 17, 2) := by decide +kernel
theorem dL_law_344 : decode cL_law 344 = .ok (.if_icmp .ne 80, 3) := by decide +kernel
theorem dL_law_347 : decode cL_law 347 = .ok (.aload_n 2, 1) := by decide +kernel
theorem dL_law_348 : decode cL_law 348 = .ok (.aload_n 1, 1) := by decide +kernel
theorem dL_law_349 : decode cL_law 349 = .ok (.iconst 2, 1) := by decide +kernel
theorem dL_law_350 : decode cL_law 350 = .ok (.iaload, 1) := by decide +kernel
theorem dL_law_351 : decode cL_law 351 = .ok (.invokestatic 218, 3) := by decide +kernel
theorem dL_law_354 : decode cL_law 354 = .ok (.ldc 17, 2) := by decide +kernel
theorem dL_law_356 : decode cL_law 356 = .ok (.if_icmp .ne 68, 3) := by decide +kernel
theorem dL_law_359 : decode cL_law 359 = .ok (.aload_n 2, 1) := by decide +kernel
theorem dL_law_360 : decode cL_law 360 = .ok (.iconst (-1), 1) := by decide +kernel
theorem dL_law_361 : decode cL_law 361 = .ok (.invokestatic 220, 3) := by decide +kernel
theorem dL_law_364 : decode cL_law 364 = .ok (.ldc 17, 2) := by decide +kernel
theorem dL_law_366 : decode cL_law 366 = .ok (.if_icmp .ne 58, 3) := by decide +kernel
theorem dL_law_369 : decode cL_law 369 = .ok (.aload_n 2, 1) := by decide +kernel
theorem dL_law_370 : decode cL_law 370 = .ok (.aload_n 1, 1) := by decide +kernel
theorem dL_law_371 : decode cL_law 371 = .ok (.iconst 2, 1) := by decide +kernel
theorem dL_law_372 : decode cL_law 372 = .ok (.iaload, 1) := by decide +kernel
theorem dL_law_373 : decode cL_law 373 = .ok (.invokestatic 222, 3) := by decide +kernel
theorem dL_law_376 : decode cL_law 376 = .ok (.ldc 17, 2) := by decide +kernel
theorem dL_law_378 : decode cL_law 378 = .ok (.if_icmp .ne 46, 3) := by decide +kernel
theorem dL_law_381 : decode cL_law 381 = .ok (.aload_n 2, 1) := by decide +kernel
theorem dL_law_382 : decode cL_law 382 = .ok (.iconst (-1), 1) := by decide +kernel
theorem dL_law_383 : decode cL_law 383 = .ok (.invokestatic 224, 3) := by decide +kernel
theorem dL_law_386 : decode cL_law 386 = .ok (.ldc 17, 2) := by decide +kernel
theorem dL_law_388 : decode cL_law 388 = .ok (.if_icmp .ne 36, 3) := by decide +kernel
theorem dL_law_391 : decode cL_law 391 = .ok (.aload_n 2, 1) := by decide +kernel
theorem dL_law_392 : decode cL_law 392 = .ok (.aload_n 1, 1) := by decide +kernel
theorem dL_law_393 : decode cL_law 393 = .ok (.iconst 2, 1) := by decide +kernel
theorem dL_law_394 : decode cL_law 394 = .ok (.iaload, 1) := by decide +kernel
theorem dL_law_395 : decode cL_law 395 = .ok (.invokestatic 226, 3) := by decide +kernel
theorem dL_law_398 : decode cL_law 398 = .ok (.ldc 17, 2) := by decide +kernel
theorem dL_law_400 : decode cL_law 400 = .ok (.if_icmp .ne 24, 3) := by decide +kernel
theorem dL_law_403 : decode cL_law 403 = .ok (.aload_n 2, 1) := by decide +kernel
theorem dL_law_404 : decode cL_law 404 = .ok (.iconst (-1), 1) := by decide +kernel
theorem dL_law_405 : decode cL_law 405 = .ok (.invokestatic 249, 3) := by decide +kernel
theorem dL_law_408 : decode cL_law 408 = .ok (.ldc 17, 2) := by decide +kernel
theorem dL_law_410 : decode cL_law 410 = .ok (.if_icmp .ne 14, 3) := by decide +kernel
theorem dL_law_413 : decode cL_law 413 = .ok (.aload_n 2, 1) := by decide +kernel
theorem dL_law_414 : decode cL_law 414 = .ok (.invokevirtual 294, 3) := by decide +kernel
theorem dL_law_417 : decode cL_law 417 = .ok (.ifCond .eq 7, 3) := by decide +kernel
theorem dL_law_420 : decode cL_law 420 = .ok (.iconst 1, 1) := by decide +kernel
theorem dL_law_421 : decode cL_law 421 = .ok (.goto 4, 3) := by decide +kernel
theorem dL_law_424 : decode cL_law 424 = .ok (.iconst 0, 1) := by decide +kernel
theorem dL_law_425 : decode cL_law 425 = .ok (.ireturn, 1) := by decide +kernel
