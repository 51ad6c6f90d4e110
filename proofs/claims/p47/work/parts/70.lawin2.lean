/-- the kit's tables say of a private method of a class above that it's private; then it is what a call on an object of a class below picks -/
theorem zz_selP {s : State} {args : Array Value} {C : String} {n : Nat} {y y2 : MethodName} (hC : (Cond.instantiable C n).before args s = true) (hpriv : (Cond.privateMethod y).before args s = true) (hinst : (Cond.instanceMethod y).before args s = true) (hy : y.cls ≠ "java/lang/invoke/MethodHandle" ∧ y.cls ≠ "java/lang/invoke/VarHandle") (h2 : (Cond.selects C y2 y2).before args s = true) (hcl : y2.cls = y.cls) : (Cond.selects C y y).before args s = true := by
  obtain ⟨c, k, hc, hk, -, hab, -, -⟩ := Cond.instantiable_spec hC
  obtain ⟨mk, methM, hnamed, hmethM, -, -⟩ := Cond.instanceMethod_spec hinst
  have hfound : s.methodFound? y.cls y.name y.desc = some mk := State.methodFound?_of_named hnamed hy
  have hsel : selectMethod {} s.vm c mk = .method mk := selectMethod_private hmethM (Cond.privateMethod_at hpriv mk methM hnamed hmethM)
  obtain ⟨c2, r2, m2, -, -, q3, -, kP, hkP, hkPi⟩ := Cond.selects_spec h2
  have e1 := findClass_of_methodNamed q3
  rw [hcl] at e1
  have e2 : m2.cls = mk.cls := Option.some.inj (e1.symm.trans (findClass_of_methodNamed hnamed))
  rw [e2] at hkP
  simp only [Cond.before, Cond.holds, Cond.value, hc, hfound, hnamed, hsel]
  simp [hkP, hkPi]
def zz_sel : List Cond := [.selects RJ4 ⟨"java/lang/AbstractStringBuilder", "appendNull", "()Ljava/lang/AbstractStringBuilder;"⟩ yJ5_appendNull_278bc, .selects RJ4 ⟨"java/lang/AbstractStringBuilder", "ensureCapacityInternal", "(I)V"⟩ yJ5_ensureCapacityInternal_d00df, .selects RJ4 ⟨"java/lang/AbstractStringBuilder", "newCapacity", "(I)I"⟩ yJ5_newCapacity_0f7a4, .selects RJ4 ⟨"java/lang/AbstractStringBuilder", "putStringAt", "(ILjava/lang/String;)V"⟩ yJ5_putStringAt_47b60, .selects RJ4 ⟨"java/lang/AbstractStringBuilder", "inflateIfNeededFor", "(Ljava/lang/String;)V"⟩ yJ5_inflateIfNeededFor_a7421, .selects RJ4 ⟨"java/lang/AbstractStringBuilder", "inflate", "()V"⟩ yJ5_inflate_da8c8]
theorem zz_sels {args : Array Value} {s : State} (hts : ∀ w ∈ lw_tbl, w.before args s = true) : ∀ w ∈ zz_sel, w.before args s = true := List.forall_mem_cons.mpr ⟨zz_selP (C := RJ4) (n := 4) (y := yJ5_appendNull_278bc) (y2 := ⟨"java/lang/AbstractStringBuilder", "isLatin1", "()Z"⟩) (hts (.instantiable RJ4 4) (by decide +kernel)) (hts (.privateMethod yJ5_appendNull_278bc) (by decide +kernel)) (hts (.instanceMethod yJ5_appendNull_278bc) (by decide +kernel)) (by decide +kernel) (hts (.selects RJ4 ⟨"java/lang/AbstractStringBuilder", "isLatin1", "()Z"⟩ ⟨"java/lang/AbstractStringBuilder", "isLatin1", "()Z"⟩) (by decide +kernel)) rfl, List.forall_mem_cons.mpr ⟨zz_selP (C := RJ4) (n := 4) (y := yJ5_ensureCapacityInternal_d00df) (y2 := ⟨"java/lang/AbstractStringBuilder", "isLatin1", "()Z"⟩) (hts (.instantiable RJ4 4) (by decide +kernel)) (hts (.privateMethod yJ5_ensureCapacityInternal_d00df) (by decide +kernel)) (hts (.instanceMethod yJ5_ensureCapacityInternal_d00df) (by decide +kernel)) (by decide +kernel) (hts (.selects RJ4 ⟨"java/lang/AbstractStringBuilder", "isLatin1", "()Z"⟩ ⟨"java/lang/AbstractStringBuilder", "isLatin1", "()Z"⟩) (by decide +kernel)) rfl, List.forall_mem_cons.mpr ⟨zz_selP (C := RJ4) (n := 4) (y := yJ5_newCapacity_0f7a4) (y2 := ⟨"java/lang/AbstractStringBuilder", "isLatin1", "()Z"⟩) (hts (.instantiable RJ4 4) (by decide +kernel)) (hts (.privateMethod yJ5_newCapacity_0f7a4) (by decide +kernel)) (hts (.instanceMethod yJ5_newCapacity_0f7a4) (by decide +kernel)) (by decide +kernel) (hts (.selects RJ4 ⟨"java/lang/AbstractStringBuilder", "isLatin1", "()Z"⟩ ⟨"java/lang/AbstractStringBuilder", "isLatin1", "()Z"⟩) (by decide +kernel)) rfl, List.forall_mem_cons.mpr ⟨zz_selP (C := RJ4) (n := 4) (y := yJ5_putStringAt_47b60) (y2 := ⟨"java/lang/AbstractStringBuilder", "isLatin1", "()Z"⟩) (hts (.instantiable RJ4 4) (by decide +kernel)) (hts (.privateMethod yJ5_putStringAt_47b60) (by decide +kernel)) (hts (.instanceMethod yJ5_putStringAt_47b60) (by decide +kernel)) (by decide +kernel) (hts (.selects RJ4 ⟨"java/lang/AbstractStringBuilder", "isLatin1", "()Z"⟩ ⟨"java/lang/AbstractStringBuilder", "isLatin1", "()Z"⟩) (by decide +kernel)) rfl, List.forall_mem_cons.mpr ⟨zz_selP (C := RJ4) (n := 4) (y := yJ5_inflateIfNeededFor_a7421) (y2 := ⟨"java/lang/AbstractStringBuilder", "isLatin1", "()Z"⟩) (hts (.instantiable RJ4 4) (by decide +kernel)) (hts (.privateMethod yJ5_inflateIfNeededFor_a7421) (by decide +kernel)) (hts (.instanceMethod yJ5_inflateIfNeededFor_a7421) (by decide +kernel)) (by decide +kernel) (hts (.selects RJ4 ⟨"java/lang/AbstractStringBuilder", "isLatin1", "()Z"⟩ ⟨"java/lang/AbstractStringBuilder", "isLatin1", "()Z"⟩) (by decide +kernel)) rfl, List.forall_mem_cons.mpr ⟨zz_selP (C := RJ4) (n := 4) (y := yJ5_inflate_da8c8) (y2 := ⟨"java/lang/AbstractStringBuilder", "isLatin1", "()Z"⟩) (hts (.instantiable RJ4 4) (by decide +kernel)) (hts (.privateMethod yJ5_inflate_da8c8) (by decide +kernel)) (hts (.instanceMethod yJ5_inflate_da8c8) (by decide +kernel)) (by decide +kernel) (hts (.selects RJ4 ⟨"java/lang/AbstractStringBuilder", "isLatin1", "()Z"⟩ ⟨"java/lang/AbstractStringBuilder", "isLatin1", "()Z"⟩) (by decide +kernel)) rfl, fun _ h => absurd h List.not_mem_nil⟩⟩⟩⟩⟩⟩
def zz_tbl : List Cond := zz_sel ++ lw_tbl
theorem zz_hts {args : Array Value} {s : State} (hts : ∀ w ∈ lw_tbl, w.before args s = true) : ∀ w ∈ zz_tbl, w.before args s = true := fun w hw => (List.mem_append.mp hw).elim (fun h => zz_sels hts w h) (fun h => hts w h)
theorem zz_in {big ws : List Cond} (ps : List Nat) (hp : ws = ps.filterMap (fun i => big[i]?)) : ∀ w ∈ ws, w ∈ big := by
  intro w hw
  rw [hp] at hw
  obtain ⟨i, -, hi⟩ := List.mem_filterMap.mp hw
  exact List.mem_of_getElem? hi
set_option maxRecDepth 20000 in
theorem zz_L_law0_r1 : ∀ w ∈ wsL_law0_r1, w ∈ zz_tbl := zz_in [184, 185, 596, 597, 17, 598, 599, 673, 674, 675, 676, 301, 18, 677, 678, 679, 680, 113, 114, 681, 682, 19, 864, 701] (by decide +kernel)
set_option maxRecDepth 20000 in
theorem zz_L_law0_r2 : ∀ w ∈ wsL_law0_r2, w ∈ zz_tbl := zz_in [702, 20, 865, 718, 719, 21, 866, 744, 745, 22, 867, 761, 762, 23, 868, 819, 820, 25, 869, 846, 768, 24, 870, 848] (by decide +kernel)
set_option maxRecDepth 20000 in
theorem zz_L_law0_r3 : ∀ w ∈ wsL_law0_r3, w ∈ zz_tbl := zz_in [849, 26, 871, 872, 873, 874, 875, 684, 685, 686, 687, 688, 689, 704, 705, 706, 707, 708, 721, 722, 723, 724, 725, 726] (by decide +kernel)
set_option maxRecDepth 20000 in
theorem zz_L_law0_r4 : ∀ w ∈ wsL_law0_r4, w ∈ zz_tbl := zz_in [727, 728, 747, 748, 749, 750, 752, 753, 764, 765, 766, 794, 796, 798, 800, 767, 802, 770, 771, 772, 822, 823, 824, 825] (by decide +kernel)
set_option maxRecDepth 20000 in
theorem zz_L_law0_r5 : ∀ w ∈ wsL_law0_r5, w ∈ zz_tbl := zz_in [827, 828, 829, 830, 851, 852, 853, 863, 854, 587, 588, 589, 595, 590, 591, 592, 593, 594, 603, 604, 605, 75, 76, 77] (by decide +kernel)
set_option maxRecDepth 20000 in
theorem zz_L_law0_r6 : ∀ w ∈ wsL_law0_r6, w ∈ zz_tbl := zz_in [78, 79, 80, 81, 82, 83, 161, 31, 691, 84, 85, 86, 87, 30, 177, 178, 179, 180, 690, 181, 182, 32, 183, 609] (by decide +kernel)
set_option maxRecDepth 20000 in
theorem zz_L_law0_r7 : ∀ w ∈ wsL_law0_r7, w ∈ zz_tbl := zz_in [610, 611, 255, 199, 200, 201, 202, 226, 227, 228, 229, 751, 230, 231, 232, 233, 33, 246, 247, 248, 249, 251, 252, 253] (by decide +kernel)
set_option maxRecDepth 20000 in
theorem zz_L_law0_r8 : ∀ w ∈ wsL_law0_r8, w ∈ zz_tbl := zz_in [254, 612, 613, 614, 335, 336, 337, 338, 339, 340, 341, 640, 641, 642, 497, 498, 499, 500, 501, 502, 503, 805, 504, 506] (by decide +kernel)
set_option maxRecDepth 20000 in
theorem zz_L_law0_r9 : ∀ w ∈ wsL_law0_r9, w ∈ zz_tbl := zz_in [13, 507, 475, 476, 477, 478, 480, 309, 310, 479, 379, 380, 381, 382, 367, 368, 369, 384, 385, 386, 387, 481, 482, 483] (by decide +kernel)
set_option maxRecDepth 20000 in
theorem zz_L_law0_r10 : ∀ w ∈ wsL_law0_r10, w ∈ zz_tbl := zz_in [484, 901, 902, 903, 957, 508, 509, 510, 511, 512, 513, 514, 795, 515, 517, 14, 518, 520, 521, 522, 523, 524, 525, 526] (by decide +kernel)
set_option maxRecDepth 20000 in
theorem zz_L_law0_r11 : ∀ w ∈ wsL_law0_r11, w ∈ zz_tbl := zz_in [797, 527, 528, 529, 530, 531, 532, 533, 799, 534, 535, 536, 537, 538, 539, 540, 801, 541, 542, 543, 544, 545, 546, 547] (by decide +kernel)
set_option maxRecDepth 20000 in
theorem zz_L_law0_r12 : ∀ w ∈ wsL_law0_r12, w ∈ zz_tbl := zz_in [776, 548, 550, 15, 551, 53, 54, 55, 56, 773, 777, 781, 783, 57, 58, 59, 60, 65, 66, 67, 68, 552, 553, 554] (by decide +kernel)
set_option maxRecDepth 20000 in
theorem zz_L_law0_r13 : ∀ w ∈ wsL_law0_r13, w ∈ zz_tbl := zz_in [555, 556, 557, 558, 780, 559, 560, 561, 562, 563, 564, 565, 72, 73, 74, 392, 394, 11, 395, 396, 397, 398, 399, 709] (by decide +kernel)
set_option maxRecDepth 20000 in
theorem zz_L_law0_r14 : ∀ w ∈ wsL_law0_r14, w ∈ zz_tbl := zz_in [400, 401, 402, 403, 404, 667, 668, 669, 670, 671, 672, 263, 264, 265, 266, 267, 268, 269, 270, 271, 36, 287, 288, 289] (by decide +kernel)
set_option maxRecDepth 20000 in
theorem zz_L_law0_r15 : ∀ w ∈ wsL_law0_r15, w ∈ zz_tbl := zz_in [290, 256, 257, 258, 259, 260, 261, 262, 291, 292, 293, 294, 295, 296, 297, 298, 300, 7, 302, 304, 305, 306, 307, 308] (by decide +kernel)
set_option maxRecDepth 20000 in
theorem zz_L_law0_r16 : ∀ w ∈ wsL_law0_r16, w ∈ zz_tbl := zz_in [652, 653, 654, 904, 905, 906, 907, 908, 909, 910, 911, 912, 913, 914, 915, 916, 917, 918, 919, 920, 921, 922, 366, 374] (by decide +kernel)
set_option maxRecDepth 20000 in
theorem zz_L_law0_r17 : ∀ w ∈ wsL_law0_r17, w ∈ zz_tbl := zz_in [376, 9, 377, 383, 378, 924, 925, 926, 927, 941, 942, 943, 944, 949, 37, 945, 946, 947, 948, 952, 953, 954, 955, 956] (by decide +kernel)
set_option maxRecDepth 20000 in
theorem zz_L_law0_r18 : ∀ w ∈ wsL_law0_r18, w ∈ zz_tbl := zz_in [600, 601, 602, 606, 607, 608, 186, 187, 188, 189, 190, 191, 192, 710, 194, 195, 196, 197, 198, 615, 616, 617, 311, 312] (by decide +kernel)
set_option maxRecDepth 20000 in
theorem zz_L_law0_r19 : ∀ w ∈ wsL_law0_r19, w ∈ zz_tbl := zz_in [313, 314, 315, 316, 317, 319, 320, 321, 322, 323, 324, 325, 326, 327, 328, 329, 330, 331, 332, 333, 334, 343, 344, 345] (by decide +kernel)
set_option maxRecDepth 20000 in
theorem zz_L_law0_r20 : ∀ w ∈ wsL_law0_r20, w ∈ zz_tbl := zz_in [346, 347, 348, 349, 618, 619, 620, 621, 622, 623, 624, 625, 626, 627, 628, 730, 629, 631, 16, 632, 636, 637, 638, 639] (by decide +kernel)
set_option maxRecDepth 20000 in
theorem zz_L_law0_r21 : ∀ w ∈ wsL_law0_r21, w ∈ zz_tbl := zz_in [729, 643, 644, 645, 496, 646, 647, 648, 649, 650, 651, 655, 656, 657, 658, 659, 660, 661, 662, 663, 664, 665, 666, 350] (by decide +kernel)
set_option maxRecDepth 20000 in
theorem zz_L_law0_r22 : ∀ w ∈ wsL_law0_r22, w ∈ zz_tbl := zz_in [351, 352, 353, 354, 355, 356, 357, 358, 359, 360, 362, 364, 8, 365, 370, 371, 372, 373, 804, 69, 70, 71, 388, 390] (by decide +kernel)
set_option maxRecDepth 20000 in
theorem zz_L_law0_r23 : ∀ w ∈ wsL_law0_r23, w ∈ zz_tbl := zz_in [10, 391, 803, 405, 406, 407, 408, 774, 778, 782, 784, 831, 409, 832, 410, 411, 412, 413, 414, 415, 416, 417, 418, 419] (by decide +kernel)
set_option maxRecDepth 20000 in
theorem zz_L_law0_r24 : ∀ w ∈ wsL_law0_r24, w ∈ zz_tbl := zz_in [420, 421, 422, 423, 424, 425, 427, 428, 429, 430, 432, 433, 434, 435, 436, 437, 438, 439, 440, 441, 442, 443, 444, 445] (by decide +kernel)
set_option maxRecDepth 20000 in
theorem zz_L_law0_r25 : ∀ w ∈ wsL_law0_r25, w ∈ zz_tbl := zz_in [446, 447, 448, 449, 450, 451, 452, 453, 454, 38, 471, 473, 12, 474, 485, 486, 487, 488, 489, 490, 491, 492, 493, 775] (by decide +kernel)
set_option maxRecDepth 20000 in
theorem zz_L_law0_r26 : ∀ w ∈ wsL_law0_r26, w ∈ zz_tbl := zz_in [779, 494, 495, 958, 959, 960, 961, 962, 40, 566, 567, 568, 569, 570, 571, 572, 573, 857, 574, 575, 576, 577, 856, 578] (by decide +kernel)
set_option maxRecDepth 20000 in
theorem zz_L_law0_r27 : ∀ w ∈ wsL_law0_r27, w ∈ zz_tbl := zz_in [579, 580, 581, 582, 583, 584, 585, 586, 963, 964, 965, 966, 967, 39, 968, 969, 970, 160, 979, 980, 972, 973, 41, 974] (by decide +kernel)
set_option maxRecDepth 20000 in
theorem zz_L_law0_r28 : ∀ w ∈ wsL_law0_r28, w ∈ zz_tbl := zz_in [975, 976, 977, 978, 993, 994, 995, 996, 997, 1184, 990, 998, 999, 981, 1000, 1185, 0, 1002, 1003, 1004, 1186, 1, 1006, 1007] (by decide +kernel)
set_option maxRecDepth 20000 in
theorem zz_L_law0_r29 : ∀ w ∈ wsL_law0_r29, w ∈ zz_tbl := zz_in [1008, 1187, 2, 1010, 1011, 1020, 1012, 1013, 42, 1014, 1015, 1016, 1017, 1018, 1019, 1021, 1022, 43, 1023, 1024, 1025, 1026, 1027, 1028] (by decide +kernel)
set_option maxRecDepth 20000 in
theorem zz_L_law0_r30 : ∀ w ∈ wsL_law0_r30, w ∈ zz_tbl := zz_in [1030, 1031, 1032, 1034, 1033, 44, 1035, 1037, 1038, 1036, 1039, 1040, 1041, 1042, 1060, 1043, 1044, 1045, 1046, 1047, 1048, 1049, 1050, 35] (by decide +kernel)
set_option maxRecDepth 20000 in
theorem zz_L_law0_r31 : ∀ w ∈ wsL_law0_r31, w ∈ zz_tbl := zz_in [1051, 1052, 1054, 1055, 45, 1056, 1057, 1058, 1059, 1062, 1064, 1066, 1067, 1068, 1069, 1215, 1070, 1071, 1072, 1073, 1074, 1216, 1075, 1188] (by decide +kernel)
set_option maxRecDepth 20000 in
theorem zz_L_law0_r32 : ∀ w ∈ wsL_law0_r32, w ∈ zz_tbl := zz_in [3, 1077, 1078, 1079, 1189, 4, 1081, 1082, 1083, 1084, 1190, 5, 1086, 1087, 1088, 1089, 46, 1090, 1091, 1092, 1093, 1094, 1095, 1096] (by decide +kernel)
set_option maxRecDepth 20000 in
theorem zz_L_law0_r33 : ∀ w ∈ wsL_law0_r33, w ∈ zz_tbl := zz_in [1097, 1098, 1099, 1100, 1101, 1102, 1103, 1104, 1105, 1106, 1107, 1108, 1109, 1110, 1111, 1112, 1113, 1191, 1114, 1115, 1116, 1117, 48, 1118] (by decide +kernel)
set_option maxRecDepth 20000 in
theorem zz_L_law0_r34 : ∀ w ∈ wsL_law0_r34, w ∈ zz_tbl := zz_in [1119, 1120, 1121, 1122, 1124, 1126, 1127, 1128, 1129, 1130, 1131, 1132, 1133, 1134, 1135, 1136, 1137, 1138, 1192, 1139, 1140, 1141, 1142, 1143] (by decide +kernel)
set_option maxRecDepth 20000 in
theorem zz_L_law0_r35 : ∀ w ∈ wsL_law0_r35, w ∈ zz_tbl := zz_in [1144, 1145, 1146, 1147, 1148, 1149, 1150, 1151, 1152, 1153, 1154, 1155, 1156, 1157, 1158, 1159, 1160, 1193, 1161, 1162, 1163, 1164, 1165, 1166] (by decide +kernel)
set_option maxRecDepth 20000 in
theorem zz_L_law0_r36 : ∀ w ∈ wsL_law0_r36, w ∈ zz_tbl := zz_in [1167, 1168, 1169, 855, 1171, 1172, 1173, 1174, 1175, 1194, 1176, 1177, 1178, 1179, 1180, 1181, 1182, 49, 50, 51, 52] (by decide +kernel)
set_option maxRecDepth 20000 in
theorem zz_wX8 : ∀ w ∈ wsX80, w ∈ zz_tbl := zz_in [876, 878, 880, 882, 884, 886, 888, 890, 892, 894, 896, 898] (by decide +kernel)
set_option maxRecDepth 20000 in
theorem zz_wX1 : ∀ w ∈ wsX10, w ∈ zz_tbl := zz_in [692, 694, 696, 698] (by decide +kernel)
set_option maxRecDepth 20000 in
theorem zz_wX3 : ∀ w ∈ wsX30, w ∈ zz_tbl := zz_in [711, 713, 715] (by decide +kernel)
set_option maxRecDepth 20000 in
theorem zz_wX2 : ∀ w ∈ wsX20, w ∈ zz_tbl := zz_in [731, 733, 735, 737, 739, 741] (by decide +kernel)
set_option maxRecDepth 20000 in
theorem zz_wX7 : ∀ w ∈ wsX70, w ∈ zz_tbl := zz_in [754, 756, 758] (by decide +kernel)
set_option maxRecDepth 20000 in
theorem zz_wX6 : ∀ w ∈ wsX60, w ∈ zz_tbl := zz_in [806, 808, 810, 812, 814, 816] (by decide +kernel)
set_option maxRecDepth 20000 in
theorem zz_wX4 : ∀ w ∈ wsX40, w ∈ zz_tbl := zz_in [833, 835, 837, 839, 841, 843] (by decide +kernel)
set_option maxRecDepth 20000 in
theorem zz_wX0 : ∀ w ∈ wsX00, w ∈ zz_tbl := zz_in [785, 787, 789, 791] (by decide +kernel)
set_option maxRecDepth 20000 in
theorem zz_wX5 : ∀ w ∈ wsX50, w ∈ zz_tbl := zz_in [858, 860] (by decide +kernel)
set_option maxRecDepth 20000 in
theorem zz_wJ4 : ∀ w ∈ wsJ40, w ∈ zz_tbl := zz_in [982, 984, 986, 988] (by decide +kernel)
set_option maxRecDepth 20000 in
theorem zz_wJ0 : ∀ w ∈ wsJ00, w ∈ zz_tbl := zz_in [222, 224] (by decide +kernel)
set_option maxRecDepth 20000 in
theorem zz_wJx00060 : ∀ w ∈ wsJx000600, w ∈ zz_tbl := zz_in [210, 211, 212, 213, 214, 215] (by decide +kernel)
theorem wsL_law_in0 : ∀ w ∈ wsL_law0, w ∈ zz_tbl := fun w => fun h => (List.mem_append.mp h).elim (fun h => (List.mem_append.mp h).elim (fun h => (List.mem_append.mp h).elim (fun h => (List.mem_append.mp h).elim (fun h => (List.mem_append.mp h).elim (fun h => (List.mem_append.mp h).elim (fun h => (List.mem_append.mp h).elim (fun h => (List.mem_append.mp h).elim (fun h => (List.mem_append.mp h).elim (fun h => (List.mem_append.mp h).elim (fun h => (List.mem_append.mp h).elim (fun h => (List.mem_append.mp h).elim (fun h => (List.mem_append.mp h).elim (fun h => zz_L_law0_r1 w h) (fun h => (List.mem_append.mp h).elim (fun h => zz_L_law0_r2 w h) (fun h => (List.mem_append.mp h).elim (fun h => zz_L_law0_r3 w h) (fun h => (List.mem_append.mp h).elim (fun h => zz_L_law0_r4 w h) (fun h => (List.mem_append.mp h).elim (fun h => zz_L_law0_r5 w h) (fun h => (List.mem_append.mp h).elim (fun h => zz_L_law0_r6 w h) (fun h => (List.mem_append.mp h).elim (fun h => zz_L_law0_r7 w h) (fun h => (List.mem_append.mp h).elim (fun h => zz_L_law0_r8 w h) (fun h => (List.mem_append.mp h).elim (fun h => zz_L_law0_r9 w h) (fun h => (List.mem_append.mp h).elim (fun h => zz_L_law0_r10 w h) (fun h => (List.mem_append.mp h).elim (fun h => zz_L_law0_r11 w h) (fun h => (List.mem_append.mp h).elim (fun h => zz_L_law0_r12 w h) (fun h => (List.mem_append.mp h).elim (fun h => zz_L_law0_r13 w h) (fun h => (List.mem_append.mp h).elim (fun h => zz_L_law0_r14 w h) (fun h => (List.mem_append.mp h).elim (fun h => zz_L_law0_r15 w h) (fun h => (List.mem_append.mp h).elim (fun h => zz_L_law0_r16 w h) (fun h => (List.mem_append.mp h).elim (fun h => zz_L_law0_r17 w h) (fun h => (List.mem_append.mp h).elim (fun h => zz_L_law0_r18 w h) (fun h => (List.mem_append.mp h).elim (fun h => zz_L_law0_r19 w h) (fun h => (List.mem_append.mp h).elim (fun h => zz_L_law0_r20 w h) (fun h => (List.mem_append.mp h).elim (fun h => zz_L_law0_r21 w h) (fun h => (List.mem_append.mp h).elim (fun h => zz_L_law0_r22 w h) (fun h => (List.mem_append.mp h).elim (fun h => zz_L_law0_r23 w h) (fun h => (List.mem_append.mp h).elim (fun h => zz_L_law0_r24 w h) (fun h => (List.mem_append.mp h).elim (fun h => zz_L_law0_r25 w h) (fun h => (List.mem_append.mp h).elim (fun h => zz_L_law0_r26 w h) (fun h => (List.mem_append.mp h).elim (fun h => zz_L_law0_r27 w h) (fun h => (List.mem_append.mp h).elim (fun h => zz_L_law0_r28 w h) (fun h => (List.mem_append.mp h).elim (fun h => zz_L_law0_r29 w h) (fun h => (List.mem_append.mp h).elim (fun h => zz_L_law0_r30 w h) (fun h => (List.mem_append.mp h).elim (fun h => zz_L_law0_r31 w h) (fun h => (List.mem_append.mp h).elim (fun h => zz_L_law0_r32 w h) (fun h => (List.mem_append.mp h).elim (fun h => zz_L_law0_r33 w h) (fun h => (List.mem_append.mp h).elim (fun h => zz_L_law0_r34 w h) (fun h => (List.mem_append.mp h).elim (fun h => zz_L_law0_r35 w h) (fun h => zz_L_law0_r36 w h)))))))))))))))))))))))))))))))))))) (fun h => zz_wX8 w h)) (fun h => zz_wX1 w h)) (fun h => zz_wX3 w h)) (fun h => zz_wX2 w h)) (fun h => zz_wX7 w h)) (fun h => zz_wX6 w h)) (fun h => zz_wX4 w h)) (fun h => zz_wX0 w h)) (fun h => zz_wX5 w h)) (fun h => zz_wJ4 w h)) (fun h => zz_wJ0 w h)) (fun h => absurd h List.not_mem_nil)
theorem wsL_law_x0 : ∀ w ∈ (vx_atM "java/lang/ArrayIndexOutOfBoundsException" ["java/lang/IndexOutOfBoundsException", "java/lang/RuntimeException", "java/lang/Exception"]).filter goodWord, w ∈ lw_tbl := by decide +kernel
theorem wsL_law_x1 : ∀ w ∈ (vx_atM "java/lang/ArithmeticException" ["java/lang/RuntimeException", "java/lang/Exception"]).filter goodWord, w ∈ lw_tbl := by decide +kernel
theorem wsL_law_x2 : ∀ w ∈ (vx_atS RX8 89 "java/lang/IllegalStateException" ["java/lang/RuntimeException", "java/lang/Exception"]).filter goodWord, w ∈ lw_tbl := by decide +kernel
theorem wsL_law_x3 : ∀ w ∈ (vx_atS RX8 116 "java/lang/IllegalArgumentException" ["java/lang/RuntimeException", "java/lang/Exception"]).filter goodWord, w ∈ lw_tbl := by decide +kernel
theorem wsL_law_x4 : ∀ w ∈ (vx_atS RX8 326 "java/lang/IndexOutOfBoundsException" ["java/lang/RuntimeException", "java/lang/Exception"]).filter goodWord, w ∈ lw_tbl := by decide +kernel
theorem wsL_law_x5 : ∀ w ∈ (zx_atN RX8 146 "java/util/NoSuchElementException" ["java/lang/RuntimeException", "java/lang/Exception"]).filter goodWord, w ∈ lw_tbl := by decide +kernel
theorem wsL_law_x6 : ∀ w ∈ (vx_atS RX8 172 "java/lang/ArithmeticException" ["java/lang/RuntimeException", "java/lang/Exception"]).filter goodWord, w ∈ lw_tbl := by decide +kernel
theorem wsL_law_x7 : ∀ w ∈ (vx_atS RX8 200 "java/lang/UnsupportedOperationException" ["java/lang/RuntimeException", "java/lang/Exception"]).filter goodWord, w ∈ lw_tbl := by decide +kernel
theorem wsL_law_in : ∀ w ∈ wsL_law, w ∈ zz_tbl := fun w => fun h => (List.mem_append.mp h).elim (fun h => (List.mem_append.mp h).elim (fun h => (List.mem_append.mp h).elim (fun h => (List.mem_append.mp h).elim (fun h => (List.mem_append.mp h).elim (fun h => (List.mem_append.mp h).elim (fun h => (List.mem_append.mp h).elim (fun h => (List.mem_append.mp h).elim (fun h => wsL_law_in0 w h) (fun h => List.mem_append_right _ (wsL_law_x0 w h))) (fun h => List.mem_append_right _ (wsL_law_x1 w h))) (fun h => List.mem_append_right _ (wsL_law_x2 w h))) (fun h => List.mem_append_right _ (wsL_law_x3 w h))) (fun h => List.mem_append_right _ (wsL_law_x4 w h))) (fun h => List.mem_append_right _ (wsL_law_x5 w h))) (fun h => List.mem_append_right _ (wsL_law_x6 w h))) (fun h => List.mem_append_right _ (wsL_law_x7 w h))
