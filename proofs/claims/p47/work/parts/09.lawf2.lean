set_option maxRecDepth 20000 in
theorem ggL_law_L_in : GoodIn wsL_law wsL_in := goodIn_ca (goodIn_ca (goodIn_r _ [107, 108, 109, 110, 4, 111, 112, 113] (by decide +kernel) (by decide +kernel)) (goodIn_sub (fun _ h => List.mem_append_left _ (List.mem_append_left _ (List.mem_append_left _ (List.mem_append_left _ (List.mem_append_left _ (List.mem_append_left _ (List.mem_append_right _ h))))))) (by decide +kernel))) (goodIn_sub (fun _ h => List.mem_append_left _ (List.mem_append_left _ (List.mem_append_left _ (List.mem_append_left _ (List.mem_append_left _ (List.mem_append_left _ (List.mem_append_left _ (List.mem_append_right _ h)))))))) (by decide +kernel))
set_option maxRecDepth 20000 in
theorem gL_law_L_in : GoodIn wsL_law (va_wsS RL 179 yL_in wsL_in) := goodIn_app (goodIn_of _ (by decide +kernel)) ggL_law_L_in
set_option maxRecDepth 20000 in
theorem zgL_law_L_isWritten_r1 : GoodIn wsL_law wsL_isWritten_r1 := goodIn_r _ [0, 606, 607, 608, 609, 610, 4, 611, 150, 612, 613, 614, 12, 615, 38, 189, 616, 140, 141, 142, 50, 228, 240, 617] (by decide +kernel) (by decide +kernel)
set_option maxRecDepth 20000 in
theorem zgL_law_L_isWritten_r2 : GoodIn wsL_law wsL_isWritten_r2 := goodIn_r _ [229, 230, 231, 232, 159, 160, 618, 619, 620, 49, 621, 622, 623, 624, 625, 626, 104, 627, 628, 629, 630, 631, 632, 633] (by decide +kernel) (by decide +kernel)
set_option maxRecDepth 20000 in
theorem zgL_law_L_isWritten_r3 : GoodIn wsL_law wsL_isWritten_r3 := goodIn_r _ [634, 635, 636, 637, 638, 639, 17, 18, 640, 641, 642, 643, 644, 645, 646, 647, 648, 649, 650, 651, 652, 653, 654, 655] (by decide +kernel) (by decide +kernel)
set_option maxRecDepth 20000 in
theorem zgL_law_L_isWritten_r4 : GoodIn wsL_law wsL_isWritten_r4 := goodIn_r _ [656, 657, 658, 659, 660, 661, 662, 663, 664, 665, 666, 667, 668, 669, 670, 671, 672, 673, 674, 675, 676, 677, 678, 679] (by decide +kernel) (by decide +kernel)
set_option maxRecDepth 20000 in
theorem zgL_law_L_isWritten_r5 : GoodIn wsL_law wsL_isWritten_r5 := goodIn_r _ [680, 681, 682, 199, 200, 683, 684, 685, 686, 687, 688, 689, 690, 691, 692, 693, 694, 695, 696, 697, 698, 699, 700, 701] (by decide +kernel) (by decide +kernel)
set_option maxRecDepth 20000 in
theorem zgL_law_L_isWritten_r6 : GoodIn wsL_law wsL_isWritten_r6 := goodIn_r _ [702, 703, 704, 705, 706, 707, 708, 709, 710, 711, 712, 713, 714, 715, 716, 717, 718, 719, 720, 721, 722, 723, 724, 725] (by decide +kernel) (by decide +kernel)
set_option maxRecDepth 20000 in
theorem zgL_law_L_isWritten_r7 : GoodIn wsL_law wsL_isWritten_r7 := goodIn_r _ [726, 727, 728, 729, 730, 731, 732, 733, 734, 735, 736, 737, 738, 739, 740, 741, 742, 743, 744, 745, 746, 747, 748, 749] (by decide +kernel) (by decide +kernel)
set_option maxRecDepth 20000 in
theorem zgL_law_L_isWritten_r8 : GoodIn wsL_law wsL_isWritten_r8 := goodIn_r _ [750, 751, 752, 753, 754, 755, 756, 757, 758, 759, 760, 761, 762, 763, 764, 765, 766, 767, 768, 769, 770, 771, 772, 773] (by decide +kernel) (by decide +kernel)
set_option maxRecDepth 20000 in
theorem zgL_law_L_isWritten_r9 : GoodIn wsL_law wsL_isWritten_r9 := goodIn_r _ [774, 775, 776, 777, 778, 779, 780, 781, 782, 783, 784, 785, 786, 787, 788, 789, 790, 791, 792, 793, 794, 795, 796, 797] (by decide +kernel) (by decide +kernel)
set_option maxRecDepth 20000 in
theorem zgL_law_L_isWritten_r10 : GoodIn wsL_law wsL_isWritten_r10 := goodIn_r _ [798, 799, 800, 801, 802, 803, 804, 805, 806, 807, 808, 809, 810, 811, 812, 813, 814, 815, 816, 817, 818, 819, 820, 821] (by decide +kernel) (by decide +kernel)
set_option maxRecDepth 20000 in
theorem zgL_law_L_isWritten_r11 : GoodIn wsL_law wsL_isWritten_r11 := goodIn_r _ [822, 823, 824, 825, 826, 827, 828, 829, 830, 831, 832, 833, 834, 835, 836, 837, 838, 839, 840, 841, 842, 843, 844, 845] (by decide +kernel) (by decide +kernel)
set_option maxRecDepth 20000 in
theorem zgL_law_L_isWritten_r12 : GoodIn wsL_law wsL_isWritten_r12 := goodIn_r _ [846, 847, 848, 849, 850, 851, 852, 853, 854, 855, 856] (by decide +kernel) (by decide +kernel)
set_option maxRecDepth 20000 in
theorem zgL_law_J4 : GoodIn wsL_law wsJ40 := goodIn_r _ [907, 908, 909, 910] (by decide +kernel) (by decide +kernel)
set_option maxRecDepth 20000 in
theorem zgL_law_J0 : GoodIn wsL_law wsJ00 := goodIn_r _ [911, 912] (by decide +kernel) (by decide +kernel)
set_option maxRecDepth 20000 in
theorem ggL_law_L_isWritten : GoodIn wsL_law wsL_isWritten := goodIn_ca (goodIn_ca (goodIn_c1 (goodIn_r _ [605] (by decide +kernel) (by decide +kernel)) (goodIn_app (goodIn_app (goodIn_app (goodIn_app (goodIn_app (goodIn_app zgL_law_L_isWritten_r1 (goodIn_app zgL_law_L_isWritten_r2 (goodIn_app zgL_law_L_isWritten_r3 (goodIn_app zgL_law_L_isWritten_r4 (goodIn_app zgL_law_L_isWritten_r5 (goodIn_app zgL_law_L_isWritten_r6 (goodIn_app zgL_law_L_isWritten_r7 (goodIn_app zgL_law_L_isWritten_r8 (goodIn_app zgL_law_L_isWritten_r9 (goodIn_app zgL_law_L_isWritten_r10 (goodIn_app zgL_law_L_isWritten_r11 zgL_law_L_isWritten_r12))))))))))) zgL_law_J4) zgL_law_X8) zgL_law_X6) zgL_law_X5) zgL_law_J0)) (goodIn_sub (fun _ h => List.mem_append_left _ (List.mem_append_left _ (List.mem_append_left _ (List.mem_append_left _ (List.mem_append_left _ (List.mem_append_left _ (List.mem_append_left _ (List.mem_append_right _ h)))))))) (by decide +kernel))) (goodIn_sub (fun _ h => List.mem_append_left _ (List.mem_append_left _ (List.mem_append_left _ (List.mem_append_right _ h)))) (by decide +kernel))
set_option maxRecDepth 20000 in
theorem gL_law_L_isWritten : GoodIn wsL_law (va_wsS RL 291 yL_isWritten wsL_isWritten) := goodIn_app (goodIn_of _ (by decide +kernel)) ggL_law_L_isWritten
set_option maxRecDepth 20000 in
theorem zgL_law_L_addGround_r1 : GoodIn wsL_law wsL_addGround_r1 := goodIn_r _ [120, 121, 0, 1, 122, 123, 124, 12, 125, 126, 127, 22, 128, 129, 130, 131, 132, 133, 134, 135, 136, 21, 137, 138] (by decide +kernel) (by decide +kernel)
set_option maxRecDepth 20000 in
theorem zgL_law_L_addGround_r2 : GoodIn wsL_law wsL_addGround_r2 := goodIn_r _ [139, 140, 141, 142, 58, 59] (by decide +kernel) (by decide +kernel)
set_option maxRecDepth 20000 in
theorem ggL_law_L_addGround : GoodIn wsL_law wsL_addGround := goodIn_ca (goodIn_ca (goodIn_ca (goodIn_c1 (goodIn_r _ [119] (by decide +kernel) (by decide +kernel)) (goodIn_app (goodIn_app (goodIn_app zgL_law_L_addGround_r1 zgL_law_L_addGround_r2) zgL_law_X8) zgL_law_X1)) (goodIn_sub (fun _ h => List.mem_append_left _ (List.mem_append_left _ (List.mem_append_left _ (List.mem_append_left _ (List.mem_append_left _ (List.mem_append_right _ h)))))) (by decide +kernel))) (goodIn_sub (fun _ h => List.mem_append_left _ (List.mem_append_left _ (List.mem_append_left _ (List.mem_append_left _ (List.mem_append_right _ h))))) (by decide +kernel))) (goodIn_sub (fun _ h => List.mem_append_left _ (List.mem_append_left _ (List.mem_append_left _ (List.mem_append_left _ (List.mem_append_left _ (List.mem_append_left _ (List.mem_append_left _ (List.mem_append_right _ h)))))))) (by decide +kernel))
set_option maxRecDepth 20000 in
theorem gL_law_L_addGround : GoodIn wsL_law (va_wsS RL 118 yL_addGround wsL_addGround) := goodIn_app (goodIn_of _ (by decide +kernel)) ggL_law_L_addGround
set_option maxRecDepth 20000 in
theorem zgL_law_L_addCurve_r1 : GoodIn wsL_law wsL_addCurve_r1 := goodIn_r _ [120, 121, 0, 1, 417, 418, 419, 12, 420, 126, 127, 26, 421, 129, 130, 131, 132, 133, 422, 423, 424, 25, 425, 311] (by decide +kernel) (by decide +kernel)
set_option maxRecDepth 20000 in
theorem zgL_law_L_addCurve_r2 : GoodIn wsL_law wsL_addCurve_r2 := goodIn_r _ [426, 140, 141, 142, 64, 65] (by decide +kernel) (by decide +kernel)
set_option maxRecDepth 20000 in
theorem ggL_law_L_addCurve : GoodIn wsL_law wsL_addCurve := goodIn_ca (goodIn_ca (goodIn_ca (goodIn_c1 (goodIn_r _ [416] (by decide +kernel) (by decide +kernel)) (goodIn_app (goodIn_app (goodIn_app zgL_law_L_addCurve_r1 zgL_law_L_addCurve_r2) zgL_law_X8) zgL_law_X3)) (goodIn_sub (fun _ h => List.mem_append_left _ (List.mem_append_left _ (List.mem_append_left _ (List.mem_append_left _ (List.mem_append_left _ (List.mem_append_right _ h)))))) (by decide +kernel))) (goodIn_sub (fun _ h => List.mem_append_left _ (List.mem_append_left _ (List.mem_append_left _ (List.mem_append_left _ (List.mem_append_right _ h))))) (by decide +kernel))) (goodIn_sub (fun _ h => List.mem_append_left _ (List.mem_append_left _ (List.mem_append_left _ (List.mem_append_left _ (List.mem_append_left _ (List.mem_append_left _ (List.mem_append_left _ (List.mem_append_right _ h)))))))) (by decide +kernel))
set_option maxRecDepth 20000 in
theorem gL_law_L_addCurve : GoodIn wsL_law (va_wsS RL 121 yL_addCurve wsL_addCurve) := goodIn_app (goodIn_of _ (by decide +kernel)) ggL_law_L_addCurve
set_option maxRecDepth 20000 in
theorem zgL_law_L_cast_r1 : GoodIn wsL_law wsL_cast_r1 := goodIn_r _ [150, 120, 121, 0, 1, 146, 151, 152, 153, 12, 154, 126, 127, 34, 54, 155, 156, 157, 158, 159, 160, 129, 130, 131] (by decide +kernel) (by decide +kernel)
set_option maxRecDepth 20000 in
theorem zgL_law_L_cast_r2 : GoodIn wsL_law wsL_cast_r2 := goodIn_r _ [132, 133, 161, 162, 163, 33, 164, 77, 165, 166, 167, 168, 78, 79] (by decide +kernel) (by decide +kernel)
set_option maxRecDepth 20000 in
theorem ggL_law_L_cast : GoodIn wsL_law wsL_cast := goodIn_ca (goodIn_ca (goodIn_ca (goodIn_ca (goodIn_c1 (goodIn_r _ [149] (by decide +kernel) (by decide +kernel)) (goodIn_app (goodIn_app (goodIn_app zgL_law_L_cast_r1 zgL_law_L_cast_r2) zgL_law_X8) zgL_law_X7)) (goodIn_sub (fun _ h => List.mem_append_left _ (List.mem_append_left _ (List.mem_append_left _ (List.mem_append_left _ (List.mem_append_left _ (List.mem_append_right _ h)))))) (by decide +kernel))) (goodIn_sub (fun _ h => List.mem_append_left _ (List.mem_append_left _ (List.mem_append_left _ (List.mem_append_left _ (List.mem_append_left _ (List.mem_append_left _ (List.mem_append_left _ (List.mem_append_right _ h)))))))) (by decide +kernel))) (goodIn_sub (fun _ h => List.mem_append_left _ (List.mem_append_left _ (List.mem_append_left _ (List.mem_append_right _ h)))) (by decide +kernel))) (goodIn_sub (fun _ h => List.mem_append_left _ (List.mem_append_left _ (List.mem_append_left _ (List.mem_append_left _ (List.mem_append_right _ h))))) (by decide +kernel))
set_option maxRecDepth 20000 in
theorem gL_law_L_cast : GoodIn wsL_law (va_wsS RL 123 yL_cast wsL_cast) := goodIn_app (goodIn_of _ (by decide +kernel)) ggL_law_L_cast
set_option maxRecDepth 20000 in
theorem ggL_law_L_heightOf : GoodIn wsL_law wsL_heightOf := goodIn_ca (goodIn_ca (goodIn_r _ [339, 150, 0, 340, 341, 342, 12, 343, 34, 155, 156, 157, 158, 159, 160, 861, 862, 863, 864, 865, 866, 867, 868, 869, 870, 871, 872, 886, 887, 888] (by decide +kernel) (by decide +kernel)) (goodIn_sub (fun _ h => List.mem_append_left _ (List.mem_append_left _ (List.mem_append_left _ (List.mem_append_left _ (List.mem_append_left _ (List.mem_append_left _ (List.mem_append_left _ (List.mem_append_right _ h)))))))) (by decide +kernel))) (goodIn_sub (fun _ h => List.mem_append_left _ (List.mem_append_left _ (List.mem_append_left _ (List.mem_append_right _ h)))) (by decide +kernel))
set_option maxRecDepth 20000 in
theorem gL_law_L_heightOf : GoodIn wsL_law (va_wsS RL 230 yL_heightOf wsL_heightOf) := goodIn_app (goodIn_of _ (by decide +kernel)) ggL_law_L_heightOf
set_option maxRecDepth 20000 in
theorem ggL_law_L_taperAt : GoodIn wsL_law wsL_taperAt := goodIn_ca (goodIn_ca (goodIn_ca (goodIn_r _ [325, 150, 326, 0, 1, 327, 328, 329, 12, 330, 331, 332, 34, 155, 156, 157, 158, 159, 160, 333, 334, 335, 33, 336, 78, 861, 862, 863, 864, 865, 866, 867, 868, 869, 870, 871, 872, 886, 887, 888] (by decide +kernel) (by decide +kernel)) (goodIn_sub (fun _ h => List.mem_append_left _ (List.mem_append_left _ (List.mem_append_left _ (List.mem_append_left _ (List.mem_append_left _ (List.mem_append_left _ (List.mem_append_left _ (List.mem_append_right _ h)))))))) (by decide +kernel))) (goodIn_sub (fun _ h => List.mem_append_left _ (List.mem_append_left _ (List.mem_append_right _ h))) (by decide +kernel))) (goodIn_sub (fun _ h => List.mem_append_left _ (List.mem_append_left _ (List.mem_append_left _ (List.mem_append_right _ h)))) (by decide +kernel))
set_option maxRecDepth 20000 in
theorem gL_law_L_taperAt : GoodIn wsL_law (va_wsS RL 228 yL_taperAt wsL_taperAt) := goodIn_app (goodIn_of _ (by decide +kernel)) ggL_law_L_taperAt
