set_option maxRecDepth 20000 in
theorem ggL_law_X8_init : GoodIn wsL_law wsX8_init := goodIn_r _ [10, 11, 12, 13, 14, 15, 16, 17, 18, 19, 20, 21, 22, 23, 24, 25, 26, 27, 28, 29, 30, 31, 32, 33, 34, 35, 36, 37, 38, 39, 40, 41, 42, 43, 44, 45, 46, 47, 48, 49, 50, 51, 52, 53, 54, 55, 56, 57, 58, 59, 60, 61, 62, 63, 64, 65, 66, 67, 68, 69, 70, 71, 72, 73, 74, 75, 76, 77, 78, 79, 80, 81, 82, 83, 84, 85, 86, 87, 88, 89, 90, 91, 92, 93, 94, 95, 96, 97, 98, 99, 100, 1076, 1077, 1078, 1079, 1034, 1035, 1036, 1037, 1038, 1039, 1040, 1041, 1042, 1043, 1044, 1045, 1080, 1081, 1082, 1083, 1084, 1085, 1086, 1087, 1088, 1089, 1090, 1091, 1092, 1093, 1094, 1095, 1096, 1097, 1098, 1099, 1100, 1101, 1102, 1103, 1104, 1105, 1106, 1107, 1108, 1109] (by decide +kernel) (by decide +kernel)
set_option maxRecDepth 20000 in
theorem gL_law_X8_init : GoodIn wsL_law (wsX8_init) := ggL_law_X8_init
set_option maxRecDepth 20000 in
theorem ggL_law_X9_init : GoodIn wsL_law wsX9_init := goodIn_r _ [103, 104, 12, 13, 53, 105, 106, 107, 108, 109, 110, 111, 112, 113, 114, 115, 116, 117, 118, 119, 120, 121, 99, 122, 123, 124, 1046, 1047, 1048, 1049, 1050, 1051, 1052, 1053, 1054, 1055, 1056, 1057, 1058, 1059, 1060, 1061, 1062, 1063, 1064, 1065, 1066, 1067, 1068, 1069, 1070, 1071, 1072, 1073, 1074, 1075] (by decide +kernel) (by decide +kernel)
set_option maxRecDepth 20000 in
theorem gL_law_X9_init : GoodIn wsL_law (wsX9_init) := ggL_law_X9_init
set_option maxRecDepth 20000 in
theorem ggL_law_L_addGround : GoodIn wsL_law wsL_addGround := goodIn_ca (goodIn_ca (goodIn_ca (goodIn_r _ [128, 129, 130, 131, 132, 133, 2, 134, 135, 136, 17, 137, 138, 139, 140, 141, 142, 143, 144, 145, 16, 146, 147, 148, 149, 150, 151, 54, 55, 1034, 1035, 1036, 1037, 1038, 1039, 1040, 1041, 1042, 1043, 1044, 1045, 1076, 1077, 1078, 1079] (by decide +kernel) (by decide +kernel)) (goodIn_sub (fun _ h => List.mem_append_left _ (List.mem_append_left _ (List.mem_append_left _ (List.mem_append_left _ (List.mem_append_left _ (List.mem_append_left _ (List.mem_append_right _ h))))))) (by decide +kernel))) (goodIn_sub (fun _ h => List.mem_append_left _ (List.mem_append_left _ (List.mem_append_left _ (List.mem_append_left _ (List.mem_append_left _ (List.mem_append_right _ h)))))) (by decide +kernel))) (goodIn_sub (fun _ h => List.mem_append_left _ (List.mem_append_left _ (List.mem_append_left _ (List.mem_append_left _ (List.mem_append_right _ h))))) (by decide +kernel))
set_option maxRecDepth 20000 in
theorem gL_law_L_addGround : GoodIn wsL_law (va_wsS RL 151 yL_addGround wsL_addGround) := goodIn_app (goodIn_of _ (by decide +kernel)) ggL_law_L_addGround
set_option maxRecDepth 20000 in
theorem ggL_law_X9_addGround : GoodIn wsL_law wsX9_addGround := goodIn_ca (goodIn_r _ [155, 156, 105, 106, 157, 158, 5, 159, 160, 161, 162, 163, 164, 1046, 1047, 1048, 1049, 1050, 1051, 1052, 1053, 1054, 1055, 1056, 1057, 1058, 1059, 1060, 1061, 1062, 1063, 1064, 1065, 1066, 1067, 1068, 1069, 1070, 1071, 1072, 1073, 1074, 1075] (by decide +kernel) (by decide +kernel)) (goodIn_sub (fun _ h => List.mem_append_left _ (List.mem_append_left _ (List.mem_append_left _ (List.mem_append_left _ (List.mem_append_left _ (List.mem_append_left _ (List.mem_append_right _ h))))))) (by decide +kernel))
set_option maxRecDepth 20000 in
theorem gL_law_X9_addGround : GoodIn wsL_law (wsV RL 156 RX9 yX9_addGround wsX9_addGround) := goodIn_app (goodIn_of _ (by decide +kernel)) ggL_law_X9_addGround
set_option maxRecDepth 20000 in
theorem ggL_law_X9_thrown : GoodIn wsL_law wsX9_thrown := goodIn_r _ [168, 164, 1046, 1047, 1048, 1049, 1050, 1051, 1052, 1053, 1054, 1055, 1056, 1057, 1058, 1059, 1060, 1061, 1062, 1063, 1064, 1065, 1066, 1067, 1068, 1069, 1070, 1071, 1072, 1073, 1074, 1075] (by decide +kernel) (by decide +kernel)
set_option maxRecDepth 20000 in
theorem gL_law_X9_thrown : GoodIn wsL_law (wsV RL 157 RX9 yX9_thrown wsX9_thrown) := goodIn_app (goodIn_of _ (by decide +kernel)) ggL_law_X9_thrown
set_option maxRecDepth 20000 in
theorem ggL_law_L_addCurve : GoodIn wsL_law wsL_addCurve := goodIn_ca (goodIn_ca (goodIn_ca (goodIn_r _ [171, 129, 130, 172, 173, 174, 2, 175, 135, 136, 21, 176, 138, 139, 140, 141, 142, 177, 178, 179, 20, 180, 181, 182, 149, 150, 151, 60, 61, 1034, 1035, 1036, 1037, 1038, 1039, 1040, 1041, 1042, 1043, 1044, 1045, 1080, 1081, 1082] (by decide +kernel) (by decide +kernel)) (goodIn_sub (fun _ h => List.mem_append_left _ (List.mem_append_left _ (List.mem_append_left _ (List.mem_append_left _ (List.mem_append_left _ (List.mem_append_left _ (List.mem_append_right _ h))))))) (by decide +kernel))) (goodIn_sub (fun _ h => List.mem_append_left _ (List.mem_append_left _ (List.mem_append_left _ (List.mem_append_left _ (List.mem_append_left _ (List.mem_append_right _ h)))))) (by decide +kernel))) (goodIn_sub (fun _ h => List.mem_append_left _ (List.mem_append_left _ (List.mem_append_left _ (List.mem_append_left _ (List.mem_append_right _ h))))) (by decide +kernel))
set_option maxRecDepth 20000 in
theorem gL_law_L_addCurve : GoodIn wsL_law (va_wsS RL 160 yL_addCurve wsL_addCurve) := goodIn_app (goodIn_of _ (by decide +kernel)) ggL_law_L_addCurve
set_option maxRecDepth 20000 in
theorem ggL_law_X9_addCurve : GoodIn wsL_law wsX9_addCurve := goodIn_ca (goodIn_r _ [186, 187, 107, 108, 157, 158, 5, 159, 160, 161, 162, 163, 164, 1046, 1047, 1048, 1049, 1050, 1051, 1052, 1053, 1054, 1055, 1056, 1057, 1058, 1059, 1060, 1061, 1062, 1063, 1064, 1065, 1066, 1067, 1068, 1069, 1070, 1071, 1072, 1073, 1074, 1075] (by decide +kernel) (by decide +kernel)) (goodIn_sub (fun _ h => List.mem_append_left _ (List.mem_append_left _ (List.mem_append_left _ (List.mem_append_left _ (List.mem_append_left _ (List.mem_append_left _ (List.mem_append_right _ h))))))) (by decide +kernel))
set_option maxRecDepth 20000 in
theorem gL_law_X9_addCurve : GoodIn wsL_law (wsV RL 162 RX9 yX9_addCurve wsX9_addCurve) := goodIn_app (goodIn_of _ (by decide +kernel)) ggL_law_X9_addCurve
set_option maxRecDepth 20000 in
theorem ggL_law_L_needAt : GoodIn wsL_law wsL_needAt := goodIn_ca (goodIn_ca (goodIn_r _ [190, 191, 192, 193, 194, 2, 195, 17, 196, 197, 198, 199, 200, 201, 202, 203, 204, 16, 205, 147, 206, 207, 208, 209, 54, 210, 1034, 1035, 1036, 1037, 1038, 1039, 1040, 1041, 1042, 1043, 1044, 1045, 1076, 1077, 1078, 1079] (by decide +kernel) (by decide +kernel)) (goodIn_sub (fun _ h => List.mem_append_left _ (List.mem_append_left _ (List.mem_append_left _ (List.mem_append_left _ (List.mem_append_left _ (List.mem_append_left _ (List.mem_append_right _ h))))))) (by decide +kernel))) (goodIn_sub (fun _ h => List.mem_append_left _ (List.mem_append_left _ (List.mem_append_left _ (List.mem_append_right _ h)))) (by decide +kernel))
set_option maxRecDepth 20000 in
theorem gL_law_L_needAt : GoodIn wsL_law (va_wsS RL 163 yL_needAt wsL_needAt) := goodIn_app (goodIn_of _ (by decide +kernel)) ggL_law_L_needAt
set_option maxRecDepth 20000 in
theorem ggL_law_X9_needAt : GoodIn wsL_law wsX9_needAt := goodIn_ca (goodIn_r _ [214, 105, 215, 216, 217, 5, 218, 156, 157, 158, 159, 160, 161, 162, 163, 164, 1046, 1047, 1048, 1049, 1050, 1051, 1052, 1053, 1054, 1055, 1056, 1057, 1058, 1059, 1060, 1061, 1062, 1063, 1064, 1065, 1066, 1067, 1068, 1069, 1070, 1071, 1072, 1073, 1074, 1075] (by decide +kernel) (by decide +kernel)) (goodIn_sub (fun _ h => List.mem_append_left _ (List.mem_append_left _ (List.mem_append_left _ (List.mem_append_left _ (List.mem_append_left _ (List.mem_append_left _ (List.mem_append_right _ h))))))) (by decide +kernel))
set_option maxRecDepth 20000 in
theorem gL_law_X9_needAt : GoodIn wsL_law (wsV RL 166 RX9 yX9_needAt wsX9_needAt) := goodIn_app (goodIn_of _ (by decide +kernel)) ggL_law_X9_needAt
set_option maxRecDepth 20000 in
theorem ggL_law_L_weaknessAt : GoodIn wsL_law wsL_weaknessAt := goodIn_ca (goodIn_ca (goodIn_r _ [221, 191, 222, 223, 224, 2, 225, 17, 196, 197, 198, 199, 200, 201, 202, 203, 204, 16, 205, 147, 226, 227, 228, 229, 55, 210, 1034, 1035, 1036, 1037, 1038, 1039, 1040, 1041, 1042, 1043, 1044, 1045, 1076, 1077, 1078, 1079] (by decide +kernel) (by decide +kernel)) (goodIn_sub (fun _ h => List.mem_append_left _ (List.mem_append_left _ (List.mem_append_left _ (List.mem_append_left _ (List.mem_append_left _ (List.mem_append_left _ (List.mem_append_right _ h))))))) (by decide +kernel))) (goodIn_sub (fun _ h => List.mem_append_left _ (List.mem_append_left _ (List.mem_append_left _ (List.mem_append_right _ h)))) (by decide +kernel))
set_option maxRecDepth 20000 in
theorem gL_law_L_weaknessAt : GoodIn wsL_law (va_wsS RL 167 yL_weaknessAt wsL_weaknessAt) := goodIn_app (goodIn_of _ (by decide +kernel)) ggL_law_L_weaknessAt
set_option maxRecDepth 20000 in
theorem ggL_law_X9_weaknessAt : GoodIn wsL_law wsX9_weaknessAt := goodIn_ca (goodIn_r _ [233, 106, 215, 216, 217, 5, 218, 156, 157, 158, 159, 160, 161, 162, 163, 164, 1046, 1047, 1048, 1049, 1050, 1051, 1052, 1053, 1054, 1055, 1056, 1057, 1058, 1059, 1060, 1061, 1062, 1063, 1064, 1065, 1066, 1067, 1068, 1069, 1070, 1071, 1072, 1073, 1074, 1075] (by decide +kernel) (by decide +kernel)) (goodIn_sub (fun _ h => List.mem_append_left _ (List.mem_append_left _ (List.mem_append_left _ (List.mem_append_left _ (List.mem_append_left _ (List.mem_append_left _ (List.mem_append_right _ h))))))) (by decide +kernel))
set_option maxRecDepth 20000 in
theorem gL_law_X9_weaknessAt : GoodIn wsL_law (wsV RL 169 RX9 yX9_weaknessAt wsX9_weaknessAt) := goodIn_app (goodIn_of _ (by decide +kernel)) ggL_law_X9_weaknessAt
set_option maxRecDepth 20000 in
theorem ggL_law_L_addHouse : GoodIn wsL_law wsL_addHouse := goodIn_ca (goodIn_ca (goodIn_ca (goodIn_ca (goodIn_r _ [236, 191, 129, 130, 237, 238, 239, 2, 240, 141, 142, 135, 136, 25, 241, 196, 197, 198, 199, 200, 201, 17, 202, 203, 204, 16, 205, 147, 138, 139, 140, 242, 243, 244, 24, 245, 246, 65, 66, 67, 68, 1034, 1035, 1036, 1037, 1038, 1039, 1040, 1041, 1042, 1043, 1044, 1045, 1083, 1084, 1085, 1086, 1087, 1088, 1076, 1077, 1078, 1079] (by decide +kernel) (by decide +kernel)) (goodIn_sub (fun _ h => List.mem_append_left _ (List.mem_append_left _ (List.mem_append_left _ (List.mem_append_left _ (List.mem_append_left _ (List.mem_append_left _ (List.mem_append_right _ h))))))) (by decide +kernel))) (goodIn_sub (fun _ h => List.mem_append_left _ (List.mem_append_left _ (List.mem_append_left _ (List.mem_append_left _ (List.mem_append_right _ h))))) (by decide +kernel))) (goodIn_sub (fun _ h => List.mem_append_left _ (List.mem_append_left _ (List.mem_append_left _ (List.mem_append_left _ (List.mem_append_left _ (List.mem_append_right _ h)))))) (by decide +kernel))) (goodIn_sub (fun _ h => List.mem_append_left _ (List.mem_append_left _ (List.mem_append_left _ (List.mem_append_right _ h)))) (by decide +kernel))
set_option maxRecDepth 20000 in
theorem gL_law_L_addHouse : GoodIn wsL_law (va_wsS RL 170 yL_addHouse wsL_addHouse) := goodIn_app (goodIn_of _ (by decide +kernel)) ggL_law_L_addHouse
set_option maxRecDepth 20000 in
theorem ggL_law_X9_addHouse : GoodIn wsL_law wsX9_addHouse := goodIn_ca (goodIn_r _ [250, 156, 251, 117, 118, 119, 120, 157, 158, 5, 159, 160, 161, 162, 163, 164, 1046, 1047, 1048, 1049, 1050, 1051, 1052, 1053, 1054, 1055, 1056, 1057, 1058, 1059, 1060, 1061, 1062, 1063, 1064, 1065, 1066, 1067, 1068, 1069, 1070, 1071, 1072, 1073, 1074, 1075] (by decide +kernel) (by decide +kernel)) (goodIn_sub (fun _ h => List.mem_append_left _ (List.mem_append_left _ (List.mem_append_left _ (List.mem_append_left _ (List.mem_append_left _ (List.mem_append_left _ (List.mem_append_right _ h))))))) (by decide +kernel))
set_option maxRecDepth 20000 in
theorem gL_law_X9_addHouse : GoodIn wsL_law (wsV RL 173 RX9 yX9_addHouse wsX9_addHouse) := goodIn_app (goodIn_of _ (by decide +kernel)) ggL_law_X9_addHouse
set_option maxRecDepth 20000 in
theorem ggL_law_L_cast : GoodIn wsL_law wsL_cast := goodIn_ca (goodIn_ca (goodIn_ca (goodIn_ca (goodIn_r _ [254, 191, 129, 130, 255, 256, 257, 2, 258, 135, 136, 29, 49, 259, 260, 261, 262, 200, 201, 138, 139, 140, 141, 142, 263, 264, 265, 28, 266, 73, 267, 268, 269, 270, 74, 75, 1034, 1035, 1036, 1037, 1038, 1039, 1040, 1041, 1042, 1043, 1044, 1045, 1089, 1090, 1091] (by decide +kernel) (by decide +kernel)) (goodIn_sub (fun _ h => List.mem_append_left _ (List.mem_append_left _ (List.mem_append_left _ (List.mem_append_left _ (List.mem_append_left _ (List.mem_append_left _ (List.mem_append_right _ h))))))) (by decide +kernel))) (goodIn_sub (fun _ h => List.mem_append_left _ (List.mem_append_left _ (List.mem_append_left _ (List.mem_append_left _ (List.mem_append_left _ (List.mem_append_right _ h)))))) (by decide +kernel))) (goodIn_sub (fun _ h => List.mem_append_left _ (List.mem_append_left _ (List.mem_append_left _ (List.mem_append_right _ h)))) (by decide +kernel))) (goodIn_sub (fun _ h => List.mem_append_left _ (List.mem_append_left _ (List.mem_append_left _ (List.mem_append_left _ (List.mem_append_right _ h))))) (by decide +kernel))
set_option maxRecDepth 20000 in
theorem gL_law_L_cast : GoodIn wsL_law (va_wsS RL 174 yL_cast wsL_cast) := goodIn_app (goodIn_of _ (by decide +kernel)) ggL_law_L_cast
set_option maxRecDepth 20000 in
theorem ggL_law_X9_cast : GoodIn wsL_law wsX9_cast := goodIn_ca (goodIn_r _ [274, 116, 114, 115, 275, 276, 277, 278, 5, 279, 157, 158, 159, 160, 161, 162, 163, 164, 280, 281, 282, 283, 1046, 1047, 1048, 1049, 1050, 1051, 1052, 1053, 1054, 1055, 1056, 1057, 1058, 1059, 1060, 1061, 1062, 1063, 1064, 1065, 1066, 1067, 1068, 1069, 1070, 1071, 1072, 1073, 1074, 1075] (by decide +kernel) (by decide +kernel)) (goodIn_sub (fun _ h => List.mem_append_left _ (List.mem_append_left _ (List.mem_append_left _ (List.mem_append_left _ (List.mem_append_left _ (List.mem_append_left _ (List.mem_append_right _ h))))))) (by decide +kernel))
set_option maxRecDepth 20000 in
theorem gL_law_X9_cast : GoodIn wsL_law (wsV RL 177 RX9 yX9_cast wsX9_cast) := goodIn_app (goodIn_of _ (by decide +kernel)) ggL_law_X9_cast
set_option maxRecDepth 20000 in
theorem ggL_law_L_heightOf : GoodIn wsL_law wsL_heightOf := goodIn_ca (goodIn_ca (goodIn_r _ [286, 191, 287, 288, 289, 2, 290, 29, 259, 260, 261, 262, 200, 201, 1034, 1035, 1036, 1037, 1038, 1039, 1040, 1041, 1042, 1043, 1044, 1045, 1089, 1090, 1091] (by decide +kernel) (by decide +kernel)) (goodIn_sub (fun _ h => List.mem_append_left _ (List.mem_append_left _ (List.mem_append_left _ (List.mem_append_left _ (List.mem_append_left _ (List.mem_append_left _ (List.mem_append_right _ h))))))) (by decide +kernel))) (goodIn_sub (fun _ h => List.mem_append_left _ (List.mem_append_left _ (List.mem_append_left _ (List.mem_append_right _ h)))) (by decide +kernel))
set_option maxRecDepth 20000 in
theorem gL_law_L_heightOf : GoodIn wsL_law (va_wsS RL 178 yL_heightOf wsL_heightOf) := goodIn_app (goodIn_of _ (by decide +kernel)) ggL_law_L_heightOf
set_option maxRecDepth 20000 in
theorem ggL_law_X9_heightOf : GoodIn wsL_law wsX9_heightOf := goodIn_ca (goodIn_r _ [294, 116, 276, 277, 278, 5, 279, 157, 158, 159, 160, 161, 162, 163, 164, 1046, 1047, 1048, 1049, 1050, 1051, 1052, 1053, 1054, 1055, 1056, 1057, 1058, 1059, 1060, 1061, 1062, 1063, 1064, 1065, 1066, 1067, 1068, 1069, 1070, 1071, 1072, 1073, 1074, 1075] (by decide +kernel) (by decide +kernel)) (goodIn_sub (fun _ h => List.mem_append_left _ (List.mem_append_left _ (List.mem_append_left _ (List.mem_append_left _ (List.mem_append_left _ (List.mem_append_left _ (List.mem_append_right _ h))))))) (by decide +kernel))
set_option maxRecDepth 20000 in
theorem gL_law_X9_heightOf : GoodIn wsL_law (wsV RL 180 RX9 yX9_heightOf wsX9_heightOf) := goodIn_app (goodIn_of _ (by decide +kernel)) ggL_law_X9_heightOf
set_option maxRecDepth 20000 in
theorem ggL_law_L_taperAt : GoodIn wsL_law wsL_taperAt := goodIn_ca (goodIn_ca (goodIn_ca (goodIn_r _ [297, 191, 298, 299, 300, 301, 2, 302, 303, 304, 29, 259, 260, 261, 262, 200, 201, 305, 306, 307, 28, 308, 74, 1034, 1035, 1036, 1037, 1038, 1039, 1040, 1041, 1042, 1043, 1044, 1045, 1089, 1090, 1091] (by decide +kernel) (by decide +kernel)) (goodIn_sub (fun _ h => List.mem_append_left _ (List.mem_append_left _ (List.mem_append_left _ (List.mem_append_left _ (List.mem_append_left _ (List.mem_append_left _ (List.mem_append_right _ h))))))) (by decide +kernel))) (goodIn_sub (fun _ h => List.mem_append_left _ (List.mem_append_left _ (List.mem_append_right _ h))) (by decide +kernel))) (goodIn_sub (fun _ h => List.mem_append_left _ (List.mem_append_left _ (List.mem_append_left _ (List.mem_append_right _ h)))) (by decide +kernel))
set_option maxRecDepth 20000 in
theorem gL_law_L_taperAt : GoodIn wsL_law (va_wsS RL 181 yL_taperAt wsL_taperAt) := goodIn_app (goodIn_of _ (by decide +kernel)) ggL_law_L_taperAt
set_option maxRecDepth 20000 in
theorem ggL_law_X9_taperAt : GoodIn wsL_law wsX9_taperAt := goodIn_ca (goodIn_r _ [312, 116, 114, 276, 277, 278, 5, 279, 157, 158, 159, 160, 161, 162, 163, 164, 1046, 1047, 1048, 1049, 1050, 1051, 1052, 1053, 1054, 1055, 1056, 1057, 1058, 1059, 1060, 1061, 1062, 1063, 1064, 1065, 1066, 1067, 1068, 1069, 1070, 1071, 1072, 1073, 1074, 1075] (by decide +kernel) (by decide +kernel)) (goodIn_sub (fun _ h => List.mem_append_left _ (List.mem_append_left _ (List.mem_append_left _ (List.mem_append_left _ (List.mem_append_left _ (List.mem_append_left _ (List.mem_append_right _ h))))))) (by decide +kernel))
set_option maxRecDepth 20000 in
theorem gL_law_X9_taperAt : GoodIn wsL_law (wsV RL 183 RX9 yX9_taperAt wsX9_taperAt) := goodIn_app (goodIn_of _ (by decide +kernel)) ggL_law_X9_taperAt
set_option maxRecDepth 20000 in
theorem ggL_law_L_hoursToCure : GoodIn wsL_law wsL_hoursToCure := goodIn_ca (goodIn_ca (goodIn_ca (goodIn_r _ [315, 191, 298, 316, 317, 318, 2, 319, 29, 259, 49, 260, 261, 262, 200, 201, 320, 321, 322, 323, 303, 304, 324, 325, 326, 28, 327, 75, 328, 329, 150, 330, 1034, 1035, 1036, 1037, 1038, 1039, 1040, 1041, 1042, 1043, 1044, 1045, 1089, 1090, 1091] (by decide +kernel) (by decide +kernel)) (goodIn_sub (fun _ h => List.mem_append_left _ (List.mem_append_left _ (List.mem_append_left _ (List.mem_append_left _ (List.mem_append_left _ (List.mem_append_left _ (List.mem_append_right _ h))))))) (by decide +kernel))) (goodIn_sub (fun _ h => List.mem_append_left _ (List.mem_append_left _ (List.mem_append_left _ (List.mem_append_right _ h)))) (by decide +kernel))) (goodIn_sub (fun _ h => List.mem_append_left _ (List.mem_append_left _ (List.mem_append_right _ h))) (by decide +kernel))
set_option maxRecDepth 20000 in
theorem gL_law_L_hoursToCure : GoodIn wsL_law (va_wsS RL 184 yL_hoursToCure wsL_hoursToCure) := goodIn_app (goodIn_of _ (by decide +kernel)) ggL_law_L_hoursToCure
set_option maxRecDepth 20000 in
theorem ggL_law_X9_hoursToCure : GoodIn wsL_law wsX9_hoursToCure := goodIn_ca (goodIn_r _ [334, 335, 336, 337, 5, 338, 116, 276, 277, 278, 279, 157, 158, 159, 160, 161, 162, 163, 164, 280, 281, 282, 283, 339, 340, 341, 342, 115, 275, 343, 329, 150, 330, 1046, 1047, 1048, 1049, 1050, 1051, 1052, 1053, 1054, 1055, 1056, 1057, 1058, 1059, 1060, 1061, 1062, 1063, 1064, 1065, 1066, 1067, 1068, 1069, 1070, 1071, 1072, 1073, 1074, 1075] (by decide +kernel) (by decide +kernel)) (goodIn_sub (fun _ h => List.mem_append_left _ (List.mem_append_left _ (List.mem_append_left _ (List.mem_append_left _ (List.mem_append_left _ (List.mem_append_left _ (List.mem_append_right _ h))))))) (by decide +kernel))
set_option maxRecDepth 20000 in
theorem gL_law_X9_hoursToCure : GoodIn wsL_law (wsV RL 186 RX9 yX9_hoursToCure wsX9_hoursToCure) := goodIn_app (goodIn_of _ (by decide +kernel)) ggL_law_X9_hoursToCure
set_option maxRecDepth 20000 in
theorem ggL_law_L_restack : GoodIn wsL_law wsL_restack := goodIn_ca (goodIn_ca (goodIn_ca (goodIn_ca (goodIn_r _ [346, 191, 298, 130, 347, 348, 349, 2, 350, 135, 136, 29, 259, 260, 261, 262, 200, 201, 320, 321, 322, 323, 303, 304, 263, 264, 265, 28, 266, 73, 351, 352, 353, 354, 74, 75, 355, 356, 357, 358, 359, 268, 269, 270, 1034, 1035, 1036, 1037, 1038, 1039, 1040, 1041, 1042, 1043, 1044, 1045, 1089, 1090, 1091] (by decide +kernel) (by decide +kernel)) (goodIn_sub (fun _ h => List.mem_append_left _ (List.mem_append_left _ (List.mem_append_left _ (List.mem_append_left _ (List.mem_append_left _ (List.mem_append_left _ (List.mem_append_right _ h))))))) (by decide +kernel))) (goodIn_sub (fun _ h => List.mem_append_left _ (List.mem_append_left _ (List.mem_append_left _ (List.mem_append_left _ (List.mem_append_left _ (List.mem_append_right _ h)))))) (by decide +kernel))) (goodIn_sub (fun _ h => List.mem_append_left _ (List.mem_append_left _ (List.mem_append_left _ (List.mem_append_right _ h)))) (by decide +kernel))) (goodIn_sub (fun _ h => List.mem_append_left _ (List.mem_append_left _ (List.mem_append_right _ h))) (by decide +kernel))
set_option maxRecDepth 20000 in
theorem gL_law_L_restack : GoodIn wsL_law (va_wsS RL 187 yL_restack wsL_restack) := goodIn_app (goodIn_of _ (by decide +kernel)) ggL_law_L_restack
set_option maxRecDepth 20000 in
theorem ggL_law_X9_restack : GoodIn wsL_law wsX9_restack := goodIn_ca (goodIn_r _ [363, 116, 114, 115, 157, 158, 5, 159, 160, 161, 162, 163, 164, 280, 281, 282, 283, 1046, 1047, 1048, 1049, 1050, 1051, 1052, 1053, 1054, 1055, 1056, 1057, 1058, 1059, 1060, 1061, 1062, 1063, 1064, 1065, 1066, 1067, 1068, 1069, 1070, 1071, 1072, 1073, 1074, 1075] (by decide +kernel) (by decide +kernel)) (goodIn_sub (fun _ h => List.mem_append_left _ (List.mem_append_left _ (List.mem_append_left _ (List.mem_append_left _ (List.mem_append_left _ (List.mem_append_left _ (List.mem_append_right _ h))))))) (by decide +kernel))
set_option maxRecDepth 20000 in
theorem gL_law_X9_restack : GoodIn wsL_law (wsV RL 189 RX9 yX9_restack wsX9_restack) := goodIn_app (goodIn_of _ (by decide +kernel)) ggL_law_X9_restack
set_option maxRecDepth 20000 in
theorem ggL_law_L_curedShare : GoodIn wsL_law wsL_curedShare := goodIn_ca (goodIn_ca (goodIn_r _ [366, 367, 368, 369, 370, 2, 371, 372, 373, 29, 49, 374, 375, 376, 28, 377, 73, 378, 379, 380, 381, 382, 325, 326, 327, 75, 328, 329, 150, 330, 1034, 1035, 1036, 1037, 1038, 1039, 1040, 1041, 1042, 1043, 1044, 1045, 1089, 1090, 1091] (by decide +kernel) (by decide +kernel)) (goodIn_sub (fun _ h => List.mem_append_left _ (List.mem_append_left _ (List.mem_append_left _ (List.mem_append_left _ (List.mem_append_left _ (List.mem_append_left _ (List.mem_append_right _ h))))))) (by decide +kernel))) (goodIn_sub (fun _ h => List.mem_append_left _ (List.mem_append_right _ h)) (by decide +kernel))
set_option maxRecDepth 20000 in
theorem gL_law_L_curedShare : GoodIn wsL_law (va_wsS RL 190 yL_curedShare wsL_curedShare) := goodIn_app (goodIn_of _ (by decide +kernel)) ggL_law_L_curedShare
set_option maxRecDepth 20000 in
theorem ggL_law_X9_curedShare : GoodIn wsL_law wsX9_curedShare := goodIn_ca (goodIn_r _ [386, 116, 339, 340, 341, 5, 342, 115, 275, 343, 329, 150, 330, 160, 161, 162, 163, 164, 1046, 1047, 1048, 1049, 1050, 1051, 1052, 1053, 1054, 1055, 1056, 1057, 1058, 1059, 1060, 1061, 1062, 1063, 1064, 1065, 1066, 1067, 1068, 1069, 1070, 1071, 1072, 1073, 1074, 1075] (by decide +kernel) (by decide +kernel)) (goodIn_sub (fun _ h => List.mem_append_left _ (List.mem_append_left _ (List.mem_append_left _ (List.mem_append_left _ (List.mem_append_left _ (List.mem_append_left _ (List.mem_append_right _ h))))))) (by decide +kernel))
set_option maxRecDepth 20000 in
theorem gL_law_X9_curedShare : GoodIn wsL_law (wsV RL 193 RX9 yX9_curedShare wsX9_curedShare) := goodIn_app (goodIn_of _ (by decide +kernel)) ggL_law_X9_curedShare
set_option maxRecDepth 20000 in
theorem ggL_law_L_setPressure : GoodIn wsL_law wsL_setPressure := goodIn_ca (goodIn_ca (goodIn_r _ [389, 129, 390, 391, 392, 2, 393, 46, 138, 139, 140, 141, 142, 1034, 1035, 1036, 1037, 1038, 1039, 1040, 1041, 1042, 1043, 1044, 1045] (by decide +kernel) (by decide +kernel)) (goodIn_sub (fun _ h => List.mem_append_left _ (List.mem_append_left _ (List.mem_append_left _ (List.mem_append_left _ (List.mem_append_left _ (List.mem_append_left _ (List.mem_append_right _ h))))))) (by decide +kernel))) (goodIn_sub (fun _ h => List.mem_append_left _ (List.mem_append_left _ (List.mem_append_left _ (List.mem_append_left _ (List.mem_append_right _ h))))) (by decide +kernel))
set_option maxRecDepth 20000 in
theorem gL_law_L_setPressure : GoodIn wsL_law (va_wsS RL 194 yL_setPressure wsL_setPressure) := goodIn_app (goodIn_of _ (by decide +kernel)) ggL_law_L_setPressure
set_option maxRecDepth 20000 in
theorem ggL_law_X9_setPressure : GoodIn wsL_law wsX9_setPressure := goodIn_r _ [397, 123, 157, 158, 5, 159, 160, 161, 162, 163, 164, 1046, 1047, 1048, 1049, 1050, 1051, 1052, 1053, 1054, 1055, 1056, 1057, 1058, 1059, 1060, 1061, 1062, 1063, 1064, 1065, 1066, 1067, 1068, 1069, 1070, 1071, 1072, 1073, 1074, 1075] (by decide +kernel) (by decide +kernel)
set_option maxRecDepth 20000 in
theorem gL_law_X9_setPressure : GoodIn wsL_law (wsV RL 196 RX9 yX9_setPressure wsX9_setPressure) := goodIn_app (goodIn_of _ (by decide +kernel)) ggL_law_X9_setPressure
set_option maxRecDepth 20000 in
theorem ggL_law_L_addSlurry : GoodIn wsL_law wsL_addSlurry := goodIn_ca (goodIn_ca (goodIn_ca (goodIn_r _ [400, 129, 130, 401, 402, 403, 2, 404, 135, 136, 47, 138, 139, 140, 141, 142, 1034, 1035, 1036, 1037, 1038, 1039, 1040, 1041, 1042, 1043, 1044, 1045] (by decide +kernel) (by decide +kernel)) (goodIn_sub (fun _ h => List.mem_append_left _ (List.mem_append_left _ (List.mem_append_left _ (List.mem_append_left _ (List.mem_append_left _ (List.mem_append_left _ (List.mem_append_right _ h))))))) (by decide +kernel))) (goodIn_sub (fun _ h => List.mem_append_left _ (List.mem_append_left _ (List.mem_append_left _ (List.mem_append_left _ (List.mem_append_left _ (List.mem_append_right _ h)))))) (by decide +kernel))) (goodIn_sub (fun _ h => List.mem_append_left _ (List.mem_append_left _ (List.mem_append_left _ (List.mem_append_left _ (List.mem_append_right _ h))))) (by decide +kernel))
set_option maxRecDepth 20000 in
theorem gL_law_L_addSlurry : GoodIn wsL_law (va_wsS RL 197 yL_addSlurry wsL_addSlurry) := goodIn_app (goodIn_of _ (by decide +kernel)) ggL_law_L_addSlurry
set_option maxRecDepth 20000 in
theorem ggL_law_X9_addSlurry : GoodIn wsL_law wsX9_addSlurry := goodIn_r _ [408, 409, 157, 158, 5, 159, 160, 161, 162, 163, 164, 1046, 1047, 1048, 1049, 1050, 1051, 1052, 1053, 1054, 1055, 1056, 1057, 1058, 1059, 1060, 1061, 1062, 1063, 1064, 1065, 1066, 1067, 1068, 1069, 1070, 1071, 1072, 1073, 1074, 1075] (by decide +kernel) (by decide +kernel)
set_option maxRecDepth 20000 in
theorem gL_law_X9_addSlurry : GoodIn wsL_law (wsV RL 199 RX9 yX9_addSlurry wsX9_addSlurry) := goodIn_app (goodIn_of _ (by decide +kernel)) ggL_law_X9_addSlurry
set_option maxRecDepth 20000 in
theorem ggL_law_X8_slurry : GoodIn wsL_law wsX8_slurry := goodIn_r _ [413, 47, 1034, 1035, 1036, 1037, 1038, 1039, 1040, 1041, 1042, 1043, 1044, 1045] (by decide +kernel) (by decide +kernel)
set_option maxRecDepth 20000 in
theorem gL_law_X8_slurry : GoodIn wsL_law (wsV RL 200 RX8 yX8_slurry wsX8_slurry) := goodIn_app (goodIn_of _ (by decide +kernel)) ggL_law_X8_slurry
set_option maxRecDepth 20000 in
theorem ggL_law_X9_slurry : GoodIn wsL_law wsX9_slurry := goodIn_r _ [417, 164, 409, 1046, 1047, 1048, 1049, 1050, 1051, 1052, 1053, 1054, 1055, 1056, 1057, 1058, 1059, 1060, 1061, 1062, 1063, 1064, 1065, 1066, 1067, 1068, 1069, 1070, 1071, 1072, 1073, 1074, 1075] (by decide +kernel) (by decide +kernel)
set_option maxRecDepth 20000 in
theorem gL_law_X9_slurry : GoodIn wsL_law (wsV RL 203 RX9 yX9_slurry wsX9_slurry) := goodIn_app (goodIn_of _ (by decide +kernel)) ggL_law_X9_slurry
set_option maxRecDepth 20000 in
theorem ggL_law_L_slurryFor : GoodIn wsL_law wsL_slurryFor := goodIn_ca (goodIn_ca (goodIn_r _ [420, 298, 421, 422, 423, 2, 424, 303, 304, 17, 33, 425, 202, 203, 204, 16, 205, 147, 426, 427, 428, 429, 46, 430, 329, 150, 330, 206, 207, 208, 209, 54, 210, 226, 227, 228, 229, 55, 1034, 1035, 1036, 1037, 1038, 1039, 1040, 1041, 1042, 1043, 1044, 1045, 1092, 1093, 1094, 1095, 1096, 1097, 1076, 1077, 1078, 1079] (by decide +kernel) (by decide +kernel)) (goodIn_sub (fun _ h => List.mem_append_left _ (List.mem_append_left _ (List.mem_append_left _ (List.mem_append_left _ (List.mem_append_left _ (List.mem_append_left _ (List.mem_append_right _ h))))))) (by decide +kernel))) (goodIn_sub (fun _ h => List.mem_append_left _ (List.mem_append_left _ (List.mem_append_right _ h))) (by decide +kernel))
set_option maxRecDepth 20000 in
theorem gL_law_L_slurryFor : GoodIn wsL_law (va_wsS RL 204 yL_slurryFor wsL_slurryFor) := goodIn_app (goodIn_of _ (by decide +kernel)) ggL_law_L_slurryFor
set_option maxRecDepth 20000 in
theorem ggL_law_X9_slurryFor : GoodIn wsL_law wsX9_slurryFor := goodIn_ca (goodIn_r _ [434, 435, 156, 160, 161, 162, 5, 163, 164, 436, 437, 438, 439, 106, 123, 105, 343, 329, 150, 330, 1046, 1047, 1048, 1049, 1050, 1051, 1052, 1053, 1054, 1055, 1056, 1057, 1058, 1059, 1060, 1061, 1062, 1063, 1064, 1065, 1066, 1067, 1068, 1069, 1070, 1071, 1072, 1073, 1074, 1075] (by decide +kernel) (by decide +kernel)) (goodIn_sub (fun _ h => List.mem_append_left _ (List.mem_append_left _ (List.mem_append_left _ (List.mem_append_left _ (List.mem_append_left _ (List.mem_append_left _ (List.mem_append_right _ h))))))) (by decide +kernel))
set_option maxRecDepth 20000 in
theorem gL_law_X9_slurryFor : GoodIn wsL_law (wsV RL 207 RX9 yX9_slurryFor wsX9_slurryFor) := goodIn_app (goodIn_of _ (by decide +kernel)) ggL_law_X9_slurryFor
set_option maxRecDepth 20000 in
theorem ggL_law_L_setTolerance : GoodIn wsL_law wsL_setTolerance := goodIn_ca (goodIn_ca (goodIn_r _ [442, 129, 443, 444, 445, 2, 446, 48, 138, 139, 140, 141, 142, 1034, 1035, 1036, 1037, 1038, 1039, 1040, 1041, 1042, 1043, 1044, 1045] (by decide +kernel) (by decide +kernel)) (goodIn_sub (fun _ h => List.mem_append_left _ (List.mem_append_left _ (List.mem_append_left _ (List.mem_append_left _ (List.mem_append_left _ (List.mem_append_left _ (List.mem_append_right _ h))))))) (by decide +kernel))) (goodIn_sub (fun _ h => List.mem_append_left _ (List.mem_append_left _ (List.mem_append_left _ (List.mem_append_left _ (List.mem_append_right _ h))))) (by decide +kernel))
set_option maxRecDepth 20000 in
theorem gL_law_L_setTolerance : GoodIn wsL_law (va_wsS RL 208 yL_setTolerance wsL_setTolerance) := goodIn_app (goodIn_of _ (by decide +kernel)) ggL_law_L_setTolerance
set_option maxRecDepth 20000 in
theorem ggL_law_X9_setTolerance : GoodIn wsL_law wsX9_setTolerance := goodIn_r _ [450, 124, 157, 158, 5, 159, 160, 161, 162, 163, 164, 1046, 1047, 1048, 1049, 1050, 1051, 1052, 1053, 1054, 1055, 1056, 1057, 1058, 1059, 1060, 1061, 1062, 1063, 1064, 1065, 1066, 1067, 1068, 1069, 1070, 1071, 1072, 1073, 1074, 1075] (by decide +kernel) (by decide +kernel)
set_option maxRecDepth 20000 in
theorem gL_law_X9_setTolerance : GoodIn wsL_law (wsV RL 210 RX9 yX9_setTolerance wsX9_setTolerance) := goodIn_app (goodIn_of _ (by decide +kernel)) ggL_law_X9_setTolerance
set_option maxRecDepth 20000 in
theorem ggL_law_L_reasonFor : GoodIn wsL_law wsL_reasonFor := goodIn_ca (goodIn_ca (goodIn_ca (goodIn_r _ [453, 191, 129, 454, 455, 456, 2, 457, 260, 261, 262, 200, 201, 458, 459, 460, 141, 142, 461, 462, 463, 464, 465, 33, 425, 17, 29, 259, 49, 47, 37, 48, 202, 203, 204, 16, 205, 147, 324, 325, 326, 28, 327, 75, 328, 329, 150, 330, 466, 467, 468, 32, 469, 470, 79, 471, 472, 473, 474, 475, 476, 426, 427, 428, 429, 46, 430, 206, 207, 208, 209, 54, 210, 226, 227, 228, 229, 55, 477, 478, 479, 480, 481, 41, 21, 482, 483, 484, 485, 486, 487, 488, 40, 489, 490, 491, 492, 493, 494, 495, 496, 20, 497, 181, 60, 498, 499, 500, 501, 61, 502, 503, 504, 505, 506, 507, 508, 36, 509, 92, 510, 511, 512, 513, 514, 515, 516, 305, 306, 307, 308, 74, 517, 518, 519, 520, 93, 94, 95, 521, 522, 523, 524, 525, 526, 527, 528, 529, 530, 531, 532, 533, 534, 535, 536, 537, 538, 539, 540, 541, 542, 543, 544, 545, 546, 547, 548, 549, 550, 1034, 1035, 1036, 1037, 1038, 1039, 1040, 1041, 1042, 1043, 1044, 1045, 1092, 1093, 1094, 1095, 1096, 1097, 1089, 1090, 1091, 1076, 1077, 1078, 1079, 1104, 1105, 1106, 1107, 1080, 1081, 1082, 1098, 1099, 1100, 1101, 1102, 1103] (by decide +kernel) (by decide +kernel)) (goodIn_sub (fun _ h => List.mem_append_left _ (List.mem_append_left _ (List.mem_append_left _ (List.mem_append_left _ (List.mem_append_left _ (List.mem_append_left _ (List.mem_append_right _ h))))))) (by decide +kernel))) (goodIn_sub (fun _ h => List.mem_append_left _ (List.mem_append_left _ (List.mem_append_left _ (List.mem_append_right _ h)))) (by decide +kernel))) (goodIn_sub (fun _ h => List.mem_append_left _ (List.mem_append_left _ (List.mem_append_left _ (List.mem_append_left _ (List.mem_append_right _ h))))) (by decide +kernel))
set_option maxRecDepth 20000 in
theorem gL_law_L_reasonFor : GoodIn wsL_law (va_wsS RL 211 yL_reasonFor wsL_reasonFor) := goodIn_app (goodIn_of _ (by decide +kernel)) ggL_law_L_reasonFor
set_option maxRecDepth 20000 in
theorem ggL_law_X9_reasonFor : GoodIn wsL_law wsX9_reasonFor := goodIn_ca (goodIn_r _ [554, 555, 556, 557, 5, 558, 276, 277, 278, 279, 157, 158, 159, 160, 161, 162, 163, 164, 559, 560, 561, 562, 116, 435, 156, 409, 114, 124, 280, 281, 282, 283, 339, 340, 341, 342, 115, 275, 343, 329, 150, 330, 563, 564, 565, 566, 110, 567, 568, 569, 570, 475, 476, 436, 437, 438, 439, 106, 123, 105, 571, 572, 573, 574, 575, 576, 577, 578, 579, 580, 112, 581, 582, 583, 584, 585, 586, 587, 113, 588, 589, 590, 591, 592, 593, 594, 107, 108, 595, 596, 597, 598, 187, 1046, 1047, 1048, 1049, 1050, 1051, 1052, 1053, 1054, 1055, 1056, 1057, 1058, 1059, 1060, 1061, 1062, 1063, 1064, 1065, 1066, 1067, 1068, 1069, 1070, 1071, 1072, 1073, 1074, 1075] (by decide +kernel) (by decide +kernel)) (goodIn_sub (fun _ h => List.mem_append_left _ (List.mem_append_left _ (List.mem_append_left _ (List.mem_append_left _ (List.mem_append_left _ (List.mem_append_left _ (List.mem_append_right _ h))))))) (by decide +kernel))
set_option maxRecDepth 20000 in
theorem gL_law_X9_reasonFor : GoodIn wsL_law (wsV RL 213 RX9 yX9_reasonFor wsX9_reasonFor) := goodIn_app (goodIn_of _ (by decide +kernel)) ggL_law_X9_reasonFor
set_option maxRecDepth 20000 in
theorem ggL_law_L_lay : GoodIn wsL_law wsL_lay := goodIn_ca (goodIn_ca (goodIn_ca (goodIn_ca (goodIn_ca (goodIn_r _ [601, 191, 129, 602, 130, 603, 604, 605, 2, 606, 607, 608, 135, 136, 49, 33, 425, 47, 29, 260, 261, 262, 200, 201, 458, 459, 460, 141, 142, 461, 462, 463, 464, 465, 17, 259, 37, 48, 202, 203, 204, 16, 205, 147, 324, 325, 326, 28, 327, 75, 328, 329, 150, 330, 466, 467, 468, 32, 469, 470, 79, 471, 472, 473, 474, 475, 476, 426, 427, 428, 429, 46, 430, 206, 207, 208, 209, 54, 210, 226, 227, 228, 229, 55, 477, 478, 479, 480, 481, 41, 21, 482, 483, 484, 485, 486, 487, 488, 40, 489, 490, 491, 492, 493, 494, 495, 496, 20, 497, 181, 60, 498, 499, 500, 501, 61, 502, 503, 504, 505, 506, 507, 508, 36, 509, 92, 510, 511, 512, 513, 514, 515, 516, 305, 306, 307, 308, 74, 517, 518, 519, 520, 93, 94, 95, 521, 522, 523, 524, 525, 526, 527, 528, 529, 530, 531, 532, 533, 534, 535, 536, 537, 538, 539, 540, 541, 542, 543, 544, 545, 546, 547, 548, 549, 550, 609, 610, 611, 612, 613, 614, 615, 616, 617, 618, 619, 620, 621, 622, 56, 623, 624, 625, 626, 73, 627, 628, 629, 630, 631, 84, 80, 81, 632, 82, 633, 634, 635, 636, 637, 638, 639, 356, 357, 358, 1034, 1035, 1036, 1037, 1038, 1039, 1040, 1041, 1042, 1043, 1044, 1045, 1092, 1093, 1094, 1095, 1096, 1097, 1089, 1090, 1091, 1076, 1077, 1078, 1079, 1104, 1105, 1106, 1107, 1080, 1081, 1082, 1098, 1099, 1100, 1101, 1102, 1103] (by decide +kernel) (by decide +kernel)) (goodIn_sub (fun _ h => List.mem_append_left _ (List.mem_append_left _ (List.mem_append_left _ (List.mem_append_left _ (List.mem_append_left _ (List.mem_append_left _ (List.mem_append_right _ h))))))) (by decide +kernel))) (goodIn_sub (fun _ h => List.mem_append_right _ h) (by decide +kernel))) (goodIn_sub (fun _ h => List.mem_append_left _ (List.mem_append_left _ (List.mem_append_left _ (List.mem_append_left _ (List.mem_append_left _ (List.mem_append_right _ h)))))) (by decide +kernel))) (goodIn_sub (fun _ h => List.mem_append_left _ (List.mem_append_left _ (List.mem_append_left _ (List.mem_append_right _ h)))) (by decide +kernel))) (goodIn_sub (fun _ h => List.mem_append_left _ (List.mem_append_left _ (List.mem_append_left _ (List.mem_append_left _ (List.mem_append_right _ h))))) (by decide +kernel))
set_option maxRecDepth 20000 in
theorem gL_law_L_lay : GoodIn wsL_law (va_wsS RL 214 yL_lay wsL_lay) := goodIn_app (goodIn_of _ (by decide +kernel)) ggL_law_L_lay
set_option maxRecDepth 20000 in
theorem ggL_law_X9_lay : GoodIn wsL_law wsX9_lay := goodIn_ca (goodIn_r _ [643, 275, 114, 105, 435, 123, 343, 329, 150, 330, 106, 409, 575, 576, 110, 111, 112, 113, 116, 555, 556, 557, 5, 558, 276, 277, 278, 279, 157, 158, 159, 160, 161, 162, 163, 164, 559, 560, 561, 562, 156, 124, 280, 281, 282, 283, 339, 340, 341, 342, 115, 563, 564, 565, 566, 567, 568, 569, 570, 475, 476, 436, 437, 438, 439, 571, 572, 573, 574, 577, 578, 579, 580, 581, 582, 583, 584, 585, 586, 587, 588, 589, 590, 591, 592, 593, 594, 107, 108, 595, 596, 597, 598, 187, 644, 645, 646, 647, 109, 1046, 1047, 1048, 1049, 1050, 1051, 1052, 1053, 1054, 1055, 1056, 1057, 1058, 1059, 1060, 1061, 1062, 1063, 1064, 1065, 1066, 1067, 1068, 1069, 1070, 1071, 1072, 1073, 1074, 1075] (by decide +kernel) (by decide +kernel)) (goodIn_sub (fun _ h => List.mem_append_left _ (List.mem_append_left _ (List.mem_append_left _ (List.mem_append_left _ (List.mem_append_left _ (List.mem_append_left _ (List.mem_append_right _ h))))))) (by decide +kernel))
set_option maxRecDepth 20000 in
theorem gL_law_X9_lay : GoodIn wsL_law (wsV RL 216 RX9 yX9_lay wsX9_lay) := goodIn_app (goodIn_of _ (by decide +kernel)) ggL_law_X9_lay
set_option maxRecDepth 20000 in
theorem ggL_law_L_stop : GoodIn wsL_law wsL_stop := goodIn_ca (goodIn_ca (goodIn_ca (goodIn_r _ [650, 129, 130, 651, 652, 653, 2, 654, 135, 136, 49, 33, 425, 138, 139, 140, 141, 142, 655, 656, 657, 658, 17, 46, 613, 614, 615, 16, 616, 617, 329, 150, 330, 618, 207, 208, 209, 54, 210, 203, 204, 205, 147, 226, 227, 228, 229, 55, 619, 620, 621, 622, 56, 1034, 1035, 1036, 1037, 1038, 1039, 1040, 1041, 1042, 1043, 1044, 1045, 1092, 1093, 1094, 1095, 1096, 1097, 1076, 1077, 1078, 1079] (by decide +kernel) (by decide +kernel)) (goodIn_sub (fun _ h => List.mem_append_left _ (List.mem_append_left _ (List.mem_append_left _ (List.mem_append_left _ (List.mem_append_left _ (List.mem_append_left _ (List.mem_append_right _ h))))))) (by decide +kernel))) (goodIn_sub (fun _ h => List.mem_append_left _ (List.mem_append_left _ (List.mem_append_left _ (List.mem_append_left _ (List.mem_append_left _ (List.mem_append_right _ h)))))) (by decide +kernel))) (goodIn_sub (fun _ h => List.mem_append_left _ (List.mem_append_left _ (List.mem_append_left _ (List.mem_append_left _ (List.mem_append_right _ h))))) (by decide +kernel))
set_option maxRecDepth 20000 in
theorem gL_law_L_stop : GoodIn wsL_law (va_wsS RL 217 yL_stop wsL_stop) := goodIn_app (goodIn_of _ (by decide +kernel)) ggL_law_L_stop
set_option maxRecDepth 20000 in
theorem ggL_law_X9_stop : GoodIn wsL_law wsX9_stop := goodIn_ca (goodIn_r _ [662, 275, 435, 156, 109, 105, 123, 343, 329, 150, 330, 106, 157, 158, 5, 159, 160, 161, 162, 163, 164, 1046, 1047, 1048, 1049, 1050, 1051, 1052, 1053, 1054, 1055, 1056, 1057, 1058, 1059, 1060, 1061, 1062, 1063, 1064, 1065, 1066, 1067, 1068, 1069, 1070, 1071, 1072, 1073, 1074, 1075] (by decide +kernel) (by decide +kernel)) (goodIn_sub (fun _ h => List.mem_append_left _ (List.mem_append_left _ (List.mem_append_left _ (List.mem_append_left _ (List.mem_append_left _ (List.mem_append_left _ (List.mem_append_right _ h))))))) (by decide +kernel))
set_option maxRecDepth 20000 in
theorem gL_law_X9_stop : GoodIn wsL_law (wsV RL 219 RX9 yX9_stop wsX9_stop) := goodIn_app (goodIn_of _ (by decide +kernel)) ggL_law_X9_stop
set_option maxRecDepth 20000 in
theorem ggL_law_X8_clock : GoodIn wsL_law wsX8_clock := goodIn_r _ [666, 49, 1034, 1035, 1036, 1037, 1038, 1039, 1040, 1041, 1042, 1043, 1044, 1045] (by decide +kernel) (by decide +kernel)
set_option maxRecDepth 20000 in
theorem gL_law_X8_clock : GoodIn wsL_law (wsV RL 220 RX8 yX8_clock wsX8_clock) := goodIn_app (goodIn_of _ (by decide +kernel)) ggL_law_X8_clock
set_option maxRecDepth 20000 in
theorem ggL_law_X9_clock : GoodIn wsL_law wsX9_clock := goodIn_r _ [670, 164, 275, 1046, 1047, 1048, 1049, 1050, 1051, 1052, 1053, 1054, 1055, 1056, 1057, 1058, 1059, 1060, 1061, 1062, 1063, 1064, 1065, 1066, 1067, 1068, 1069, 1070, 1071, 1072, 1073, 1074, 1075] (by decide +kernel) (by decide +kernel)
set_option maxRecDepth 20000 in
theorem gL_law_X9_clock : GoodIn wsL_law (wsV RL 223 RX9 yX9_clock wsX9_clock) := goodIn_app (goodIn_of _ (by decide +kernel)) ggL_law_X9_clock
set_option maxRecDepth 20000 in
theorem ggL_law_X8_ringCount : GoodIn wsL_law wsX8_ringCount := goodIn_r _ [674, 33, 425, 1034, 1035, 1036, 1037, 1038, 1039, 1040, 1041, 1042, 1043, 1044, 1045, 1092, 1093, 1094, 1095, 1096, 1097] (by decide +kernel) (by decide +kernel)
set_option maxRecDepth 20000 in
theorem gL_law_X8_ringCount : GoodIn wsL_law (wsV RL 224 RX8 yX8_ringCount wsX8_ringCount) := goodIn_app (goodIn_of _ (by decide +kernel)) ggL_law_X8_ringCount
set_option maxRecDepth 20000 in
theorem ggL_law_X9_ringCount : GoodIn wsL_law wsX9_ringCount := goodIn_r _ [678, 164, 435, 1046, 1047, 1048, 1049, 1050, 1051, 1052, 1053, 1054, 1055, 1056, 1057, 1058, 1059, 1060, 1061, 1062, 1063, 1064, 1065, 1066, 1067, 1068, 1069, 1070, 1071, 1072, 1073, 1074, 1075] (by decide +kernel) (by decide +kernel)
set_option maxRecDepth 20000 in
theorem gL_law_X9_ringCount : GoodIn wsL_law (wsV RL 227 RX9 yX9_ringCount wsX9_ringCount) := goodIn_app (goodIn_of _ (by decide +kernel)) ggL_law_X9_ringCount
set_option maxRecDepth 20000 in
theorem ggL_law_L_positionOf : GoodIn wsL_law wsL_positionOf := goodIn_ca (goodIn_ca (goodIn_r _ [681, 191, 682, 683, 684, 2, 685, 33, 686, 687, 688, 689, 690, 200, 201, 425, 1034, 1035, 1036, 1037, 1038, 1039, 1040, 1041, 1042, 1043, 1044, 1045, 1092, 1093, 1094, 1095, 1096, 1097] (by decide +kernel) (by decide +kernel)) (goodIn_sub (fun _ h => List.mem_append_left _ (List.mem_append_left _ (List.mem_append_left _ (List.mem_append_left _ (List.mem_append_left _ (List.mem_append_left _ (List.mem_append_right _ h))))))) (by decide +kernel))) (goodIn_sub (fun _ h => List.mem_append_left _ (List.mem_append_left _ (List.mem_append_left _ (List.mem_append_right _ h)))) (by decide +kernel))
set_option maxRecDepth 20000 in
theorem gL_law_L_positionOf : GoodIn wsL_law (va_wsS RL 228 yL_positionOf wsL_positionOf) := goodIn_app (goodIn_of _ (by decide +kernel)) ggL_law_L_positionOf
set_option maxRecDepth 20000 in
theorem ggL_law_X9_positionOf : GoodIn wsL_law wsX9_positionOf := goodIn_ca (goodIn_r _ [694, 110, 695, 696, 697, 5, 698, 435, 157, 158, 159, 160, 161, 162, 163, 164, 1046, 1047, 1048, 1049, 1050, 1051, 1052, 1053, 1054, 1055, 1056, 1057, 1058, 1059, 1060, 1061, 1062, 1063, 1064, 1065, 1066, 1067, 1068, 1069, 1070, 1071, 1072, 1073, 1074, 1075] (by decide +kernel) (by decide +kernel)) (goodIn_sub (fun _ h => List.mem_append_left _ (List.mem_append_left _ (List.mem_append_left _ (List.mem_append_left _ (List.mem_append_left _ (List.mem_append_left _ (List.mem_append_right _ h))))))) (by decide +kernel))
set_option maxRecDepth 20000 in
theorem gL_law_X9_positionOf : GoodIn wsL_law (wsV RL 230 RX9 yX9_positionOf wsX9_positionOf) := goodIn_app (goodIn_of _ (by decide +kernel)) ggL_law_X9_positionOf
set_option maxRecDepth 20000 in
theorem ggL_law_L_taperOf : GoodIn wsL_law wsL_taperOf := goodIn_ca (goodIn_ca (goodIn_r _ [701, 191, 702, 703, 704, 2, 705, 33, 706, 687, 688, 689, 690, 200, 201, 425, 1034, 1035, 1036, 1037, 1038, 1039, 1040, 1041, 1042, 1043, 1044, 1045, 1092, 1093, 1094, 1095, 1096, 1097] (by decide +kernel) (by decide +kernel)) (goodIn_sub (fun _ h => List.mem_append_left _ (List.mem_append_left _ (List.mem_append_left _ (List.mem_append_left _ (List.mem_append_left _ (List.mem_append_left _ (List.mem_append_right _ h))))))) (by decide +kernel))) (goodIn_sub (fun _ h => List.mem_append_left _ (List.mem_append_left _ (List.mem_append_left _ (List.mem_append_right _ h)))) (by decide +kernel))
set_option maxRecDepth 20000 in
theorem gL_law_L_taperOf : GoodIn wsL_law (va_wsS RL 231 yL_taperOf wsL_taperOf) := goodIn_app (goodIn_of _ (by decide +kernel)) ggL_law_L_taperOf
set_option maxRecDepth 20000 in
theorem ggL_law_X9_taperOf : GoodIn wsL_law wsX9_taperOf := goodIn_ca (goodIn_r _ [710, 111, 695, 696, 697, 5, 698, 435, 157, 158, 159, 160, 161, 162, 163, 164, 1046, 1047, 1048, 1049, 1050, 1051, 1052, 1053, 1054, 1055, 1056, 1057, 1058, 1059, 1060, 1061, 1062, 1063, 1064, 1065, 1066, 1067, 1068, 1069, 1070, 1071, 1072, 1073, 1074, 1075] (by decide +kernel) (by decide +kernel)) (goodIn_sub (fun _ h => List.mem_append_left _ (List.mem_append_left _ (List.mem_append_left _ (List.mem_append_left _ (List.mem_append_left _ (List.mem_append_left _ (List.mem_append_right _ h))))))) (by decide +kernel))
set_option maxRecDepth 20000 in
theorem gL_law_X9_taperOf : GoodIn wsL_law (wsV RL 233 RX9 yX9_taperOf wsX9_taperOf) := goodIn_app (goodIn_of _ (by decide +kernel)) ggL_law_X9_taperOf
set_option maxRecDepth 20000 in
theorem ggL_law_L_xAfter : GoodIn wsL_law wsL_xAfter := goodIn_ca (goodIn_ca (goodIn_r _ [713, 191, 714, 715, 716, 2, 717, 33, 718, 687, 688, 689, 690, 200, 201, 425, 1034, 1035, 1036, 1037, 1038, 1039, 1040, 1041, 1042, 1043, 1044, 1045, 1092, 1093, 1094, 1095, 1096, 1097] (by decide +kernel) (by decide +kernel)) (goodIn_sub (fun _ h => List.mem_append_left _ (List.mem_append_left _ (List.mem_append_left _ (List.mem_append_left _ (List.mem_append_left _ (List.mem_append_left _ (List.mem_append_right _ h))))))) (by decide +kernel))) (goodIn_sub (fun _ h => List.mem_append_left _ (List.mem_append_left _ (List.mem_append_left _ (List.mem_append_right _ h)))) (by decide +kernel))
set_option maxRecDepth 20000 in
theorem gL_law_L_xAfter : GoodIn wsL_law (va_wsS RL 234 yL_xAfter wsL_xAfter) := goodIn_app (goodIn_of _ (by decide +kernel)) ggL_law_L_xAfter
set_option maxRecDepth 20000 in
theorem ggL_law_X9_xAfter : GoodIn wsL_law wsX9_xAfter := goodIn_ca (goodIn_r _ [722, 112, 695, 696, 697, 5, 698, 435, 157, 158, 159, 160, 161, 162, 163, 164, 1046, 1047, 1048, 1049, 1050, 1051, 1052, 1053, 1054, 1055, 1056, 1057, 1058, 1059, 1060, 1061, 1062, 1063, 1064, 1065, 1066, 1067, 1068, 1069, 1070, 1071, 1072, 1073, 1074, 1075] (by decide +kernel) (by decide +kernel)) (goodIn_sub (fun _ h => List.mem_append_left _ (List.mem_append_left _ (List.mem_append_left _ (List.mem_append_left _ (List.mem_append_left _ (List.mem_append_left _ (List.mem_append_right _ h))))))) (by decide +kernel))
set_option maxRecDepth 20000 in
theorem gL_law_X9_xAfter : GoodIn wsL_law (wsV RL 236 RX9 yX9_xAfter wsX9_xAfter) := goodIn_app (goodIn_of _ (by decide +kernel)) ggL_law_X9_xAfter
set_option maxRecDepth 20000 in
theorem ggL_law_L_yAfter : GoodIn wsL_law wsL_yAfter := goodIn_ca (goodIn_ca (goodIn_r _ [725, 191, 726, 727, 728, 2, 729, 33, 730, 687, 688, 689, 690, 200, 201, 425, 1034, 1035, 1036, 1037, 1038, 1039, 1040, 1041, 1042, 1043, 1044, 1045, 1092, 1093, 1094, 1095, 1096, 1097] (by decide +kernel) (by decide +kernel)) (goodIn_sub (fun _ h => List.mem_append_left _ (List.mem_append_left _ (List.mem_append_left _ (List.mem_append_left _ (List.mem_append_left _ (List.mem_append_left _ (List.mem_append_right _ h))))))) (by decide +kernel))) (goodIn_sub (fun _ h => List.mem_append_left _ (List.mem_append_left _ (List.mem_append_left _ (List.mem_append_right _ h)))) (by decide +kernel))
set_option maxRecDepth 20000 in
theorem gL_law_L_yAfter : GoodIn wsL_law (va_wsS RL 237 yL_yAfter wsL_yAfter) := goodIn_app (goodIn_of _ (by decide +kernel)) ggL_law_L_yAfter
set_option maxRecDepth 20000 in
theorem ggL_law_X9_yAfter : GoodIn wsL_law wsX9_yAfter := goodIn_ca (goodIn_r _ [734, 113, 695, 696, 697, 5, 698, 435, 157, 158, 159, 160, 161, 162, 163, 164, 1046, 1047, 1048, 1049, 1050, 1051, 1052, 1053, 1054, 1055, 1056, 1057, 1058, 1059, 1060, 1061, 1062, 1063, 1064, 1065, 1066, 1067, 1068, 1069, 1070, 1071, 1072, 1073, 1074, 1075] (by decide +kernel) (by decide +kernel)) (goodIn_sub (fun _ h => List.mem_append_left _ (List.mem_append_left _ (List.mem_append_left _ (List.mem_append_left _ (List.mem_append_left _ (List.mem_append_left _ (List.mem_append_right _ h))))))) (by decide +kernel))
set_option maxRecDepth 20000 in
theorem gL_law_X9_yAfter : GoodIn wsL_law (wsV RL 239 RX9 yX9_yAfter wsX9_yAfter) := goodIn_app (goodIn_of _ (by decide +kernel)) ggL_law_X9_yAfter
set_option maxRecDepth 20000 in
theorem ggL_law_L_xAnew : GoodIn wsL_law wsL_xAnew := goodIn_ca (goodIn_ca (goodIn_r _ [737, 191, 738, 739, 740, 2, 741, 41, 742, 687, 688, 689, 690, 200, 201, 33, 425, 743, 744, 745, 746, 686, 706, 486, 487, 488, 40, 489, 490, 491, 492, 493, 747, 635, 636, 637, 638, 503, 504, 505, 1034, 1035, 1036, 1037, 1038, 1039, 1040, 1041, 1042, 1043, 1044, 1045, 1104, 1105, 1106, 1107, 1092, 1093, 1094, 1095, 1096, 1097] (by decide +kernel) (by decide +kernel)) (goodIn_sub (fun _ h => List.mem_append_left _ (List.mem_append_left _ (List.mem_append_left _ (List.mem_append_left _ (List.mem_append_left _ (List.mem_append_left _ (List.mem_append_right _ h))))))) (by decide +kernel))) (goodIn_sub (fun _ h => List.mem_append_left _ (List.mem_append_left _ (List.mem_append_left _ (List.mem_append_right _ h)))) (by decide +kernel))
set_option maxRecDepth 20000 in
theorem gL_law_L_xAnew : GoodIn wsL_law (va_wsS RL 240 yL_xAnew wsL_xAnew) := goodIn_app (goodIn_of _ (by decide +kernel)) ggL_law_L_xAnew
set_option maxRecDepth 20000 in
theorem ggL_law_X9_xAnew : GoodIn wsL_law wsX9_xAnew := goodIn_ca (goodIn_r _ [751, 752, 720, 721, 5, 722, 112, 695, 696, 697, 698, 435, 157, 158, 159, 160, 161, 162, 163, 164, 1046, 1047, 1048, 1049, 1050, 1051, 1052, 1053, 1054, 1055, 1056, 1057, 1058, 1059, 1060, 1061, 1062, 1063, 1064, 1065, 1066, 1067, 1068, 1069, 1070, 1071, 1072, 1073, 1074, 1075] (by decide +kernel) (by decide +kernel)) (goodIn_sub (fun _ h => List.mem_append_left _ (List.mem_append_left _ (List.mem_append_left _ (List.mem_append_left _ (List.mem_append_left _ (List.mem_append_left _ (List.mem_append_right _ h))))))) (by decide +kernel))
set_option maxRecDepth 20000 in
theorem gL_law_X9_xAnew : GoodIn wsL_law (wsV RL 242 RX9 yX9_xAnew wsX9_xAnew) := goodIn_app (goodIn_of _ (by decide +kernel)) ggL_law_X9_xAnew
set_option maxRecDepth 20000 in
theorem ggL_law_L_yAnew : GoodIn wsL_law wsL_yAnew := goodIn_ca (goodIn_ca (goodIn_r _ [755, 191, 756, 757, 758, 2, 759, 41, 760, 687, 688, 689, 690, 200, 201, 33, 425, 743, 744, 745, 746, 686, 706, 486, 487, 488, 40, 489, 490, 491, 492, 493, 747, 635, 636, 637, 638, 503, 504, 505, 1034, 1035, 1036, 1037, 1038, 1039, 1040, 1041, 1042, 1043, 1044, 1045, 1104, 1105, 1106, 1107, 1092, 1093, 1094, 1095, 1096, 1097] (by decide +kernel) (by decide +kernel)) (goodIn_sub (fun _ h => List.mem_append_left _ (List.mem_append_left _ (List.mem_append_left _ (List.mem_append_left _ (List.mem_append_left _ (List.mem_append_left _ (List.mem_append_right _ h))))))) (by decide +kernel))) (goodIn_sub (fun _ h => List.mem_append_left _ (List.mem_append_left _ (List.mem_append_left _ (List.mem_append_right _ h)))) (by decide +kernel))
set_option maxRecDepth 20000 in
theorem gL_law_L_yAnew : GoodIn wsL_law (va_wsS RL 243 yL_yAnew wsL_yAnew) := goodIn_app (goodIn_of _ (by decide +kernel)) ggL_law_L_yAnew
set_option maxRecDepth 20000 in
theorem ggL_law_X9_yAnew : GoodIn wsL_law wsX9_yAnew := goodIn_ca (goodIn_r _ [764, 765, 732, 733, 5, 734, 113, 695, 696, 697, 698, 435, 157, 158, 159, 160, 161, 162, 163, 164, 1046, 1047, 1048, 1049, 1050, 1051, 1052, 1053, 1054, 1055, 1056, 1057, 1058, 1059, 1060, 1061, 1062, 1063, 1064, 1065, 1066, 1067, 1068, 1069, 1070, 1071, 1072, 1073, 1074, 1075] (by decide +kernel) (by decide +kernel)) (goodIn_sub (fun _ h => List.mem_append_left _ (List.mem_append_left _ (List.mem_append_left _ (List.mem_append_left _ (List.mem_append_left _ (List.mem_append_left _ (List.mem_append_right _ h))))))) (by decide +kernel))
set_option maxRecDepth 20000 in
theorem gL_law_X9_yAnew : GoodIn wsL_law (wsV RL 245 RX9 yX9_yAnew wsX9_yAnew) := goodIn_app (goodIn_of _ (by decide +kernel)) ggL_law_X9_yAnew
set_option maxRecDepth 20000 in
theorem ggL_law_L_deviationAfter : GoodIn wsL_law wsL_deviationAfter := goodIn_ca (goodIn_ca (goodIn_r _ [768, 191, 769, 770, 771, 2, 772, 33, 718, 41, 742, 474, 475, 150, 476, 730, 760, 687, 688, 689, 690, 200, 201, 425, 482, 483, 484, 485, 21, 486, 487, 488, 40, 489, 490, 491, 492, 493, 494, 495, 496, 20, 497, 181, 60, 498, 499, 500, 501, 61, 502, 503, 504, 505, 1034, 1035, 1036, 1037, 1038, 1039, 1040, 1041, 1042, 1043, 1044, 1045, 1092, 1093, 1094, 1095, 1096, 1097, 1104, 1105, 1106, 1107, 1080, 1081, 1082] (by decide +kernel) (by decide +kernel)) (goodIn_sub (fun _ h => List.mem_append_left _ (List.mem_append_left _ (List.mem_append_left _ (List.mem_append_left _ (List.mem_append_left _ (List.mem_append_left _ (List.mem_append_right _ h))))))) (by decide +kernel))) (goodIn_sub (fun _ h => List.mem_append_left _ (List.mem_append_left _ (List.mem_append_left _ (List.mem_append_right _ h)))) (by decide +kernel))
set_option maxRecDepth 20000 in
theorem gL_law_L_deviationAfter : GoodIn wsL_law (va_wsS RL 246 yL_deviationAfter wsL_deviationAfter) := goodIn_app (goodIn_of _ (by decide +kernel)) ggL_law_L_deviationAfter
set_option maxRecDepth 20000 in
theorem ggL_law_X9_deviationAfter : GoodIn wsL_law wsX9_deviationAfter := goodIn_ca (goodIn_r _ [776, 112, 113, 695, 696, 697, 5, 698, 435, 157, 158, 159, 160, 161, 162, 163, 164, 591, 592, 593, 594, 107, 570, 475, 150, 476, 108, 595, 596, 597, 598, 187, 1046, 1047, 1048, 1049, 1050, 1051, 1052, 1053, 1054, 1055, 1056, 1057, 1058, 1059, 1060, 1061, 1062, 1063, 1064, 1065, 1066, 1067, 1068, 1069, 1070, 1071, 1072, 1073, 1074, 1075] (by decide +kernel) (by decide +kernel)) (goodIn_sub (fun _ h => List.mem_append_left _ (List.mem_append_left _ (List.mem_append_left _ (List.mem_append_left _ (List.mem_append_left _ (List.mem_append_left _ (List.mem_append_right _ h))))))) (by decide +kernel))
set_option maxRecDepth 20000 in
theorem gL_law_X9_deviationAfter : GoodIn wsL_law (wsV RL 248 RX9 yX9_deviationAfter wsX9_deviationAfter) := goodIn_app (goodIn_of _ (by decide +kernel)) ggL_law_X9_deviationAfter
set_option maxRecDepth 20000 in
theorem ggL_law_L_deviationWith : GoodIn wsL_law wsL_deviationWith := goodIn_ca (goodIn_ca (goodIn_ca (goodIn_ca (goodIn_r _ [779, 191, 129, 298, 780, 781, 782, 2, 783, 37, 260, 261, 262, 200, 201, 458, 459, 460, 141, 142, 461, 320, 321, 322, 323, 303, 304, 29, 259, 477, 478, 479, 480, 33, 425, 481, 41, 21, 482, 483, 484, 485, 486, 487, 488, 40, 489, 490, 491, 492, 493, 494, 495, 496, 20, 497, 181, 60, 498, 499, 500, 501, 61, 502, 503, 504, 505, 506, 507, 508, 36, 509, 92, 510, 511, 512, 513, 514, 515, 516, 305, 306, 307, 28, 308, 74, 517, 518, 519, 520, 93, 94, 95, 521, 522, 523, 524, 525, 526, 527, 528, 529, 530, 531, 532, 533, 534, 535, 536, 537, 538, 539, 540, 541, 542, 475, 150, 476, 543, 544, 545, 546, 547, 548, 549, 550, 1034, 1035, 1036, 1037, 1038, 1039, 1040, 1041, 1042, 1043, 1044, 1045, 1089, 1090, 1091, 1092, 1093, 1094, 1095, 1096, 1097, 1104, 1105, 1106, 1107, 1080, 1081, 1082, 1098, 1099, 1100, 1101, 1102, 1103] (by decide +kernel) (by decide +kernel)) (goodIn_sub (fun _ h => List.mem_append_left _ (List.mem_append_left _ (List.mem_append_left _ (List.mem_append_left _ (List.mem_append_left _ (List.mem_append_left _ (List.mem_append_right _ h))))))) (by decide +kernel))) (goodIn_sub (fun _ h => List.mem_append_left _ (List.mem_append_left _ (List.mem_append_left _ (List.mem_append_right _ h)))) (by decide +kernel))) (goodIn_sub (fun _ h => List.mem_append_left _ (List.mem_append_left _ (List.mem_append_left _ (List.mem_append_left _ (List.mem_append_right _ h))))) (by decide +kernel))) (goodIn_sub (fun _ h => List.mem_append_left _ (List.mem_append_left _ (List.mem_append_right _ h))) (by decide +kernel))
set_option maxRecDepth 20000 in
theorem gL_law_L_deviationWith : GoodIn wsL_law (va_wsS RL 249 yL_deviationWith wsL_deviationWith) := goodIn_app (goodIn_of _ (by decide +kernel)) ggL_law_L_deviationWith
set_option maxRecDepth 20000 in
theorem ggL_law_X9_deviationWith : GoodIn wsL_law wsX9_deviationWith := goodIn_ca (goodIn_r _ [787, 116, 114, 555, 556, 557, 5, 558, 276, 277, 278, 279, 157, 158, 159, 160, 161, 162, 163, 164, 280, 281, 282, 283, 571, 572, 573, 574, 435, 575, 576, 577, 578, 579, 580, 112, 581, 582, 583, 584, 585, 586, 587, 113, 588, 589, 590, 591, 592, 593, 594, 107, 570, 475, 150, 476, 108, 595, 596, 597, 598, 187, 1046, 1047, 1048, 1049, 1050, 1051, 1052, 1053, 1054, 1055, 1056, 1057, 1058, 1059, 1060, 1061, 1062, 1063, 1064, 1065, 1066, 1067, 1068, 1069, 1070, 1071, 1072, 1073, 1074, 1075] (by decide +kernel) (by decide +kernel)) (goodIn_sub (fun _ h => List.mem_append_left _ (List.mem_append_left _ (List.mem_append_left _ (List.mem_append_left _ (List.mem_append_left _ (List.mem_append_left _ (List.mem_append_right _ h))))))) (by decide +kernel))
set_option maxRecDepth 20000 in
theorem gL_law_X9_deviationWith : GoodIn wsL_law (wsV RL 251 RX9 yX9_deviationWith wsX9_deviationWith) := goodIn_app (goodIn_of _ (by decide +kernel)) ggL_law_X9_deviationWith
set_option maxRecDepth 20000 in
theorem ggL_law_L_bestPosition : GoodIn wsL_law wsL_bestPosition := goodIn_ca (goodIn_ca (goodIn_ca (goodIn_r _ [790, 191, 298, 791, 792, 793, 2, 794, 33, 795, 461, 37, 260, 261, 262, 200, 201, 320, 321, 322, 323, 303, 304, 29, 259, 477, 478, 479, 480, 425, 481, 41, 21, 482, 483, 484, 485, 486, 487, 488, 40, 489, 490, 491, 492, 493, 494, 495, 496, 20, 497, 181, 60, 498, 499, 500, 501, 61, 502, 503, 504, 505, 506, 507, 508, 36, 509, 92, 510, 511, 512, 513, 514, 515, 516, 305, 306, 307, 28, 308, 74, 517, 518, 519, 520, 93, 94, 95, 466, 467, 468, 32, 469, 470, 79, 471, 472, 473, 474, 475, 150, 476, 521, 522, 523, 524, 525, 526, 527, 528, 529, 530, 531, 532, 533, 534, 535, 536, 537, 538, 539, 540, 541, 542, 543, 544, 545, 546, 547, 548, 549, 550, 1034, 1035, 1036, 1037, 1038, 1039, 1040, 1041, 1042, 1043, 1044, 1045, 1089, 1090, 1091, 1092, 1093, 1094, 1095, 1096, 1097, 1104, 1105, 1106, 1107, 1080, 1081, 1082, 1098, 1099, 1100, 1101, 1102, 1103] (by decide +kernel) (by decide +kernel)) (goodIn_sub (fun _ h => List.mem_append_left _ (List.mem_append_left _ (List.mem_append_left _ (List.mem_append_left _ (List.mem_append_left _ (List.mem_append_left _ (List.mem_append_right _ h))))))) (by decide +kernel))) (goodIn_sub (fun _ h => List.mem_append_left _ (List.mem_append_left _ (List.mem_append_left _ (List.mem_append_right _ h)))) (by decide +kernel))) (goodIn_sub (fun _ h => List.mem_append_left _ (List.mem_append_left _ (List.mem_append_right _ h))) (by decide +kernel))
set_option maxRecDepth 20000 in
theorem gL_law_L_bestPosition : GoodIn wsL_law (va_wsS RL 252 yL_bestPosition wsL_bestPosition) := goodIn_app (goodIn_of _ (by decide +kernel)) ggL_law_L_bestPosition
set_option maxRecDepth 20000 in
theorem ggL_law_X9_bestPosition : GoodIn wsL_law wsX9_bestPosition := goodIn_ca (goodIn_r _ [799, 114, 335, 336, 337, 5, 338, 116, 276, 277, 278, 279, 157, 158, 159, 160, 161, 162, 163, 164, 280, 281, 282, 283, 563, 564, 565, 566, 435, 110, 567, 568, 569, 570, 475, 150, 476, 571, 572, 573, 574, 575, 576, 577, 578, 579, 580, 112, 581, 582, 583, 584, 585, 586, 587, 113, 588, 589, 590, 591, 592, 593, 594, 107, 108, 595, 596, 597, 598, 187, 1046, 1047, 1048, 1049, 1050, 1051, 1052, 1053, 1054, 1055, 1056, 1057, 1058, 1059, 1060, 1061, 1062, 1063, 1064, 1065, 1066, 1067, 1068, 1069, 1070, 1071, 1072, 1073, 1074, 1075] (by decide +kernel) (by decide +kernel)) (goodIn_sub (fun _ h => List.mem_append_left _ (List.mem_append_left _ (List.mem_append_left _ (List.mem_append_left _ (List.mem_append_left _ (List.mem_append_left _ (List.mem_append_right _ h))))))) (by decide +kernel))
set_option maxRecDepth 20000 in
theorem gL_law_X9_bestPosition : GoodIn wsL_law (wsV RL 254 RX9 yX9_bestPosition wsX9_bestPosition) := goodIn_app (goodIn_of _ (by decide +kernel)) ggL_law_X9_bestPosition
set_option maxRecDepth 20000 in
theorem ggL_law_L_leastDeviation : GoodIn wsL_law wsL_leastDeviation := goodIn_ca (goodIn_ca (goodIn_ca (goodIn_ca (goodIn_r _ [802, 191, 129, 298, 803, 804, 805, 2, 806, 37, 33, 807, 260, 261, 262, 200, 201, 138, 139, 140, 141, 142, 320, 321, 322, 323, 303, 304, 29, 259, 477, 478, 479, 480, 425, 481, 41, 21, 482, 483, 484, 485, 486, 487, 488, 40, 489, 490, 491, 492, 493, 494, 495, 496, 20, 497, 181, 60, 498, 499, 500, 501, 61, 502, 503, 504, 505, 506, 507, 508, 36, 509, 92, 510, 511, 512, 513, 514, 515, 516, 305, 306, 307, 28, 308, 74, 517, 518, 519, 520, 93, 94, 95, 466, 467, 468, 32, 469, 470, 79, 808, 809, 810, 811, 461, 812, 813, 814, 815, 816, 149, 150, 151, 538, 539, 540, 541, 542, 475, 476, 817, 818, 819, 820, 821, 329, 330, 471, 472, 473, 474, 822, 526, 527, 528, 529, 530, 531, 532, 533, 534, 535, 536, 537, 823, 544, 545, 546, 547, 548, 549, 550, 1034, 1035, 1036, 1037, 1038, 1039, 1040, 1041, 1042, 1043, 1044, 1045, 1098, 1099, 1100, 1101, 1102, 1103, 1089, 1090, 1091, 1092, 1093, 1094, 1095, 1096, 1097, 1104, 1105, 1106, 1107, 1080, 1081, 1082] (by decide +kernel) (by decide +kernel)) (goodIn_sub (fun _ h => List.mem_append_left _ (List.mem_append_left _ (List.mem_append_left _ (List.mem_append_left _ (List.mem_append_left _ (List.mem_append_left _ (List.mem_append_right _ h))))))) (by decide +kernel))) (goodIn_sub (fun _ h => List.mem_append_left _ (List.mem_append_left _ (List.mem_append_left _ (List.mem_append_right _ h)))) (by decide +kernel))) (goodIn_sub (fun _ h => List.mem_append_left _ (List.mem_append_left _ (List.mem_append_left _ (List.mem_append_left _ (List.mem_append_right _ h))))) (by decide +kernel))) (goodIn_sub (fun _ h => List.mem_append_left _ (List.mem_append_left _ (List.mem_append_right _ h))) (by decide +kernel))
set_option maxRecDepth 20000 in
theorem gL_law_L_leastDeviation : GoodIn wsL_law (va_wsS RL 255 yL_leastDeviation wsL_leastDeviation) := goodIn_app (goodIn_of _ (by decide +kernel)) ggL_law_L_leastDeviation
set_option maxRecDepth 20000 in
theorem ggL_law_X9_leastDeviation : GoodIn wsL_law wsX9_leastDeviation := goodIn_ca (goodIn_r _ [827, 116, 575, 576, 276, 277, 278, 5, 279, 157, 158, 159, 160, 161, 162, 163, 164, 280, 281, 282, 283, 563, 564, 565, 566, 435, 110, 577, 578, 579, 580, 112, 584, 585, 586, 587, 113, 828, 829, 830, 831, 832, 114, 833, 149, 150, 151, 591, 592, 593, 594, 107, 570, 475, 476, 108, 595, 596, 597, 598, 187, 567, 568, 569, 581, 582, 583, 588, 589, 590, 1046, 1047, 1048, 1049, 1050, 1051, 1052, 1053, 1054, 1055, 1056, 1057, 1058, 1059, 1060, 1061, 1062, 1063, 1064, 1065, 1066, 1067, 1068, 1069, 1070, 1071, 1072, 1073, 1074, 1075] (by decide +kernel) (by decide +kernel)) (goodIn_sub (fun _ h => List.mem_append_left _ (List.mem_append_left _ (List.mem_append_left _ (List.mem_append_left _ (List.mem_append_left _ (List.mem_append_left _ (List.mem_append_right _ h))))))) (by decide +kernel))
set_option maxRecDepth 20000 in
theorem gL_law_X9_leastDeviation : GoodIn wsL_law (wsV RL 257 RX9 yX9_leastDeviation wsX9_leastDeviation) := goodIn_app (goodIn_of _ (by decide +kernel)) ggL_law_X9_leastDeviation
set_option maxRecDepth 20000 in
theorem ggL_law_L_leastByTrying : GoodIn wsL_law wsL_leastByTrying := goodIn_ca (goodIn_ca (goodIn_ca (goodIn_ca (goodIn_r _ [836, 191, 129, 298, 837, 838, 839, 2, 840, 37, 33, 807, 260, 261, 262, 200, 201, 138, 139, 140, 141, 142, 320, 321, 322, 323, 303, 304, 29, 259, 477, 478, 479, 480, 425, 481, 41, 21, 482, 483, 484, 485, 486, 487, 488, 40, 489, 490, 491, 492, 493, 494, 495, 496, 20, 497, 181, 60, 498, 499, 500, 501, 61, 502, 503, 504, 505, 506, 507, 508, 36, 509, 92, 510, 511, 512, 513, 514, 515, 516, 305, 306, 307, 28, 308, 74, 517, 518, 519, 520, 93, 94, 95, 466, 467, 468, 32, 469, 470, 79, 841, 842, 843, 811, 461, 812, 813, 814, 815, 816, 149, 150, 151, 538, 539, 540, 541, 542, 475, 476, 471, 472, 473, 474, 822, 526, 527, 528, 529, 530, 531, 532, 533, 534, 535, 536, 537, 823, 544, 545, 546, 547, 548, 549, 550, 1034, 1035, 1036, 1037, 1038, 1039, 1040, 1041, 1042, 1043, 1044, 1045, 1098, 1099, 1100, 1101, 1102, 1103, 1089, 1090, 1091, 1092, 1093, 1094, 1095, 1096, 1097, 1104, 1105, 1106, 1107, 1080, 1081, 1082] (by decide +kernel) (by decide +kernel)) (goodIn_sub (fun _ h => List.mem_append_left _ (List.mem_append_left _ (List.mem_append_left _ (List.mem_append_left _ (List.mem_append_left _ (List.mem_append_left _ (List.mem_append_right _ h))))))) (by decide +kernel))) (goodIn_sub (fun _ h => List.mem_append_left _ (List.mem_append_left _ (List.mem_append_left _ (List.mem_append_right _ h)))) (by decide +kernel))) (goodIn_sub (fun _ h => List.mem_append_left _ (List.mem_append_left _ (List.mem_append_left _ (List.mem_append_left _ (List.mem_append_right _ h))))) (by decide +kernel))) (goodIn_sub (fun _ h => List.mem_append_left _ (List.mem_append_left _ (List.mem_append_right _ h))) (by decide +kernel))
set_option maxRecDepth 20000 in
theorem gL_law_L_leastByTrying : GoodIn wsL_law (va_wsS RL 258 yL_leastByTrying wsL_leastByTrying) := goodIn_app (goodIn_of _ (by decide +kernel)) ggL_law_L_leastByTrying
set_option maxRecDepth 20000 in
theorem ggL_law_X9_leastByTrying : GoodIn wsL_law wsX9_leastByTrying := goodIn_ca (goodIn_r _ [847, 848, 825, 826, 5, 827, 116, 575, 576, 276, 277, 278, 279, 157, 158, 159, 160, 161, 162, 163, 164, 280, 281, 282, 283, 563, 564, 565, 566, 435, 110, 577, 578, 579, 580, 112, 584, 585, 586, 587, 113, 828, 829, 830, 831, 832, 114, 833, 149, 150, 151, 591, 592, 593, 594, 107, 570, 475, 476, 108, 595, 596, 597, 598, 187, 567, 568, 569, 581, 582, 583, 588, 589, 590, 1046, 1047, 1048, 1049, 1050, 1051, 1052, 1053, 1054, 1055, 1056, 1057, 1058, 1059, 1060, 1061, 1062, 1063, 1064, 1065, 1066, 1067, 1068, 1069, 1070, 1071, 1072, 1073, 1074, 1075] (by decide +kernel) (by decide +kernel)) (goodIn_sub (fun _ h => List.mem_append_left _ (List.mem_append_left _ (List.mem_append_left _ (List.mem_append_left _ (List.mem_append_left _ (List.mem_append_left _ (List.mem_append_right _ h))))))) (by decide +kernel))
set_option maxRecDepth 20000 in
theorem gL_law_X9_leastByTrying : GoodIn wsL_law (wsV RL 260 RX9 yX9_leastByTrying wsX9_leastByTrying) := goodIn_app (goodIn_of _ (by decide +kernel)) ggL_law_X9_leastByTrying
set_option maxRecDepth 20000 in
theorem ggL_law_L_sinkingAt : GoodIn wsL_law wsL_sinkingAt := goodIn_ca (goodIn_ca (goodIn_r _ [851, 191, 852, 853, 854, 2, 855, 17, 196, 197, 198, 199, 200, 201, 202, 203, 204, 16, 205, 147, 856, 857, 858, 859, 56, 210, 1034, 1035, 1036, 1037, 1038, 1039, 1040, 1041, 1042, 1043, 1044, 1045, 1076, 1077, 1078, 1079] (by decide +kernel) (by decide +kernel)) (goodIn_sub (fun _ h => List.mem_append_left _ (List.mem_append_left _ (List.mem_append_left _ (List.mem_append_left _ (List.mem_append_left _ (List.mem_append_left _ (List.mem_append_right _ h))))))) (by decide +kernel))) (goodIn_sub (fun _ h => List.mem_append_left _ (List.mem_append_left _ (List.mem_append_left _ (List.mem_append_right _ h)))) (by decide +kernel))
set_option maxRecDepth 20000 in
theorem gL_law_L_sinkingAt : GoodIn wsL_law (va_wsS RL 261 yL_sinkingAt wsL_sinkingAt) := goodIn_app (goodIn_of _ (by decide +kernel)) ggL_law_L_sinkingAt
set_option maxRecDepth 20000 in
theorem ggL_law_X9_sinkingAt : GoodIn wsL_law wsX9_sinkingAt := goodIn_ca (goodIn_r _ [863, 109, 215, 216, 217, 5, 218, 156, 157, 158, 159, 160, 161, 162, 163, 164, 1046, 1047, 1048, 1049, 1050, 1051, 1052, 1053, 1054, 1055, 1056, 1057, 1058, 1059, 1060, 1061, 1062, 1063, 1064, 1065, 1066, 1067, 1068, 1069, 1070, 1071, 1072, 1073, 1074, 1075] (by decide +kernel) (by decide +kernel)) (goodIn_sub (fun _ h => List.mem_append_left _ (List.mem_append_left _ (List.mem_append_left _ (List.mem_append_left _ (List.mem_append_left _ (List.mem_append_left _ (List.mem_append_right _ h))))))) (by decide +kernel))
set_option maxRecDepth 20000 in
theorem gL_law_X9_sinkingAt : GoodIn wsL_law (wsV RL 263 RX9 yX9_sinkingAt wsX9_sinkingAt) := goodIn_app (goodIn_of _ (by decide +kernel)) ggL_law_X9_sinkingAt
set_option maxRecDepth 20000 in
theorem ggL_law_L_sinkingOf : GoodIn wsL_law wsL_sinkingOf := goodIn_ca (goodIn_ca (goodIn_r _ [866, 191, 867, 868, 869, 2, 870, 871, 872, 873, 874, 200, 201, 25, 241, 875, 876, 877, 878, 879, 880, 17, 430, 329, 150, 330, 856, 857, 858, 16, 859, 56, 210, 203, 204, 205, 147, 1034, 1035, 1036, 1037, 1038, 1039, 1040, 1041, 1042, 1043, 1044, 1045, 1083, 1084, 1085, 1086, 1087, 1088, 1076, 1077, 1078, 1079] (by decide +kernel) (by decide +kernel)) (goodIn_sub (fun _ h => List.mem_append_left _ (List.mem_append_left _ (List.mem_append_left _ (List.mem_append_left _ (List.mem_append_left _ (List.mem_append_left _ (List.mem_append_right _ h))))))) (by decide +kernel))) (goodIn_sub (fun _ h => List.mem_append_left _ (List.mem_append_left _ (List.mem_append_left _ (List.mem_append_right _ h)))) (by decide +kernel))
set_option maxRecDepth 20000 in
theorem gL_law_L_sinkingOf : GoodIn wsL_law (va_wsS RL 264 yL_sinkingOf wsL_sinkingOf) := goodIn_app (goodIn_of _ (by decide +kernel)) ggL_law_L_sinkingOf
set_option maxRecDepth 20000 in
theorem ggL_law_X9_sinkingOf : GoodIn wsL_law wsX9_sinkingOf := goodIn_ca (goodIn_r _ [884, 885, 886, 887, 5, 888, 251, 157, 158, 159, 160, 161, 162, 163, 164, 889, 890, 891, 892, 117, 118, 109, 343, 329, 150, 330, 1046, 1047, 1048, 1049, 1050, 1051, 1052, 1053, 1054, 1055, 1056, 1057, 1058, 1059, 1060, 1061, 1062, 1063, 1064, 1065, 1066, 1067, 1068, 1069, 1070, 1071, 1072, 1073, 1074, 1075] (by decide +kernel) (by decide +kernel)) (goodIn_sub (fun _ h => List.mem_append_left _ (List.mem_append_left _ (List.mem_append_left _ (List.mem_append_left _ (List.mem_append_left _ (List.mem_append_left _ (List.mem_append_right _ h))))))) (by decide +kernel))
set_option maxRecDepth 20000 in
theorem gL_law_X9_sinkingOf : GoodIn wsL_law (wsV RL 266 RX9 yX9_sinkingOf wsX9_sinkingOf) := goodIn_app (goodIn_of _ (by decide +kernel)) ggL_law_X9_sinkingOf
set_option maxRecDepth 20000 in
theorem ggL_law_L_tiltOf : GoodIn wsL_law wsL_tiltOf := goodIn_ca (goodIn_ca (goodIn_r _ [895, 191, 896, 897, 898, 2, 899, 871, 872, 873, 874, 200, 201, 25, 241, 875, 876, 877, 878, 879, 880, 17, 430, 329, 150, 330, 856, 857, 858, 16, 859, 56, 210, 203, 204, 205, 147, 900, 901, 902, 903, 795, 904, 149, 151, 1034, 1035, 1036, 1037, 1038, 1039, 1040, 1041, 1042, 1043, 1044, 1045, 1083, 1084, 1085, 1086, 1087, 1088, 1076, 1077, 1078, 1079] (by decide +kernel) (by decide +kernel)) (goodIn_sub (fun _ h => List.mem_append_left _ (List.mem_append_left _ (List.mem_append_left _ (List.mem_append_left _ (List.mem_append_left _ (List.mem_append_left _ (List.mem_append_right _ h))))))) (by decide +kernel))) (goodIn_sub (fun _ h => List.mem_append_left _ (List.mem_append_left _ (List.mem_append_left _ (List.mem_append_right _ h)))) (by decide +kernel))
set_option maxRecDepth 20000 in
theorem gL_law_L_tiltOf : GoodIn wsL_law (va_wsS RL 267 yL_tiltOf wsL_tiltOf) := goodIn_app (goodIn_of _ (by decide +kernel)) ggL_law_L_tiltOf
set_option maxRecDepth 20000 in
theorem ggL_law_X9_tiltOf : GoodIn wsL_law wsX9_tiltOf := goodIn_ca (goodIn_r _ [908, 117, 118, 109, 833, 149, 150, 151, 885, 886, 887, 5, 888, 251, 157, 158, 159, 160, 161, 162, 163, 164, 889, 890, 891, 892, 343, 329, 330, 1046, 1047, 1048, 1049, 1050, 1051, 1052, 1053, 1054, 1055, 1056, 1057, 1058, 1059, 1060, 1061, 1062, 1063, 1064, 1065, 1066, 1067, 1068, 1069, 1070, 1071, 1072, 1073, 1074, 1075] (by decide +kernel) (by decide +kernel)) (goodIn_sub (fun _ h => List.mem_append_left _ (List.mem_append_left _ (List.mem_append_left _ (List.mem_append_left _ (List.mem_append_left _ (List.mem_append_left _ (List.mem_append_right _ h))))))) (by decide +kernel))
set_option maxRecDepth 20000 in
theorem gL_law_X9_tiltOf : GoodIn wsL_law (wsV RL 269 RX9 yX9_tiltOf wsX9_tiltOf) := goodIn_app (goodIn_of _ (by decide +kernel)) ggL_law_X9_tiltOf
set_option maxRecDepth 20000 in
theorem ggL_law_L_claimOf : GoodIn wsL_law wsL_claimOf := goodIn_ca (goodIn_ca (goodIn_r _ [911, 191, 912, 913, 914, 2, 915, 871, 872, 873, 874, 200, 201, 25, 241, 916, 917, 918, 919, 920, 921, 922, 875, 876, 877, 878, 879, 880, 17, 430, 329, 150, 330, 856, 857, 858, 16, 859, 56, 210, 203, 204, 205, 147, 1034, 1035, 1036, 1037, 1038, 1039, 1040, 1041, 1042, 1043, 1044, 1045, 1083, 1084, 1085, 1086, 1087, 1088, 1076, 1077, 1078, 1079] (by decide +kernel) (by decide +kernel)) (goodIn_sub (fun _ h => List.mem_append_left _ (List.mem_append_left _ (List.mem_append_left _ (List.mem_append_left _ (List.mem_append_left _ (List.mem_append_left _ (List.mem_append_right _ h))))))) (by decide +kernel))) (goodIn_sub (fun _ h => List.mem_append_left _ (List.mem_append_left _ (List.mem_append_left _ (List.mem_append_right _ h)))) (by decide +kernel))
set_option maxRecDepth 20000 in
theorem gL_law_L_claimOf : GoodIn wsL_law (va_wsS RL 270 yL_claimOf wsL_claimOf) := goodIn_app (goodIn_of _ (by decide +kernel)) ggL_law_L_claimOf
set_option maxRecDepth 20000 in
theorem ggL_law_X9_claimOf : GoodIn wsL_law wsX9_claimOf := goodIn_ca (goodIn_r _ [926, 885, 886, 887, 5, 888, 251, 157, 158, 159, 160, 161, 162, 163, 164, 927, 928, 929, 930, 119, 343, 329, 150, 330, 120, 121, 889, 890, 891, 892, 117, 118, 109, 1046, 1047, 1048, 1049, 1050, 1051, 1052, 1053, 1054, 1055, 1056, 1057, 1058, 1059, 1060, 1061, 1062, 1063, 1064, 1065, 1066, 1067, 1068, 1069, 1070, 1071, 1072, 1073, 1074, 1075] (by decide +kernel) (by decide +kernel)) (goodIn_sub (fun _ h => List.mem_append_left _ (List.mem_append_left _ (List.mem_append_left _ (List.mem_append_left _ (List.mem_append_left _ (List.mem_append_left _ (List.mem_append_right _ h))))))) (by decide +kernel))
set_option maxRecDepth 20000 in
theorem gL_law_X9_claimOf : GoodIn wsL_law (wsV RL 272 RX9 yX9_claimOf wsX9_claimOf) := goodIn_app (goodIn_of _ (by decide +kernel)) ggL_law_X9_claimOf
set_option maxRecDepth 20000 in
theorem ggL_law_L_claim : GoodIn wsL_law wsL_claim := goodIn_ca (goodIn_ca (goodIn_ca (goodIn_r _ [933, 191, 602, 934, 935, 936, 2, 937, 607, 608, 25, 922, 871, 872, 873, 874, 200, 201, 241, 916, 917, 918, 919, 920, 921, 875, 876, 877, 878, 879, 880, 17, 430, 329, 150, 330, 856, 857, 858, 16, 859, 56, 210, 203, 204, 205, 147, 1034, 1035, 1036, 1037, 1038, 1039, 1040, 1041, 1042, 1043, 1044, 1045, 1083, 1084, 1085, 1086, 1087, 1088, 1076, 1077, 1078, 1079] (by decide +kernel) (by decide +kernel)) (goodIn_sub (fun _ h => List.mem_append_left _ (List.mem_append_left _ (List.mem_append_left _ (List.mem_append_left _ (List.mem_append_left _ (List.mem_append_left _ (List.mem_append_right _ h))))))) (by decide +kernel))) (goodIn_sub (fun _ h => List.mem_append_right _ h) (by decide +kernel))) (goodIn_sub (fun _ h => List.mem_append_left _ (List.mem_append_left _ (List.mem_append_left _ (List.mem_append_right _ h)))) (by decide +kernel))
set_option maxRecDepth 20000 in
theorem gL_law_L_claim : GoodIn wsL_law (va_wsS RL 273 yL_claim wsL_claim) := goodIn_app (goodIn_of _ (by decide +kernel)) ggL_law_L_claim
set_option maxRecDepth 20000 in
theorem ggL_law_X9_claim : GoodIn wsL_law wsX9_claim := goodIn_ca (goodIn_r _ [941, 121, 885, 886, 887, 5, 888, 251, 157, 158, 159, 160, 161, 162, 163, 164, 927, 928, 929, 930, 119, 343, 329, 150, 330, 120, 889, 890, 891, 892, 117, 118, 109, 1046, 1047, 1048, 1049, 1050, 1051, 1052, 1053, 1054, 1055, 1056, 1057, 1058, 1059, 1060, 1061, 1062, 1063, 1064, 1065, 1066, 1067, 1068, 1069, 1070, 1071, 1072, 1073, 1074, 1075] (by decide +kernel) (by decide +kernel)) (goodIn_sub (fun _ h => List.mem_append_left _ (List.mem_append_left _ (List.mem_append_left _ (List.mem_append_left _ (List.mem_append_left _ (List.mem_append_left _ (List.mem_append_right _ h))))))) (by decide +kernel))
set_option maxRecDepth 20000 in
theorem gL_law_X9_claim : GoodIn wsL_law (wsV RL 275 RX9 yX9_claim wsX9_claim) := goodIn_app (goodIn_of _ (by decide +kernel)) ggL_law_X9_claim
set_option maxRecDepth 20000 in
theorem ggL_law_L_paidTo : GoodIn wsL_law wsL_paidTo := goodIn_ca (goodIn_ca (goodIn_r _ [944, 191, 945, 946, 947, 2, 948, 25, 922, 871, 872, 873, 874, 200, 201, 241, 1034, 1035, 1036, 1037, 1038, 1039, 1040, 1041, 1042, 1043, 1044, 1045, 1083, 1084, 1085, 1086, 1087, 1088] (by decide +kernel) (by decide +kernel)) (goodIn_sub (fun _ h => List.mem_append_left _ (List.mem_append_left _ (List.mem_append_left _ (List.mem_append_left _ (List.mem_append_left _ (List.mem_append_left _ (List.mem_append_right _ h))))))) (by decide +kernel))) (goodIn_sub (fun _ h => List.mem_append_left _ (List.mem_append_left _ (List.mem_append_left _ (List.mem_append_right _ h)))) (by decide +kernel))
set_option maxRecDepth 20000 in
theorem gL_law_L_paidTo : GoodIn wsL_law (va_wsS RL 276 yL_paidTo wsL_paidTo) := goodIn_app (goodIn_of _ (by decide +kernel)) ggL_law_L_paidTo
set_option maxRecDepth 20000 in
theorem ggL_law_X9_paidTo : GoodIn wsL_law wsX9_paidTo := goodIn_ca (goodIn_r _ [952, 121, 885, 886, 887, 5, 888, 251, 157, 158, 159, 160, 161, 162, 163, 164, 1046, 1047, 1048, 1049, 1050, 1051, 1052, 1053, 1054, 1055, 1056, 1057, 1058, 1059, 1060, 1061, 1062, 1063, 1064, 1065, 1066, 1067, 1068, 1069, 1070, 1071, 1072, 1073, 1074, 1075] (by decide +kernel) (by decide +kernel)) (goodIn_sub (fun _ h => List.mem_append_left _ (List.mem_append_left _ (List.mem_append_left _ (List.mem_append_left _ (List.mem_append_left _ (List.mem_append_left _ (List.mem_append_right _ h))))))) (by decide +kernel))
set_option maxRecDepth 20000 in
theorem gL_law_X9_paidTo : GoodIn wsL_law (wsV RL 278 RX9 yX9_paidTo wsX9_paidTo) := goodIn_app (goodIn_of _ (by decide +kernel)) ggL_law_X9_paidTo
set_option maxRecDepth 20000 in
theorem ggL_law_X8_paidTotal : GoodIn wsL_law wsX8_paidTotal := goodIn_ca (goodIn_r _ [956, 25, 241, 922, 1034, 1035, 1036, 1037, 1038, 1039, 1040, 1041, 1042, 1043, 1044, 1045, 1083, 1084, 1085, 1086, 1087, 1088] (by decide +kernel) (by decide +kernel)) (goodIn_sub (fun _ h => List.mem_append_left _ (List.mem_append_left _ (List.mem_append_left _ (List.mem_append_left _ (List.mem_append_left _ (List.mem_append_left _ (List.mem_append_right _ h))))))) (by decide +kernel))
set_option maxRecDepth 20000 in
theorem gL_law_X8_paidTotal : GoodIn wsL_law (wsV RL 279 RX8 yX8_paidTotal wsX8_paidTotal) := goodIn_app (goodIn_of _ (by decide +kernel)) ggL_law_X8_paidTotal
set_option maxRecDepth 20000 in
theorem ggL_law_X9_paidTotal : GoodIn wsL_law wsX9_paidTotal := goodIn_ca (goodIn_r _ [960, 164, 251, 121, 1046, 1047, 1048, 1049, 1050, 1051, 1052, 1053, 1054, 1055, 1056, 1057, 1058, 1059, 1060, 1061, 1062, 1063, 1064, 1065, 1066, 1067, 1068, 1069, 1070, 1071, 1072, 1073, 1074, 1075] (by decide +kernel) (by decide +kernel)) (goodIn_sub (fun _ h => List.mem_append_left _ (List.mem_append_left _ (List.mem_append_left _ (List.mem_append_left _ (List.mem_append_left _ (List.mem_append_left _ (List.mem_append_right _ h))))))) (by decide +kernel))
set_option maxRecDepth 20000 in
theorem gL_law_X9_paidTotal : GoodIn wsL_law (wsV RL 283 RX9 yX9_paidTotal wsX9_paidTotal) := goodIn_app (goodIn_of _ (by decide +kernel)) ggL_law_X9_paidTotal
set_option maxRecDepth 20000 in
theorem ggL_law_L_worstHouse : GoodIn wsL_law wsL_worstHouse := goodIn_ca (goodIn_ca (goodIn_r _ [963, 298, 964, 965, 966, 2, 967, 303, 304, 25, 241, 875, 876, 877, 878, 879, 880, 17, 430, 329, 150, 330, 856, 857, 858, 16, 859, 56, 210, 203, 204, 205, 147, 1034, 1035, 1036, 1037, 1038, 1039, 1040, 1041, 1042, 1043, 1044, 1045, 1083, 1084, 1085, 1086, 1087, 1088, 1076, 1077, 1078, 1079] (by decide +kernel) (by decide +kernel)) (goodIn_sub (fun _ h => List.mem_append_left _ (List.mem_append_left _ (List.mem_append_left _ (List.mem_append_left _ (List.mem_append_left _ (List.mem_append_left _ (List.mem_append_right _ h))))))) (by decide +kernel))) (goodIn_sub (fun _ h => List.mem_append_left _ (List.mem_append_left _ (List.mem_append_right _ h))) (by decide +kernel))
set_option maxRecDepth 20000 in
theorem gL_law_L_worstHouse : GoodIn wsL_law (va_wsS RL 284 yL_worstHouse wsL_worstHouse) := goodIn_app (goodIn_of _ (by decide +kernel)) ggL_law_L_worstHouse
set_option maxRecDepth 20000 in
theorem ggL_law_X9_worstHouse : GoodIn wsL_law wsX9_worstHouse := goodIn_ca (goodIn_r _ [971, 251, 889, 890, 891, 5, 892, 117, 118, 109, 343, 329, 150, 330, 160, 161, 162, 163, 164, 1046, 1047, 1048, 1049, 1050, 1051, 1052, 1053, 1054, 1055, 1056, 1057, 1058, 1059, 1060, 1061, 1062, 1063, 1064, 1065, 1066, 1067, 1068, 1069, 1070, 1071, 1072, 1073, 1074, 1075] (by decide +kernel) (by decide +kernel)) (goodIn_sub (fun _ h => List.mem_append_left _ (List.mem_append_left _ (List.mem_append_left _ (List.mem_append_left _ (List.mem_append_left _ (List.mem_append_left _ (List.mem_append_right _ h))))))) (by decide +kernel))
set_option maxRecDepth 20000 in
theorem gL_law_X9_worstHouse : GoodIn wsL_law (wsV RL 286 RX9 yX9_worstHouse wsX9_worstHouse) := goodIn_app (goodIn_of _ (by decide +kernel)) ggL_law_X9_worstHouse
set_option maxRecDepth 20000 in
theorem ggL_law_L_meanSinking : GoodIn wsL_law wsL_meanSinking := goodIn_ca (goodIn_ca (goodIn_r _ [974, 367, 975, 976, 977, 2, 978, 372, 373, 33, 425, 17, 856, 857, 858, 16, 859, 56, 210, 203, 204, 205, 147, 1034, 1035, 1036, 1037, 1038, 1039, 1040, 1041, 1042, 1043, 1044, 1045, 1092, 1093, 1094, 1095, 1096, 1097, 1076, 1077, 1078, 1079] (by decide +kernel) (by decide +kernel)) (goodIn_sub (fun _ h => List.mem_append_left _ (List.mem_append_left _ (List.mem_append_left _ (List.mem_append_left _ (List.mem_append_left _ (List.mem_append_left _ (List.mem_append_right _ h))))))) (by decide +kernel))) (goodIn_sub (fun _ h => List.mem_append_left _ (List.mem_append_right _ h)) (by decide +kernel))
set_option maxRecDepth 20000 in
theorem gL_law_L_meanSinking : GoodIn wsL_law (va_wsS RL 287 yL_meanSinking wsL_meanSinking) := goodIn_app (goodIn_of _ (by decide +kernel)) ggL_law_L_meanSinking
set_option maxRecDepth 20000 in
theorem ggL_law_X9_meanSinking : GoodIn wsL_law wsX9_meanSinking := goodIn_ca (goodIn_r _ [982, 435, 109, 160, 161, 162, 5, 163, 164, 1046, 1047, 1048, 1049, 1050, 1051, 1052, 1053, 1054, 1055, 1056, 1057, 1058, 1059, 1060, 1061, 1062, 1063, 1064, 1065, 1066, 1067, 1068, 1069, 1070, 1071, 1072, 1073, 1074, 1075] (by decide +kernel) (by decide +kernel)) (goodIn_sub (fun _ h => List.mem_append_left _ (List.mem_append_left _ (List.mem_append_left _ (List.mem_append_left _ (List.mem_append_left _ (List.mem_append_left _ (List.mem_append_right _ h))))))) (by decide +kernel))
set_option maxRecDepth 20000 in
theorem gL_law_X9_meanSinking : GoodIn wsL_law (wsV RL 289 RX9 yX9_meanSinking wsX9_meanSinking) := goodIn_app (goodIn_of _ (by decide +kernel)) ggL_law_X9_meanSinking
set_option maxRecDepth 20000 in
theorem ggL_law_X8_isConsistent : GoodIn wsL_law wsX8_isConsistent := goodIn_ca (goodIn_r _ [986, 41, 33, 425, 686, 706, 742, 718, 760, 730, 486, 487, 488, 40, 489, 490, 491, 492, 493, 747, 635, 636, 637, 638, 503, 504, 505, 471, 472, 2, 473, 474, 475, 150, 476, 1034, 1035, 1036, 1037, 1038, 1039, 1040, 1041, 1042, 1043, 1044, 1045, 1092, 1093, 1094, 1095, 1096, 1097, 1104, 1105, 1106, 1107] (by decide +kernel) (by decide +kernel)) (goodIn_sub (fun _ h => List.mem_append_left _ (List.mem_append_left _ (List.mem_append_left _ (List.mem_append_left _ (List.mem_append_left _ (List.mem_append_left _ (List.mem_append_right _ h))))))) (by decide +kernel))
set_option maxRecDepth 20000 in
theorem gL_law_X8_isConsistent : GoodIn wsL_law (wsV RL 290 RX8 yX8_isConsistent wsX8_isConsistent) := goodIn_app (goodIn_of _ (by decide +kernel)) ggL_law_X8_isConsistent
set_option maxRecDepth 20000 in
theorem ggL_law_X9_isConsistent : GoodIn wsL_law wsX9_isConsistent := goodIn_r _ [990, 164, 1046, 1047, 1048, 1049, 1050, 1051, 1052, 1053, 1054, 1055, 1056, 1057, 1058, 1059, 1060, 1061, 1062, 1063, 1064, 1065, 1066, 1067, 1068, 1069, 1070, 1071, 1072, 1073, 1074, 1075] (by decide +kernel) (by decide +kernel)
set_option maxRecDepth 20000 in
theorem gL_law_X9_isConsistent : GoodIn wsL_law (wsV RL 294 RX9 yX9_isConsistent wsX9_isConsistent) := goodIn_app (goodIn_of _ (by decide +kernel)) ggL_law_X9_isConsistent
set_option maxRecDepth 20000 in
theorem ggL_law_L_writeRings : GoodIn wsL_law wsL_writeRings := goodIn_ca (goodIn_ca (goodIn_r _ [993, 191, 994, 995, 996, 2, 997, 33, 425, 904, 149, 150, 151, 45, 686, 706, 998, 687, 688, 689, 690, 200, 201, 999, 1000, 1001, 44, 1002, 1003, 1004, 1005, 1006, 1007, 100, 1008, 1009, 1010, 1011, 1012, 1034, 1035, 1036, 1037, 1038, 1039, 1040, 1041, 1042, 1043, 1044, 1045, 1092, 1093, 1094, 1095, 1096, 1097, 1108, 1109] (by decide +kernel) (by decide +kernel)) (goodIn_sub (fun _ h => List.mem_append_left _ (List.mem_append_left _ (List.mem_append_left _ (List.mem_append_left _ (List.mem_append_left _ (List.mem_append_left _ (List.mem_append_right _ h))))))) (by decide +kernel))) (goodIn_sub (fun _ h => List.mem_append_left _ (List.mem_append_left _ (List.mem_append_left _ (List.mem_append_right _ h)))) (by decide +kernel))
set_option maxRecDepth 20000 in
theorem gL_law_L_writeRings : GoodIn wsL_law (va_wsS RL 295 yL_writeRings wsL_writeRings) := goodIn_app (goodIn_of _ (by decide +kernel)) ggL_law_L_writeRings
set_option maxRecDepth 20000 in
theorem ggL_law_X9_writeRings : GoodIn wsL_law wsX9_writeRings := goodIn_ca (goodIn_r _ [1016, 1017, 435, 110, 111, 695, 696, 697, 5, 698, 157, 158, 159, 160, 161, 162, 163, 164, 1018, 1019, 1020, 1021, 122, 1046, 1047, 1048, 1049, 1050, 1051, 1052, 1053, 1054, 1055, 1056, 1057, 1058, 1059, 1060, 1061, 1062, 1063, 1064, 1065, 1066, 1067, 1068, 1069, 1070, 1071, 1072, 1073, 1074, 1075] (by decide +kernel) (by decide +kernel)) (goodIn_sub (fun _ h => List.mem_append_left _ (List.mem_append_left _ (List.mem_append_left _ (List.mem_append_left _ (List.mem_append_left _ (List.mem_append_left _ (List.mem_append_right _ h))))))) (by decide +kernel))
set_option maxRecDepth 20000 in
theorem gL_law_X9_writeRings : GoodIn wsL_law (wsV RL 297 RX9 yX9_writeRings wsX9_writeRings) := goodIn_app (goodIn_of _ (by decide +kernel)) ggL_law_X9_writeRings
set_option maxRecDepth 20000 in
theorem ggL_law_L_lineAt : GoodIn wsL_law wsL_lineAt := goodIn_ca (goodIn_ca (goodIn_r _ [1024, 191, 1025, 1026, 1027, 2, 1028, 200, 201, 45, 998, 1029, 1034, 1035, 1036, 1037, 1038, 1039, 1040, 1041, 1042, 1043, 1044, 1045, 1108, 1109] (by decide +kernel) (by decide +kernel)) (goodIn_sub (fun _ h => List.mem_append_left _ (List.mem_append_left _ (List.mem_append_left _ (List.mem_append_left _ (List.mem_append_left _ (List.mem_append_left _ (List.mem_append_right _ h))))))) (by decide +kernel))) (goodIn_sub (fun _ h => List.mem_append_left _ (List.mem_append_left _ (List.mem_append_left _ (List.mem_append_right _ h)))) (by decide +kernel))
set_option maxRecDepth 20000 in
theorem gL_law_L_lineAt : GoodIn wsL_law (va_wsS RL 298 yL_lineAt wsL_lineAt) := goodIn_app (goodIn_of _ (by decide +kernel)) ggL_law_L_lineAt
set_option maxRecDepth 20000 in
theorem ggL_law_X9_lineAt : GoodIn wsL_law wsX9_lineAt := goodIn_ca (goodIn_r _ [1033, 1017, 122, 157, 158, 5, 159, 160, 161, 162, 163, 164, 1046, 1047, 1048, 1049, 1050, 1051, 1052, 1053, 1054, 1055, 1056, 1057, 1058, 1059, 1060, 1061, 1062, 1063, 1064, 1065, 1066, 1067, 1068, 1069, 1070, 1071, 1072, 1073, 1074, 1075] (by decide +kernel) (by decide +kernel)) (goodIn_sub (fun _ h => List.mem_append_left _ (List.mem_append_left _ (List.mem_append_left _ (List.mem_append_left _ (List.mem_append_left _ (List.mem_append_left _ (List.mem_append_right _ h))))))) (by decide +kernel))
set_option maxRecDepth 20000 in
theorem gL_law_X9_lineAt : GoodIn wsL_law (wsV RL 300 RX9 yX9_lineAt wsX9_lineAt) := goodIn_app (goodIn_of _ (by decide +kernel)) ggL_law_X9_lineAt
theorem dL_law_0 : decode cL_law 0 = .ok (.new 8, 3) := by decide +kernel
theorem dL_law_3 : decode cL_law 3 = .ok (.dup, 1) := by decide +kernel
theorem dL_law_4 : decode cL_law 4 = .ok (.invokespecial 147, 3) := by decide +kernel
theorem dL_law_7 : decode cL_law 7 = .ok (.astore_n 1, 1) := by decide +kernel
theorem dL_law_8 : decode cL_law 8 = .ok (.new 148, 3) := by decide +kernel
theorem dL_law_11 : decode cL_law 11 = .ok (.dup, 1) := by decide +kernel
theorem dL_law_12 : decode cL_law 12 = .ok (.invokespecial 150, 3) := by decide +kernel
theorem dL_law_15 : decode cL_law 15 = .ok (.astore_n 2, 1) := by decide +kernel
theorem dL_law_16 : decode cL_law 16 = .ok (.iconst 1, 1) := by decide +kernel
theorem dL_law_17 : decode cL_law 17 = .ok (.newarray .long, 2) := by decide +kernel
theorem dL_law_19 : decode cL_law 19 = .ok (.astore_n 3, 1) := by decide +kernel
theorem dL_law_20 : decode cL_law 20 = .ok (.iconst 1, 1) := by decide +kernel
theorem dL_law_21 : decode cL_law 21 = .ok (.newarray .double, 2) := by decide +kernel
theorem dL_law_23 : decode cL_law 23 = .ok (.astore 4, 2) := by decide +kernel
theorem dL_law_25 : decode cL_law 25 = .ok (.iconst 0, 1) := by decide +kernel
theorem dL_law_26 : decode cL_law 26 = .ok (.istore 5, 2) := by decide +kernel
theorem dL_law_28 : decode cL_law 28 = .ok (.iload 5, 2) := by decide +kernel
theorem dL_law_30 : decode cL_law 30 = .ok (.aload_n 0, 1) := by decide +kernel
theorem dL_law_31 : decode cL_law 31 = .ok (.arraylength, 1) := by decide +kernel
theorem dL_law_32 : decode cL_law 32 = .ok (.iconst 5, 1) := by decide +kernel
theorem dL_law_33 : decode cL_law 33 = .ok (.isub, 1) := by decide +kernel
theorem dL_law_34 : decode cL_law 34 = .ok (.if_icmp .gt 2633, 3) := by decide +kernel
theorem dL_law_37 : decode cL_law 37 = .ok (.aload_n 0, 1) := by decide +kernel
theorem dL_law_38 : decode cL_law 38 = .ok (.iload 5, 2) := by decide +kernel
theorem dL_law_40 : decode cL_law 40 = .ok (.iaload, 1) := by decide +kernel
theorem dL_law_41 : decode cL_law 41 = .ok (.bipush 63, 2) := by decide +kernel
theorem dL_law_43 : decode cL_law 43 = .ok (.iand, 1) := by decide +kernel
theorem dL_law_44 : decode cL_law 44 = .ok (.tableswitch 2617 0 43 #[192, 272, 352, 408, 464, 556, 624, 680, 748, 804, 872, 938, 994, 1050, 1063, 1107, 1163, 1231, 1299, 1355, 1368, 1381, 1437, 1493, 1549, 1605, 1661, 1717, 1773, 1841, 1897, 1965, 2033, 2089, 2145, 2201, 2257, 2313, 2369, 2383, 2427, 2492, 2505, 2561], 192) := by decide +kernel
theorem dL_law_236 : decode cL_law 236 = .ok (.aload_n 1, 1) := by decide +kernel
theorem dL_law_237 : decode cL_law 237 = .ok (.aload_n 0, 1) := by decide +kernel
theorem dL_law_238 : decode cL_law 238 = .ok (.iload 5, 2) := by decide +kernel
theorem dL_law_240 : decode cL_law 240 = .ok (.iconst 1, 1) := by decide +kernel
theorem dL_law_241 : decode cL_law 241 = .ok (.iadd, 1) := by decide +kernel
theorem dL_law_242 : decode cL_law 242 = .ok (.iaload, 1) := by decide +kernel
theorem dL_law_243 : decode cL_law 243 = .ok (.aload_n 0, 1) := by decide +kernel
theorem dL_law_244 : decode cL_law 244 = .ok (.iload 5, 2) := by decide +kernel
theorem dL_law_246 : decode cL_law 246 = .ok (.iconst 2, 1) := by decide +kernel
theorem dL_law_247 : decode cL_law 247 = .ok (.iadd, 1) := by decide +kernel
theorem dL_law_248 : decode cL_law 248 = .ok (.iaload, 1) := by decide +kernel
theorem dL_law_249 : decode cL_law 249 = .ok (.aload_n 0, 1) := by decide +kernel
theorem dL_law_250 : decode cL_law 250 = .ok (.iload 5, 2) := by decide +kernel
theorem dL_law_252 : decode cL_law 252 = .ok (.iconst 3, 1) := by decide +kernel
theorem dL_law_253 : decode cL_law 253 = .ok (.iadd, 1) := by decide +kernel
theorem dL_law_254 : decode cL_law 254 = .ok (.iaload, 1) := by decide +kernel
theorem dL_law_255 : decode cL_law 255 = .ok (.aload_n 3, 1) := by decide +kernel
theorem dL_law_256 : decode cL_law 256 = .ok (.invokestatic 151, 3) := by decide +kernel
theorem dL_law_259 : decode cL_law 259 = .ok (.istore 6, 2) := by decide +kernel
theorem dL_law_261 : decode cL_law 261 = .ok (.aload_n 2, 1) := by decide +kernel
theorem dL_law_262 : decode cL_law 262 = .ok (.aload_n 0, 1) := by decide +kernel
theorem dL_law_263 : decode cL_law 263 = .ok (.iload 5, 2) := by decide +kernel
theorem dL_law_265 : decode cL_law 265 = .ok (.iconst 1, 1) := by decide +kernel
theorem dL_law_266 : decode cL_law 266 = .ok (.iadd, 1) := by decide +kernel
theorem dL_law_267 : decode cL_law 267 = .ok (.iaload, 1) := by decide +kernel
theorem dL_law_268 : decode cL_law 268 = .ok (.aload_n 0, 1) := by decide +kernel
theorem dL_law_269 : decode cL_law 269 = .ok (.iload 5, 2) := by decide +kernel
theorem dL_law_271 : decode cL_law 271 = .ok (.iconst 2, 1) := by decide +kernel
theorem dL_law_272 : decode cL_law 272 = .ok (.iadd, 1) := by decide +kernel
theorem dL_law_273 : decode cL_law 273 = .ok (.iaload, 1) := by decide +kernel
theorem dL_law_274 : decode cL_law 274 = .ok (.aload_n 0, 1) := by decide +kernel
theorem dL_law_275 : decode cL_law 275 = .ok (.iload 5, 2) := by decide +kernel
theorem dL_law_277 : decode cL_law 277 = .ok (.iconst 3, 1) := by decide +kernel
theorem dL_law_278 : decode cL_law 278 = .ok (.iadd, 1) := by decide +kernel
theorem dL_law_279 : decode cL_law 279 = .ok (.iaload, 1) := by decide +kernel
theorem dL_law_280 : decode cL_law 280 = .ok (.invokevirtual 156, 3) := by decide +kernel
theorem dL_law_283 : decode cL_law 283 = .ok (.istore 7, 2) := by decide +kernel
theorem dL_law_285 : decode cL_law 285 = .ok (.aload_n 2, 1) := by decide +kernel
theorem dL_law_286 : decode cL_law 286 = .ok (.invokevirtual 157, 3) := by decide +kernel
theorem dL_law_289 : decode cL_law 289 = .ok (.iload 6, 2) := by decide +kernel
theorem dL_law_291 : decode cL_law 291 = .ok (.if_icmp .eq 5, 3) := by decide +kernel
theorem dL_law_294 : decode cL_law 294 = .ok (.iconst 0, 1) := by decide +kernel
theorem dL_law_295 : decode cL_law 295 = .ok (.ireturn, 1) := by decide +kernel
theorem dL_law_296 : decode cL_law 296 = .ok (.iload 6, 2) := by decide +kernel
theorem dL_law_298 : decode cL_law 298 = .ok (.ifCond .ne 15, 3) := by decide +kernel
theorem dL_law_301 : decode cL_law 301 = .ok (.aload_n 3, 1) := by decide +kernel
theorem dL_law_302 : decode cL_law 302 = .ok (.iconst 0, 1) := by decide +kernel
theorem dL_law_303 : decode cL_law 303 = .ok (.laload, 1) := by decide +kernel
theorem dL_law_304 : decode cL_law 304 = .ok (.iload 7, 2) := by decide +kernel
theorem dL_law_306 : decode cL_law 306 = .ok (.i2l, 1) := by decide +kernel
theorem dL_law_307 : decode cL_law 307 = .ok (.lcmp, 1) := by decide +kernel
theorem dL_law_308 : decode cL_law 308 = .ok (.ifCond .eq 5, 3) := by decide +kernel
theorem dL_law_311 : decode cL_law 311 = .ok (.iconst 0, 1) := by decide +kernel
theorem dL_law_312 : decode cL_law 312 = .ok (.ireturn, 1) := by decide +kernel
theorem dL_law_313 : decode cL_law 313 = .ok (.goto 2348, 3) := by decide +kernel
theorem dL_law_316 : decode cL_law 316 = .ok (.aload_n 1, 1) := by decide +kernel
theorem dL_law_317 : decode cL_law 317 = .ok (.aload_n 0, 1) := by decide +kernel
theorem dL_law_318 : decode cL_law 318 = .ok (.iload 5, 2) := by decide +kernel
theorem dL_law_320 : decode cL_law 320 = .ok (.iconst 1, 1) := by decide +kernel
theorem dL_law_321 : decode cL_law 321 = .ok (.iadd, 1) := by decide +kernel
theorem dL_law_322 : decode cL_law 322 = .ok (.iaload, 1) := by decide +kernel
theorem dL_law_323 : decode cL_law 323 = .ok (.aload_n 0, 1) := by decide +kernel
theorem dL_law_324 : decode cL_law 324 = .ok (.iload 5, 2) := by decide +kernel
theorem dL_law_326 : decode cL_law 326 = .ok (.iconst 2, 1) := by decide +kernel
theorem dL_law_327 : decode cL_law 327 = .ok (.iadd, 1) := by decide +kernel
theorem dL_law_328 : decode cL_law 328 = .ok (.iaload, 1) := by decide +kernel
theorem dL_law_329 : decode cL_law 329 = .ok (.aload_n 0, 1) := by decide +kernel
theorem dL_law_330 : decode cL_law 330 = .ok (.iload 5, 2) := by decide +kernel
theorem dL_law_332 : decode cL_law 332 = .ok (.iconst 3, 1) := by decide +kernel
theorem dL_law_333 : decode cL_law 333 = .ok (.iadd, 1) := by decide +kernel
theorem dL_law_334 : decode cL_law 334 = .ok (.iaload, 1) := by decide +kernel
theorem dL_law_335 : decode cL_law 335 = .ok (.aload_n 3, 1) := by decide +kernel
theorem dL_law_336 : decode cL_law 336 = .ok (.invokestatic 160, 3) := by decide +kernel
theorem dL_law_339 : decode cL_law 339 = .ok (.istore 6, 2) := by decide +kernel
theorem dL_law_341 : decode cL_law 341 = .ok (.aload_n 2, 1) := by decide +kernel
theorem dL_law_342 : decode cL_law 342 = .ok (.aload_n 0, 1) := by decide +kernel
theorem dL_law_343 : decode cL_law 343 = .ok (.iload 5, 2) := by decide +kernel
theorem dL_law_345 : decode cL_law 345 = .ok (.iconst 1, 1) := by decide +kernel
theorem dL_law_346 : decode cL_law 346 = .ok (.iadd, 1) := by decide +kernel
theorem dL_law_347 : decode cL_law 347 = .ok (.iaload, 1) := by decide +kernel
theorem dL_law_348 : decode cL_law 348 = .ok (.aload_n 0, 1) := by decide +kernel
theorem dL_law_349 : decode cL_law 349 = .ok (.iload 5, 2) := by decide +kernel
theorem dL_law_351 : decode cL_law 351 = .ok (.iconst 2, 1) := by decide +kernel
theorem dL_law_352 : decode cL_law 352 = .ok (.iadd, 1) := by decide +kernel
theorem dL_law_353 : decode cL_law 353 = .ok (.iaload, 1) := by decide +kernel
theorem dL_law_354 : decode cL_law 354 = .ok (.aload_n 0, 1) := by decide +kernel
theorem dL_law_355 : decode cL_law 355 = .ok (.iload 5, 2) := by decide +kernel
theorem dL_law_357 : decode cL_law 357 = .ok (.iconst 3, 1) := by decide +kernel
theorem dL_law_358 : decode cL_law 358 = .ok (.iadd, 1) := by decide +kernel
theorem dL_law_359 : decode cL_law 359 = .ok (.iaload, 1) := by decide +kernel
theorem dL_law_360 : decode cL_law 360 = .ok (.invokevirtual 162, 3) := by decide +kernel
theorem dL_law_363 : decode cL_law 363 = .ok (.istore 7, 2) := by decide +kernel
theorem dL_law_365 : decode cL_law 365 = .ok (.aload_n 2, 1) := by decide +kernel
theorem dL_law_366 : decode cL_law 366 = .ok (.invokevirtual 157, 3) := by decide +kernel
theorem dL_law_369 : decode cL_law 369 = .ok (.iload 6, 2) := by decide +kernel
theorem dL_law_371 : decode cL_law 371 = .ok (.if_icmp .eq 5, 3) := by decide +kernel
theorem dL_law_374 : decode cL_law 374 = .ok (.iconst 0, 1) := by decide +kernel
theorem dL_law_375 : decode cL_law 375 = .ok (.ireturn, 1) := by decide +kernel
theorem dL_law_376 : decode cL_law 376 = .ok (.iload 6, 2) := by decide +kernel
theorem dL_law_378 : decode cL_law 378 = .ok (.ifCond .ne 15, 3) := by decide +kernel
theorem dL_law_381 : decode cL_law 381 = .ok (.aload_n 3, 1) := by decide +kernel
theorem dL_law_382 : decode cL_law 382 = .ok (.iconst 0, 1) := by decide +kernel
theorem dL_law_383 : decode cL_law 383 = .ok (.laload, 1) := by decide +kernel
theorem dL_law_384 : decode cL_law 384 = .ok (.iload 7, 2) := by decide +kernel
theorem dL_law_386 : decode cL_law 386 = .ok (.i2l, 1) := by decide +kernel
theorem dL_law_387 : decode cL_law 387 = .ok (.lcmp, 1) := by decide +kernel
theorem dL_law_388 : decode cL_law 388 = .ok (.ifCond .eq 5, 3) := by decide +kernel
theorem dL_law_391 : decode cL_law 391 = .ok (.iconst 0, 1) := by decide +kernel
theorem dL_law_392 : decode cL_law 392 = .ok (.ireturn, 1) := by decide +kernel
theorem dL_law_393 : decode cL_law 393 = .ok (.goto 2268, 3) := by decide +kernel
theorem dL_law_396 : decode cL_law 396 = .ok (.aload_n 1, 1) := by decide +kernel
theorem dL_law_397 : decode cL_law 397 = .ok (.aload_n 0, 1) := by decide +kernel
theorem dL_law_398 : decode cL_law 398 = .ok (.iload 5, 2) := by decide +kernel
theorem dL_law_400 : decode cL_law 400 = .ok (.iconst 1, 1) := by decide +kernel
theorem dL_law_401 : decode cL_law 401 = .ok (.iadd, 1) := by decide +kernel
theorem dL_law_402 : decode cL_law 402 = .ok (.iaload, 1) := by decide +kernel
theorem dL_law_403 : decode cL_law 403 = .ok (.aload_n 3, 1) := by decide +kernel
theorem dL_law_404 : decode cL_law 404 = .ok (.invokestatic 163, 3) := by decide +kernel
theorem dL_law_407 : decode cL_law 407 = .ok (.istore 6, 2) := by decide +kernel
theorem dL_law_409 : decode cL_law 409 = .ok (.aload_n 2, 1) := by decide +kernel
theorem dL_law_410 : decode cL_law 410 = .ok (.aload_n 0, 1) := by decide +kernel
theorem dL_law_411 : decode cL_law 411 = .ok (.iload 5, 2) := by decide +kernel
theorem dL_law_413 : decode cL_law 413 = .ok (.iconst 1, 1) := by decide +kernel
theorem dL_law_414 : decode cL_law 414 = .ok (.iadd, 1) := by decide +kernel
theorem dL_law_415 : decode cL_law 415 = .ok (.iaload, 1) := by decide +kernel
theorem dL_law_416 : decode cL_law 416 = .ok (.invokevirtual 166, 3) := by decide +kernel
theorem dL_law_419 : decode cL_law 419 = .ok (.istore 7, 2) := by decide +kernel
theorem dL_law_421 : decode cL_law 421 = .ok (.aload_n 2, 1) := by decide +kernel
theorem dL_law_422 : decode cL_law 422 = .ok (.invokevirtual 157, 3) := by decide +kernel
theorem dL_law_425 : decode cL_law 425 = .ok (.iload 6, 2) := by decide +kernel
theorem dL_law_427 : decode cL_law 427 = .ok (.if_icmp .eq 5, 3) := by decide +kernel
theorem dL_law_430 : decode cL_law 430 = .ok (.iconst 0, 1) := by decide +kernel
theorem dL_law_431 : decode cL_law 431 = .ok (.ireturn, 1) := by decide +kernel
theorem dL_law_432 : decode cL_law 432 = .ok (.iload 6, 2) := by decide +kernel
theorem dL_law_434 : decode cL_law 434 = .ok (.ifCond .ne 15, 3) := by decide +kernel
theorem dL_law_437 : decode cL_law 437 = .ok (.aload_n 3, 1) := by decide +kernel
theorem dL_law_438 : decode cL_law 438 = .ok (.iconst 0, 1) := by decide +kernel
theorem dL_law_439 : decode cL_law 439 = .ok (.laload, 1) := by decide +kernel
theorem dL_law_440 : decode cL_law 440 = .ok (.iload 7, 2) := by decide +kernel
theorem dL_law_442 : decode cL_law 442 = .ok (.i2l, 1) := by decide +kernel
theorem dL_law_443 : decode cL_law 443 = .ok (.lcmp, 1) := by decide +kernel
theorem dL_law_444 : decode cL_law 444 = .ok (.ifCond .eq 5, 3) := by decide +kernel
theorem dL_law_447 : decode cL_law 447 = .ok (.iconst 0, 1) := by decide +kernel
theorem dL_law_448 : decode cL_law 448 = .ok (.ireturn, 1) := by decide +kernel
theorem dL_law_449 : decode cL_law 449 = .ok (.goto 2212, 3) := by decide +kernel
theorem dL_law_452 : decode cL_law 452 = .ok (.aload_n 1, 1) := by decide +kernel
theorem dL_law_453 : decode cL_law 453 = .ok (.aload_n 0, 1) := by decide +kernel
theorem dL_law_454 : decode cL_law 454 = .ok (.iload 5, 2) := by decide +kernel
theorem dL_law_456 : decode cL_law 456 = .ok (.iconst 1, 1) := by decide +kernel
theorem dL_law_457 : decode cL_law 457 = .ok (.iadd, 1) := by decide +kernel
theorem dL_law_458 : decode cL_law 458 = .ok (.iaload, 1) := by decide +kernel
theorem dL_law_459 : decode cL_law 459 = .ok (.aload_n 3, 1) := by decide +kernel
theorem dL_law_460 : decode cL_law 460 = .ok (.invokestatic 167, 3) := by decide +kernel
theorem dL_law_463 : decode cL_law 463 = .ok (.istore 6, 2) := by decide +kernel
theorem dL_law_465 : decode cL_law 465 = .ok (.aload_n 2, 1) := by decide +kernel
theorem dL_law_466 : decode cL_law 466 = .ok (.aload_n 0, 1) := by decide +kernel
theorem dL_law_467 : decode cL_law 467 = .ok (.iload 5, 2) := by decide +kernel
theorem dL_law_469 : decode cL_law 469 = .ok (.iconst 1, 1) := by decide +kernel
theorem dL_law_470 : decode cL_law 470 = .ok (.iadd, 1) := by decide +kernel
theorem dL_law_471 : decode cL_law 471 = .ok (.iaload, 1) := by decide +kernel
theorem dL_law_472 : decode cL_law 472 = .ok (.invokevirtual 169, 3) := by decide +kernel
theorem dL_law_475 : decode cL_law 475 = .ok (.istore 7, 2) := by decide +kernel
theorem dL_law_477 : decode cL_law 477 = .ok (.aload_n 2, 1) := by decide +kernel
theorem dL_law_478 : decode cL_law 478 = .ok (.invokevirtual 157, 3) := by decide +kernel
theorem dL_law_481 : decode cL_law 481 = .ok (.iload 6, 2) := by decide +kernel
theorem dL_law_483 : decode cL_law 483 = .ok (.if_icmp .eq 5, 3) := by decide +kernel
theorem dL_law_486 : decode cL_law 486 = .ok (.iconst 0, 1) := by decide +kernel
theorem dL_law_487 : decode cL_law 487 = .ok (.ireturn, 1) := by decide +kernel
theorem dL_law_488 : decode cL_law 488 = .ok (.iload 6, 2) := by decide +kernel
theorem dL_law_490 : decode cL_law 490 = .ok (.ifCond .ne 15, 3) := by decide +kernel
theorem dL_law_493 : decode cL_law 493 = .ok (.aload_n 3, 1) := by decide +kernel
theorem dL_law_494 : decode cL_law 494 = .ok (.iconst 0, 1) := by decide +kernel
theorem dL_law_495 : decode cL_law 495 = .ok (.laload, 1) := by decide +kernel
theorem dL_law_496 : decode cL_law 496 = .ok (.iload 7, 2) := by decide +kernel
theorem dL_law_498 : decode cL_law 498 = .ok (.i2l, 1) := by decide +kernel
theorem dL_law_499 : decode cL_law 499 = .ok (.lcmp, 1) := by decide +kernel
theorem dL_law_500 : decode cL_law 500 = .ok (.ifCond .eq 5, 3) := by decide +kernel
theorem dL_law_503 : decode cL_law 503 = .ok (.iconst 0, 1) := by decide +kernel
theorem dL_law_504 : decode cL_law 504 = .ok (.ireturn, 1) := by decide +kernel
theorem dL_law_505 : decode cL_law 505 = .ok (.goto 2156, 3) := by decide +kernel
theorem dL_law_508 : decode cL_law 508 = .ok (.aload_n 1, 1) := by decide +kernel
theorem dL_law_509 : decode cL_law 509 = .ok (.aload_n 0, 1) := by decide +kernel
theorem dL_law_510 : decode cL_law 510 = .ok (.iload 5, 2) := by decide +kernel
theorem dL_law_512 : decode cL_law 512 = .ok (.iconst 1, 1) := by decide +kernel
theorem dL_law_513 : decode cL_law 513 = .ok (.iadd, 1) := by decide +kernel
theorem dL_law_514 : decode cL_law 514 = .ok (.iaload, 1) := by decide +kernel
theorem dL_law_515 : decode cL_law 515 = .ok (.aload_n 0, 1) := by decide +kernel
theorem dL_law_516 : decode cL_law 516 = .ok (.iload 5, 2) := by decide +kernel
theorem dL_law_518 : decode cL_law 518 = .ok (.iconst 2, 1) := by decide +kernel
theorem dL_law_519 : decode cL_law 519 = .ok (.iadd, 1) := by decide +kernel
theorem dL_law_520 : decode cL_law 520 = .ok (.iaload, 1) := by decide +kernel
theorem dL_law_521 : decode cL_law 521 = .ok (.aload_n 0, 1) := by decide +kernel
theorem dL_law_522 : decode cL_law 522 = .ok (.iload 5, 2) := by decide +kernel
theorem dL_law_524 : decode cL_law 524 = .ok (.iconst 3, 1) := by decide +kernel
theorem dL_law_525 : decode cL_law 525 = .ok (.iadd, 1) := by decide +kernel
theorem dL_law_526 : decode cL_law 526 = .ok (.iaload, 1) := by decide +kernel
theorem dL_law_527 : decode cL_law 527 = .ok (.aload_n 0, 1) := by decide +kernel
theorem dL_law_528 : decode cL_law 528 = .ok (.iload 5, 2) := by decide +kernel
theorem dL_law_530 : decode cL_law 530 = .ok (.iconst 4, 1) := by decide +kernel
theorem dL_law_531 : decode cL_law 531 = .ok (.iadd, 1) := by decide +kernel
