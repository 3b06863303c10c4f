set_option maxRecDepth 20000 in
theorem ggL_law_X9_init : GoodIn wsL_law wsX9_init := goodIn_r _ [9, 10, 11, 12, 13, 14, 15, 16, 17, 18, 19, 20, 21, 22, 23, 24, 25, 26, 27, 28, 29, 30, 31, 32, 33, 34, 35, 36, 37, 38, 39, 40, 41, 42, 43, 44, 45, 46, 47, 48, 49, 50, 51, 52, 53, 54, 55, 56, 57, 58, 59, 60, 61, 62, 63, 64, 65, 66, 67, 68, 69, 70, 71, 72, 73, 74, 75, 76, 77, 78, 79, 80, 81, 82, 83, 84, 85, 86, 87, 88, 89, 90, 91, 92, 93, 94, 95, 96, 97, 98, 99, 100, 101, 102, 103, 104, 105, 106, 107, 108, 109, 110, 111, 112, 113, 114, 115, 116, 117, 118, 119, 120, 121, 122, 123, 124, 1038, 1039, 1040, 1041, 1042, 1043, 1044, 1032, 1033, 1034, 1035, 1045, 1046, 1047, 1048, 1049, 1050, 1051, 1052, 1053, 1054, 1055, 1056, 1057, 1058, 1059, 1060, 1061, 1062, 1063, 1064, 1065, 1066, 1067, 1068, 1069, 1070, 1071, 1072, 1073, 1074, 1075, 1076, 1077, 1078, 1079, 1080, 1081, 1082, 1083, 1084, 1085, 1086, 1087, 1088, 1089, 1090, 1091, 1092, 1093, 1094, 1095, 1096, 1097, 1098, 1099, 1100] (by decide +kernel) (by decide +kernel)
set_option maxRecDepth 20000 in
theorem gL_law_X9_init : GoodIn wsL_law (wsX9_init) := ggL_law_X9_init
set_option maxRecDepth 20000 in
theorem ggL_law_X11_init : GoodIn wsL_law wsX11_init := goodIn_r _ [127, 128, 11, 12, 129, 130, 131, 132, 133, 134, 135, 136, 61, 137, 138, 139, 140, 141, 142, 143, 144, 145, 146, 147, 148, 149, 150, 151, 152, 153, 154, 155, 1101, 1102, 1103, 1104, 1105, 1106, 1107, 1108, 1109, 1110, 1111, 1112, 1113, 1114, 1115, 1116, 1117, 1118, 1119, 1120, 1121, 1122, 1123, 1124, 1125, 1126, 1127, 1128, 1129, 1130, 1131, 1132, 1133, 1134, 1135, 1036, 1037] (by decide +kernel) (by decide +kernel)
set_option maxRecDepth 20000 in
theorem gL_law_X11_init : GoodIn wsL_law (wsX11_init) := ggL_law_X11_init
set_option maxRecDepth 20000 in
theorem ggL_law_L_draw : GoodIn wsL_law wsL_draw := goodIn_ca (goodIn_ca (goodIn_r _ [159, 160, 161, 162, 163, 164, 2, 165, 16, 166, 167, 168, 169, 170, 171, 172, 173, 174, 175, 176, 177, 178, 179, 31, 180, 52, 181, 182, 183, 51, 184, 62, 63, 64, 65, 66, 1032, 1033, 1034, 1035, 1038, 1039, 1040, 1041, 1042, 1043, 1044, 1065, 1084] (by decide +kernel) (by decide +kernel)) (goodIn_sub (fun _ h => List.mem_append_left _ (List.mem_append_right _ h)) (by decide +kernel))) (goodIn_sub (fun _ h => List.mem_append_right _ h) (by decide +kernel))
set_option maxRecDepth 20000 in
theorem gL_law_L_draw : GoodIn wsL_law (va_wsS RL 88 yL_draw wsL_draw) := goodIn_app (goodIn_of _ (by decide +kernel)) ggL_law_L_draw
set_option maxRecDepth 20000 in
theorem ggL_law_X11_draw : GoodIn wsL_law wsX11_draw := goodIn_r _ [188, 189, 132, 190, 191, 192, 5, 193, 194, 195, 196, 197, 1036, 1037, 1101, 1102, 1103, 1104, 1105, 1106, 1107, 1108, 1109, 1110, 1111, 1112, 1113, 1114, 1115, 1116, 1117, 1118, 1119, 1120, 1121, 1122, 1123, 1124, 1125, 1126, 1127, 1128, 1129, 1130, 1131, 1132, 1133, 1134, 1135] (by decide +kernel) (by decide +kernel)
set_option maxRecDepth 20000 in
theorem gL_law_X11_draw : GoodIn wsL_law (wsV RL 93 RX11 yX11_draw wsX11_draw) := goodIn_app (goodIn_of _ (by decide +kernel)) ggL_law_X11_draw
set_option maxRecDepth 20000 in
theorem ggL_law_X11_thrown : GoodIn wsL_law wsX11_thrown := goodIn_r _ [201, 189, 1036, 1037] (by decide +kernel) (by decide +kernel)
set_option maxRecDepth 20000 in
theorem gL_law_X11_thrown : GoodIn wsL_law (wsV RL 94 RX11 yX11_thrown wsX11_thrown) := goodIn_app (goodIn_of _ (by decide +kernel)) ggL_law_X11_thrown
set_option maxRecDepth 20000 in
theorem ggL_law_L_wave : GoodIn wsL_law wsL_wave := goodIn_ca (goodIn_ca (goodIn_r _ [204, 160, 161, 205, 206, 207, 2, 208, 209, 16, 166, 167, 168, 169, 170, 171, 172, 173, 174, 175, 176, 210, 211, 212, 31, 213, 52, 181, 182, 183, 51, 184, 62, 1032, 1033, 1034, 1035, 1038, 1039, 1040, 1041, 1042, 1043, 1044, 1065, 1084] (by decide +kernel) (by decide +kernel)) (goodIn_sub (fun _ h => List.mem_append_left _ (List.mem_append_right _ h)) (by decide +kernel))) (goodIn_sub (fun _ h => List.mem_append_right _ h) (by decide +kernel))
set_option maxRecDepth 20000 in
theorem gL_law_L_wave : GoodIn wsL_law (va_wsS RL 98 yL_wave wsL_wave) := goodIn_app (goodIn_of _ (by decide +kernel)) ggL_law_L_wave
set_option maxRecDepth 20000 in
theorem ggL_law_X11_wave : GoodIn wsL_law wsX11_wave := goodIn_r _ [217, 189, 218, 132, 219, 220, 5, 221, 191, 192, 193, 194, 195, 196, 197, 222, 223, 224, 131, 225, 226, 227, 228, 229, 137, 1036, 1037, 1101, 1102, 1103, 1104, 1105, 1106, 1107, 1108, 1109, 1110, 1111, 1112, 1113, 1114, 1115, 1116, 1117, 1118, 1119, 1120, 1121, 1122, 1123, 1124, 1125, 1126, 1127, 1128, 1129, 1130, 1131, 1132, 1133, 1134, 1135] (by decide +kernel) (by decide +kernel)
set_option maxRecDepth 20000 in
theorem gL_law_X11_wave : GoodIn wsL_law (wsV RL 100 RX11 yX11_wave wsX11_wave) := goodIn_app (goodIn_of _ (by decide +kernel)) ggL_law_X11_wave
set_option maxRecDepth 20000 in
theorem ggL_law_L_stride : GoodIn wsL_law wsL_stride := goodIn_ca (goodIn_r _ [232, 161, 233, 234, 235, 2, 236, 172, 173, 174, 175, 176, 237, 238, 239, 240] (by decide +kernel) (by decide +kernel)) (goodIn_sub (fun _ h => List.mem_append_right _ h) (by decide +kernel))
set_option maxRecDepth 20000 in
theorem gL_law_L_stride : GoodIn wsL_law (va_wsS RL 101 yL_stride wsL_stride) := goodIn_app (goodIn_of _ (by decide +kernel)) ggL_law_L_stride
set_option maxRecDepth 20000 in
theorem ggL_law_X11_stride : GoodIn wsL_law wsX11_stride := goodIn_r _ [244, 189, 191, 192, 5, 193, 245, 246, 131, 247, 61, 194, 195, 196, 197, 1036, 1037] (by decide +kernel) (by decide +kernel)
set_option maxRecDepth 20000 in
theorem gL_law_X11_stride : GoodIn wsL_law (wsV RL 104 RX11 yX11_stride wsX11_stride) := goodIn_app (goodIn_of _ (by decide +kernel)) ggL_law_X11_stride
set_option maxRecDepth 20000 in
theorem ggL_law_L_setWaves : GoodIn wsL_law wsL_setWaves := goodIn_ca (goodIn_ca (goodIn_r _ [250, 160, 161, 251, 252, 253, 2, 254, 16, 255, 256, 257, 258, 167, 168, 169, 170, 171, 172, 173, 174, 175, 176, 259, 260, 261, 15, 262, 41, 42, 43, 44, 1032, 1033, 1034, 1035, 1072, 1073, 1074, 1075, 1076, 1077, 1078, 1079, 1080, 1081, 1082, 1083, 1038, 1039, 1040, 1041, 1042, 1043, 1044] (by decide +kernel) (by decide +kernel)) (goodIn_sub (fun _ h => List.mem_append_left _ (List.mem_append_right _ h)) (by decide +kernel))) (goodIn_sub (fun _ h => List.mem_append_right _ h) (by decide +kernel))
set_option maxRecDepth 20000 in
theorem gL_law_L_setWaves : GoodIn wsL_law (va_wsS RL 105 yL_setWaves wsL_setWaves) := goodIn_app (goodIn_of _ (by decide +kernel)) ggL_law_L_setWaves
set_option maxRecDepth 20000 in
theorem ggL_law_X11_setWaves : GoodIn wsL_law wsX11_setWaves := goodIn_r _ [266, 189, 61, 267, 268, 5, 269, 191, 192, 193, 219, 220, 221, 194, 195, 196, 197, 270, 271, 272, 273, 132, 274, 275, 276, 277, 278, 1036, 1037, 1101, 1102, 1103, 1104, 1105, 1106, 1107, 1108, 1109, 1110, 1111, 1112, 1113, 1114, 1115, 1116, 1117, 1118, 1119, 1120, 1121, 1122, 1123, 1124, 1125, 1126, 1127, 1128, 1129, 1130, 1131, 1132, 1133, 1134, 1135] (by decide +kernel) (by decide +kernel)
set_option maxRecDepth 20000 in
theorem gL_law_X11_setWaves : GoodIn wsL_law (wsV RL 108 RX11 yX11_setWaves wsX11_setWaves) := goodIn_app (goodIn_of _ (by decide +kernel)) ggL_law_X11_setWaves
set_option maxRecDepth 20000 in
theorem ggL_law_L_setEnvelope : GoodIn wsL_law wsL_setEnvelope := goodIn_ca (goodIn_ca (goodIn_r _ [281, 160, 161, 282, 283, 284, 2, 285, 16, 286, 287, 288, 289, 167, 168, 169, 170, 171, 172, 173, 174, 175, 176, 259, 260, 261, 15, 262, 41, 42, 43, 44, 1032, 1033, 1034, 1035, 1072, 1073, 1074, 1075, 1076, 1077, 1078, 1079, 1080, 1081, 1082, 1083, 1038, 1039, 1040, 1041, 1042, 1043, 1044] (by decide +kernel) (by decide +kernel)) (goodIn_sub (fun _ h => List.mem_append_left _ (List.mem_append_right _ h)) (by decide +kernel))) (goodIn_sub (fun _ h => List.mem_append_right _ h) (by decide +kernel))
set_option maxRecDepth 20000 in
theorem gL_law_L_setEnvelope : GoodIn wsL_law (va_wsS RL 109 yL_setEnvelope wsL_setEnvelope) := goodIn_app (goodIn_of _ (by decide +kernel)) ggL_law_L_setEnvelope
