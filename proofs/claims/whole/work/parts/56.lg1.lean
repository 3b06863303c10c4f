set_option maxRecDepth 20000 in
theorem ggL_law_X11_setEnvelope : GoodIn wsL_law wsX11_setEnvelope := goodIn_r _ [293, 189, 61, 267, 268, 5, 269, 191, 192, 193, 194, 195, 196, 197, 270, 271, 272, 273, 132, 274, 275, 276, 277, 278, 1036, 1037, 1101, 1102, 1103, 1104, 1105, 1106, 1107, 1108, 1109, 1110, 1111, 1112, 1113, 1114, 1115, 1116, 1117, 1118, 1119, 1120, 1121, 1122, 1123, 1124, 1125, 1126, 1127, 1128, 1129, 1130, 1131, 1132, 1133, 1134, 1135] (by decide +kernel) (by decide +kernel)
set_option maxRecDepth 20000 in
theorem gL_law_X11_setEnvelope : GoodIn wsL_law (wsV RL 111 RX11 yX11_setEnvelope wsX11_setEnvelope) := goodIn_app (goodIn_of _ (by decide +kernel)) ggL_law_X11_setEnvelope
set_option maxRecDepth 20000 in
theorem ggL_law_L_setFilter : GoodIn wsL_law wsL_setFilter := goodIn_ca (goodIn_ca (goodIn_r _ [296, 160, 161, 297, 298, 299, 2, 300, 16, 301, 302, 167, 168, 169, 170, 171, 172, 173, 174, 175, 176, 259, 260, 261, 15, 262, 41, 42, 43, 44, 1032, 1033, 1034, 1035, 1072, 1073, 1074, 1075, 1076, 1077, 1078, 1079, 1080, 1081, 1082, 1083, 1038, 1039, 1040, 1041, 1042, 1043, 1044] (by decide +kernel) (by decide +kernel)) (goodIn_sub (fun _ h => List.mem_append_left _ (List.mem_append_right _ h)) (by decide +kernel))) (goodIn_sub (fun _ h => List.mem_append_right _ h) (by decide +kernel))
set_option maxRecDepth 20000 in
theorem gL_law_L_setFilter : GoodIn wsL_law (va_wsS RL 112 yL_setFilter wsL_setFilter) := goodIn_app (goodIn_of _ (by decide +kernel)) ggL_law_L_setFilter
set_option maxRecDepth 20000 in
theorem ggL_law_X11_setFilter : GoodIn wsL_law wsX11_setFilter := goodIn_r _ [306, 189, 61, 267, 268, 5, 269, 191, 192, 193, 194, 195, 196, 197, 270, 271, 272, 273, 132, 274, 275, 276, 277, 278, 1036, 1037, 1101, 1102, 1103, 1104, 1105, 1106, 1107, 1108, 1109, 1110, 1111, 1112, 1113, 1114, 1115, 1116, 1117, 1118, 1119, 1120, 1121, 1122, 1123, 1124, 1125, 1126, 1127, 1128, 1129, 1130, 1131, 1132, 1133, 1134, 1135] (by decide +kernel) (by decide +kernel)
set_option maxRecDepth 20000 in
theorem gL_law_X11_setFilter : GoodIn wsL_law (wsV RL 115 RX11 yX11_setFilter wsX11_setFilter) := goodIn_app (goodIn_of _ (by decide +kernel)) ggL_law_X11_setFilter
set_option maxRecDepth 20000 in
theorem ggL_law_L_setVibrato : GoodIn wsL_law wsL_setVibrato := goodIn_ca (goodIn_ca (goodIn_r _ [309, 160, 161, 310, 311, 312, 2, 313, 16, 314, 315, 167, 168, 169, 170, 171, 172, 173, 174, 175, 176, 259, 260, 261, 15, 262, 41, 42, 43, 44, 1032, 1033, 1034, 1035, 1072, 1073, 1074, 1075, 1076, 1077, 1078, 1079, 1080, 1081, 1082, 1083, 1038, 1039, 1040, 1041, 1042, 1043, 1044] (by decide +kernel) (by decide +kernel)) (goodIn_sub (fun _ h => List.mem_append_left _ (List.mem_append_right _ h)) (by decide +kernel))) (goodIn_sub (fun _ h => List.mem_append_right _ h) (by decide +kernel))
set_option maxRecDepth 20000 in
theorem gL_law_L_setVibrato : GoodIn wsL_law (va_wsS RL 116 yL_setVibrato wsL_setVibrato) := goodIn_app (goodIn_of _ (by decide +kernel)) ggL_law_L_setVibrato
set_option maxRecDepth 20000 in
theorem ggL_law_X11_setVibrato : GoodIn wsL_law wsX11_setVibrato := goodIn_r _ [319, 189, 61, 267, 268, 5, 269, 191, 192, 193, 194, 195, 196, 197, 270, 271, 272, 273, 132, 274, 275, 276, 277, 278, 1036, 1037, 1101, 1102, 1103, 1104, 1105, 1106, 1107, 1108, 1109, 1110, 1111, 1112, 1113, 1114, 1115, 1116, 1117, 1118, 1119, 1120, 1121, 1122, 1123, 1124, 1125, 1126, 1127, 1128, 1129, 1130, 1131, 1132, 1133, 1134, 1135] (by decide +kernel) (by decide +kernel)
set_option maxRecDepth 20000 in
theorem gL_law_X11_setVibrato : GoodIn wsL_law (wsV RL 118 RX11 yX11_setVibrato wsX11_setVibrato) := goodIn_app (goodIn_of _ (by decide +kernel)) ggL_law_X11_setVibrato
set_option maxRecDepth 20000 in
theorem ggL_law_L_setGain : GoodIn wsL_law wsL_setGain := goodIn_ca (goodIn_r _ [322, 161, 323, 324, 325, 2, 326, 16, 327, 172, 173, 174, 175, 176, 1032, 1033, 1034, 1035, 1038, 1039, 1040, 1041, 1042, 1043, 1044] (by decide +kernel) (by decide +kernel)) (goodIn_sub (fun _ h => List.mem_append_right _ h) (by decide +kernel))
set_option maxRecDepth 20000 in
theorem gL_law_L_setGain : GoodIn wsL_law (va_wsS RL 119 yL_setGain wsL_setGain) := goodIn_app (goodIn_of _ (by decide +kernel)) ggL_law_L_setGain
set_option maxRecDepth 20000 in
theorem ggL_law_X11_setGain : GoodIn wsL_law wsX11_setGain := goodIn_r _ [331, 189, 132, 332, 191, 192, 5, 193, 194, 195, 196, 197, 1036, 1037, 1101, 1102, 1103, 1104, 1105, 1106, 1107, 1108, 1109, 1110, 1111, 1112, 1113, 1114, 1115, 1116, 1117, 1118, 1119, 1120, 1121, 1122, 1123, 1124, 1125, 1126, 1127, 1128, 1129, 1130, 1131, 1132, 1133, 1134, 1135] (by decide +kernel) (by decide +kernel)
set_option maxRecDepth 20000 in
theorem gL_law_X11_setGain : GoodIn wsL_law (wsV RL 121 RX11 yX11_setGain wsX11_setGain) := goodIn_app (goodIn_of _ (by decide +kernel)) ggL_law_X11_setGain
set_option maxRecDepth 20000 in
theorem ggL_law_L_setDelay : GoodIn wsL_law wsL_setDelay := goodIn_ca (goodIn_r _ [335, 161, 336, 337, 338, 2, 339, 20, 340, 341, 172, 173, 174, 175, 176, 342, 343, 344, 98, 345, 346, 347, 348, 349, 112, 350, 79, 80, 51, 81, 62, 1032, 1033, 1034, 1035, 1045, 1046, 1047, 1048, 1049, 1050, 1051, 1052, 1053, 1054, 1055, 1056, 1085, 1086, 1087, 1088, 1089, 1084] (by decide +kernel) (by decide +kernel)) (goodIn_sub (fun _ h => List.mem_append_right _ h) (by decide +kernel))
set_option maxRecDepth 20000 in
theorem gL_law_L_setDelay : GoodIn wsL_law (va_wsS RL 122 yL_setDelay wsL_setDelay) := goodIn_app (goodIn_of _ (by decide +kernel)) ggL_law_L_setDelay
set_option maxRecDepth 20000 in
theorem ggL_law_X11_setDelay : GoodIn wsL_law wsX11_setDelay := goodIn_r _ [354, 189, 132, 355, 356, 357, 358, 191, 192, 5, 193, 194, 195, 196, 197, 1036, 1037, 1101, 1102, 1103, 1104, 1105, 1106, 1107, 1108, 1109, 1110, 1111, 1112, 1113, 1114, 1115, 1116, 1117, 1118, 1119, 1120, 1121, 1122, 1123, 1124, 1125, 1126, 1127, 1128, 1129, 1130, 1131, 1132, 1133, 1134, 1135] (by decide +kernel) (by decide +kernel)
set_option maxRecDepth 20000 in
theorem gL_law_X11_setDelay : GoodIn wsL_law (wsV RL 124 RX11 yX11_setDelay wsX11_setDelay) := goodIn_app (goodIn_of _ (by decide +kernel)) ggL_law_X11_setDelay
set_option maxRecDepth 20000 in
theorem ggL_law_L_begin : GoodIn wsL_law wsL_begin := goodIn_ca (goodIn_ca (goodIn_r _ [361, 160, 161, 362, 363, 364, 2, 365, 20, 167, 168, 169, 170, 171, 172, 173, 174, 175, 176, 366, 367, 368, 19, 369, 370, 371, 372, 373, 374, 375, 376, 377, 378, 379, 380, 103, 104, 105, 106, 381, 382, 383, 102, 384, 117, 385, 386, 387, 388, 389, 390, 391, 392, 393, 394, 395, 396, 397, 118, 398, 399, 400, 401, 1032, 1033, 1034, 1035, 1090, 1091, 1092, 1093, 1094, 1095, 1096, 1097, 1098, 1099, 1100, 1045, 1046, 1047, 1048, 1049, 1050, 1051, 1052, 1053, 1054, 1055, 1056] (by decide +kernel) (by decide +kernel)) (goodIn_sub (fun _ h => List.mem_append_left _ (List.mem_append_right _ h)) (by decide +kernel))) (goodIn_sub (fun _ h => List.mem_append_right _ h) (by decide +kernel))
set_option maxRecDepth 20000 in
theorem gL_law_L_begin : GoodIn wsL_law (va_wsS RL 125 yL_begin wsL_begin) := goodIn_app (goodIn_of _ (by decide +kernel)) ggL_law_L_begin
set_option maxRecDepth 20000 in
theorem ggL_law_X11_begin : GoodIn wsL_law wsX11_begin := goodIn_r _ [405, 189, 132, 267, 268, 5, 269, 191, 192, 193, 194, 195, 196, 197, 406, 407, 408, 131, 409, 410, 139, 141, 142, 143, 144, 145, 146, 147, 148, 149, 411, 412, 413, 414, 415, 140, 1036, 1037, 1101, 1102, 1103, 1104, 1105, 1106, 1107, 1108, 1109, 1110, 1111, 1112, 1113, 1114, 1115, 1116, 1117, 1118, 1119, 1120, 1121, 1122, 1123, 1124, 1125, 1126, 1127, 1128, 1129, 1130, 1131, 1132, 1133, 1134, 1135] (by decide +kernel) (by decide +kernel)
set_option maxRecDepth 20000 in
theorem gL_law_X11_begin : GoodIn wsL_law (wsV RL 127 RX11 yX11_begin wsX11_begin) := goodIn_app (goodIn_of _ (by decide +kernel)) ggL_law_X11_begin
set_option maxRecDepth 20000 in
theorem ggL_law_L_end : GoodIn wsL_law wsL_end := goodIn_ca (goodIn_r _ [418, 160, 419, 420, 421, 2, 422, 20, 423, 167, 168, 169, 170, 171, 424, 378, 379, 19, 380, 103, 104, 105, 106, 425, 426, 427, 102, 428, 117, 1032, 1033, 1034, 1035, 1090, 1091, 1092, 1093, 1094, 1095, 1096, 1097, 1098, 1099, 1100, 1045, 1046, 1047, 1048, 1049, 1050, 1051, 1052, 1053, 1054, 1055, 1056] (by decide +kernel) (by decide +kernel)) (goodIn_sub (fun _ h => List.mem_append_left _ (List.mem_append_right _ h)) (by decide +kernel))
set_option maxRecDepth 20000 in
theorem gL_law_L_end : GoodIn wsL_law (va_wsS RL 128 yL_end wsL_end) := goodIn_app (goodIn_of _ (by decide +kernel)) ggL_law_L_end
