set_option maxRecDepth 20000 in
theorem ggL_law_X11_end : GoodIn wsL_law wsX11_end := goodIn_r _ [432, 189, 132, 433, 434, 435, 5, 436, 191, 192, 193, 194, 195, 196, 197, 437, 438, 439, 131, 440, 139, 1036, 1037, 1101, 1102, 1103, 1104, 1105, 1106, 1107, 1108, 1109, 1110, 1111, 1112, 1113, 1114, 1115, 1116, 1117, 1118, 1119, 1120, 1121, 1122, 1123, 1124, 1125, 1126, 1127, 1128, 1129, 1130, 1131, 1132, 1133, 1134, 1135] (by decide +kernel) (by decide +kernel)
set_option maxRecDepth 20000 in
theorem gL_law_X11_end : GoodIn wsL_law (wsV RL 130 RX11 yX11_end wsX11_end) := goodIn_app (goodIn_of _ (by decide +kernel)) ggL_law_X11_end
set_option maxRecDepth 20000 in
theorem ggL_law_X9_hush : GoodIn wsL_law wsX9_hush := goodIn_r _ [444, 20, 445, 446, 447, 19, 448, 370, 377, 378, 379, 380, 103, 104, 105, 106, 424, 449, 450, 451, 102, 452, 117, 385, 118, 1032, 1033, 1034, 1035, 1090, 1091, 1092, 1093, 1094, 1095, 1096, 1097, 1098, 1099, 1100, 1045, 1046, 1047, 1048, 1049, 1050, 1051, 1052, 1053, 1054, 1055, 1056] (by decide +kernel) (by decide +kernel)
set_option maxRecDepth 20000 in
theorem gL_law_X9_hush : GoodIn wsL_law (wsV RL 131 RX9 yX9_hush wsX9_hush) := goodIn_app (goodIn_of _ (by decide +kernel)) ggL_law_X9_hush
set_option maxRecDepth 20000 in
theorem ggL_law_X11_hush : GoodIn wsL_law wsX11_hush := goodIn_r _ [456, 189, 132, 433, 457, 458, 459, 460, 461, 131, 462, 139, 1036, 1037, 1101, 1102, 1103, 1104, 1105, 1106, 1107, 1108, 1109, 1110, 1111, 1112, 1113, 1114, 1115, 1116, 1117, 1118, 1119, 1120, 1121, 1122, 1123, 1124, 1125, 1126, 1127, 1128, 1129, 1130, 1131, 1132, 1133, 1134, 1135] (by decide +kernel) (by decide +kernel)
set_option maxRecDepth 20000 in
theorem gL_law_X11_hush : GoodIn wsL_law (wsV RL 134 RX11 yX11_hush wsX11_hush) := goodIn_app (goodIn_of _ (by decide +kernel)) ggL_law_X11_hush
set_option maxRecDepth 20000 in
theorem ggL_law_L_write : GoodIn wsL_law wsL_write := goodIn_ca (goodIn_ca (goodIn_r _ [465, 160, 161, 466, 467, 468, 2, 469, 16, 470, 167, 168, 169, 170, 171, 172, 173, 174, 175, 176, 471, 472, 473, 35, 474, 73, 475, 182, 183, 51, 184, 62, 476, 477, 478, 479, 74, 75, 480, 64, 65, 66, 1032, 1033, 1034, 1035, 1038, 1039, 1040, 1041, 1042, 1043, 1044, 1066, 1067, 1068, 1069, 1070, 1071, 1084] (by decide +kernel) (by decide +kernel)) (goodIn_sub (fun _ h => List.mem_append_left _ (List.mem_append_right _ h)) (by decide +kernel))) (goodIn_sub (fun _ h => List.mem_append_right _ h) (by decide +kernel))
set_option maxRecDepth 20000 in
theorem gL_law_L_write : GoodIn wsL_law (va_wsS RL 135 yL_write wsL_write) := goodIn_app (goodIn_of _ (by decide +kernel)) ggL_law_L_write
set_option maxRecDepth 20000 in
theorem ggL_law_X11_write : GoodIn wsL_law wsX11_write := goodIn_r _ [484, 189, 132, 485, 191, 192, 5, 193, 486, 487, 488, 194, 195, 196, 197, 1036, 1037, 1101, 1102, 1103, 1104, 1105, 1106, 1107, 1108, 1109, 1110, 1111, 1112, 1113, 1114, 1115, 1116, 1117, 1118, 1119, 1120, 1121, 1122, 1123, 1124, 1125, 1126, 1127, 1128, 1129, 1130, 1131, 1132, 1133, 1134, 1135] (by decide +kernel) (by decide +kernel)
set_option maxRecDepth 20000 in
theorem gL_law_X11_write : GoodIn wsL_law (wsV RL 137 RX11 yX11_write wsX11_write) := goodIn_app (goodIn_of _ (by decide +kernel)) ggL_law_X11_write
set_option maxRecDepth 20000 in
theorem ggL_law_L_setTrack : GoodIn wsL_law wsL_setTrack := goodIn_ca (goodIn_r _ [491, 160, 492, 493, 494, 2, 495, 16, 470, 496, 167, 168, 169, 170, 171, 497, 182, 183, 51, 184, 62, 498, 64, 65, 66, 1032, 1033, 1034, 1035, 1038, 1039, 1040, 1041, 1042, 1043, 1044, 1066, 1067, 1068, 1069, 1070, 1071, 1084] (by decide +kernel) (by decide +kernel)) (goodIn_sub (fun _ h => List.mem_append_left _ (List.mem_append_right _ h)) (by decide +kernel))
set_option maxRecDepth 20000 in
theorem gL_law_L_setTrack : GoodIn wsL_law (va_wsS RL 138 yL_setTrack wsL_setTrack) := goodIn_app (goodIn_of _ (by decide +kernel)) ggL_law_L_setTrack
set_option maxRecDepth 20000 in
theorem ggL_law_X11_setTrack : GoodIn wsL_law wsX11_setTrack := goodIn_r _ [502, 189, 132, 503, 191, 192, 5, 193, 267, 268, 269, 194, 195, 196, 197, 1036, 1037, 1101, 1102, 1103, 1104, 1105, 1106, 1107, 1108, 1109, 1110, 1111, 1112, 1113, 1114, 1115, 1116, 1117, 1118, 1119, 1120, 1121, 1122, 1123, 1124, 1125, 1126, 1127, 1128, 1129, 1130, 1131, 1132, 1133, 1134, 1135] (by decide +kernel) (by decide +kernel)
set_option maxRecDepth 20000 in
theorem gL_law_X11_setTrack : GoodIn wsL_law (wsV RL 140 RX11 yX11_setTrack wsX11_setTrack) := goodIn_app (goodIn_of _ (by decide +kernel)) ggL_law_X11_setTrack
set_option maxRecDepth 20000 in
theorem ggL_law_L_setTempo : GoodIn wsL_law wsL_setTempo := goodIn_ca (goodIn_r _ [506, 161, 507, 508, 509, 2, 510, 16, 470, 511, 512, 172, 173, 174, 175, 176, 1032, 1033, 1034, 1035, 1038, 1039, 1040, 1041, 1042, 1043, 1044, 1066, 1067, 1068, 1069, 1070, 1071] (by decide +kernel) (by decide +kernel)) (goodIn_sub (fun _ h => List.mem_append_right _ h) (by decide +kernel))
set_option maxRecDepth 20000 in
theorem gL_law_L_setTempo : GoodIn wsL_law (va_wsS RL 141 yL_setTempo wsL_setTempo) := goodIn_app (goodIn_of _ (by decide +kernel)) ggL_law_L_setTempo
set_option maxRecDepth 20000 in
theorem ggL_law_X11_setTempo : GoodIn wsL_law wsX11_setTempo := goodIn_r _ [516, 189, 132, 517, 518, 191, 192, 5, 193, 194, 195, 196, 197, 1036, 1037, 1101, 1102, 1103, 1104, 1105, 1106, 1107, 1108, 1109, 1110, 1111, 1112, 1113, 1114, 1115, 1116, 1117, 1118, 1119, 1120, 1121, 1122, 1123, 1124, 1125, 1126, 1127, 1128, 1129, 1130, 1131, 1132, 1133, 1134, 1135] (by decide +kernel) (by decide +kernel)
set_option maxRecDepth 20000 in
theorem gL_law_X11_setTempo : GoodIn wsL_law (wsV RL 143 RX11 yX11_setTempo wsX11_setTempo) := goodIn_app (goodIn_of _ (by decide +kernel)) ggL_law_X11_setTempo
set_option maxRecDepth 20000 in
theorem ggL_law_L_play : GoodIn wsL_law wsL_play := goodIn_ca (goodIn_r _ [521, 160, 522, 523, 524, 2, 525, 20, 526, 527, 528, 167, 168, 169, 170, 171, 1032, 1033, 1034, 1035, 1045, 1046, 1047, 1048, 1049, 1050, 1051, 1052, 1053, 1054, 1055, 1056] (by decide +kernel) (by decide +kernel)) (goodIn_sub (fun _ h => List.mem_append_left _ (List.mem_append_right _ h)) (by decide +kernel))
set_option maxRecDepth 20000 in
theorem gL_law_L_play : GoodIn wsL_law (va_wsS RL 144 yL_play wsL_play) := goodIn_app (goodIn_of _ (by decide +kernel)) ggL_law_L_play
set_option maxRecDepth 20000 in
theorem ggL_law_X11_play : GoodIn wsL_law wsX11_play := goodIn_r _ [532, 189, 132, 533, 534, 535, 486, 487, 5, 488, 191, 192, 193, 1036, 1037, 1101, 1102, 1103, 1104, 1105, 1106, 1107, 1108, 1109, 1110, 1111, 1112, 1113, 1114, 1115, 1116, 1117, 1118, 1119, 1120, 1121, 1122, 1123, 1124, 1125, 1126, 1127, 1128, 1129, 1130, 1131, 1132, 1133, 1134, 1135] (by decide +kernel) (by decide +kernel)
set_option maxRecDepth 20000 in
theorem gL_law_X11_play : GoodIn wsL_law (wsV RL 146 RX11 yX11_play wsX11_play) := goodIn_app (goodIn_of _ (by decide +kernel)) ggL_law_X11_play
set_option maxRecDepth 20000 in
theorem ggL_law_X9_stop : GoodIn wsL_law wsX9_stop := goodIn_r _ [539, 20, 526, 540, 541, 542, 19, 543, 544, 545, 1032, 1033, 1034, 1035, 1045, 1046, 1047, 1048, 1049, 1050, 1051, 1052, 1053, 1054, 1055, 1056] (by decide +kernel) (by decide +kernel)
set_option maxRecDepth 20000 in
theorem gL_law_X9_stop : GoodIn wsL_law (wsV RL 147 RX9 yX9_stop wsX9_stop) := goodIn_app (goodIn_of _ (by decide +kernel)) ggL_law_X9_stop
