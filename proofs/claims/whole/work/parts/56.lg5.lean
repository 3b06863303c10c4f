set_option maxRecDepth 20000 in
theorem ggL_law_X11_taken : GoodIn wsL_law wsX11_taken := goodIn_r _ [881, 132, 882, 739, 740, 741, 5, 742, 189, 1036, 1037, 1101, 1102, 1103, 1104, 1105, 1106, 1107, 1108, 1109, 1110, 1111, 1112, 1113, 1114, 1115, 1116, 1117, 1118, 1119, 1120, 1121, 1122, 1123, 1124, 1125, 1126, 1127, 1128, 1129, 1130, 1131, 1132, 1133, 1134, 1135] (by decide +kernel) (by decide +kernel)
set_option maxRecDepth 20000 in
theorem gL_law_X11_taken : GoodIn wsL_law (wsV RL 196 RX11 yX11_taken wsX11_taken) := goodIn_app (goodIn_of _ (by decide +kernel)) ggL_law_X11_taken
set_option maxRecDepth 20000 in
theorem ggL_law_X9_isPlaying : GoodIn wsL_law wsX9_isPlaying := goodIn_r _ [886, 20, 526, 1032, 1033, 1034, 1035, 1045, 1046, 1047, 1048, 1049, 1050, 1051, 1052, 1053, 1054, 1055, 1056] (by decide +kernel) (by decide +kernel)
set_option maxRecDepth 20000 in
theorem gL_law_X9_isPlaying : GoodIn wsL_law (wsV RL 197 RX9 yX9_isPlaying wsX9_isPlaying) := goodIn_app (goodIn_of _ (by decide +kernel)) ggL_law_X9_isPlaying
set_option maxRecDepth 20000 in
theorem ggL_law_X11_isPlaying : GoodIn wsL_law wsX11_isPlaying := goodIn_r _ [890, 189, 132, 533, 1036, 1037, 1101, 1102, 1103, 1104, 1105, 1106, 1107, 1108, 1109, 1110, 1111, 1112, 1113, 1114, 1115, 1116, 1117, 1118, 1119, 1120, 1121, 1122, 1123, 1124, 1125, 1126, 1127, 1128, 1129, 1130, 1131, 1132, 1133, 1134, 1135] (by decide +kernel) (by decide +kernel)
set_option maxRecDepth 20000 in
theorem gL_law_X11_isPlaying : GoodIn wsL_law (wsV RL 201 RX11 yX11_isPlaying wsX11_isPlaying) := goodIn_app (goodIn_of _ (by decide +kernel)) ggL_law_X11_isPlaying
set_option maxRecDepth 20000 in
theorem ggL_law_X9_step : GoodIn wsL_law wsX9_step := goodIn_r _ [894, 20, 540, 541, 542, 19, 543, 544, 545, 1032, 1033, 1034, 1035, 1045, 1046, 1047, 1048, 1049, 1050, 1051, 1052, 1053, 1054, 1055, 1056] (by decide +kernel) (by decide +kernel)
set_option maxRecDepth 20000 in
theorem gL_law_X9_step : GoodIn wsL_law (wsV RL 202 RX9 yX9_step wsX9_step) := goodIn_app (goodIn_of _ (by decide +kernel)) ggL_law_X9_step
set_option maxRecDepth 20000 in
theorem ggL_law_X11_step : GoodIn wsL_law wsX11_step := goodIn_r _ [898, 550, 551, 552, 5, 553, 132, 533, 534, 739, 740, 741, 742, 189, 1036, 1037, 1101, 1102, 1103, 1104, 1105, 1106, 1107, 1108, 1109, 1110, 1111, 1112, 1113, 1114, 1115, 1116, 1117, 1118, 1119, 1120, 1121, 1122, 1123, 1124, 1125, 1126, 1127, 1128, 1129, 1130, 1131, 1132, 1133, 1134, 1135] (by decide +kernel) (by decide +kernel)
set_option maxRecDepth 20000 in
theorem gL_law_X11_step : GoodIn wsL_law (wsV RL 205 RX11 yX11_step wsX11_step) := goodIn_app (goodIn_of _ (by decide +kernel)) ggL_law_X11_step
set_option maxRecDepth 20000 in
theorem ggL_law_L_ofStep : GoodIn wsL_law wsL_ofStep := goodIn_ca (goodIn_ca (goodIn_r _ [901, 160, 161, 902, 903, 904, 2, 905, 16, 470, 167, 168, 169, 170, 171, 172, 173, 174, 175, 176, 906, 907, 908, 35, 909, 910, 472, 473, 474, 73, 475, 182, 183, 51, 184, 62, 911, 588, 589, 590, 74, 912, 592, 593, 594, 75, 1032, 1033, 1034, 1035, 1038, 1039, 1040, 1041, 1042, 1043, 1044, 1066, 1067, 1068, 1069, 1070, 1071, 1084] (by decide +kernel) (by decide +kernel)) (goodIn_sub (fun _ h => List.mem_append_left _ (List.mem_append_right _ h)) (by decide +kernel))) (goodIn_sub (fun _ h => List.mem_append_right _ h) (by decide +kernel))
set_option maxRecDepth 20000 in
theorem gL_law_L_ofStep : GoodIn wsL_law (va_wsS RL 206 yL_ofStep wsL_ofStep) := goodIn_app (goodIn_of _ (by decide +kernel)) ggL_law_L_ofStep
set_option maxRecDepth 20000 in
theorem ggL_law_X11_ofStep : GoodIn wsL_law wsX11_ofStep := goodIn_r _ [916, 189, 132, 485, 191, 192, 5, 193, 486, 487, 488, 194, 195, 196, 197, 1036, 1037, 1101, 1102, 1103, 1104, 1105, 1106, 1107, 1108, 1109, 1110, 1111, 1112, 1113, 1114, 1115, 1116, 1117, 1118, 1119, 1120, 1121, 1122, 1123, 1124, 1125, 1126, 1127, 1128, 1129, 1130, 1131, 1132, 1133, 1134, 1135] (by decide +kernel) (by decide +kernel)
set_option maxRecDepth 20000 in
theorem gL_law_X11_ofStep : GoodIn wsL_law (wsV RL 208 RX11 yX11_ofStep wsX11_ofStep) := goodIn_app (goodIn_of _ (by decide +kernel)) ggL_law_X11_ofStep
set_option maxRecDepth 20000 in
theorem ggL_law_L_inDelay : GoodIn wsL_law wsL_inDelay := goodIn_ca (goodIn_r _ [919, 160, 920, 921, 922, 2, 923, 20, 340, 341, 167, 168, 169, 170, 171, 924, 925, 926, 98, 927, 349, 112, 346, 656, 182, 183, 51, 184, 62, 1032, 1033, 1034, 1035, 1045, 1046, 1047, 1048, 1049, 1050, 1051, 1052, 1053, 1054, 1055, 1056, 1085, 1086, 1087, 1088, 1089, 1084] (by decide +kernel) (by decide +kernel)) (goodIn_sub (fun _ h => List.mem_append_left _ (List.mem_append_right _ h)) (by decide +kernel))
set_option maxRecDepth 20000 in
theorem gL_law_L_inDelay : GoodIn wsL_law (va_wsS RL 209 yL_inDelay wsL_inDelay) := goodIn_app (goodIn_of _ (by decide +kernel)) ggL_law_L_inDelay
set_option maxRecDepth 20000 in
theorem ggL_law_X11_inDelay : GoodIn wsL_law wsX11_inDelay := goodIn_r _ [931, 189, 132, 355, 358, 191, 192, 5, 193, 194, 195, 196, 197, 1036, 1037, 1101, 1102, 1103, 1104, 1105, 1106, 1107, 1108, 1109, 1110, 1111, 1112, 1113, 1114, 1115, 1116, 1117, 1118, 1119, 1120, 1121, 1122, 1123, 1124, 1125, 1126, 1127, 1128, 1129, 1130, 1131, 1132, 1133, 1134, 1135] (by decide +kernel) (by decide +kernel)
set_option maxRecDepth 20000 in
theorem gL_law_X11_inDelay : GoodIn wsL_law (wsV RL 211 RX11 yX11_inDelay wsX11_inDelay) := goodIn_app (goodIn_of _ (by decide +kernel)) ggL_law_X11_inDelay
