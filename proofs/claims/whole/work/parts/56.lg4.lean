set_option maxRecDepth 20000 in
theorem ggL_law_X11_loudness : GoodIn wsL_law wsX11_loudness := goodIn_r _ [803, 189, 132, 804, 805, 1036, 1037, 1101, 1102, 1103, 1104, 1105, 1106, 1107, 1108, 1109, 1110, 1111, 1112, 1113, 1114, 1115, 1116, 1117, 1118, 1119, 1120, 1121, 1122, 1123, 1124, 1125, 1126, 1127, 1128, 1129, 1130, 1131, 1132, 1133, 1134, 1135] (by decide +kernel) (by decide +kernel)
set_option maxRecDepth 20000 in
theorem gL_law_X11_loudness : GoodIn wsL_law (wsV RL 173 RX11 yX11_loudness wsX11_loudness) := goodIn_app (goodIn_of _ (by decide +kernel)) ggL_law_X11_loudness
set_option maxRecDepth 20000 in
theorem ggL_law_X9_clipped : GoodIn wsL_law wsX9_clipped := goodIn_r _ [809, 25, 810, 1032, 1033, 1034, 1035, 1057, 1058, 1059, 1060, 1061, 1062, 1063, 1064] (by decide +kernel) (by decide +kernel)
set_option maxRecDepth 20000 in
theorem gL_law_X9_clipped : GoodIn wsL_law (wsV RL 174 RX9 yX9_clipped wsX9_clipped) := goodIn_app (goodIn_of _ (by decide +kernel)) ggL_law_X9_clipped
set_option maxRecDepth 20000 in
theorem ggL_law_X11_clipped : GoodIn wsL_law wsX11_clipped := goodIn_r _ [814, 132, 815, 739, 740, 741, 5, 742, 189, 1036, 1037, 1101, 1102, 1103, 1104, 1105, 1106, 1107, 1108, 1109, 1110, 1111, 1112, 1113, 1114, 1115, 1116, 1117, 1118, 1119, 1120, 1121, 1122, 1123, 1124, 1125, 1126, 1127, 1128, 1129, 1130, 1131, 1132, 1133, 1134, 1135] (by decide +kernel) (by decide +kernel)
set_option maxRecDepth 20000 in
theorem gL_law_X11_clipped : GoodIn wsL_law (wsV RL 177 RX11 yX11_clipped wsX11_clipped) := goodIn_app (goodIn_of _ (by decide +kernel)) ggL_law_X11_clipped
set_option maxRecDepth 20000 in
theorem ggL_law_X9_crossings : GoodIn wsL_law wsX9_crossings := goodIn_r _ [819, 25, 820, 1032, 1033, 1034, 1035, 1057, 1058, 1059, 1060, 1061, 1062, 1063, 1064] (by decide +kernel) (by decide +kernel)
set_option maxRecDepth 20000 in
theorem gL_law_X9_crossings : GoodIn wsL_law (wsV RL 178 RX9 yX9_crossings wsX9_crossings) := goodIn_app (goodIn_of _ (by decide +kernel)) ggL_law_X9_crossings
set_option maxRecDepth 20000 in
theorem ggL_law_X11_crossings : GoodIn wsL_law wsX11_crossings := goodIn_r _ [824, 132, 825, 739, 740, 741, 5, 742, 189, 1036, 1037, 1101, 1102, 1103, 1104, 1105, 1106, 1107, 1108, 1109, 1110, 1111, 1112, 1113, 1114, 1115, 1116, 1117, 1118, 1119, 1120, 1121, 1122, 1123, 1124, 1125, 1126, 1127, 1128, 1129, 1130, 1131, 1132, 1133, 1134, 1135] (by decide +kernel) (by decide +kernel)
set_option maxRecDepth 20000 in
theorem gL_law_X11_crossings : GoodIn wsL_law (wsV RL 181 RX11 yX11_crossings wsX11_crossings) := goodIn_app (goodIn_of _ (by decide +kernel)) ggL_law_X11_crossings
set_option maxRecDepth 20000 in
theorem ggL_law_X9_reset : GoodIn wsL_law wsX9_reset := goodIn_r _ [829, 25, 830, 831, 832, 833, 24, 834, 677, 682, 678, 674, 676, 1032, 1033, 1034, 1035, 1057, 1058, 1059, 1060, 1061, 1062, 1063, 1064] (by decide +kernel) (by decide +kernel)
set_option maxRecDepth 20000 in
theorem gL_law_X9_reset : GoodIn wsL_law (wsV RL 182 RX9 yX9_reset wsX9_reset) := goodIn_app (goodIn_of _ (by decide +kernel)) ggL_law_X9_reset
set_option maxRecDepth 20000 in
theorem ggL_law_X11_reset : GoodIn wsL_law wsX11_reset := goodIn_r _ [838, 189, 132, 804, 791, 815, 825, 805, 1036, 1037, 1101, 1102, 1103, 1104, 1105, 1106, 1107, 1108, 1109, 1110, 1111, 1112, 1113, 1114, 1115, 1116, 1117, 1118, 1119, 1120, 1121, 1122, 1123, 1124, 1125, 1126, 1127, 1128, 1129, 1130, 1131, 1132, 1133, 1134, 1135] (by decide +kernel) (by decide +kernel)
set_option maxRecDepth 20000 in
theorem gL_law_X11_reset : GoodIn wsL_law (wsV RL 185 RX11 yX11_reset wsX11_reset) := goodIn_app (goodIn_of _ (by decide +kernel)) ggL_law_X11_reset
set_option maxRecDepth 20000 in
theorem ggL_law_L_ofVoice : GoodIn wsL_law wsL_ofVoice := goodIn_ca (goodIn_ca (goodIn_r _ [841, 160, 161, 842, 843, 844, 2, 845, 20, 167, 168, 169, 170, 171, 172, 173, 174, 175, 176, 424, 378, 379, 19, 380, 103, 104, 105, 106, 846, 847, 848, 102, 849, 117, 385, 395, 396, 397, 398, 399, 400, 401, 118, 1032, 1033, 1034, 1035, 1045, 1046, 1047, 1048, 1049, 1050, 1051, 1052, 1053, 1054, 1055, 1056, 1090, 1091, 1092, 1093, 1094, 1095, 1096, 1097, 1098, 1099, 1100] (by decide +kernel) (by decide +kernel)) (goodIn_sub (fun _ h => List.mem_append_left _ (List.mem_append_right _ h)) (by decide +kernel))) (goodIn_sub (fun _ h => List.mem_append_right _ h) (by decide +kernel))
set_option maxRecDepth 20000 in
theorem gL_law_L_ofVoice : GoodIn wsL_law (va_wsS RL 186 yL_ofVoice wsL_ofVoice) := goodIn_app (goodIn_of _ (by decide +kernel)) ggL_law_L_ofVoice
set_option maxRecDepth 20000 in
theorem ggL_law_X11_ofVoice : GoodIn wsL_law wsX11_ofVoice := goodIn_r _ [853, 189, 434, 435, 5, 436, 191, 192, 193, 194, 195, 196, 197, 854, 855, 856, 857, 132, 433, 457, 858, 859, 860, 861, 862, 863, 864, 458, 1036, 1037, 1101, 1102, 1103, 1104, 1105, 1106, 1107, 1108, 1109, 1110, 1111, 1112, 1113, 1114, 1115, 1116, 1117, 1118, 1119, 1120, 1121, 1122, 1123, 1124, 1125, 1126, 1127, 1128, 1129, 1130, 1131, 1132, 1133, 1134, 1135] (by decide +kernel) (by decide +kernel)
set_option maxRecDepth 20000 in
theorem gL_law_X11_ofVoice : GoodIn wsL_law (wsV RL 188 RX11 yX11_ofVoice wsX11_ofVoice) := goodIn_app (goodIn_of _ (by decide +kernel)) ggL_law_X11_ofVoice
set_option maxRecDepth 20000 in
theorem ggL_law_X9_sounding : GoodIn wsL_law wsX9_sounding := goodIn_r _ [868, 20, 445, 446, 447, 19, 448, 370, 377, 378, 379, 380, 103, 104, 105, 106, 1032, 1033, 1034, 1035, 1090, 1091, 1092, 1093, 1094, 1095, 1096, 1097, 1098, 1099, 1100, 1045, 1046, 1047, 1048, 1049, 1050, 1051, 1052, 1053, 1054, 1055, 1056] (by decide +kernel) (by decide +kernel)
set_option maxRecDepth 20000 in
theorem gL_law_X9_sounding : GoodIn wsL_law (wsV RL 189 RX9 yX9_sounding wsX9_sounding) := goodIn_app (goodIn_of _ (by decide +kernel)) ggL_law_X9_sounding
set_option maxRecDepth 20000 in
theorem ggL_law_X11_sounding : GoodIn wsL_law wsX11_sounding := goodIn_r _ [872, 132, 459, 460, 461, 131, 462, 139, 739, 740, 741, 5, 742, 189, 1036, 1037, 1101, 1102, 1103, 1104, 1105, 1106, 1107, 1108, 1109, 1110, 1111, 1112, 1113, 1114, 1115, 1116, 1117, 1118, 1119, 1120, 1121, 1122, 1123, 1124, 1125, 1126, 1127, 1128, 1129, 1130, 1131, 1132, 1133, 1134, 1135] (by decide +kernel) (by decide +kernel)
set_option maxRecDepth 20000 in
theorem gL_law_X11_sounding : GoodIn wsL_law (wsV RL 192 RX11 yX11_sounding wsX11_sounding) := goodIn_app (goodIn_of _ (by decide +kernel)) ggL_law_X11_sounding
set_option maxRecDepth 20000 in
theorem ggL_law_X9_taken : GoodIn wsL_law wsX9_taken := goodIn_r _ [876, 20, 877, 1032, 1033, 1034, 1035, 1045, 1046, 1047, 1048, 1049, 1050, 1051, 1052, 1053, 1054, 1055, 1056] (by decide +kernel) (by decide +kernel)
set_option maxRecDepth 20000 in
theorem gL_law_X9_taken : GoodIn wsL_law (wsV RL 193 RX9 yX9_taken wsX9_taken) := goodIn_app (goodIn_of _ (by decide +kernel)) ggL_law_X9_taken
