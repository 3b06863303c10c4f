set_option maxRecDepth 20000 in
theorem ggL_law_X9_nextVoice : GoodIn wsL_law wsX9_nextVoice := goodIn_r _ [985, 20, 986, 374, 375, 19, 376, 377, 378, 379, 380, 103, 104, 105, 106, 381, 382, 383, 102, 384, 117, 385, 386, 387, 388, 389, 390, 1032, 1033, 1034, 1035, 1045, 1046, 1047, 1048, 1049, 1050, 1051, 1052, 1053, 1054, 1055, 1056, 1090, 1091, 1092, 1093, 1094, 1095, 1096, 1097, 1098, 1099, 1100] (by decide +kernel) (by decide +kernel)
set_option maxRecDepth 20000 in
theorem gL_law_X9_nextVoice : GoodIn wsL_law (wsV RL 218 RX9 yX9_nextVoice wsX9_nextVoice) := goodIn_app (goodIn_of _ (by decide +kernel)) ggL_law_X9_nextVoice
set_option maxRecDepth 20000 in
theorem ggL_law_X11_nextVoice : GoodIn wsL_law wsX11_nextVoice := goodIn_r _ [990, 132, 991, 413, 414, 131, 415, 139, 140, 149, 739, 740, 741, 5, 742, 189, 1036, 1037, 1101, 1102, 1103, 1104, 1105, 1106, 1107, 1108, 1109, 1110, 1111, 1112, 1113, 1114, 1115, 1116, 1117, 1118, 1119, 1120, 1121, 1122, 1123, 1124, 1125, 1126, 1127, 1128, 1129, 1130, 1131, 1132, 1133, 1134, 1135] (by decide +kernel) (by decide +kernel)
set_option maxRecDepth 20000 in
theorem gL_law_X11_nextVoice : GoodIn wsL_law (wsV RL 221 RX11 yX11_nextVoice wsX11_nextVoice) := goodIn_app (goodIn_of _ (by decide +kernel)) ggL_law_X11_nextVoice
