set_option maxRecDepth 20000 in
theorem ggL_law_X11_digest : GoodIn wsL_law wsX11_digest := goodIn_r _ [1029, 189, 1030, 132, 781, 1031, 771, 791, 815, 825, 882, 533, 485, 355, 358, 459, 460, 461, 131, 462, 139, 550, 551, 552, 5, 553, 534, 991, 413, 414, 415, 140, 149, 854, 855, 856, 857, 433, 457, 858, 859, 860, 861, 862, 863, 864, 458, 1036, 1037, 1101, 1102, 1103, 1104, 1105, 1106, 1107, 1108, 1109, 1110, 1111, 1112, 1113, 1114, 1115, 1116, 1117, 1118, 1119, 1120, 1121, 1122, 1123, 1124, 1125, 1126, 1127, 1128, 1129, 1130, 1131, 1132, 1133, 1134, 1135] (by decide +kernel) (by decide +kernel)
set_option maxRecDepth 20000 in
theorem gL_law_X11_digest : GoodIn wsL_law (wsV RL 226 RX11 yX11_digest wsX11_digest) := goodIn_app (goodIn_of _ (by decide +kernel)) ggL_law_X11_digest
