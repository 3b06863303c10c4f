set_option maxRecDepth 20000 in
theorem gcL_law_X11_wouldPeak_1 : GoodIn wsL_law (.code yX11_wouldPeak cX11_wouldPeak 5 (some .int) :: wsX11_wouldPeak_r1) := goodIn_r _ [961, 189, 132, 962, 680, 59, 681, 738, 58, 60, 191, 192, 5, 193, 194, 195, 196, 197, 963, 964, 965, 131, 966, 967, 130] (by decide +kernel) (by decide +kernel)
set_option maxRecDepth 20000 in
theorem gcL_law_X11_wouldPeak_2 : GoodIn wsL_law wsX11_wouldPeak_r2 := goodIn_r _ [137, 138, 139, 140, 141, 142, 143, 144, 145, 146, 147, 148, 149, 151, 152, 153, 155, 411, 410, 150, 694, 698, 696, 154] (by decide +kernel) (by decide +kernel)
set_option maxRecDepth 20000 in
theorem gcL_law_X11_wouldPeak_3 : GoodIn wsL_law wsX11_wouldPeak_r3 := goodIn_r _ [715, 707, 710, 708, 709, 706, 968, 134, 135, 136, 11, 12, 61, 969, 970, 275, 276, 277, 278, 690, 691, 692, 693, 695] (by decide +kernel) (by decide +kernel)
set_option maxRecDepth 20000 in
theorem gcL_law_X11_wouldPeak_4 : GoodIn wsL_law wsX11_wouldPeak_r4 := goodIn_r _ [697, 699, 700, 701, 702, 703, 704, 705, 711, 712, 713, 714, 716, 438, 439, 440, 717, 407, 408, 409, 412, 413, 414, 415] (by decide +kernel) (by decide +kernel)
set_option maxRecDepth 20000 in
theorem gcL_law_X11_wouldPeak_5 : GoodIn wsL_law wsX11_wouldPeak_r5 := goodIn_r _ [718, 719, 720, 721, 722, 723, 724, 725, 726, 727, 728, 648, 649, 729, 730, 731, 732, 733, 223, 224, 225, 226, 227, 228] (by decide +kernel) (by decide +kernel)
set_option maxRecDepth 20000 in
theorem gcL_law_X11_wouldPeak_6 : GoodIn wsL_law wsX11_wouldPeak_r6 := goodIn_r _ [229, 734, 246, 247, 735, 736, 737] (by decide +kernel) (by decide +kernel)
set_option maxRecDepth 20000 in
theorem ggL_law_X11_wouldPeak : GoodIn wsL_law wsX11_wouldPeak := goodIn_ca (goodIn_ca (goodIn_ca gcL_law_X11_wouldPeak_1 (goodIn_app gcL_law_X11_wouldPeak_2 (goodIn_app gcL_law_X11_wouldPeak_3 (goodIn_app gcL_law_X11_wouldPeak_4 (goodIn_app gcL_law_X11_wouldPeak_5 gcL_law_X11_wouldPeak_6))))) (goodIn_sub inlX11 (by decide +kernel))) (goodIn_sub inlX10 (by decide +kernel))
set_option maxRecDepth 20000 in
theorem gL_law_X11_wouldPeak : GoodIn wsL_law (wsV RL 214 RX11 yX11_wouldPeak wsX11_wouldPeak) := goodIn_app (goodIn_of _ (by decide +kernel)) ggL_law_X11_wouldPeak
