set_option maxRecDepth 20000 in
theorem ggL_law_X9_heard : GoodIn wsL_law wsX9_heard := goodIn_ca (goodIn_r _ [356, 53, 177, 178, 22, 179, 180, 181, 357, 358, 359, 52, 360, 147, 361, 362, 363, 364, 365, 366, 216, 217, 79, 218, 86, 655, 656, 657, 658, 678, 679, 680, 681, 682, 683, 684, 685, 705] (by decide +kernel) (by decide +kernel)) (goodIn_sub (fun _ h => List.mem_append_right _ h) (by decide +kernel))
set_option maxRecDepth 20000 in
theorem gL_law_X9_heard : GoodIn wsL_law (wsV RL 85 RX9 yX9_heard wsX9_heard) := goodIn_app (goodIn_of _ (by decide +kernel)) ggL_law_X9_heard
set_option maxRecDepth 20000 in
theorem ggL_law_X9_peak : GoodIn wsL_law wsX9_peak := goodIn_r _ [370, 53, 371, 655, 656, 657, 658, 678, 679, 680, 681, 682, 683, 684, 685] (by decide +kernel) (by decide +kernel)
set_option maxRecDepth 20000 in
theorem gL_law_X9_peak : GoodIn wsL_law (wsV RL 90 RX9 yX9_peak wsX9_peak) := goodIn_app (goodIn_of _ (by decide +kernel)) ggL_law_X9_peak
set_option maxRecDepth 20000 in
theorem ggL_law_X9_loudness : GoodIn wsL_law wsX9_loudness := goodIn_r _ [614, 53, 615, 616, 617, 52, 618, 603, 604, 655, 656, 657, 658, 678, 679, 680, 681, 682, 683, 684, 685] (by decide +kernel) (by decide +kernel)
set_option maxRecDepth 20000 in
theorem gL_law_X9_loudness : GoodIn wsL_law (wsV RL 93 RX9 yX9_loudness wsX9_loudness) := goodIn_app (goodIn_of _ (by decide +kernel)) ggL_law_X9_loudness
set_option maxRecDepth 20000 in
theorem ggL_law_X9_clock : GoodIn wsL_law wsX9_clock := goodIn_r _ [347, 48, 348, 655, 656, 657, 658, 666, 667, 668, 669, 670, 671, 672, 673, 674, 675, 676, 677] (by decide +kernel) (by decide +kernel)
set_option maxRecDepth 20000 in
theorem gL_law_X9_clock : GoodIn wsL_law (wsV RL 97 RX9 yX9_clock wsX9_clock) := goodIn_app (goodIn_of _ (by decide +kernel)) ggL_law_X9_clock
set_option maxRecDepth 20000 in
theorem ggL_law_X9_nextVoice : GoodIn wsL_law wsX9_nextVoice := goodIn_r _ [406, 48, 407, 291, 292, 47, 293, 294, 295, 296, 297, 127, 128, 129, 130, 298, 299, 300, 126, 301, 141, 302, 303, 304, 305, 306, 307, 655, 656, 657, 658, 666, 667, 668, 669, 670, 671, 672, 673, 674, 675, 676, 677, 711, 712, 713, 714, 715, 716, 717, 718, 719, 720, 721] (by decide +kernel) (by decide +kernel)
set_option maxRecDepth 20000 in
theorem gL_law_X9_nextVoice : GoodIn wsL_law (wsV RL 100 RX9 yX9_nextVoice wsX9_nextVoice) := goodIn_app (goodIn_of _ (by decide +kernel)) ggL_law_X9_nextVoice
set_option maxRecDepth 20000 in
theorem ggL_law_X9_hush : GoodIn wsL_law wsX9_hush := goodIn_r _ [624, 48, 386, 387, 388, 47, 389, 287, 294, 295, 296, 297, 127, 128, 129, 130, 324, 625, 626, 627, 126, 628, 141, 302, 142, 655, 656, 657, 658, 711, 712, 713, 714, 715, 716, 717, 718, 719, 720, 721, 666, 667, 668, 669, 670, 671, 672, 673, 674, 675, 676, 677] (by decide +kernel) (by decide +kernel)
set_option maxRecDepth 20000 in
theorem gL_law_X9_hush : GoodIn wsL_law (wsV RL 103 RX9 yX9_hush wsX9_hush) := goodIn_app (goodIn_of _ (by decide +kernel)) ggL_law_X9_hush
set_option maxRecDepth 20000 in
theorem ggL_law_X9_run : GoodIn wsL_law wsX9_run := goodIn_ca (goodIn_r _ [632, 53, 48, 177, 178, 22, 179, 180, 181, 479, 480, 481, 47, 482, 337, 465, 123, 131, 483, 464, 484, 485, 486, 487, 294, 295, 296, 297, 127, 128, 129, 130, 488, 489, 490, 126, 491, 142, 492, 326, 327, 328, 141, 493, 494, 495, 496, 497, 338, 498, 499, 500, 501, 63, 502, 100, 503, 504, 234, 235, 236, 97, 237, 216, 217, 79, 218, 86, 505, 506, 434, 435, 436, 98, 507, 438, 439, 440, 99, 508, 284, 285, 286, 287, 288, 289, 290, 291, 292, 293, 298, 299, 300, 301, 302, 303, 304, 305, 306, 307, 308, 309, 310, 311, 312, 313, 314, 315, 316, 317, 318, 509, 510, 511, 512, 513, 514, 515, 183, 184, 43, 185, 69, 70, 71, 72, 516, 517, 518, 519, 520, 521, 522, 523, 524, 525, 526, 527, 528, 529, 530, 531, 532, 533, 534, 535, 536, 537, 538, 539, 540, 541, 542, 59, 543, 80, 215, 544, 545, 546, 547, 548, 549, 68, 550, 115, 551, 552, 553, 554, 363, 364, 365, 555, 556, 557, 558, 559, 560, 561, 562, 563, 564, 7, 565, 459, 10, 11, 566, 567, 568, 122, 569, 254, 136, 257, 256, 570, 255, 453, 571, 88, 89, 90, 572, 573, 574, 575, 576, 577, 578, 579, 580, 581, 582, 583, 596, 597, 598, 52, 599, 600, 601, 602, 603, 604, 605, 6, 8, 606, 607, 147, 361, 608, 655, 656, 657, 658, 666, 667, 668, 669, 670, 671, 672, 673, 674, 675, 676, 677, 659, 660, 661, 662, 663, 664, 665, 711, 712, 713, 714, 715, 716, 717, 718, 719, 720, 721, 687, 688, 689, 690, 691, 692, 705, 693, 694, 695, 696, 697, 698, 699, 700, 701, 702, 703, 704, 686, 706, 707, 708, 709, 710, 678, 679, 680, 681, 682, 683, 684, 685] (by decide +kernel) (by decide +kernel)) (goodIn_sub (fun _ h => List.mem_append_right _ h) (by decide +kernel))
set_option maxRecDepth 20000 in
theorem gL_law_X9_run : GoodIn wsL_law (wsV RL 106 RX9 yX9_run wsX9_run) := goodIn_app (goodIn_of _ (by decide +kernel)) ggL_law_X9_run
