set_option maxRecDepth 20000 in
theorem gL_law_X7_hold : GoodIn wsL_law (wsV RL 60 RX7 yX7_hold wsX7_hold) := goodIn_app (goodIn_of _ (by decide +kernel)) ggL_law_X7_hold
set_option maxRecDepth 20000 in
theorem ggL_law_X6_first : GoodIn wsL_law wsX6_first := goodIn_r _ [476, 36, 37, 631, 632, 633, 634, 635, 636, 637, 638, 639, 640, 641, 642, 643, 644, 645, 646, 647] (by decide +kernel) (by decide +kernel)
set_option maxRecDepth 20000 in
theorem gL_law_X6_first : GoodIn wsL_law (wsV RL 61 RX6 yX6_first wsX6_first) := goodIn_app (goodIn_of _ (by decide +kernel)) ggL_law_X6_first
set_option maxRecDepth 20000 in
theorem ggL_law_X7_first : GoodIn wsL_law wsX7_first := goodIn_r _ [480, 138, 139, 648, 649, 650, 651, 652, 653, 654, 655, 656, 657, 658, 659, 660, 661, 662, 663, 664, 665, 666, 667, 668, 669, 670, 671, 672, 673, 674, 675, 676, 677, 678, 679, 680, 681, 682, 683, 684, 685, 686, 687, 688, 689] (by decide +kernel) (by decide +kernel)
set_option maxRecDepth 20000 in
theorem gL_law_X7_first : GoodIn wsL_law (wsV RL 64 RX7 yX7_first wsX7_first) := goodIn_app (goodIn_of _ (by decide +kernel)) ggL_law_X7_first
set_option maxRecDepth 20000 in
theorem ggL_law_X6_match_c : GoodIn wsL_law [Cond.code yX6_match cX6_match 3 (some .int)] := goodIn_r _ [484] (by decide +kernel) (by decide +kernel)
set_option maxRecDepth 20000 in
theorem ggL_law_X6_match_r1 : GoodIn wsL_law wsX6_match_r1 := goodIn_r _ [19, 20, 148, 176, 177, 178, 18, 179, 51, 412, 413, 414, 2, 415, 39, 24, 34, 35, 416, 417, 418, 419, 44, 45] (by decide +kernel) (by decide +kernel)
set_option maxRecDepth 20000 in
theorem ggL_law_X6_match_r2 : GoodIn wsL_law wsX6_match_r2 := goodIn_r _ [231, 232, 237, 238, 239, 42, 240, 82, 87, 84, 88, 241, 85, 242, 243, 244, 245, 81, 246, 97, 98, 99, 102, 247] (by decide +kernel) (by decide +kernel)
set_option maxRecDepth 20000 in
theorem ggL_law_X6_match_r3 : GoodIn wsL_law wsX6_match_r3 := goodIn_r _ [248, 249, 250, 94, 95, 96, 251, 252, 253, 254, 83, 255, 256, 257, 258, 259, 260, 261, 262, 263, 264, 265, 266, 193] (by decide +kernel) (by decide +kernel)
set_option maxRecDepth 20000 in
theorem ggL_law_X6_match_r4 : GoodIn wsL_law wsX6_match_r4 := goodIn_r _ [194, 195, 267, 268, 269, 270, 271, 272, 273, 274, 275, 276, 277, 278, 279, 280, 281, 282, 283, 284, 285, 286, 287, 288] (by decide +kernel) (by decide +kernel)
set_option maxRecDepth 20000 in
theorem ggL_law_X6_match_r5 : GoodIn wsL_law wsX6_match_r5 := goodIn_r _ [289, 290, 291, 292, 293, 294, 100, 101, 295, 296, 297, 298, 89, 90, 299, 300, 301, 302, 303, 304, 86, 305, 306, 307] (by decide +kernel) (by decide +kernel)
set_option maxRecDepth 20000 in
theorem ggL_law_X6_match_r6 : GoodIn wsL_law wsX6_match_r6 := goodIn_r _ [308, 103, 104, 105, 106, 309, 310, 311, 312, 313, 314, 315, 420, 421, 422, 423, 363, 424, 425, 426, 427, 428, 429, 430] (by decide +kernel) (by decide +kernel)
set_option maxRecDepth 20000 in
theorem ggL_law_X6_match_r7 : GoodIn wsL_law wsX6_match_r7 := goodIn_r _ [23, 431, 432, 433, 434, 435, 436, 62, 63, 437, 438, 439, 440, 441] (by decide +kernel) (by decide +kernel)
set_option maxRecDepth 20000 in
theorem ggL_law_X6_match_tX6 : GoodIn wsL_law wsX60 := goodIn_r _ [631, 632, 633, 634, 635, 636, 637, 638, 639, 640, 641, 642, 643, 644, 645, 646, 647] (by decide +kernel) (by decide +kernel)
set_option maxRecDepth 20000 in
theorem ggL_law_X6_match_tX0 : GoodIn wsL_law wsX00 := goodIn_r _ [690, 691, 692, 693, 694, 695] (by decide +kernel) (by decide +kernel)
set_option maxRecDepth 20000 in
theorem ggL_law_X6_match_tX1 : GoodIn wsL_law wsX10 := goodIn_r _ [704, 705, 706, 707, 708, 709, 710, 711, 712] (by decide +kernel) (by decide +kernel)
set_option maxRecDepth 20000 in
theorem ggL_law_X6_match_tX5 : GoodIn wsL_law wsX50 := goodIn_r _ [713, 714, 715, 716, 717, 718, 719, 720, 721, 722, 723, 724, 725] (by decide +kernel) (by decide +kernel)
set_option maxRecDepth 20000 in
theorem ggL_law_X6_match_tX3 : GoodIn wsL_law wsX30 := goodIn_r _ [696, 697, 698] (by decide +kernel) (by decide +kernel)
theorem ggL_law_X6_match : GoodIn wsL_law wsX6_match := goodIn_app ggL_law_X6_match_c (goodIn_app (goodIn_app (goodIn_app (goodIn_app (goodIn_app (goodIn_app ggL_law_X6_match_r1 (goodIn_app ggL_law_X6_match_r2 (goodIn_app ggL_law_X6_match_r3 (goodIn_app ggL_law_X6_match_r4 (goodIn_app ggL_law_X6_match_r5 (goodIn_app ggL_law_X6_match_r6 ggL_law_X6_match_r7)))))) ggL_law_X6_match_tX6) ggL_law_X6_match_tX0) ggL_law_X6_match_tX1) ggL_law_X6_match_tX5) ggL_law_X6_match_tX3)
set_option maxRecDepth 20000 in
theorem gL_law_X6_match : GoodIn wsL_law (wsV RL 65 RX6 yX6_match wsX6_match) := goodIn_app (goodIn_of _ (by decide +kernel)) ggL_law_X6_match
set_option maxRecDepth 20000 in
theorem ggL_law_X7_match_c : GoodIn wsL_law [Cond.code yX7_match cX7_match 3 (some .int)] := goodIn_r _ [488] (by decide +kernel) (by decide +kernel)
