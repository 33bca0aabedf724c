set_option maxRecDepth 20000 in
theorem ggL_law_X7_match_r1 : GoodIn wsL_law wsX7_match_r1 := goodIn_r _ [111, 200, 201, 202, 5, 203, 164, 165, 166, 448, 449, 450, 451, 320, 143, 125, 446, 447, 321, 322, 323, 324, 325, 326] (by decide +kernel) (by decide +kernel)
set_option maxRecDepth 20000 in
theorem ggL_law_X7_match_r2 : GoodIn wsL_law wsX7_match_r2 := goodIn_r _ [126, 127, 128, 129, 130, 134, 121, 122, 112, 327, 328, 329, 330, 123, 124, 331, 332, 333, 334, 335, 336, 337, 338, 113] (by decide +kernel) (by decide +kernel)
set_option maxRecDepth 20000 in
theorem ggL_law_X7_match_r3 : GoodIn wsL_law wsX7_match_r3 := goodIn_r _ [114, 115, 116, 339, 340, 341, 342, 131, 132, 133, 343, 344, 345, 346, 135, 136, 137, 347, 348, 349, 350, 351, 352, 353] (by decide +kernel) (by decide +kernel)
set_option maxRecDepth 20000 in
theorem ggL_law_X7_match_r4 : GoodIn wsL_law wsX7_match_r4 := goodIn_r _ [354, 355, 452, 453, 454, 455, 456, 457, 458, 459, 460, 119, 120, 461, 462, 463, 464, 465, 466, 467, 468, 118, 469, 470] (by decide +kernel) (by decide +kernel)
set_option maxRecDepth 20000 in
theorem ggL_law_X7_match_r5 : GoodIn wsL_law wsX7_match_r5 := goodIn_r _ [471, 472, 117] (by decide +kernel) (by decide +kernel)
set_option maxRecDepth 20000 in
theorem ggL_law_X7_match_tX7 : GoodIn wsL_law wsX70 := goodIn_r _ [648, 649, 650, 651, 652, 653, 654, 655, 656, 657, 658, 659, 660, 661, 662, 663, 664, 665, 666, 667, 668, 669, 670, 671, 672, 673, 674, 675, 676, 677, 678, 679, 680, 681, 682, 683, 684, 685, 686, 687, 688, 689] (by decide +kernel) (by decide +kernel)
theorem ggL_law_X7_match : GoodIn wsL_law wsX7_match := goodIn_app ggL_law_X7_match_c (goodIn_app (goodIn_app ggL_law_X7_match_r1 (goodIn_app ggL_law_X7_match_r2 (goodIn_app ggL_law_X7_match_r3 (goodIn_app ggL_law_X7_match_r4 ggL_law_X7_match_r5)))) ggL_law_X7_match_tX7)
set_option maxRecDepth 20000 in
theorem gL_law_X7_match : GoodIn wsL_law (wsV RL 68 RX7 yX7_match wsX7_match) := goodIn_app (goodIn_of _ (by decide +kernel)) ggL_law_X7_match
set_option maxRecDepth 20000 in
theorem ggL_law_X6_find_c : GoodIn wsL_law [Cond.code yX6_find cX6_find 6 (some .int)] := goodIn_r _ [492] (by decide +kernel) (by decide +kernel)
set_option maxRecDepth 20000 in
theorem ggL_law_X6_find_r1 : GoodIn wsL_law wsX6_find_r1 := goodIn_r _ [25, 24, 493, 39, 494, 408, 409, 410, 2, 411, 19, 20, 176, 177, 178, 18, 179, 51, 495, 496, 497, 23, 498, 62] (by decide +kernel) (by decide +kernel)
set_option maxRecDepth 20000 in
theorem ggL_law_X6_find_r2 : GoodIn wsL_law wsX6_find_r2 := goodIn_r _ [499, 500, 501, 502, 416, 417, 418, 419, 44, 45, 231, 232, 237, 238, 239, 42, 240, 82, 87, 84, 88, 241, 85, 242] (by decide +kernel) (by decide +kernel)
set_option maxRecDepth 20000 in
theorem ggL_law_X6_find_r3 : GoodIn wsL_law wsX6_find_r3 := goodIn_r _ [243, 244, 245, 81, 246, 97, 98, 99, 102, 247, 248, 249, 250, 94, 95, 96, 251, 252, 253, 254, 83, 255, 256, 257] (by decide +kernel) (by decide +kernel)
set_option maxRecDepth 20000 in
theorem ggL_law_X6_find_r4 : GoodIn wsL_law wsX6_find_r4 := goodIn_r _ [258, 259, 260, 261, 262, 263, 264, 265, 266, 193, 194, 195, 267, 268, 269, 270, 271, 272, 273, 274, 275, 276, 277, 278] (by decide +kernel) (by decide +kernel)
set_option maxRecDepth 20000 in
theorem ggL_law_X6_find_r5 : GoodIn wsL_law wsX6_find_r5 := goodIn_r _ [279, 280, 281, 282, 283, 284, 285, 286, 287, 288, 289, 290, 291, 292, 293, 294, 100, 101, 295, 296, 297, 298, 89, 90] (by decide +kernel) (by decide +kernel)
set_option maxRecDepth 20000 in
theorem ggL_law_X6_find_r6 : GoodIn wsL_law wsX6_find_r6 := goodIn_r _ [299, 300, 301, 302, 303, 304, 86, 305, 306, 307, 308, 103, 104, 105, 106, 309, 310, 311, 312, 313, 314, 315, 503, 504] (by decide +kernel) (by decide +kernel)
set_option maxRecDepth 20000 in
theorem ggL_law_X6_find_r7 : GoodIn wsL_law wsX6_find_r7 := goodIn_r _ [505, 506, 507, 508, 509, 510, 387, 388, 389, 390, 61, 63, 420, 421, 422, 423, 363, 424, 425, 426, 427, 428, 429, 430] (by decide +kernel) (by decide +kernel)
set_option maxRecDepth 20000 in
theorem ggL_law_X6_find_r8 : GoodIn wsL_law wsX6_find_r8 := goodIn_r _ [431, 432, 433, 434, 435, 436, 437, 438, 439, 440, 441, 511, 512, 513, 514, 515] (by decide +kernel) (by decide +kernel)
set_option maxRecDepth 20000 in
theorem ggL_law_X6_find_tX6 : GoodIn wsL_law wsX60 := goodIn_r _ [631, 632, 633, 634, 635, 636, 637, 638, 639, 640, 641, 642, 643, 644, 645, 646, 647] (by decide +kernel) (by decide +kernel)
set_option maxRecDepth 20000 in
theorem ggL_law_X6_find_tX0 : GoodIn wsL_law wsX00 := goodIn_r _ [690, 691, 692, 693, 694, 695] (by decide +kernel) (by decide +kernel)
set_option maxRecDepth 20000 in
theorem ggL_law_X6_find_tX3 : GoodIn wsL_law wsX30 := goodIn_r _ [696, 697, 698] (by decide +kernel) (by decide +kernel)
set_option maxRecDepth 20000 in
theorem ggL_law_X6_find_tX1 : GoodIn wsL_law wsX10 := goodIn_r _ [704, 705, 706, 707, 708, 709, 710, 711, 712] (by decide +kernel) (by decide +kernel)
