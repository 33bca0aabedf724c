set_option maxRecDepth 20000 in
theorem ggL_law_X6_hold_r2 : GoodIn wsL_law wsX6_hold_r2 := goodIn_r _ [417, 418, 419, 44, 45, 231, 232, 237, 238, 239, 42, 240, 82, 87, 84, 88, 241, 85, 242, 243, 244, 245, 81, 246] (by decide +kernel) (by decide +kernel)
set_option maxRecDepth 20000 in
theorem ggL_law_X6_hold_r3 : GoodIn wsL_law wsX6_hold_r3 := goodIn_r _ [97, 98, 99, 102, 247, 248, 249, 250, 94, 95, 96, 251, 252, 253, 254, 83, 255, 256, 257, 258, 259, 260, 261, 262] (by decide +kernel) (by decide +kernel)
set_option maxRecDepth 20000 in
theorem ggL_law_X6_hold_r4 : GoodIn wsL_law wsX6_hold_r4 := goodIn_r _ [263, 264, 265, 266, 193, 194, 195, 267, 268, 269, 270, 271, 272, 273, 274, 275, 276, 277, 278, 279, 280, 281, 282, 283] (by decide +kernel) (by decide +kernel)
set_option maxRecDepth 20000 in
theorem ggL_law_X6_hold_r5 : GoodIn wsL_law wsX6_hold_r5 := goodIn_r _ [284, 285, 286, 287, 288, 289, 290, 291, 292, 293, 294, 100, 101, 295, 296, 297, 298, 89, 90, 299, 300, 301, 302, 303] (by decide +kernel) (by decide +kernel)
set_option maxRecDepth 20000 in
theorem ggL_law_X6_hold_r6 : GoodIn wsL_law wsX6_hold_r6 := goodIn_r _ [304, 86, 305, 306, 307, 308, 103, 104, 105, 106, 309, 310, 311, 312, 313, 314, 315, 420, 421, 422, 423, 363, 424, 425] (by decide +kernel) (by decide +kernel)
set_option maxRecDepth 20000 in
theorem ggL_law_X6_hold_r7 : GoodIn wsL_law wsX6_hold_r7 := goodIn_r _ [426, 427, 428, 429, 430, 23, 431, 432, 433, 434, 435, 436, 62, 63, 437, 438, 439, 440, 441] (by decide +kernel) (by decide +kernel)
set_option maxRecDepth 20000 in
theorem ggL_law_X6_hold_tX6 : GoodIn wsL_law wsX60 := goodIn_r _ [631, 632, 633, 634, 635, 636, 637, 638, 639, 640, 641, 642, 643, 644, 645, 646, 647] (by decide +kernel) (by decide +kernel)
set_option maxRecDepth 20000 in
theorem ggL_law_X6_hold_tX0 : GoodIn wsL_law wsX00 := goodIn_r _ [690, 691, 692, 693, 694, 695] (by decide +kernel) (by decide +kernel)
set_option maxRecDepth 20000 in
theorem ggL_law_X6_hold_tX1 : GoodIn wsL_law wsX10 := goodIn_r _ [704, 705, 706, 707, 708, 709, 710, 711, 712] (by decide +kernel) (by decide +kernel)
set_option maxRecDepth 20000 in
theorem ggL_law_X6_hold_tX5 : GoodIn wsL_law wsX50 := goodIn_r _ [713, 714, 715, 716, 717, 718, 719, 720, 721, 722, 723, 724, 725] (by decide +kernel) (by decide +kernel)
set_option maxRecDepth 20000 in
theorem ggL_law_X6_hold_tX3 : GoodIn wsL_law wsX30 := goodIn_r _ [696, 697, 698] (by decide +kernel) (by decide +kernel)
theorem ggL_law_X6_hold : GoodIn wsL_law wsX6_hold := goodIn_app ggL_law_X6_hold_c (goodIn_app (goodIn_app (goodIn_app (goodIn_app (goodIn_app (goodIn_app ggL_law_X6_hold_r1 (goodIn_app ggL_law_X6_hold_r2 (goodIn_app ggL_law_X6_hold_r3 (goodIn_app ggL_law_X6_hold_r4 (goodIn_app ggL_law_X6_hold_r5 (goodIn_app ggL_law_X6_hold_r6 ggL_law_X6_hold_r7)))))) ggL_law_X6_hold_tX6) ggL_law_X6_hold_tX0) ggL_law_X6_hold_tX1) ggL_law_X6_hold_tX5) ggL_law_X6_hold_tX3)
set_option maxRecDepth 20000 in
theorem gL_law_X6_hold : GoodIn wsL_law (wsV RL 57 RX6 yX6_hold wsX6_hold) := goodIn_app (goodIn_of _ (by decide +kernel)) ggL_law_X6_hold
set_option maxRecDepth 20000 in
theorem ggL_law_X7_hold_c : GoodIn wsL_law [Cond.code yX7_hold cX7_hold 4 (some .int)] := goodIn_r _ [445] (by decide +kernel) (by decide +kernel)
set_option maxRecDepth 20000 in
theorem ggL_law_X7_hold_r1 : GoodIn wsL_law wsX7_hold_r1 := goodIn_r _ [446, 138, 447, 139, 200, 201, 202, 5, 203, 111, 164, 165, 166, 448, 449, 450, 451, 320, 143, 125, 321, 322, 323, 324] (by decide +kernel) (by decide +kernel)
set_option maxRecDepth 20000 in
theorem ggL_law_X7_hold_r2 : GoodIn wsL_law wsX7_hold_r2 := goodIn_r _ [325, 326, 126, 127, 128, 129, 130, 134, 121, 122, 112, 327, 328, 329, 330, 123, 124, 331, 332, 333, 334, 335, 336, 337] (by decide +kernel) (by decide +kernel)
set_option maxRecDepth 20000 in
theorem ggL_law_X7_hold_r3 : GoodIn wsL_law wsX7_hold_r3 := goodIn_r _ [338, 113, 114, 115, 116, 339, 340, 341, 342, 131, 132, 133, 343, 344, 345, 346, 135, 136, 137, 347, 348, 349, 350, 351] (by decide +kernel) (by decide +kernel)
set_option maxRecDepth 20000 in
theorem ggL_law_X7_hold_r4 : GoodIn wsL_law wsX7_hold_r4 := goodIn_r _ [352, 353, 354, 355, 452, 453, 454, 455, 456, 457, 458, 459, 460, 119, 120, 461, 462, 463, 464, 465, 466, 467, 468, 118] (by decide +kernel) (by decide +kernel)
set_option maxRecDepth 20000 in
theorem ggL_law_X7_hold_r5 : GoodIn wsL_law wsX7_hold_r5 := goodIn_r _ [469, 470, 471, 472, 117] (by decide +kernel) (by decide +kernel)
set_option maxRecDepth 20000 in
theorem ggL_law_X7_hold_tX7 : GoodIn wsL_law wsX70 := goodIn_r _ [648, 649, 650, 651, 652, 653, 654, 655, 656, 657, 658, 659, 660, 661, 662, 663, 664, 665, 666, 667, 668, 669, 670, 671, 672, 673, 674, 675, 676, 677, 678, 679, 680, 681, 682, 683, 684, 685, 686, 687, 688, 689] (by decide +kernel) (by decide +kernel)
theorem ggL_law_X7_hold : GoodIn wsL_law wsX7_hold := goodIn_app ggL_law_X7_hold_c (goodIn_app (goodIn_app ggL_law_X7_hold_r1 (goodIn_app ggL_law_X7_hold_r2 (goodIn_app ggL_law_X7_hold_r3 (goodIn_app ggL_law_X7_hold_r4 ggL_law_X7_hold_r5)))) ggL_law_X7_hold_tX7)
