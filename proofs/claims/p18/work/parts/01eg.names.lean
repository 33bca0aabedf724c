set_option maxRecDepth 20000 in
theorem ggL_law_X6_prove_r1 : GoodIn wsL_law wsX6_prove_r1 := goodIn_r _ [33, 29, 528, 39, 553, 554, 555, 556, 32, 557, 558, 559, 560, 561, 73, 74, 562, 563, 564, 2, 565, 46, 47, 566] (by decide +kernel) (by decide +kernel)
set_option maxRecDepth 20000 in
theorem ggL_law_X6_prove_r2 : GoodIn wsL_law wsX6_prove_r2 := goodIn_r _ [567, 231, 568, 569, 570, 571, 572, 573, 574, 575, 42, 576, 86, 237, 238, 239, 240, 82, 87, 84, 88, 241, 85, 242] (by decide +kernel) (by decide +kernel)
set_option maxRecDepth 20000 in
theorem ggL_law_X6_prove_r3 : GoodIn wsL_law wsX6_prove_r3 := goodIn_r _ [243, 244, 245, 81, 246, 97, 98, 99, 102, 247, 248, 249, 250, 94, 95, 96, 251, 252, 253, 254, 83, 255, 256, 257] (by decide +kernel) (by decide +kernel)
set_option maxRecDepth 20000 in
theorem ggL_law_X6_prove_r4 : GoodIn wsL_law wsX6_prove_r4 := goodIn_r _ [258, 259, 260, 261, 262, 263, 264, 265, 266, 193, 194, 18, 195, 267, 268, 269, 270, 271, 272, 273, 274, 275, 276, 277] (by decide +kernel) (by decide +kernel)
set_option maxRecDepth 20000 in
theorem ggL_law_X6_prove_r5 : GoodIn wsL_law wsX6_prove_r5 := goodIn_r _ [278, 279, 280, 281, 282, 283, 284, 285, 286, 287, 288, 289, 290, 291, 292, 293, 294, 100, 101, 295, 296, 297, 298, 89] (by decide +kernel) (by decide +kernel)
set_option maxRecDepth 20000 in
theorem ggL_law_X6_prove_r6 : GoodIn wsL_law wsX6_prove_r6 := goodIn_r _ [90, 299, 177, 178, 179, 51, 300, 301, 302, 303, 304, 305, 306, 307, 308, 103, 104, 105, 106, 309, 310, 311, 312, 313] (by decide +kernel) (by decide +kernel)
set_option maxRecDepth 20000 in
theorem ggL_law_X6_prove_r7 : GoodIn wsL_law wsX6_prove_r7 := goodIn_r _ [314, 315, 577, 578, 579, 580, 232, 424, 425, 426, 427, 581, 582, 583, 584, 585, 586, 24, 363, 587, 588, 589, 590, 529] (by decide +kernel) (by decide +kernel)
set_option maxRecDepth 20000 in
theorem ggL_law_X6_prove_r8 : GoodIn wsL_law wsX6_prove_r8 := goodIn_r _ [530, 531, 28, 532, 67, 68, 69, 428, 429, 430, 23, 431, 432, 433, 434, 435, 436, 62, 63, 437, 438, 439, 440, 441] (by decide +kernel) (by decide +kernel)
set_option maxRecDepth 20000 in
theorem ggL_law_X6_prove_r9 : GoodIn wsL_law wsX6_prove_r9 := goodIn_r _ [591, 592, 593, 594, 595] (by decide +kernel) (by decide +kernel)
set_option maxRecDepth 20000 in
theorem ggL_law_X6_prove_tX6 : GoodIn wsL_law wsX60 := goodIn_r _ [631, 632, 633, 634, 635, 636, 637, 638, 639, 640, 641, 642, 643, 644, 645, 646, 647] (by decide +kernel) (by decide +kernel)
set_option maxRecDepth 20000 in
theorem ggL_law_X6_prove_tX2 : GoodIn wsL_law wsX20 := goodIn_r _ [699, 700, 701] (by decide +kernel) (by decide +kernel)
set_option maxRecDepth 20000 in
theorem ggL_law_X6_prove_tX4 : GoodIn wsL_law wsX40 := goodIn_r _ [702, 703] (by decide +kernel) (by decide +kernel)
set_option maxRecDepth 20000 in
theorem ggL_law_X6_prove_tX1 : GoodIn wsL_law wsX10 := goodIn_r _ [704, 705, 706, 707, 708, 709, 710, 711, 712] (by decide +kernel) (by decide +kernel)
set_option maxRecDepth 20000 in
theorem ggL_law_X6_prove_tX5 : GoodIn wsL_law wsX50 := goodIn_r _ [713, 714, 715, 716, 717, 718, 719, 720, 721, 722, 723, 724, 725] (by decide +kernel) (by decide +kernel)
set_option maxRecDepth 20000 in
theorem ggL_law_X6_prove_tX0 : GoodIn wsL_law wsX00 := goodIn_r _ [690, 691, 692, 693, 694, 695] (by decide +kernel) (by decide +kernel)
set_option maxRecDepth 20000 in
theorem ggL_law_X6_prove_tX3 : GoodIn wsL_law wsX30 := goodIn_r _ [696, 697, 698] (by decide +kernel) (by decide +kernel)
theorem ggL_law_X6_prove : GoodIn wsL_law wsX6_prove := goodIn_app ggL_law_X6_prove_c (goodIn_app (goodIn_app (goodIn_app (goodIn_app (goodIn_app (goodIn_app (goodIn_app (goodIn_app ggL_law_X6_prove_r1 (goodIn_app ggL_law_X6_prove_r2 (goodIn_app ggL_law_X6_prove_r3 (goodIn_app ggL_law_X6_prove_r4 (goodIn_app ggL_law_X6_prove_r5 (goodIn_app ggL_law_X6_prove_r6 (goodIn_app ggL_law_X6_prove_r7 (goodIn_app ggL_law_X6_prove_r8 ggL_law_X6_prove_r9)))))))) ggL_law_X6_prove_tX6) ggL_law_X6_prove_tX2) ggL_law_X6_prove_tX4) ggL_law_X6_prove_tX1) ggL_law_X6_prove_tX5) ggL_law_X6_prove_tX0) ggL_law_X6_prove_tX3)
set_option maxRecDepth 20000 in
theorem gL_law_X6_prove : GoodIn wsL_law (wsV RL 82 RX6 yX6_prove wsX6_prove) := goodIn_app (goodIn_of _ (by decide +kernel)) ggL_law_X6_prove
set_option maxRecDepth 20000 in
theorem ggL_law_X7_prove_c : GoodIn wsL_law [Cond.code yX7_prove cX7_prove 3 (some .int)] := goodIn_r _ [599] (by decide +kernel) (by decide +kernel)
set_option maxRecDepth 20000 in
theorem ggL_law_X7_prove_r1 : GoodIn wsL_law wsX7_prove_r1 := goodIn_r _ [600, 460, 320, 601, 602, 603, 5, 604, 143, 347, 348, 605, 606, 607, 608, 119, 120, 125, 321, 322, 323, 324, 325, 326] (by decide +kernel) (by decide +kernel)
set_option maxRecDepth 20000 in
theorem ggL_law_X7_prove_r2 : GoodIn wsL_law wsX7_prove_r2 := goodIn_r _ [126, 127, 128, 129, 130, 134, 121, 122, 112, 327, 328, 329, 330, 123, 124, 331, 332, 333, 334, 335, 336, 337, 338, 113] (by decide +kernel) (by decide +kernel)
