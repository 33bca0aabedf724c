set_option maxRecDepth 20000 in
theorem ggL_law_X7_assume : GoodIn wsL_law wsX7_assume := goodIn_r _ [537, 457, 119, 120, 197, 198, 199, 5, 200, 111, 164, 165, 166, 453, 454, 455, 456, 645, 646, 647, 648, 649, 650, 651, 652, 653, 654, 655, 656, 657, 658, 659, 660, 661, 662, 663, 664, 665, 666, 667, 668, 669, 670, 671, 672, 673, 674, 675, 676, 677, 678, 679, 680, 681, 682, 683, 684, 685, 686] (by decide +kernel) (by decide +kernel)
set_option maxRecDepth 20000 in
theorem gL_law_X7_assume : GoodIn wsL_law (wsV RL 76 RX7 yX7_assume wsX7_assume) := goodIn_app (goodIn_of _ (by decide +kernel)) ggL_law_X7_assume
set_option maxRecDepth 20000 in
theorem ggL_law_X6_drop : GoodIn wsL_law wsX6_drop := goodIn_r _ [541, 29, 525, 628, 629, 630, 631, 632, 633, 634, 635, 636, 637, 638, 639, 640, 641, 642, 643, 644, 696, 697, 698] (by decide +kernel) (by decide +kernel)
set_option maxRecDepth 20000 in
theorem gL_law_X6_drop : GoodIn wsL_law (wsV RL 77 RX6 yX6_drop wsX6_drop) := goodIn_app (goodIn_of _ (by decide +kernel)) ggL_law_X6_drop
set_option maxRecDepth 20000 in
theorem ggL_law_X7_drop : GoodIn wsL_law wsX7_drop := goodIn_r _ [545, 457, 645, 646, 647, 648, 649, 650, 651, 652, 653, 654, 655, 656, 657, 658, 659, 660, 661, 662, 663, 664, 665, 666, 667, 668, 669, 670, 671, 672, 673, 674, 675, 676, 677, 678, 679, 680, 681, 682, 683, 684, 685, 686] (by decide +kernel) (by decide +kernel)
set_option maxRecDepth 20000 in
theorem gL_law_X7_drop : GoodIn wsL_law (wsV RL 81 RX7 yX7_drop wsX7_drop) := goodIn_app (goodIn_of _ (by decide +kernel)) ggL_law_X7_drop
set_option maxRecDepth 20000 in
theorem ggL_law_X6_prove_c : GoodIn wsL_law [Cond.code yX6_prove cX6_prove 4 (some .int)] := goodIn_r _ [549] (by decide +kernel) (by decide +kernel)
set_option maxRecDepth 20000 in
theorem ggL_law_X6_prove_r1 : GoodIn wsL_law wsX6_prove_r1 := goodIn_r _ [33, 29, 525, 39, 550, 551, 552, 553, 32, 554, 555, 556, 557, 558, 73, 74, 559, 560, 561, 2, 562, 46, 47, 563] (by decide +kernel) (by decide +kernel)
set_option maxRecDepth 20000 in
theorem ggL_law_X6_prove_r2 : GoodIn wsL_law wsX6_prove_r2 := goodIn_r _ [564, 228, 565, 566, 567, 568, 569, 570, 571, 572, 42, 573, 86, 234, 235, 236, 237, 82, 87, 84, 88, 238, 85, 239] (by decide +kernel) (by decide +kernel)
set_option maxRecDepth 20000 in
theorem ggL_law_X6_prove_r3 : GoodIn wsL_law wsX6_prove_r3 := goodIn_r _ [240, 241, 242, 81, 243, 97, 98, 99, 102, 244, 245, 246, 247, 94, 95, 96, 248, 249, 250, 251, 83, 252, 253, 254] (by decide +kernel) (by decide +kernel)
set_option maxRecDepth 20000 in
theorem ggL_law_X6_prove_r4 : GoodIn wsL_law wsX6_prove_r4 := goodIn_r _ [255, 256, 257, 258, 259, 260, 261, 262, 263, 190, 191, 18, 192, 264, 265, 266, 267, 268, 269, 270, 271, 272, 273, 274] (by decide +kernel) (by decide +kernel)
set_option maxRecDepth 20000 in
theorem ggL_law_X6_prove_r5 : GoodIn wsL_law wsX6_prove_r5 := goodIn_r _ [275, 276, 277, 278, 279, 280, 281, 282, 283, 284, 285, 286, 287, 288, 289, 290, 291, 100, 101, 292, 293, 294, 295, 89] (by decide +kernel) (by decide +kernel)
set_option maxRecDepth 20000 in
theorem ggL_law_X6_prove_r6 : GoodIn wsL_law wsX6_prove_r6 := goodIn_r _ [90, 296, 177, 178, 179, 51, 297, 298, 299, 300, 301, 302, 303, 304, 305, 103, 104, 105, 106, 306, 307, 308, 309, 310] (by decide +kernel) (by decide +kernel)
set_option maxRecDepth 20000 in
theorem ggL_law_X6_prove_r7 : GoodIn wsL_law wsX6_prove_r7 := goodIn_r _ [311, 312, 574, 575, 576, 577, 229, 421, 422, 423, 424, 578, 579, 580, 581, 582, 583, 24, 360, 584, 585, 586, 587, 526] (by decide +kernel) (by decide +kernel)
set_option maxRecDepth 20000 in
theorem ggL_law_X6_prove_r8 : GoodIn wsL_law wsX6_prove_r8 := goodIn_r _ [527, 528, 28, 529, 67, 68, 69, 425, 426, 427, 23, 428, 429, 430, 431, 432, 433, 62, 63, 434, 435, 436, 437, 438] (by decide +kernel) (by decide +kernel)
set_option maxRecDepth 20000 in
theorem ggL_law_X6_prove_r9 : GoodIn wsL_law wsX6_prove_r9 := goodIn_r _ [588, 589, 590, 591, 592] (by decide +kernel) (by decide +kernel)
set_option maxRecDepth 20000 in
theorem ggL_law_X6_prove_tX6 : GoodIn wsL_law wsX60 := goodIn_r _ [628, 629, 630, 631, 632, 633, 634, 635, 636, 637, 638, 639, 640, 641, 642, 643, 644] (by decide +kernel) (by decide +kernel)
set_option maxRecDepth 20000 in
theorem ggL_law_X6_prove_tX2 : GoodIn wsL_law wsX20 := goodIn_r _ [696, 697, 698] (by decide +kernel) (by decide +kernel)
set_option maxRecDepth 20000 in
theorem ggL_law_X6_prove_tX4 : GoodIn wsL_law wsX40 := goodIn_r _ [699, 700] (by decide +kernel) (by decide +kernel)
set_option maxRecDepth 20000 in
theorem ggL_law_X6_prove_tX1 : GoodIn wsL_law wsX10 := goodIn_r _ [701, 702, 703, 704, 705, 706, 707, 708, 709] (by decide +kernel) (by decide +kernel)
set_option maxRecDepth 20000 in
theorem ggL_law_X6_prove_tX5 : GoodIn wsL_law wsX50 := goodIn_r _ [710, 711, 712, 713, 714, 715, 716, 717, 718, 719, 720, 721, 722] (by decide +kernel) (by decide +kernel)
set_option maxRecDepth 20000 in
theorem ggL_law_X6_prove_tX0 : GoodIn wsL_law wsX00 := goodIn_r _ [687, 688, 689, 690, 691, 692] (by decide +kernel) (by decide +kernel)
set_option maxRecDepth 20000 in
theorem ggL_law_X6_prove_tX3 : GoodIn wsL_law wsX30 := goodIn_r _ [693, 694, 695] (by decide +kernel) (by decide +kernel)
theorem ggL_law_X6_prove : GoodIn wsL_law wsX6_prove := goodIn_app ggL_law_X6_prove_c (goodIn_app (goodIn_app (goodIn_app (goodIn_app (goodIn_app (goodIn_app (goodIn_app (goodIn_app ggL_law_X6_prove_r1 (goodIn_app ggL_law_X6_prove_r2 (goodIn_app ggL_law_X6_prove_r3 (goodIn_app ggL_law_X6_prove_r4 (goodIn_app ggL_law_X6_prove_r5 (goodIn_app ggL_law_X6_prove_r6 (goodIn_app ggL_law_X6_prove_r7 (goodIn_app ggL_law_X6_prove_r8 ggL_law_X6_prove_r9)))))))) ggL_law_X6_prove_tX6) ggL_law_X6_prove_tX2) ggL_law_X6_prove_tX4) ggL_law_X6_prove_tX1) ggL_law_X6_prove_tX5) ggL_law_X6_prove_tX0) ggL_law_X6_prove_tX3)
set_option maxRecDepth 20000 in
theorem gL_law_X6_prove : GoodIn wsL_law (wsV RL 82 RX6 yX6_prove wsX6_prove) := goodIn_app (goodIn_of _ (by decide +kernel)) ggL_law_X6_prove
set_option maxRecDepth 20000 in
theorem ggL_law_X7_prove_c : GoodIn wsL_law [Cond.code yX7_prove cX7_prove 3 (some .int)] := goodIn_r _ [596] (by decide +kernel) (by decide +kernel)
set_option maxRecDepth 20000 in
theorem ggL_law_X7_prove_r1 : GoodIn wsL_law wsX7_prove_r1 := goodIn_r _ [597, 457, 317, 598, 599, 600, 5, 601, 143, 344, 345, 602, 603, 604, 605, 119, 120, 125, 318, 319, 320, 321, 322, 323] (by decide +kernel) (by decide +kernel)
set_option maxRecDepth 20000 in
theorem ggL_law_X7_prove_r2 : GoodIn wsL_law wsX7_prove_r2 := goodIn_r _ [126, 127, 128, 129, 130, 134, 121, 122, 112, 324, 325, 326, 327, 123, 124, 328, 329, 330, 331, 332, 333, 334, 335, 113] (by decide +kernel) (by decide +kernel)
set_option maxRecDepth 20000 in
theorem ggL_law_X7_prove_r3 : GoodIn wsL_law wsX7_prove_r3 := goodIn_r _ [114, 115, 116, 336, 337, 338, 339, 131, 132, 133, 340, 341, 342, 343, 111, 135, 136, 137, 346, 347, 348, 349, 350, 351] (by decide +kernel) (by decide +kernel)
set_option maxRecDepth 20000 in
theorem ggL_law_X7_prove_r4 : GoodIn wsL_law wsX7_prove_r4 := goodIn_r _ [352, 449, 450, 451, 452, 453, 454, 455, 456, 458, 459, 460, 461, 462, 463, 464, 465, 118, 466, 467, 468, 469, 117, 606] (by decide +kernel) (by decide +kernel)
set_option maxRecDepth 20000 in
theorem ggL_law_X7_prove_r5 : GoodIn wsL_law wsX7_prove_r5 := goodIn_r _ [607, 608, 609, 141] (by decide +kernel) (by decide +kernel)
set_option maxRecDepth 20000 in
theorem ggL_law_X7_prove_tX7 : GoodIn wsL_law wsX70 := goodIn_r _ [645, 646, 647, 648, 649, 650, 651, 652, 653, 654, 655, 656, 657, 658, 659, 660, 661, 662, 663, 664, 665, 666, 667, 668, 669, 670, 671, 672, 673, 674, 675, 676, 677, 678, 679, 680, 681, 682, 683, 684, 685, 686] (by decide +kernel) (by decide +kernel)
theorem ggL_law_X7_prove : GoodIn wsL_law wsX7_prove := goodIn_app ggL_law_X7_prove_c (goodIn_app (goodIn_app ggL_law_X7_prove_r1 (goodIn_app ggL_law_X7_prove_r2 (goodIn_app ggL_law_X7_prove_r3 (goodIn_app ggL_law_X7_prove_r4 ggL_law_X7_prove_r5)))) ggL_law_X7_prove_tX7)
set_option maxRecDepth 20000 in
theorem gL_law_X7_prove : GoodIn wsL_law (wsV RL 85 RX7 yX7_prove wsX7_prove) := goodIn_app (goodIn_of _ (by decide +kernel)) ggL_law_X7_prove
set_option maxRecDepth 20000 in
theorem ggL_law_X6_why : GoodIn wsL_law wsX6_why := goodIn_r _ [613, 33, 614, 149, 150, 2, 151, 628, 629, 630, 631, 632, 633, 634, 635, 636, 637, 638, 639, 640, 641, 642, 643, 644, 699, 700] (by decide +kernel) (by decide +kernel)
set_option maxRecDepth 20000 in
theorem gL_law_X6_why : GoodIn wsL_law (wsV RL 86 RX6 yX6_why wsX6_why) := goodIn_app (goodIn_of _ (by decide +kernel)) ggL_law_X6_why
set_option maxRecDepth 20000 in
theorem ggL_law_X7_why : GoodIn wsL_law wsX7_why := goodIn_r _ [618, 597, 141, 164, 165, 5, 166, 645, 646, 647, 648, 649, 650, 651, 652, 653, 654, 655, 656, 657, 658, 659, 660, 661, 662, 663, 664, 665, 666, 667, 668, 669, 670, 671, 672, 673, 674, 675, 676, 677, 678, 679, 680, 681, 682, 683, 684, 685, 686] (by decide +kernel) (by decide +kernel)
set_option maxRecDepth 20000 in
theorem gL_law_X7_why : GoodIn wsL_law (wsV RL 89 RX7 yX7_why wsX7_why) := goodIn_app (goodIn_of _ (by decide +kernel)) ggL_law_X7_why
set_option maxRecDepth 20000 in
theorem ggL_law_X6_count : GoodIn wsL_law wsX6_count := goodIn_r _ [622, 19, 148, 20, 29, 525, 38, 24, 623, 396, 628, 629, 630, 631, 632, 633, 634, 635, 636, 637, 638, 639, 640, 641, 642, 643, 644, 687, 688, 689, 690, 691, 692, 696, 697, 698, 693, 694, 695] (by decide +kernel) (by decide +kernel)
set_option maxRecDepth 20000 in
theorem gL_law_X6_count : GoodIn wsL_law (wsV RL 90 RX6 yX6_count wsX6_count) := goodIn_app (goodIn_of _ (by decide +kernel)) ggL_law_X6_count
set_option maxRecDepth 20000 in
theorem ggL_law_X7_count : GoodIn wsL_law wsX7_count := goodIn_r _ [627, 117, 118, 111, 457, 142, 164, 165, 5, 166, 645, 646, 647, 648, 649, 650, 651, 652, 653, 654, 655, 656, 657, 658, 659, 660, 661, 662, 663, 664, 665, 666, 667, 668, 669, 670, 671, 672, 673, 674, 675, 676, 677, 678, 679, 680, 681, 682, 683, 684, 685, 686] (by decide +kernel) (by decide +kernel)
set_option maxRecDepth 20000 in
theorem gL_law_X7_count : GoodIn wsL_law (wsV RL 93 RX7 yX7_count wsX7_count) := goodIn_app (goodIn_of _ (by decide +kernel)) ggL_law_X7_count

