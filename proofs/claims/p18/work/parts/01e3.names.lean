set_option maxRecDepth 20000 in
theorem ggL_law_X7_run : GoodIn wsL_law wsX7_run := goodIn_r _ [316, 317, 125, 197, 198, 199, 5, 200, 111, 164, 165, 166, 208, 209, 210, 211, 143, 318, 319, 320, 321, 322, 323, 126, 127, 128, 129, 130, 134, 121, 122, 112, 324, 325, 326, 327, 123, 124, 328, 329, 330, 331, 332, 333, 334, 335, 113, 114, 115, 116, 336, 337, 338, 339, 131, 132, 133, 340, 341, 342, 343, 135, 136, 137, 344, 345, 346, 347, 348, 349, 350, 351, 352, 645, 646, 647, 648, 649, 650, 651, 652, 653, 654, 655, 656, 657, 658, 659, 660, 661, 662, 663, 664, 665, 666, 667, 668, 669, 670, 671, 672, 673, 674, 675, 676, 677, 678, 679, 680, 681, 682, 683, 684, 685, 686] (by decide +kernel) (by decide +kernel)
set_option maxRecDepth 20000 in
theorem gL_law_X7_run : GoodIn wsL_law (wsV RL 40 RX7 yX7_run wsX7_run) := goodIn_app (goodIn_of _ (by decide +kernel)) ggL_law_X7_run
set_option maxRecDepth 20000 in
theorem ggL_law_X6_ran : GoodIn wsL_law wsX6_ran := goodIn_r _ [356, 43, 228, 357, 358, 359, 360, 361, 628, 629, 630, 631, 632, 633, 634, 635, 636, 637, 638, 639, 640, 641, 642, 643, 644, 701, 702, 703, 704, 705, 706, 707, 708, 709, 710, 711, 712, 713, 714, 715, 716, 717, 718, 719, 720, 721, 722] (by decide +kernel) (by decide +kernel)
set_option maxRecDepth 20000 in
theorem gL_law_X6_ran : GoodIn wsL_law (wsV RL 41 RX6 yX6_ran wsX6_ran) := goodIn_app (goodIn_of _ (by decide +kernel)) ggL_law_X6_ran
set_option maxRecDepth 20000 in
theorem ggL_law_X7_ran : GoodIn wsL_law wsX7_ran := goodIn_r _ [365, 127, 126, 128, 130, 129, 645, 646, 647, 648, 649, 650, 651, 652, 653, 654, 655, 656, 657, 658, 659, 660, 661, 662, 663, 664, 665, 666, 667, 668, 669, 670, 671, 672, 673, 674, 675, 676, 677, 678, 679, 680, 681, 682, 683, 684, 685, 686] (by decide +kernel) (by decide +kernel)
set_option maxRecDepth 20000 in
theorem gL_law_X7_ran : GoodIn wsL_law (wsV RL 44 RX7 yX7_ran wsX7_ran) := goodIn_app (goodIn_of _ (by decide +kernel)) ggL_law_X7_ran
set_option maxRecDepth 20000 in
theorem ggL_law_X6_told : GoodIn wsL_law wsX6_told := goodIn_r _ [369, 43, 228, 360, 370, 371, 149, 150, 2, 151, 628, 629, 630, 631, 632, 633, 634, 635, 636, 637, 638, 639, 640, 641, 642, 643, 644, 701, 702, 703, 704, 705, 706, 707, 708, 709, 710, 711, 712, 713, 714, 715, 716, 717, 718, 719, 720, 721, 722] (by decide +kernel) (by decide +kernel)
set_option maxRecDepth 20000 in
theorem gL_law_X6_told : GoodIn wsL_law (wsV RL 45 RX6 yX6_told wsX6_told) := goodIn_app (goodIn_of _ (by decide +kernel)) ggL_law_X6_told
set_option maxRecDepth 20000 in
theorem ggL_law_X7_told : GoodIn wsL_law wsX7_told := goodIn_r _ [375, 130, 131, 132, 164, 165, 5, 166, 645, 646, 647, 648, 649, 650, 651, 652, 653, 654, 655, 656, 657, 658, 659, 660, 661, 662, 663, 664, 665, 666, 667, 668, 669, 670, 671, 672, 673, 674, 675, 676, 677, 678, 679, 680, 681, 682, 683, 684, 685, 686] (by decide +kernel) (by decide +kernel)
set_option maxRecDepth 20000 in
theorem gL_law_X7_told : GoodIn wsL_law (wsV RL 48 RX7 yX7_told wsX7_told) := goodIn_app (goodIn_of _ (by decide +kernel)) ggL_law_X7_told
set_option maxRecDepth 20000 in
theorem ggL_law_X6_rename : GoodIn wsL_law wsX6_rename := goodIn_r _ [379, 24, 149, 150, 2, 151, 380, 381, 382, 23, 383, 61, 63, 384, 385, 386, 387, 628, 629, 630, 631, 632, 633, 634, 635, 636, 637, 638, 639, 640, 641, 642, 643, 644, 693, 694, 695] (by decide +kernel) (by decide +kernel)
set_option maxRecDepth 20000 in
theorem gL_law_X6_rename : GoodIn wsL_law (wsV RL 49 RX6 yX6_rename wsX6_rename) := goodIn_app (goodIn_of _ (by decide +kernel)) ggL_law_X6_rename
set_option maxRecDepth 20000 in
theorem ggL_law_X7_rename : GoodIn wsL_law wsX7_rename := goodIn_r _ [391, 117, 164, 165, 5, 166, 645, 646, 647, 648, 649, 650, 651, 652, 653, 654, 655, 656, 657, 658, 659, 660, 661, 662, 663, 664, 665, 666, 667, 668, 669, 670, 671, 672, 673, 674, 675, 676, 677, 678, 679, 680, 681, 682, 683, 684, 685, 686] (by decide +kernel) (by decide +kernel)
set_option maxRecDepth 20000 in
theorem gL_law_X7_rename : GoodIn wsL_law (wsV RL 52 RX7 yX7_rename wsX7_rename) := goodIn_app (goodIn_of _ (by decide +kernel)) ggL_law_X7_rename
set_option maxRecDepth 20000 in
theorem ggL_law_X6_group : GoodIn wsL_law wsX6_group := goodIn_r _ [395, 24, 396, 149, 150, 2, 151, 628, 629, 630, 631, 632, 633, 634, 635, 636, 637, 638, 639, 640, 641, 642, 643, 644, 693, 694, 695] (by decide +kernel) (by decide +kernel)
set_option maxRecDepth 20000 in
theorem gL_law_X6_group : GoodIn wsL_law (wsV RL 53 RX6 yX6_group wsX6_group) := goodIn_app (goodIn_of _ (by decide +kernel)) ggL_law_X6_group
set_option maxRecDepth 20000 in
theorem ggL_law_X7_group : GoodIn wsL_law wsX7_group := goodIn_r _ [400, 118, 164, 165, 5, 166, 645, 646, 647, 648, 649, 650, 651, 652, 653, 654, 655, 656, 657, 658, 659, 660, 661, 662, 663, 664, 665, 666, 667, 668, 669, 670, 671, 672, 673, 674, 675, 676, 677, 678, 679, 680, 681, 682, 683, 684, 685, 686] (by decide +kernel) (by decide +kernel)
set_option maxRecDepth 20000 in
theorem gL_law_X7_group : GoodIn wsL_law (wsV RL 56 RX7 yX7_group wsX7_group) := goodIn_app (goodIn_of _ (by decide +kernel)) ggL_law_X7_group
set_option maxRecDepth 20000 in
theorem ggL_law_X6_hold : GoodIn wsL_law wsX6_hold := goodIn_r _ [404, 34, 36, 35, 37, 405, 406, 407, 2, 408, 19, 20, 176, 177, 178, 18, 179, 51, 409, 410, 411, 412, 39, 24, 413, 414, 415, 416, 44, 45, 228, 229, 234, 235, 236, 42, 237, 82, 87, 84, 88, 238, 85, 239, 240, 241, 242, 81, 243, 97, 98, 99, 102, 244, 245, 246, 247, 94, 95, 96, 248, 249, 250, 251, 83, 252, 253, 254, 255, 256, 257, 258, 259, 260, 261, 262, 263, 190, 191, 192, 264, 265, 266, 267, 268, 269, 270, 271, 272, 273, 274, 275, 276, 277, 278, 279, 280, 281, 282, 283, 284, 285, 286, 287, 288, 289, 290, 291, 100, 101, 292, 293, 294, 295, 89, 90, 296, 297, 298, 299, 300, 301, 86, 302, 303, 304, 305, 103, 104, 105, 106, 306, 307, 308, 309, 310, 311, 312, 417, 418, 419, 420, 360, 421, 422, 423, 424, 425, 426, 427, 23, 428, 429, 430, 431, 432, 433, 62, 63, 434, 435, 436, 437, 438, 628, 629, 630, 631, 632, 633, 634, 635, 636, 637, 638, 639, 640, 641, 642, 643, 644, 687, 688, 689, 690, 691, 692, 701, 702, 703, 704, 705, 706, 707, 708, 709, 710, 711, 712, 713, 714, 715, 716, 717, 718, 719, 720, 721, 722, 693, 694, 695] (by decide +kernel) (by decide +kernel)
set_option maxRecDepth 20000 in
theorem gL_law_X6_hold : GoodIn wsL_law (wsV RL 57 RX6 yX6_hold wsX6_hold) := goodIn_app (goodIn_of _ (by decide +kernel)) ggL_law_X6_hold
