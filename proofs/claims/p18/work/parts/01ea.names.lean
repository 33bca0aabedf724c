set_option maxRecDepth 20000 in
theorem ggL_law_L_cell : GoodIn wsL_law wsL_cell := goodIn_r _ [9] (by decide +kernel) (by decide +kernel)
set_option maxRecDepth 20000 in
theorem gL_law_L_cell : GoodIn wsL_law (va_wsS RL 9 yL_cell wsL_cell) := goodIn_app (goodIn_of _ (by decide +kernel)) ggL_law_L_cell
set_option maxRecDepth 20000 in
theorem ggL_law_X6_init : GoodIn wsL_law wsX6_init := goodIn_r _ [12, 13, 14, 15, 16, 17, 18, 19, 20, 21, 22, 23, 24, 25, 26, 27, 28, 29, 30, 31, 32, 33, 34, 35, 36, 37, 38, 39, 40, 41, 42, 43, 44, 45, 46, 47, 48, 49, 50, 51, 52, 53, 54, 55, 56, 57, 58, 59, 60, 61, 62, 63, 64, 65, 66, 67, 68, 69, 70, 71, 72, 73, 74, 75, 76, 77, 78, 79, 80, 81, 82, 83, 84, 85, 86, 87, 88, 89, 90, 91, 92, 93, 94, 95, 96, 97, 98, 99, 100, 101, 102, 103, 104, 105, 106, 690, 691, 692, 693, 694, 695, 631, 632, 633, 634, 635, 636, 637, 638, 639, 640, 641, 642, 643, 644, 645, 646, 647, 696, 697, 698, 699, 700, 701, 702, 703, 704, 705, 706, 707, 708, 709, 710, 711, 712, 713, 714, 715, 716, 717, 718, 719, 720, 721, 722, 723, 724, 725] (by decide +kernel) (by decide +kernel)
set_option maxRecDepth 20000 in
theorem gL_law_X6_init : GoodIn wsL_law (wsX6_init) := ggL_law_X6_init
set_option maxRecDepth 20000 in
theorem ggL_law_X7_init : GoodIn wsL_law wsX7_init := goodIn_r _ [109, 110, 14, 15, 52, 111, 112, 113, 114, 115, 116, 117, 118, 119, 120, 121, 122, 123, 124, 125, 126, 127, 128, 129, 130, 131, 132, 133, 134, 135, 136, 137, 138, 139, 140, 141, 142, 143, 648, 649, 650, 651, 652, 653, 654, 655, 656, 657, 658, 659, 660, 661, 662, 663, 664, 665, 666, 667, 668, 669, 670, 671, 672, 673, 674, 675, 676, 677, 678, 679, 680, 681, 682, 683, 684, 685, 686, 687, 688, 689] (by decide +kernel) (by decide +kernel)
set_option maxRecDepth 20000 in
theorem gL_law_X7_init : GoodIn wsL_law (wsX7_init) := ggL_law_X7_init
set_option maxRecDepth 20000 in
theorem ggL_law_X6_method : GoodIn wsL_law wsX6_method := goodIn_r _ [147, 148, 149, 150, 2, 151, 152, 153, 154, 155, 19, 20, 156, 157, 158, 18, 159, 51, 690, 691, 692, 693, 694, 695, 631, 632, 633, 634, 635, 636, 637, 638, 639, 640, 641, 642, 643, 644, 645, 646, 647] (by decide +kernel) (by decide +kernel)
set_option maxRecDepth 20000 in
theorem gL_law_X6_method : GoodIn wsL_law (wsV RL 21 RX6 yX6_method wsX6_method) := goodIn_app (goodIn_of _ (by decide +kernel)) ggL_law_X6_method
set_option maxRecDepth 20000 in
theorem ggL_law_X7_method : GoodIn wsL_law wsX7_method := goodIn_r _ [163, 111, 112, 164, 165, 5, 166, 648, 649, 650, 651, 652, 653, 654, 655, 656, 657, 658, 659, 660, 661, 662, 663, 664, 665, 666, 667, 668, 669, 670, 671, 672, 673, 674, 675, 676, 677, 678, 679, 680, 681, 682, 683, 684, 685, 686, 687, 688, 689] (by decide +kernel) (by decide +kernel)
set_option maxRecDepth 20000 in
theorem gL_law_X7_method : GoodIn wsL_law (wsV RL 25 RX7 yX7_method wsX7_method) := goodIn_app (goodIn_of _ (by decide +kernel)) ggL_law_X7_method
set_option maxRecDepth 20000 in
theorem ggL_law_X6_op : GoodIn wsL_law wsX6_op := goodIn_r _ [170, 171, 172, 173, 174, 2, 175, 149, 150, 151, 152, 153, 154, 155, 19, 20, 176, 177, 178, 18, 179, 51, 180, 181, 182, 183, 184, 39, 185, 186, 187, 188, 189, 190, 191, 53, 54, 55, 56, 57, 192, 193, 194, 195, 690, 691, 692, 693, 694, 695, 631, 632, 633, 634, 635, 636, 637, 638, 639, 640, 641, 642, 643, 644, 645, 646, 647] (by decide +kernel) (by decide +kernel)
set_option maxRecDepth 20000 in
theorem gL_law_X6_op : GoodIn wsL_law (wsV RL 26 RX6 yX6_op wsX6_op) := goodIn_app (goodIn_of _ (by decide +kernel)) ggL_law_X6_op
set_option maxRecDepth 20000 in
theorem ggL_law_X7_op : GoodIn wsL_law wsX7_op := goodIn_r _ [199, 112, 113, 114, 115, 116, 200, 201, 202, 5, 203, 111, 164, 165, 166, 204, 205, 206, 207, 208, 209, 210, 211, 212, 213, 214, 143, 648, 649, 650, 651, 652, 653, 654, 655, 656, 657, 658, 659, 660, 661, 662, 663, 664, 665, 666, 667, 668, 669, 670, 671, 672, 673, 674, 675, 676, 677, 678, 679, 680, 681, 682, 683, 684, 685, 686, 687, 688, 689] (by decide +kernel) (by decide +kernel)
set_option maxRecDepth 20000 in
theorem gL_law_X7_op : GoodIn wsL_law (wsV RL 30 RX7 yX7_op wsX7_op) := goodIn_app (goodIn_of _ (by decide +kernel)) ggL_law_X7_op
set_option maxRecDepth 20000 in
theorem ggL_law_X6_clear : GoodIn wsL_law wsX6_clear := goodIn_r _ [218, 172, 173, 174, 2, 175, 149, 150, 151, 152, 153, 154, 155, 19, 20, 176, 177, 178, 18, 179, 51, 219, 220, 221, 222, 53, 631, 632, 633, 634, 635, 636, 637, 638, 639, 640, 641, 642, 643, 644, 645, 646, 647, 690, 691, 692, 693, 694, 695] (by decide +kernel) (by decide +kernel)
set_option maxRecDepth 20000 in
theorem gL_law_X6_clear : GoodIn wsL_law (wsV RL 31 RX6 yX6_clear wsX6_clear) := goodIn_app (goodIn_of _ (by decide +kernel)) ggL_law_X6_clear
set_option maxRecDepth 20000 in
theorem ggL_law_X7_clear : GoodIn wsL_law wsX7_clear := goodIn_r _ [226, 112, 200, 201, 202, 5, 203, 111, 164, 165, 166, 648, 649, 650, 651, 652, 653, 654, 655, 656, 657, 658, 659, 660, 661, 662, 663, 664, 665, 666, 667, 668, 669, 670, 671, 672, 673, 674, 675, 676, 677, 678, 679, 680, 681, 682, 683, 684, 685, 686, 687, 688, 689] (by decide +kernel) (by decide +kernel)
set_option maxRecDepth 20000 in
theorem gL_law_X7_clear : GoodIn wsL_law (wsV RL 35 RX7 yX7_clear wsX7_clear) := goodIn_app (goodIn_of _ (by decide +kernel)) ggL_law_X7_clear
set_option maxRecDepth 20000 in
theorem ggL_law_X6_run : GoodIn wsL_law wsX6_run := goodIn_r _ [230, 39, 43, 231, 232, 172, 173, 174, 2, 175, 149, 150, 151, 152, 153, 154, 155, 19, 20, 176, 177, 178, 18, 179, 51, 233, 234, 235, 42, 236, 88, 237, 238, 239, 240, 82, 87, 84, 241, 85, 242, 243, 244, 245, 81, 246, 97, 98, 99, 102, 247, 248, 249, 250, 94, 95, 96, 251, 252, 253, 254, 83, 255, 256, 257, 258, 259, 260, 261, 262, 263, 264, 265, 266, 193, 194, 195, 267, 268, 269, 270, 271, 272, 273, 274, 275, 276, 277, 278, 279, 280, 281, 282, 283, 284, 285, 286, 287, 288, 289, 290, 291, 292, 293, 294, 100, 101, 295, 296, 297, 298, 89, 90, 299, 300, 301, 302, 303, 304, 86, 305, 306, 307, 308, 103, 104, 105, 106, 309, 310, 311, 312, 313, 314, 315, 631, 632, 633, 634, 635, 636, 637, 638, 639, 640, 641, 642, 643, 644, 645, 646, 647, 704, 705, 706, 707, 708, 709, 710, 711, 712, 713, 714, 715, 716, 717, 718, 719, 720, 721, 722, 723, 724, 725, 690, 691, 692, 693, 694, 695] (by decide +kernel) (by decide +kernel)
set_option maxRecDepth 20000 in
theorem gL_law_X6_run : GoodIn wsL_law (wsV RL 36 RX6 yX6_run wsX6_run) := goodIn_app (goodIn_of _ (by decide +kernel)) ggL_law_X6_run
