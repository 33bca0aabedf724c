set_option maxRecDepth 20000 in
theorem ggL_law_X7_run : GoodIn wsL_law wsX7_run := goodIn_r _ [319, 320, 125, 200, 201, 202, 5, 203, 111, 164, 165, 166, 211, 212, 213, 214, 143, 321, 322, 323, 324, 325, 326, 126, 127, 128, 129, 130, 134, 121, 122, 112, 327, 328, 329, 330, 123, 124, 331, 332, 333, 334, 335, 336, 337, 338, 113, 114, 115, 116, 339, 340, 341, 342, 131, 132, 133, 343, 344, 345, 346, 135, 136, 137, 347, 348, 349, 350, 351, 352, 353, 354, 355, 648, 649, 650, 651, 652, 653, 654, 655, 656, 657, 658, 659, 660, 661, 662, 663, 664, 665, 666, 667, 668, 669, 670, 671, 672, 673, 674, 675, 676, 677, 678, 679, 680, 681, 682, 683, 684, 685, 686, 687, 688, 689] (by decide +kernel) (by decide +kernel)
set_option maxRecDepth 20000 in
theorem gL_law_X7_run : GoodIn wsL_law (wsV RL 40 RX7 yX7_run wsX7_run) := goodIn_app (goodIn_of _ (by decide +kernel)) ggL_law_X7_run
set_option maxRecDepth 20000 in
theorem ggL_law_X6_ran : GoodIn wsL_law wsX6_ran := goodIn_r _ [359, 43, 231, 360, 361, 362, 363, 364, 631, 632, 633, 634, 635, 636, 637, 638, 639, 640, 641, 642, 643, 644, 645, 646, 647, 704, 705, 706, 707, 708, 709, 710, 711, 712, 713, 714, 715, 716, 717, 718, 719, 720, 721, 722, 723, 724, 725] (by decide +kernel) (by decide +kernel)
set_option maxRecDepth 20000 in
theorem gL_law_X6_ran : GoodIn wsL_law (wsV RL 41 RX6 yX6_ran wsX6_ran) := goodIn_app (goodIn_of _ (by decide +kernel)) ggL_law_X6_ran
set_option maxRecDepth 20000 in
theorem ggL_law_X7_ran : GoodIn wsL_law wsX7_ran := goodIn_r _ [368, 127, 126, 128, 130, 129, 648, 649, 650, 651, 652, 653, 654, 655, 656, 657, 658, 659, 660, 661, 662, 663, 664, 665, 666, 667, 668, 669, 670, 671, 672, 673, 674, 675, 676, 677, 678, 679, 680, 681, 682, 683, 684, 685, 686, 687, 688, 689] (by decide +kernel) (by decide +kernel)
set_option maxRecDepth 20000 in
theorem gL_law_X7_ran : GoodIn wsL_law (wsV RL 44 RX7 yX7_ran wsX7_ran) := goodIn_app (goodIn_of _ (by decide +kernel)) ggL_law_X7_ran
set_option maxRecDepth 20000 in
theorem ggL_law_X6_told : GoodIn wsL_law wsX6_told := goodIn_r _ [372, 43, 231, 363, 373, 374, 149, 150, 2, 151, 631, 632, 633, 634, 635, 636, 637, 638, 639, 640, 641, 642, 643, 644, 645, 646, 647, 704, 705, 706, 707, 708, 709, 710, 711, 712, 713, 714, 715, 716, 717, 718, 719, 720, 721, 722, 723, 724, 725] (by decide +kernel) (by decide +kernel)
set_option maxRecDepth 20000 in
theorem gL_law_X6_told : GoodIn wsL_law (wsV RL 45 RX6 yX6_told wsX6_told) := goodIn_app (goodIn_of _ (by decide +kernel)) ggL_law_X6_told
set_option maxRecDepth 20000 in
theorem ggL_law_X7_told : GoodIn wsL_law wsX7_told := goodIn_r _ [378, 130, 131, 132, 164, 165, 5, 166, 648, 649, 650, 651, 652, 653, 654, 655, 656, 657, 658, 659, 660, 661, 662, 663, 664, 665, 666, 667, 668, 669, 670, 671, 672, 673, 674, 675, 676, 677, 678, 679, 680, 681, 682, 683, 684, 685, 686, 687, 688, 689] (by decide +kernel) (by decide +kernel)
set_option maxRecDepth 20000 in
theorem gL_law_X7_told : GoodIn wsL_law (wsV RL 48 RX7 yX7_told wsX7_told) := goodIn_app (goodIn_of _ (by decide +kernel)) ggL_law_X7_told
set_option maxRecDepth 20000 in
theorem ggL_law_X6_rename : GoodIn wsL_law wsX6_rename := goodIn_r _ [382, 24, 185, 186, 2, 187, 149, 150, 151, 383, 384, 385, 23, 386, 61, 63, 387, 388, 389, 390, 631, 632, 633, 634, 635, 636, 637, 638, 639, 640, 641, 642, 643, 644, 645, 646, 647, 696, 697, 698] (by decide +kernel) (by decide +kernel)
set_option maxRecDepth 20000 in
theorem gL_law_X6_rename : GoodIn wsL_law (wsV RL 49 RX6 yX6_rename wsX6_rename) := goodIn_app (goodIn_of _ (by decide +kernel)) ggL_law_X6_rename
set_option maxRecDepth 20000 in
theorem ggL_law_X7_rename : GoodIn wsL_law wsX7_rename := goodIn_r _ [394, 117, 164, 165, 5, 166, 648, 649, 650, 651, 652, 653, 654, 655, 656, 657, 658, 659, 660, 661, 662, 663, 664, 665, 666, 667, 668, 669, 670, 671, 672, 673, 674, 675, 676, 677, 678, 679, 680, 681, 682, 683, 684, 685, 686, 687, 688, 689] (by decide +kernel) (by decide +kernel)
set_option maxRecDepth 20000 in
theorem gL_law_X7_rename : GoodIn wsL_law (wsV RL 52 RX7 yX7_rename wsX7_rename) := goodIn_app (goodIn_of _ (by decide +kernel)) ggL_law_X7_rename
set_option maxRecDepth 20000 in
theorem ggL_law_X6_group : GoodIn wsL_law wsX6_group := goodIn_r _ [398, 24, 399, 185, 186, 2, 187, 149, 150, 151, 631, 632, 633, 634, 635, 636, 637, 638, 639, 640, 641, 642, 643, 644, 645, 646, 647, 696, 697, 698] (by decide +kernel) (by decide +kernel)
set_option maxRecDepth 20000 in
theorem gL_law_X6_group : GoodIn wsL_law (wsV RL 53 RX6 yX6_group wsX6_group) := goodIn_app (goodIn_of _ (by decide +kernel)) ggL_law_X6_group
set_option maxRecDepth 20000 in
theorem ggL_law_X7_group : GoodIn wsL_law wsX7_group := goodIn_r _ [403, 118, 164, 165, 5, 166, 648, 649, 650, 651, 652, 653, 654, 655, 656, 657, 658, 659, 660, 661, 662, 663, 664, 665, 666, 667, 668, 669, 670, 671, 672, 673, 674, 675, 676, 677, 678, 679, 680, 681, 682, 683, 684, 685, 686, 687, 688, 689] (by decide +kernel) (by decide +kernel)
set_option maxRecDepth 20000 in
theorem gL_law_X7_group : GoodIn wsL_law (wsV RL 56 RX7 yX7_group wsX7_group) := goodIn_app (goodIn_of _ (by decide +kernel)) ggL_law_X7_group
set_option maxRecDepth 20000 in
theorem ggL_law_X6_hold_c : GoodIn wsL_law [Cond.code yX6_hold cX6_hold 4 (some .int)] := goodIn_r _ [407] (by decide +kernel) (by decide +kernel)
set_option maxRecDepth 20000 in
theorem ggL_law_X6_hold_r1 : GoodIn wsL_law wsX6_hold_r1 := goodIn_r _ [34, 36, 35, 37, 408, 409, 410, 2, 411, 19, 20, 176, 177, 178, 18, 179, 51, 412, 413, 414, 415, 39, 24, 416] (by decide +kernel) (by decide +kernel)
