set_option maxRecDepth 20000 in
theorem ggL_law_X7_prove_r3 : GoodIn wsL_law wsX7_prove_r3 := goodIn_r _ [114, 115, 116, 339, 340, 341, 342, 131, 132, 133, 343, 344, 345, 346, 111, 135, 136, 137, 349, 350, 351, 352, 353, 354] (by decide +kernel) (by decide +kernel)
set_option maxRecDepth 20000 in
theorem ggL_law_X7_prove_r4 : GoodIn wsL_law wsX7_prove_r4 := goodIn_r _ [355, 452, 453, 454, 455, 456, 457, 458, 459, 461, 462, 463, 464, 465, 466, 467, 468, 118, 469, 470, 471, 472, 117, 609] (by decide +kernel) (by decide +kernel)
set_option maxRecDepth 20000 in
theorem ggL_law_X7_prove_r5 : GoodIn wsL_law wsX7_prove_r5 := goodIn_r _ [610, 611, 612, 141] (by decide +kernel) (by decide +kernel)
set_option maxRecDepth 20000 in
theorem ggL_law_X7_prove_tX7 : GoodIn wsL_law wsX70 := goodIn_r _ [648, 649, 650, 651, 652, 653, 654, 655, 656, 657, 658, 659, 660, 661, 662, 663, 664, 665, 666, 667, 668, 669, 670, 671, 672, 673, 674, 675, 676, 677, 678, 679, 680, 681, 682, 683, 684, 685, 686, 687, 688, 689] (by decide +kernel) (by decide +kernel)
theorem ggL_law_X7_prove : GoodIn wsL_law wsX7_prove := goodIn_app ggL_law_X7_prove_c (goodIn_app (goodIn_app ggL_law_X7_prove_r1 (goodIn_app ggL_law_X7_prove_r2 (goodIn_app ggL_law_X7_prove_r3 (goodIn_app ggL_law_X7_prove_r4 ggL_law_X7_prove_r5)))) ggL_law_X7_prove_tX7)
set_option maxRecDepth 20000 in
theorem gL_law_X7_prove : GoodIn wsL_law (wsV RL 85 RX7 yX7_prove wsX7_prove) := goodIn_app (goodIn_of _ (by decide +kernel)) ggL_law_X7_prove
set_option maxRecDepth 20000 in
theorem ggL_law_X6_why : GoodIn wsL_law wsX6_why := goodIn_r _ [616, 33, 617, 149, 150, 2, 151, 631, 632, 633, 634, 635, 636, 637, 638, 639, 640, 641, 642, 643, 644, 645, 646, 647, 702, 703] (by decide +kernel) (by decide +kernel)
set_option maxRecDepth 20000 in
theorem gL_law_X6_why : GoodIn wsL_law (wsV RL 86 RX6 yX6_why wsX6_why) := goodIn_app (goodIn_of _ (by decide +kernel)) ggL_law_X6_why
set_option maxRecDepth 20000 in
theorem ggL_law_X7_why : GoodIn wsL_law wsX7_why := goodIn_r _ [621, 600, 141, 164, 165, 5, 166, 648, 649, 650, 651, 652, 653, 654, 655, 656, 657, 658, 659, 660, 661, 662, 663, 664, 665, 666, 667, 668, 669, 670, 671, 672, 673, 674, 675, 676, 677, 678, 679, 680, 681, 682, 683, 684, 685, 686, 687, 688, 689] (by decide +kernel) (by decide +kernel)
set_option maxRecDepth 20000 in
theorem gL_law_X7_why : GoodIn wsL_law (wsV RL 89 RX7 yX7_why wsX7_why) := goodIn_app (goodIn_of _ (by decide +kernel)) ggL_law_X7_why
set_option maxRecDepth 20000 in
theorem ggL_law_X6_count : GoodIn wsL_law wsX6_count := goodIn_r _ [625, 19, 148, 20, 29, 528, 38, 24, 626, 399, 631, 632, 633, 634, 635, 636, 637, 638, 639, 640, 641, 642, 643, 644, 645, 646, 647, 690, 691, 692, 693, 694, 695, 699, 700, 701, 696, 697, 698] (by decide +kernel) (by decide +kernel)
set_option maxRecDepth 20000 in
theorem gL_law_X6_count : GoodIn wsL_law (wsV RL 90 RX6 yX6_count wsX6_count) := goodIn_app (goodIn_of _ (by decide +kernel)) ggL_law_X6_count
set_option maxRecDepth 20000 in
theorem ggL_law_X7_count : GoodIn wsL_law wsX7_count := goodIn_r _ [630, 117, 118, 111, 460, 142, 164, 165, 5, 166, 648, 649, 650, 651, 652, 653, 654, 655, 656, 657, 658, 659, 660, 661, 662, 663, 664, 665, 666, 667, 668, 669, 670, 671, 672, 673, 674, 675, 676, 677, 678, 679, 680, 681, 682, 683, 684, 685, 686, 687, 688, 689] (by decide +kernel) (by decide +kernel)
set_option maxRecDepth 20000 in
theorem gL_law_X7_count : GoodIn wsL_law (wsV RL 93 RX7 yX7_count wsX7_count) := goodIn_app (goodIn_of _ (by decide +kernel)) ggL_law_X7_count
