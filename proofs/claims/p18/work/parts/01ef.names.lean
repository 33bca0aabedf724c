set_option maxRecDepth 20000 in
theorem ggL_law_X6_find_tX5 : GoodIn wsL_law wsX50 := goodIn_r _ [713, 714, 715, 716, 717, 718, 719, 720, 721, 722, 723, 724, 725] (by decide +kernel) (by decide +kernel)
theorem ggL_law_X6_find : GoodIn wsL_law wsX6_find := goodIn_app ggL_law_X6_find_c (goodIn_app (goodIn_app (goodIn_app (goodIn_app (goodIn_app (goodIn_app ggL_law_X6_find_r1 (goodIn_app ggL_law_X6_find_r2 (goodIn_app ggL_law_X6_find_r3 (goodIn_app ggL_law_X6_find_r4 (goodIn_app ggL_law_X6_find_r5 (goodIn_app ggL_law_X6_find_r6 (goodIn_app ggL_law_X6_find_r7 ggL_law_X6_find_r8))))))) ggL_law_X6_find_tX6) ggL_law_X6_find_tX0) ggL_law_X6_find_tX3) ggL_law_X6_find_tX1) ggL_law_X6_find_tX5)
set_option maxRecDepth 20000 in
theorem gL_law_X6_find : GoodIn wsL_law (wsV RL 69 RX6 yX6_find wsX6_find) := goodIn_app (goodIn_of _ (by decide +kernel)) ggL_law_X6_find
set_option maxRecDepth 20000 in
theorem ggL_law_X7_find_c : GoodIn wsL_law [Cond.code yX7_find cX7_find 5 (some .int)] := goodIn_r _ [519] (by decide +kernel) (by decide +kernel)
set_option maxRecDepth 20000 in
theorem ggL_law_X7_find_r1 : GoodIn wsL_law wsX7_find_r1 := goodIn_r _ [140, 117, 200, 201, 202, 5, 203, 111, 164, 165, 166, 520, 521, 522, 523, 448, 449, 450, 451, 320, 143, 125, 446, 447] (by decide +kernel) (by decide +kernel)
set_option maxRecDepth 20000 in
theorem ggL_law_X7_find_r2 : GoodIn wsL_law wsX7_find_r2 := goodIn_r _ [321, 322, 323, 324, 325, 326, 126, 127, 128, 129, 130, 134, 121, 122, 112, 327, 328, 329, 330, 123, 124, 331, 332, 333] (by decide +kernel) (by decide +kernel)
set_option maxRecDepth 20000 in
theorem ggL_law_X7_find_r3 : GoodIn wsL_law wsX7_find_r3 := goodIn_r _ [334, 335, 336, 337, 338, 113, 114, 115, 116, 339, 340, 341, 342, 131, 132, 133, 343, 344, 345, 346, 135, 136, 137, 347] (by decide +kernel) (by decide +kernel)
set_option maxRecDepth 20000 in
theorem ggL_law_X7_find_r4 : GoodIn wsL_law wsX7_find_r4 := goodIn_r _ [348, 349, 350, 351, 352, 353, 354, 355, 452, 453, 454, 455, 456, 457, 458, 459, 460, 119, 120, 461, 462, 463, 464, 465] (by decide +kernel) (by decide +kernel)
set_option maxRecDepth 20000 in
theorem ggL_law_X7_find_r5 : GoodIn wsL_law wsX7_find_r5 := goodIn_r _ [466, 467, 468, 118, 469, 470, 471, 472] (by decide +kernel) (by decide +kernel)
set_option maxRecDepth 20000 in
theorem ggL_law_X7_find_tX7 : GoodIn wsL_law wsX70 := goodIn_r _ [648, 649, 650, 651, 652, 653, 654, 655, 656, 657, 658, 659, 660, 661, 662, 663, 664, 665, 666, 667, 668, 669, 670, 671, 672, 673, 674, 675, 676, 677, 678, 679, 680, 681, 682, 683, 684, 685, 686, 687, 688, 689] (by decide +kernel) (by decide +kernel)
theorem ggL_law_X7_find : GoodIn wsL_law wsX7_find := goodIn_app ggL_law_X7_find_c (goodIn_app (goodIn_app ggL_law_X7_find_r1 (goodIn_app ggL_law_X7_find_r2 (goodIn_app ggL_law_X7_find_r3 (goodIn_app ggL_law_X7_find_r4 ggL_law_X7_find_r5)))) ggL_law_X7_find_tX7)
set_option maxRecDepth 20000 in
theorem gL_law_X7_find : GoodIn wsL_law (wsV RL 72 RX7 yX7_find wsX7_find) := goodIn_app (goodIn_of _ (by decide +kernel)) ggL_law_X7_find
set_option maxRecDepth 20000 in
theorem ggL_law_X6_assume : GoodIn wsL_law wsX6_assume := goodIn_r _ [527, 29, 528, 408, 409, 410, 2, 411, 19, 20, 176, 177, 178, 18, 179, 51, 529, 530, 531, 28, 532, 67, 68, 69, 533, 534, 535, 536, 631, 632, 633, 634, 635, 636, 637, 638, 639, 640, 641, 642, 643, 644, 645, 646, 647, 699, 700, 701, 690, 691, 692, 693, 694, 695] (by decide +kernel) (by decide +kernel)
set_option maxRecDepth 20000 in
theorem gL_law_X6_assume : GoodIn wsL_law (wsV RL 73 RX6 yX6_assume wsX6_assume) := goodIn_app (goodIn_of _ (by decide +kernel)) ggL_law_X6_assume
set_option maxRecDepth 20000 in
theorem ggL_law_X7_assume : GoodIn wsL_law wsX7_assume := goodIn_r _ [540, 460, 119, 120, 200, 201, 202, 5, 203, 111, 164, 165, 166, 456, 457, 458, 459, 648, 649, 650, 651, 652, 653, 654, 655, 656, 657, 658, 659, 660, 661, 662, 663, 664, 665, 666, 667, 668, 669, 670, 671, 672, 673, 674, 675, 676, 677, 678, 679, 680, 681, 682, 683, 684, 685, 686, 687, 688, 689] (by decide +kernel) (by decide +kernel)
set_option maxRecDepth 20000 in
theorem gL_law_X7_assume : GoodIn wsL_law (wsV RL 76 RX7 yX7_assume wsX7_assume) := goodIn_app (goodIn_of _ (by decide +kernel)) ggL_law_X7_assume
set_option maxRecDepth 20000 in
theorem ggL_law_X6_drop : GoodIn wsL_law wsX6_drop := goodIn_r _ [544, 29, 528, 631, 632, 633, 634, 635, 636, 637, 638, 639, 640, 641, 642, 643, 644, 645, 646, 647, 699, 700, 701] (by decide +kernel) (by decide +kernel)
set_option maxRecDepth 20000 in
theorem gL_law_X6_drop : GoodIn wsL_law (wsV RL 77 RX6 yX6_drop wsX6_drop) := goodIn_app (goodIn_of _ (by decide +kernel)) ggL_law_X6_drop
set_option maxRecDepth 20000 in
theorem ggL_law_X7_drop : GoodIn wsL_law wsX7_drop := goodIn_r _ [548, 460, 648, 649, 650, 651, 652, 653, 654, 655, 656, 657, 658, 659, 660, 661, 662, 663, 664, 665, 666, 667, 668, 669, 670, 671, 672, 673, 674, 675, 676, 677, 678, 679, 680, 681, 682, 683, 684, 685, 686, 687, 688, 689] (by decide +kernel) (by decide +kernel)
set_option maxRecDepth 20000 in
theorem gL_law_X7_drop : GoodIn wsL_law (wsV RL 81 RX7 yX7_drop wsX7_drop) := goodIn_app (goodIn_of _ (by decide +kernel)) ggL_law_X7_drop
set_option maxRecDepth 20000 in
theorem ggL_law_X6_prove_c : GoodIn wsL_law [Cond.code yX6_prove cX6_prove 4 (some .int)] := goodIn_r _ [552] (by decide +kernel) (by decide +kernel)
