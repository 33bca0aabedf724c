set_option maxRecDepth 20000 in
theorem ggL_law_X7_hold_c : GoodIn wsL_law [Cond.code yX7_hold cX7_hold 4 (some .int)] := goodIn_r _ [442] (by decide +kernel) (by decide +kernel)
set_option maxRecDepth 20000 in
theorem ggL_law_X7_hold_r1 : GoodIn wsL_law wsX7_hold_r1 := goodIn_r _ [443, 138, 444, 139, 197, 198, 199, 5, 200, 111, 164, 165, 166, 445, 446, 447, 448, 317, 143, 125, 318, 319, 320, 321] (by decide +kernel) (by decide +kernel)
set_option maxRecDepth 20000 in
theorem ggL_law_X7_hold_r2 : GoodIn wsL_law wsX7_hold_r2 := goodIn_r _ [322, 323, 126, 127, 128, 129, 130, 134, 121, 122, 112, 324, 325, 326, 327, 123, 124, 328, 329, 330, 331, 332, 333, 334] (by decide +kernel) (by decide +kernel)
set_option maxRecDepth 20000 in
theorem ggL_law_X7_hold_r3 : GoodIn wsL_law wsX7_hold_r3 := goodIn_r _ [335, 113, 114, 115, 116, 336, 337, 338, 339, 131, 132, 133, 340, 341, 342, 343, 135, 136, 137, 344, 345, 346, 347, 348] (by decide +kernel) (by decide +kernel)
set_option maxRecDepth 20000 in
theorem ggL_law_X7_hold_r4 : GoodIn wsL_law wsX7_hold_r4 := goodIn_r _ [349, 350, 351, 352, 449, 450, 451, 452, 453, 454, 455, 456, 457, 119, 120, 458, 459, 460, 461, 462, 463, 464, 465, 118] (by decide +kernel) (by decide +kernel)
set_option maxRecDepth 20000 in
theorem ggL_law_X7_hold_r5 : GoodIn wsL_law wsX7_hold_r5 := goodIn_r _ [466, 467, 468, 469, 117] (by decide +kernel) (by decide +kernel)
set_option maxRecDepth 20000 in
theorem ggL_law_X7_hold_tX7 : GoodIn wsL_law wsX70 := goodIn_r _ [645, 646, 647, 648, 649, 650, 651, 652, 653, 654, 655, 656, 657, 658, 659, 660, 661, 662, 663, 664, 665, 666, 667, 668, 669, 670, 671, 672, 673, 674, 675, 676, 677, 678, 679, 680, 681, 682, 683, 684, 685, 686] (by decide +kernel) (by decide +kernel)
theorem ggL_law_X7_hold : GoodIn wsL_law wsX7_hold := goodIn_app ggL_law_X7_hold_c (goodIn_app (goodIn_app ggL_law_X7_hold_r1 (goodIn_app ggL_law_X7_hold_r2 (goodIn_app ggL_law_X7_hold_r3 (goodIn_app ggL_law_X7_hold_r4 ggL_law_X7_hold_r5)))) ggL_law_X7_hold_tX7)
set_option maxRecDepth 20000 in
theorem gL_law_X7_hold : GoodIn wsL_law (wsV RL 60 RX7 yX7_hold wsX7_hold) := goodIn_app (goodIn_of _ (by decide +kernel)) ggL_law_X7_hold
set_option maxRecDepth 20000 in
theorem ggL_law_X6_first : GoodIn wsL_law wsX6_first := goodIn_r _ [473, 36, 37, 628, 629, 630, 631, 632, 633, 634, 635, 636, 637, 638, 639, 640, 641, 642, 643, 644] (by decide +kernel) (by decide +kernel)
set_option maxRecDepth 20000 in
theorem gL_law_X6_first : GoodIn wsL_law (wsV RL 61 RX6 yX6_first wsX6_first) := goodIn_app (goodIn_of _ (by decide +kernel)) ggL_law_X6_first
set_option maxRecDepth 20000 in
theorem ggL_law_X7_first : GoodIn wsL_law wsX7_first := goodIn_r _ [477, 138, 139, 645, 646, 647, 648, 649, 650, 651, 652, 653, 654, 655, 656, 657, 658, 659, 660, 661, 662, 663, 664, 665, 666, 667, 668, 669, 670, 671, 672, 673, 674, 675, 676, 677, 678, 679, 680, 681, 682, 683, 684, 685, 686] (by decide +kernel) (by decide +kernel)
set_option maxRecDepth 20000 in
theorem gL_law_X7_first : GoodIn wsL_law (wsV RL 64 RX7 yX7_first wsX7_first) := goodIn_app (goodIn_of _ (by decide +kernel)) ggL_law_X7_first
set_option maxRecDepth 20000 in
theorem ggL_law_X6_match_c : GoodIn wsL_law [Cond.code yX6_match cX6_match 3 (some .int)] := goodIn_r _ [481] (by decide +kernel) (by decide +kernel)
set_option maxRecDepth 20000 in
theorem ggL_law_X6_match_r1 : GoodIn wsL_law wsX6_match_r1 := goodIn_r _ [19, 20, 148, 176, 177, 178, 18, 179, 51, 409, 410, 411, 2, 412, 39, 24, 34, 35, 413, 414, 415, 416, 44, 45] (by decide +kernel) (by decide +kernel)
set_option maxRecDepth 20000 in
theorem ggL_law_X6_match_r2 : GoodIn wsL_law wsX6_match_r2 := goodIn_r _ [228, 229, 234, 235, 236, 42, 237, 82, 87, 84, 88, 238, 85, 239, 240, 241, 242, 81, 243, 97, 98, 99, 102, 244] (by decide +kernel) (by decide +kernel)
set_option maxRecDepth 20000 in
theorem ggL_law_X6_match_r3 : GoodIn wsL_law wsX6_match_r3 := goodIn_r _ [245, 246, 247, 94, 95, 96, 248, 249, 250, 251, 83, 252, 253, 254, 255, 256, 257, 258, 259, 260, 261, 262, 263, 190] (by decide +kernel) (by decide +kernel)
set_option maxRecDepth 20000 in
theorem ggL_law_X6_match_r4 : GoodIn wsL_law wsX6_match_r4 := goodIn_r _ [191, 192, 264, 265, 266, 267, 268, 269, 270, 271, 272, 273, 274, 275, 276, 277, 278, 279, 280, 281, 282, 283, 284, 285] (by decide +kernel) (by decide +kernel)
set_option maxRecDepth 20000 in
theorem ggL_law_X6_match_r5 : GoodIn wsL_law wsX6_match_r5 := goodIn_r _ [286, 287, 288, 289, 290, 291, 100, 101, 292, 293, 294, 295, 89, 90, 296, 297, 298, 299, 300, 301, 86, 302, 303, 304] (by decide +kernel) (by decide +kernel)
set_option maxRecDepth 20000 in
theorem ggL_law_X6_match_r6 : GoodIn wsL_law wsX6_match_r6 := goodIn_r _ [305, 103, 104, 105, 106, 306, 307, 308, 309, 310, 311, 312, 417, 418, 419, 420, 360, 421, 422, 423, 424, 425, 426, 427] (by decide +kernel) (by decide +kernel)
set_option maxRecDepth 20000 in
theorem ggL_law_X6_match_r7 : GoodIn wsL_law wsX6_match_r7 := goodIn_r _ [23, 428, 429, 430, 431, 432, 433, 62, 63, 434, 435, 436, 437, 438] (by decide +kernel) (by decide +kernel)
set_option maxRecDepth 20000 in
theorem ggL_law_X6_match_tX6 : GoodIn wsL_law wsX60 := goodIn_r _ [628, 629, 630, 631, 632, 633, 634, 635, 636, 637, 638, 639, 640, 641, 642, 643, 644] (by decide +kernel) (by decide +kernel)
set_option maxRecDepth 20000 in
theorem ggL_law_X6_match_tX0 : GoodIn wsL_law wsX00 := goodIn_r _ [687, 688, 689, 690, 691, 692] (by decide +kernel) (by decide +kernel)
set_option maxRecDepth 20000 in
theorem ggL_law_X6_match_tX1 : GoodIn wsL_law wsX10 := goodIn_r _ [701, 702, 703, 704, 705, 706, 707, 708, 709] (by decide +kernel) (by decide +kernel)
set_option maxRecDepth 20000 in
theorem ggL_law_X6_match_tX5 : GoodIn wsL_law wsX50 := goodIn_r _ [710, 711, 712, 713, 714, 715, 716, 717, 718, 719, 720, 721, 722] (by decide +kernel) (by decide +kernel)
set_option maxRecDepth 20000 in
theorem ggL_law_X6_match_tX3 : GoodIn wsL_law wsX30 := goodIn_r _ [693, 694, 695] (by decide +kernel) (by decide +kernel)
theorem ggL_law_X6_match : GoodIn wsL_law wsX6_match := goodIn_app ggL_law_X6_match_c (goodIn_app (goodIn_app (goodIn_app (goodIn_app (goodIn_app (goodIn_app ggL_law_X6_match_r1 (goodIn_app ggL_law_X6_match_r2 (goodIn_app ggL_law_X6_match_r3 (goodIn_app ggL_law_X6_match_r4 (goodIn_app ggL_law_X6_match_r5 (goodIn_app ggL_law_X6_match_r6 ggL_law_X6_match_r7)))))) ggL_law_X6_match_tX6) ggL_law_X6_match_tX0) ggL_law_X6_match_tX1) ggL_law_X6_match_tX5) ggL_law_X6_match_tX3)
set_option maxRecDepth 20000 in
theorem gL_law_X6_match : GoodIn wsL_law (wsV RL 65 RX6 yX6_match wsX6_match) := goodIn_app (goodIn_of _ (by decide +kernel)) ggL_law_X6_match
set_option maxRecDepth 20000 in
theorem ggL_law_X7_match_c : GoodIn wsL_law [Cond.code yX7_match cX7_match 3 (some .int)] := goodIn_r _ [485] (by decide +kernel) (by decide +kernel)
set_option maxRecDepth 20000 in
theorem ggL_law_X7_match_r1 : GoodIn wsL_law wsX7_match_r1 := goodIn_r _ [111, 197, 198, 199, 5, 200, 164, 165, 166, 445, 446, 447, 448, 317, 143, 125, 443, 444, 318, 319, 320, 321, 322, 323] (by decide +kernel) (by decide +kernel)
set_option maxRecDepth 20000 in
theorem ggL_law_X7_match_r2 : GoodIn wsL_law wsX7_match_r2 := goodIn_r _ [126, 127, 128, 129, 130, 134, 121, 122, 112, 324, 325, 326, 327, 123, 124, 328, 329, 330, 331, 332, 333, 334, 335, 113] (by decide +kernel) (by decide +kernel)
set_option maxRecDepth 20000 in
theorem ggL_law_X7_match_r3 : GoodIn wsL_law wsX7_match_r3 := goodIn_r _ [114, 115, 116, 336, 337, 338, 339, 131, 132, 133, 340, 341, 342, 343, 135, 136, 137, 344, 345, 346, 347, 348, 349, 350] (by decide +kernel) (by decide +kernel)
set_option maxRecDepth 20000 in
theorem ggL_law_X7_match_r4 : GoodIn wsL_law wsX7_match_r4 := goodIn_r _ [351, 352, 449, 450, 451, 452, 453, 454, 455, 456, 457, 119, 120, 458, 459, 460, 461, 462, 463, 464, 465, 118, 466, 467] (by decide +kernel) (by decide +kernel)
set_option maxRecDepth 20000 in
theorem ggL_law_X7_match_r5 : GoodIn wsL_law wsX7_match_r5 := goodIn_r _ [468, 469, 117] (by decide +kernel) (by decide +kernel)
set_option maxRecDepth 20000 in
theorem ggL_law_X7_match_tX7 : GoodIn wsL_law wsX70 := goodIn_r _ [645, 646, 647, 648, 649, 650, 651, 652, 653, 654, 655, 656, 657, 658, 659, 660, 661, 662, 663, 664, 665, 666, 667, 668, 669, 670, 671, 672, 673, 674, 675, 676, 677, 678, 679, 680, 681, 682, 683, 684, 685, 686] (by decide +kernel) (by decide +kernel)
theorem ggL_law_X7_match : GoodIn wsL_law wsX7_match := goodIn_app ggL_law_X7_match_c (goodIn_app (goodIn_app ggL_law_X7_match_r1 (goodIn_app ggL_law_X7_match_r2 (goodIn_app ggL_law_X7_match_r3 (goodIn_app ggL_law_X7_match_r4 ggL_law_X7_match_r5)))) ggL_law_X7_match_tX7)
set_option maxRecDepth 20000 in
theorem gL_law_X7_match : GoodIn wsL_law (wsV RL 68 RX7 yX7_match wsX7_match) := goodIn_app (goodIn_of _ (by decide +kernel)) ggL_law_X7_match
set_option maxRecDepth 20000 in
theorem ggL_law_X6_find_c : GoodIn wsL_law [Cond.code yX6_find cX6_find 6 (some .int)] := goodIn_r _ [489] (by decide +kernel) (by decide +kernel)
set_option maxRecDepth 20000 in
theorem ggL_law_X6_find_r1 : GoodIn wsL_law wsX6_find_r1 := goodIn_r _ [25, 24, 490, 39, 491, 405, 406, 407, 2, 408, 19, 20, 176, 177, 178, 18, 179, 51, 492, 493, 494, 23, 495, 62] (by decide +kernel) (by decide +kernel)
set_option maxRecDepth 20000 in
theorem ggL_law_X6_find_r2 : GoodIn wsL_law wsX6_find_r2 := goodIn_r _ [496, 497, 498, 499, 413, 414, 415, 416, 44, 45, 228, 229, 234, 235, 236, 42, 237, 82, 87, 84, 88, 238, 85, 239] (by decide +kernel) (by decide +kernel)
set_option maxRecDepth 20000 in
theorem ggL_law_X6_find_r3 : GoodIn wsL_law wsX6_find_r3 := goodIn_r _ [240, 241, 242, 81, 243, 97, 98, 99, 102, 244, 245, 246, 247, 94, 95, 96, 248, 249, 250, 251, 83, 252, 253, 254] (by decide +kernel) (by decide +kernel)
set_option maxRecDepth 20000 in
theorem ggL_law_X6_find_r4 : GoodIn wsL_law wsX6_find_r4 := goodIn_r _ [255, 256, 257, 258, 259, 260, 261, 262, 263, 190, 191, 192, 264, 265, 266, 267, 268, 269, 270, 271, 272, 273, 274, 275] (by decide +kernel) (by decide +kernel)
set_option maxRecDepth 20000 in
theorem ggL_law_X6_find_r5 : GoodIn wsL_law wsX6_find_r5 := goodIn_r _ [276, 277, 278, 279, 280, 281, 282, 283, 284, 285, 286, 287, 288, 289, 290, 291, 100, 101, 292, 293, 294, 295, 89, 90] (by decide +kernel) (by decide +kernel)
set_option maxRecDepth 20000 in
theorem ggL_law_X6_find_r6 : GoodIn wsL_law wsX6_find_r6 := goodIn_r _ [296, 297, 298, 299, 300, 301, 86, 302, 303, 304, 305, 103, 104, 105, 106, 306, 307, 308, 309, 310, 311, 312, 500, 501] (by decide +kernel) (by decide +kernel)
set_option maxRecDepth 20000 in
theorem ggL_law_X6_find_r7 : GoodIn wsL_law wsX6_find_r7 := goodIn_r _ [502, 503, 504, 505, 506, 507, 384, 385, 386, 387, 61, 63, 417, 418, 419, 420, 360, 421, 422, 423, 424, 425, 426, 427] (by decide +kernel) (by decide +kernel)
set_option maxRecDepth 20000 in
theorem ggL_law_X6_find_r8 : GoodIn wsL_law wsX6_find_r8 := goodIn_r _ [428, 429, 430, 431, 432, 433, 434, 435, 436, 437, 438, 508, 509, 510, 511, 512] (by decide +kernel) (by decide +kernel)
set_option maxRecDepth 20000 in
theorem ggL_law_X6_find_tX6 : GoodIn wsL_law wsX60 := goodIn_r _ [628, 629, 630, 631, 632, 633, 634, 635, 636, 637, 638, 639, 640, 641, 642, 643, 644] (by decide +kernel) (by decide +kernel)
set_option maxRecDepth 20000 in
theorem ggL_law_X6_find_tX0 : GoodIn wsL_law wsX00 := goodIn_r _ [687, 688, 689, 690, 691, 692] (by decide +kernel) (by decide +kernel)
set_option maxRecDepth 20000 in
theorem ggL_law_X6_find_tX3 : GoodIn wsL_law wsX30 := goodIn_r _ [693, 694, 695] (by decide +kernel) (by decide +kernel)
set_option maxRecDepth 20000 in
theorem ggL_law_X6_find_tX1 : GoodIn wsL_law wsX10 := goodIn_r _ [701, 702, 703, 704, 705, 706, 707, 708, 709] (by decide +kernel) (by decide +kernel)
set_option maxRecDepth 20000 in
theorem ggL_law_X6_find_tX5 : GoodIn wsL_law wsX50 := goodIn_r _ [710, 711, 712, 713, 714, 715, 716, 717, 718, 719, 720, 721, 722] (by decide +kernel) (by decide +kernel)
theorem ggL_law_X6_find : GoodIn wsL_law wsX6_find := goodIn_app ggL_law_X6_find_c (goodIn_app (goodIn_app (goodIn_app (goodIn_app (goodIn_app (goodIn_app ggL_law_X6_find_r1 (goodIn_app ggL_law_X6_find_r2 (goodIn_app ggL_law_X6_find_r3 (goodIn_app ggL_law_X6_find_r4 (goodIn_app ggL_law_X6_find_r5 (goodIn_app ggL_law_X6_find_r6 (goodIn_app ggL_law_X6_find_r7 ggL_law_X6_find_r8))))))) ggL_law_X6_find_tX6) ggL_law_X6_find_tX0) ggL_law_X6_find_tX3) ggL_law_X6_find_tX1) ggL_law_X6_find_tX5)
set_option maxRecDepth 20000 in
theorem gL_law_X6_find : GoodIn wsL_law (wsV RL 69 RX6 yX6_find wsX6_find) := goodIn_app (goodIn_of _ (by decide +kernel)) ggL_law_X6_find
set_option maxRecDepth 20000 in
theorem ggL_law_X7_find_c : GoodIn wsL_law [Cond.code yX7_find cX7_find 5 (some .int)] := goodIn_r _ [516] (by decide +kernel) (by decide +kernel)
set_option maxRecDepth 20000 in
theorem ggL_law_X7_find_r1 : GoodIn wsL_law wsX7_find_r1 := goodIn_r _ [140, 117, 197, 198, 199, 5, 200, 111, 164, 165, 166, 517, 518, 519, 520, 445, 446, 447, 448, 317, 143, 125, 443, 444] (by decide +kernel) (by decide +kernel)
set_option maxRecDepth 20000 in
theorem ggL_law_X7_find_r2 : GoodIn wsL_law wsX7_find_r2 := goodIn_r _ [318, 319, 320, 321, 322, 323, 126, 127, 128, 129, 130, 134, 121, 122, 112, 324, 325, 326, 327, 123, 124, 328, 329, 330] (by decide +kernel) (by decide +kernel)
set_option maxRecDepth 20000 in
theorem ggL_law_X7_find_r3 : GoodIn wsL_law wsX7_find_r3 := goodIn_r _ [331, 332, 333, 334, 335, 113, 114, 115, 116, 336, 337, 338, 339, 131, 132, 133, 340, 341, 342, 343, 135, 136, 137, 344] (by decide +kernel) (by decide +kernel)
set_option maxRecDepth 20000 in
theorem ggL_law_X7_find_r4 : GoodIn wsL_law wsX7_find_r4 := goodIn_r _ [345, 346, 347, 348, 349, 350, 351, 352, 449, 450, 451, 452, 453, 454, 455, 456, 457, 119, 120, 458, 459, 460, 461, 462] (by decide +kernel) (by decide +kernel)
set_option maxRecDepth 20000 in
theorem ggL_law_X7_find_r5 : GoodIn wsL_law wsX7_find_r5 := goodIn_r _ [463, 464, 465, 118, 466, 467, 468, 469] (by decide +kernel) (by decide +kernel)
set_option maxRecDepth 20000 in
theorem ggL_law_X7_find_tX7 : GoodIn wsL_law wsX70 := goodIn_r _ [645, 646, 647, 648, 649, 650, 651, 652, 653, 654, 655, 656, 657, 658, 659, 660, 661, 662, 663, 664, 665, 666, 667, 668, 669, 670, 671, 672, 673, 674, 675, 676, 677, 678, 679, 680, 681, 682, 683, 684, 685, 686] (by decide +kernel) (by decide +kernel)
theorem ggL_law_X7_find : GoodIn wsL_law wsX7_find := goodIn_app ggL_law_X7_find_c (goodIn_app (goodIn_app ggL_law_X7_find_r1 (goodIn_app ggL_law_X7_find_r2 (goodIn_app ggL_law_X7_find_r3 (goodIn_app ggL_law_X7_find_r4 ggL_law_X7_find_r5)))) ggL_law_X7_find_tX7)
set_option maxRecDepth 20000 in
theorem gL_law_X7_find : GoodIn wsL_law (wsV RL 72 RX7 yX7_find wsX7_find) := goodIn_app (goodIn_of _ (by decide +kernel)) ggL_law_X7_find
set_option maxRecDepth 20000 in
theorem ggL_law_X6_assume : GoodIn wsL_law wsX6_assume := goodIn_r _ [524, 29, 525, 405, 406, 407, 2, 408, 19, 20, 176, 177, 178, 18, 179, 51, 526, 527, 528, 28, 529, 67, 68, 69, 530, 531, 532, 533, 628, 629, 630, 631, 632, 633, 634, 635, 636, 637, 638, 639, 640, 641, 642, 643, 644, 696, 697, 698, 687, 688, 689, 690, 691, 692] (by decide +kernel) (by decide +kernel)
set_option maxRecDepth 20000 in
theorem gL_law_X6_assume : GoodIn wsL_law (wsV RL 73 RX6 yX6_assume wsX6_assume) := goodIn_app (goodIn_of _ (by decide +kernel)) ggL_law_X6_assume
