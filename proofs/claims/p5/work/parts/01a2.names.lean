set_option maxRecDepth 20000 in
theorem wsL_law_g1 : GoodIn lw_tbl wsL_law_r1 := goodIn_r _ [57, 58, 46, 591, 592, 53, 588, 589, 45, 590, 59, 60, 61, 62, 63, 64, 65, 66, 47, 250, 251, 98, 99, 48] (by decide +kernel) (by decide +kernel)
set_option maxRecDepth 20000 in
theorem wsL_law_g2 : GoodIn lw_tbl wsL_law_r2 := goodIn_r _ [252, 253, 116, 117, 49, 254, 135, 136, 50, 255, 261, 262, 263, 264, 248, 249, 150, 151, 51, 256, 257, 258, 259, 260] (by decide +kernel) (by decide +kernel)
set_option maxRecDepth 20000 in
theorem wsL_law_g3 : GoodIn lw_tbl wsL_law_r3 := goodIn_r _ [68, 69, 70, 71, 97, 73, 76, 78, 80, 82, 101, 102, 103, 104, 106, 108, 119, 120, 121, 122, 124, 126, 138, 139] (by decide +kernel) (by decide +kernel)
set_option maxRecDepth 20000 in
theorem wsL_law_g4 : GoodIn lw_tbl wsL_law_r4 := goodIn_r _ [140, 141, 143, 152, 153, 154, 155, 156, 157, 52, 219, 222, 223, 224, 225, 228, 227, 221, 226, 159, 160, 161, 162, 164] (by decide +kernel) (by decide +kernel)
set_option maxRecDepth 20000 in
theorem wsL_law_g5 : GoodIn lw_tbl wsL_law_r5 := goodIn_r _ [166, 168, 171, 174, 177, 180, 183, 186, 188, 189, 190, 593, 594, 595, 596, 599, 600, 601, 602, 603, 604, 605, 606, 608] (by decide +kernel) (by decide +kernel)
set_option maxRecDepth 20000 in
theorem wsL_law_g6 : GoodIn lw_tbl wsL_law_r6 := goodIn_r _ [609, 611, 612, 613, 614, 619, 620, 621, 622, 623, 624, 625, 626, 627, 628, 629, 630, 631, 634, 635, 636, 637, 597, 598] (by decide +kernel) (by decide +kernel)
set_option maxRecDepth 20000 in
theorem wsL_law_g7 : GoodIn lw_tbl wsL_law_r7 := goodIn_r _ [300, 301, 302, 303, 72, 304, 305, 306, 307, 309, 0, 310, 311, 312, 313, 314, 724, 725, 726, 727, 728, 729, 730, 315] (by decide +kernel) (by decide +kernel)
set_option maxRecDepth 20000 in
theorem wsL_law_g8 : GoodIn lw_tbl wsL_law_r8 := goodIn_r _ [316, 317, 318, 74, 319, 321, 1, 322, 323, 324, 325, 326, 327, 329, 2, 330, 331, 333, 334, 335, 336, 337, 338, 339] (by decide +kernel) (by decide +kernel)
set_option maxRecDepth 20000 in
theorem wsL_law_g9 : GoodIn lw_tbl wsL_law_r9 := goodIn_r _ [340, 341, 342, 343, 731, 732, 733, 734, 735, 737, 25, 738, 739, 741, 26, 742, 743, 744, 745, 746, 748, 27, 749, 344] (by decide +kernel) (by decide +kernel)
set_option maxRecDepth 20000 in
theorem wsL_law_g10 : GoodIn lw_tbl wsL_law_r10 := goodIn_r _ [345, 346, 347, 348, 349, 350, 351, 750, 751, 752, 753, 352, 353, 354, 355, 220, 163, 356, 357, 358, 359, 360, 361, 362] (by decide +kernel) (by decide +kernel)
set_option maxRecDepth 20000 in
theorem wsL_law_g11 : GoodIn lw_tbl wsL_law_r11 := goodIn_r _ [363, 75, 77, 364, 365, 366, 367, 368, 369, 370, 371, 372, 374, 3, 375, 173, 376, 378, 4, 379, 79, 380, 381, 383] (by decide +kernel) (by decide +kernel)
set_option maxRecDepth 20000 in
theorem wsL_law_g12 : GoodIn lw_tbl wsL_law_r12 := goodIn_r _ [5, 384, 385, 386, 388, 6, 389, 390, 392, 7, 393, 169, 175, 394, 396, 8, 397, 398, 400, 9, 401, 81, 83, 402] (by decide +kernel) (by decide +kernel)
set_option maxRecDepth 20000 in
theorem wsL_law_g13 : GoodIn lw_tbl wsL_law_r13 := goodIn_r _ [404, 10, 405, 406, 407, 408, 409, 410, 412, 11, 413, 414, 415, 417, 12, 418, 184, 419, 420, 421, 422, 423, 425, 13] (by decide +kernel) (by decide +kernel)
set_option maxRecDepth 20000 in
theorem wsL_law_g14 : GoodIn lw_tbl wsL_law_r14 := goodIn_r _ [426, 427, 428, 429, 754, 755, 756, 757, 616, 758, 760, 28, 761, 615, 610, 762, 764, 29, 765, 766, 768, 30, 769, 770] (by decide +kernel) (by decide +kernel)
set_option maxRecDepth 20000 in
theorem wsL_law_g15 : GoodIn lw_tbl wsL_law_r15 := goodIn_r _ [772, 31, 773, 774, 776, 32, 777, 778, 780, 33, 781, 617, 618, 782, 784, 34, 785, 786, 787, 788, 430, 431, 432, 433] (by decide +kernel) (by decide +kernel)
set_option maxRecDepth 20000 in
theorem wsL_law_g16 : GoodIn lw_tbl wsL_law_r16 := goodIn_r _ [167, 165, 170, 176, 172, 789, 790, 791, 792, 434, 435, 436, 437, 179, 181, 793, 794, 795, 796, 438, 439, 440, 441, 442] (by decide +kernel) (by decide +kernel)
set_option maxRecDepth 20000 in
theorem wsL_law_g17 : GoodIn lw_tbl wsL_law_r17 := goodIn_r _ [443, 444, 445, 446, 448, 14, 449, 797, 798, 799, 800, 450, 451, 452, 453, 107, 801, 802, 803, 804, 454, 455, 456, 457] (by decide +kernel) (by decide +kernel)
set_option maxRecDepth 20000 in
theorem wsL_law_g18 : GoodIn lw_tbl wsL_law_r18 := goodIn_r _ [458, 460, 15, 461, 462, 464, 16, 465, 466, 468, 17, 469, 470, 472, 18, 473, 474, 475, 476, 477, 478, 479, 480, 481] (by decide +kernel) (by decide +kernel)
set_option maxRecDepth 20000 in
theorem wsL_law_g19 : GoodIn lw_tbl wsL_law_r19 := goodIn_r _ [482, 484, 19, 485, 178, 182, 486, 488, 20, 489, 805, 806, 807, 808, 632, 633, 809, 811, 35, 812, 813, 815, 36, 816] (by decide +kernel) (by decide +kernel)
set_option maxRecDepth 20000 in
theorem wsL_law_g20 : GoodIn lw_tbl wsL_law_r20 := goodIn_r _ [817, 819, 37, 820, 607, 821, 823, 38, 824, 825, 827, 39, 828, 829, 831, 40, 832, 490, 491, 492, 493, 833, 834, 835] (by decide +kernel) (by decide +kernel)
set_option maxRecDepth 20000 in
theorem wsL_law_g21 : GoodIn lw_tbl wsL_law_r21 := goodIn_r _ [836, 494, 495, 496, 497, 837, 838, 839, 840, 498, 499, 500, 501, 509, 514, 502, 503, 504, 505, 506, 508, 507, 54, 510] (by decide +kernel) (by decide +kernel)
set_option maxRecDepth 20000 in
theorem wsL_law_g22 : GoodIn lw_tbl wsL_law_r22 := goodIn_r _ [512, 21, 513, 516, 517, 518, 519, 520, 521, 55, 522, 523, 841, 842, 843, 844, 845, 847, 41, 848, 524, 525, 526, 527] (by decide +kernel) (by decide +kernel)
set_option maxRecDepth 20000 in
theorem wsL_law_g23 : GoodIn lw_tbl wsL_law_r23 := goodIn_r _ [123, 528, 529, 530, 531, 532, 533, 534, 535, 849, 850, 851, 852, 536, 537, 538, 539, 853, 854, 855, 856, 540, 541, 542] (by decide +kernel) (by decide +kernel)
set_option maxRecDepth 20000 in
theorem wsL_law_g24 : GoodIn lw_tbl wsL_law_r24 := goodIn_r _ [543, 142, 544, 545, 546, 547, 548, 549, 550, 551, 552, 554, 22, 555, 125, 127, 185, 577, 578, 56, 579, 556, 557, 558] (by decide +kernel) (by decide +kernel)
set_option maxRecDepth 20000 in
theorem wsL_law_g25 : GoodIn lw_tbl wsL_law_r25 := goodIn_r _ [559, 560, 562, 23, 563, 564, 566, 24, 567, 191, 187, 568, 569, 570, 571, 572, 573, 574, 575, 576, 857, 858, 859, 860] (by decide +kernel) (by decide +kernel)
set_option maxRecDepth 20000 in
theorem wsL_law_g26 : GoodIn lw_tbl wsL_law_r26 := goodIn_r _ [638, 861, 863, 42, 864, 865, 867, 43, 868, 869, 871, 44, 872, 580, 581, 582, 583, 144, 873, 874, 875, 876, 584, 585] (by decide +kernel) (by decide +kernel)
set_option maxRecDepth 20000 in
theorem wsL_law_g27 : GoodIn lw_tbl wsL_law_r27 := goodIn_r _ [586, 587, 105, 877, 878, 879, 880] (by decide +kernel) (by decide +kernel)
set_option maxRecDepth 20000 in
theorem wsL_law_gX6 : GoodIn lw_tbl wsX60 := goodIn_r _ [265, 267, 269, 271, 273, 275, 277, 279, 281, 283, 285, 287, 289, 291, 293, 295, 297] (by decide +kernel) (by decide +kernel)
set_option maxRecDepth 20000 in
theorem wsL_law_gX7 : GoodIn lw_tbl wsX70 := goodIn_r _ [639, 641, 643, 645, 647, 649, 651, 653, 655, 657, 659, 661, 663, 665, 667, 669, 671, 673, 675, 677, 679, 681, 683, 685, 687, 689, 691, 693, 695, 697, 699, 701, 703, 705, 707, 709, 711, 713, 715, 717, 719, 721] (by decide +kernel) (by decide +kernel)
set_option maxRecDepth 20000 in
theorem wsL_law_gX0 : GoodIn lw_tbl wsX00 := goodIn_r _ [84, 86, 88, 90, 92, 94] (by decide +kernel) (by decide +kernel)
set_option maxRecDepth 20000 in
theorem wsL_law_gX3 : GoodIn lw_tbl wsX30 := goodIn_r _ [109, 111, 113] (by decide +kernel) (by decide +kernel)
set_option maxRecDepth 20000 in
theorem wsL_law_gX2 : GoodIn lw_tbl wsX20 := goodIn_r _ [128, 130, 132] (by decide +kernel) (by decide +kernel)
set_option maxRecDepth 20000 in
theorem wsL_law_gX4 : GoodIn lw_tbl wsX40 := goodIn_r _ [145, 147] (by decide +kernel) (by decide +kernel)
set_option maxRecDepth 20000 in
theorem wsL_law_gX1 : GoodIn lw_tbl wsX10 := goodIn_r _ [229, 231, 233, 235, 237, 239, 241, 243, 245] (by decide +kernel) (by decide +kernel)
set_option maxRecDepth 20000 in
theorem wsL_law_gX5 : GoodIn lw_tbl wsX50 := goodIn_r _ [192, 194, 196, 198, 200, 202, 204, 206, 208, 210, 212, 214, 216] (by decide +kernel) (by decide +kernel)
theorem wsL_law_gg : GoodIn lw_tbl wsL_law := (goodIn_app (goodIn_app (goodIn_app (goodIn_app (goodIn_app (goodIn_app (goodIn_app (goodIn_app (goodIn_app (goodIn_app wsL_law_g1 (goodIn_app wsL_law_g2 (goodIn_app wsL_law_g3 (goodIn_app wsL_law_g4 (goodIn_app wsL_law_g5 (goodIn_app wsL_law_g6 (goodIn_app wsL_law_g7 (goodIn_app wsL_law_g8 (goodIn_app wsL_law_g9 (goodIn_app wsL_law_g10 (goodIn_app wsL_law_g11 (goodIn_app wsL_law_g12 (goodIn_app wsL_law_g13 (goodIn_app wsL_law_g14 (goodIn_app wsL_law_g15 (goodIn_app wsL_law_g16 (goodIn_app wsL_law_g17 (goodIn_app wsL_law_g18 (goodIn_app wsL_law_g19 (goodIn_app wsL_law_g20 (goodIn_app wsL_law_g21 (goodIn_app wsL_law_g22 (goodIn_app wsL_law_g23 (goodIn_app wsL_law_g24 (goodIn_app wsL_law_g25 (goodIn_app wsL_law_g26 wsL_law_g27)))))))))))))))))))))))))) wsL_law_gX6) wsL_law_gX7) wsL_law_gX0) wsL_law_gX3) wsL_law_gX2) wsL_law_gX4) wsL_law_gX1) wsL_law_gX5) (fun w h => absurd h List.not_mem_nil))
theorem wsL_law_in : ∀ w ∈ wsL_law, w ∈ lw_tbl := fun w h => (wsL_law_gg w h).1
theorem inlX0 : ∀ w ∈ wsX00, w ∈ wsL_law := fun _ h => List.mem_append_left _ (List.mem_append_left _ (List.mem_append_left _ (List.mem_append_left _ (List.mem_append_left _ (List.mem_append_left _ (List.mem_append_right _ h))))))
theorem inX0 : ∀ w ∈ wsX00, w ∈ lw_tbl := fun w h => wsL_law_in w (inlX0 w h)
theorem inlX1 : ∀ w ∈ wsX10, w ∈ wsL_law := fun _ h => List.mem_append_left _ (List.mem_append_left _ (List.mem_append_right _ h))
theorem inX1 : ∀ w ∈ wsX10, w ∈ lw_tbl := fun w h => wsL_law_in w (inlX1 w h)
theorem inlX2 : ∀ w ∈ wsX20, w ∈ wsL_law := fun _ h => List.mem_append_left _ (List.mem_append_left _ (List.mem_append_left _ (List.mem_append_left _ (List.mem_append_right _ h))))
theorem inX2 : ∀ w ∈ wsX20, w ∈ lw_tbl := fun w h => wsL_law_in w (inlX2 w h)
theorem inlX3 : ∀ w ∈ wsX30, w ∈ wsL_law := fun _ h => List.mem_append_left _ (List.mem_append_left _ (List.mem_append_left _ (List.mem_append_left _ (List.mem_append_left _ (List.mem_append_right _ h)))))
theorem inX3 : ∀ w ∈ wsX30, w ∈ lw_tbl := fun w h => wsL_law_in w (inlX3 w h)
theorem inlX4 : ∀ w ∈ wsX40, w ∈ wsL_law := fun _ h => List.mem_append_left _ (List.mem_append_left _ (List.mem_append_left _ (List.mem_append_right _ h)))
theorem inX4 : ∀ w ∈ wsX40, w ∈ lw_tbl := fun w h => wsL_law_in w (inlX4 w h)
theorem inlX5 : ∀ w ∈ wsX50, w ∈ wsL_law := fun _ h => List.mem_append_left _ (List.mem_append_right _ h)
theorem inX5 : ∀ w ∈ wsX50, w ∈ lw_tbl := fun w h => wsL_law_in w (inlX5 w h)
theorem inlX6 : ∀ w ∈ wsX60, w ∈ wsL_law := fun _ h => List.mem_append_left _ (List.mem_append_left _ (List.mem_append_left _ (List.mem_append_left _ (List.mem_append_left _ (List.mem_append_left _ (List.mem_append_left _ (List.mem_append_left _ (List.mem_append_right _ h))))))))
theorem inX6 : ∀ w ∈ wsX60, w ∈ lw_tbl := fun w h => wsL_law_in w (inlX6 w h)
theorem inlX7 : ∀ w ∈ wsX70, w ∈ wsL_law := fun _ h => List.mem_append_left _ (List.mem_append_left _ (List.mem_append_left _ (List.mem_append_left _ (List.mem_append_left _ (List.mem_append_left _ (List.mem_append_left _ (List.mem_append_right _ h)))))))
theorem inX7 : ∀ w ∈ wsX70, w ∈ lw_tbl := fun w h => wsL_law_in w (inlX7 w h)
theorem inJ6 : ∀ w ∈ wsJ60, w ∈ lw_tbl := by decide +kernel
theorem inJ9 : ∀ w ∈ wsJ90, w ∈ lw_tbl := by decide +kernel
theorem inJ10 : ∀ w ∈ wsJ100, w ∈ lw_tbl := by decide +kernel
