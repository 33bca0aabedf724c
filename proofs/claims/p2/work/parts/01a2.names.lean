set_option maxRecDepth 20000 in
theorem wsL_law_g1 : GoodIn lw_tbl wsL_law_r1 := goodIn_p _ [590, 61, 64] (by decide +kernel) (by decide +kernel)
set_option maxRecDepth 20000 in
theorem wsL_law_g2 : GoodIn lw_tbl wsL_law_r2 := goodIn_p _ [] (by decide +kernel) (by decide +kernel)
set_option maxRecDepth 20000 in
theorem wsL_law_g3 : GoodIn lw_tbl wsL_law_r3 := goodIn_p _ [69, 102, 120, 139] (by decide +kernel) (by decide +kernel)
set_option maxRecDepth 20000 in
theorem wsL_law_g4 : GoodIn lw_tbl wsL_law_r4 := goodIn_p _ [154, 160] (by decide +kernel) (by decide +kernel)
set_option maxRecDepth 20000 in
theorem wsL_law_g5 : GoodIn lw_tbl wsL_law_r5 := goodIn_p _ [595] (by decide +kernel) (by decide +kernel)
set_option maxRecDepth 20000 in
theorem wsL_law_g6 : GoodIn lw_tbl wsL_law_r6 := goodIn_p _ [] (by decide +kernel) (by decide +kernel)
set_option maxRecDepth 20000 in
theorem wsL_law_g7 : GoodIn lw_tbl wsL_law_r7 := goodIn_p _ [303, 306, 310, 314, 727, 730] (by decide +kernel) (by decide +kernel)
set_option maxRecDepth 20000 in
theorem wsL_law_g8 : GoodIn lw_tbl wsL_law_r8 := goodIn_p _ [318, 322, 326, 330, 335, 339] (by decide +kernel) (by decide +kernel)
set_option maxRecDepth 20000 in
theorem wsL_law_g9 : GoodIn lw_tbl wsL_law_r9 := goodIn_p _ [343, 734, 738, 742, 745, 749] (by decide +kernel) (by decide +kernel)
set_option maxRecDepth 20000 in
theorem wsL_law_g10 : GoodIn lw_tbl wsL_law_r10 := goodIn_p _ [347, 351, 753, 355, 359] (by decide +kernel) (by decide +kernel)
set_option maxRecDepth 20000 in
theorem wsL_law_g11 : GoodIn lw_tbl wsL_law_r11 := goodIn_p _ [363, 367, 371, 375, 379] (by decide +kernel) (by decide +kernel)
set_option maxRecDepth 20000 in
theorem wsL_law_g12 : GoodIn lw_tbl wsL_law_r12 := goodIn_p _ [384, 389, 393, 397, 401] (by decide +kernel) (by decide +kernel)
set_option maxRecDepth 20000 in
theorem wsL_law_g13 : GoodIn lw_tbl wsL_law_r13 := goodIn_p _ [405, 409, 413, 418, 422] (by decide +kernel) (by decide +kernel)
set_option maxRecDepth 20000 in
theorem wsL_law_g14 : GoodIn lw_tbl wsL_law_r14 := goodIn_p _ [426, 429, 757, 761, 765, 769] (by decide +kernel) (by decide +kernel)
set_option maxRecDepth 20000 in
theorem wsL_law_g15 : GoodIn lw_tbl wsL_law_r15 := goodIn_p _ [773, 777, 781, 785, 788, 433] (by decide +kernel) (by decide +kernel)
set_option maxRecDepth 20000 in
theorem wsL_law_g16 : GoodIn lw_tbl wsL_law_r16 := goodIn_p _ [792, 437, 796, 441] (by decide +kernel) (by decide +kernel)
set_option maxRecDepth 20000 in
theorem wsL_law_g17 : GoodIn lw_tbl wsL_law_r17 := goodIn_p _ [445, 449, 800, 453, 804, 457] (by decide +kernel) (by decide +kernel)
set_option maxRecDepth 20000 in
theorem wsL_law_g18 : GoodIn lw_tbl wsL_law_r18 := goodIn_p _ [461, 465, 469, 473, 477, 481] (by decide +kernel) (by decide +kernel)
set_option maxRecDepth 20000 in
theorem wsL_law_g19 : GoodIn lw_tbl wsL_law_r19 := goodIn_p _ [485, 489, 808, 812, 816] (by decide +kernel) (by decide +kernel)
set_option maxRecDepth 20000 in
theorem wsL_law_g20 : GoodIn lw_tbl wsL_law_r20 := goodIn_p _ [820, 824, 828, 832, 493] (by decide +kernel) (by decide +kernel)
set_option maxRecDepth 20000 in
theorem wsL_law_g21 : GoodIn lw_tbl wsL_law_r21 := goodIn_p _ [836, 497, 840, 501, 505] (by decide +kernel) (by decide +kernel)
set_option maxRecDepth 20000 in
theorem wsL_law_g22 : GoodIn lw_tbl wsL_law_r22 := goodIn_p _ [513, 519, 522, 844, 848, 527] (by decide +kernel) (by decide +kernel)
set_option maxRecDepth 20000 in
theorem wsL_law_g23 : GoodIn lw_tbl wsL_law_r23 := goodIn_p _ [531, 535, 852, 539, 856] (by decide +kernel) (by decide +kernel)
set_option maxRecDepth 20000 in
theorem wsL_law_g24 : GoodIn lw_tbl wsL_law_r24 := goodIn_p _ [543, 547, 551, 555, 579] (by decide +kernel) (by decide +kernel)
set_option maxRecDepth 20000 in
theorem wsL_law_g25 : GoodIn lw_tbl wsL_law_r25 := goodIn_p _ [559, 563, 567, 571, 575, 860] (by decide +kernel) (by decide +kernel)
set_option maxRecDepth 20000 in
theorem wsL_law_g26 : GoodIn lw_tbl wsL_law_r26 := goodIn_p _ [864, 868, 872, 583, 876] (by decide +kernel) (by decide +kernel)
set_option maxRecDepth 20000 in
theorem wsL_law_g27 : GoodIn lw_tbl wsL_law_r27 := goodIn_p _ [587, 880] (by decide +kernel) (by decide +kernel)
set_option maxRecDepth 20000 in
theorem wsL_law_gX6 : GoodIn lw_tbl wsX60 := goodIn_p _ [] (by decide +kernel) (by decide +kernel)
set_option maxRecDepth 20000 in
theorem wsL_law_gX7 : GoodIn lw_tbl wsX70 := goodIn_p _ [] (by decide +kernel) (by decide +kernel)
set_option maxRecDepth 20000 in
theorem wsL_law_gX0 : GoodIn lw_tbl wsX00 := goodIn_p _ [] (by decide +kernel) (by decide +kernel)
set_option maxRecDepth 20000 in
theorem wsL_law_gX3 : GoodIn lw_tbl wsX30 := goodIn_p _ [] (by decide +kernel) (by decide +kernel)
set_option maxRecDepth 20000 in
theorem wsL_law_gX2 : GoodIn lw_tbl wsX20 := goodIn_p _ [] (by decide +kernel) (by decide +kernel)
set_option maxRecDepth 20000 in
theorem wsL_law_gX4 : GoodIn lw_tbl wsX40 := goodIn_p _ [] (by decide +kernel) (by decide +kernel)
set_option maxRecDepth 20000 in
theorem wsL_law_gX1 : GoodIn lw_tbl wsX10 := goodIn_p _ [] (by decide +kernel) (by decide +kernel)
set_option maxRecDepth 20000 in
theorem wsL_law_gX5 : GoodIn lw_tbl wsX50 := goodIn_p _ [] (by decide +kernel) (by decide +kernel)
theorem wsL_law_gg : GoodIn lw_tbl wsL_law := (goodIn_app (goodIn_app (goodIn_app (goodIn_app (goodIn_app (goodIn_app (goodIn_app (goodIn_app (goodIn_app (goodIn_app wsL_law_g1 (goodIn_app wsL_law_g2 (goodIn_app wsL_law_g3 (goodIn_app wsL_law_g4 (goodIn_app wsL_law_g5 (goodIn_app wsL_law_g6 (goodIn_app wsL_law_g7 (goodIn_app wsL_law_g8 (goodIn_app wsL_law_g9 (goodIn_app wsL_law_g10 (goodIn_app wsL_law_g11 (goodIn_app wsL_law_g12 (goodIn_app wsL_law_g13 (goodIn_app wsL_law_g14 (goodIn_app wsL_law_g15 (goodIn_app wsL_law_g16 (goodIn_app wsL_law_g17 (goodIn_app wsL_law_g18 (goodIn_app wsL_law_g19 (goodIn_app wsL_law_g20 (goodIn_app wsL_law_g21 (goodIn_app wsL_law_g22 (goodIn_app wsL_law_g23 (goodIn_app wsL_law_g24 (goodIn_app wsL_law_g25 (goodIn_app wsL_law_g26 wsL_law_g27)))))))))))))))))))))))))) wsL_law_gX6) wsL_law_gX7) wsL_law_gX0) wsL_law_gX3) wsL_law_gX2) wsL_law_gX4) wsL_law_gX1) wsL_law_gX5) (fun w h => absurd h List.not_mem_nil))
theorem wsL_law_in : ∀ w ∈ wsL_law, w ∈ lw_tbl := fun w h => (wsL_law_gg w h).1
theorem inlX0 : ∀ w ∈ wsX00, w ∈ wsL_law := fun _ h => List.mem_append_left _ (List.mem_append_left _ (List.mem_append_left _ (List.mem_append_left _ (List.mem_append_left _ (List.mem_append_left _ (List.mem_append_right _ h))))))
theorem inX0 : ∀ w ∈ wsX00, w ∈ lw_tbl := fun w h => wsL_law_in w (inlX0 w h)
theorem inlX1 : ∀ w ∈ wsX10, w ∈ wsL_law := fun _ h => List.mem_append_left _ (List.mem_append_left _ (List.mem_append_right _ h))
theorem inX1 : ∀ w ∈ wsX10, w ∈ lw_tbl := fun w h => wsL_law_in w (inlX1 w h)
theorem inlX2 : ∀ w ∈ wsX20, w ∈ wsL_law := fun _ h => List.mem_append_left _ (List.mem_append_left _ (List.mem_append_left _ (List.mem_append_left _ (List.mem_append_right _ h))))
theorem inX2 : ∀ w ∈ wsX20, w ∈ lw_tbl := fun w h => wsL_law_in w (inlX2 w h)
theorem inlX3 : ∀ w ∈ wsX30, w ∈ wsL_law := fun _ h => List.mem_append_left _ (List.mem_append_left _ (List.mem_append_left _ (List.mem_append_left _ (List.mem_append_left _ (List.mem_append_right _ h)))))
theorem inX3 : ∀ w ∈ wsX30, w ∈ lw_tbl := fun w h => wsL_law_in w (inlX3 w h)
theorem inlX4 : ∀ w ∈ wsX40, w ∈ wsL_law := fun _ h => List.mem_append_left _ (List.mem_append_left _ (List.mem_append_left _ (List.mem_append_right _ h)))
theorem inX4 : ∀ w ∈ wsX40, w ∈ lw_tbl := fun w h => wsL_law_in w (inlX4 w h)
theorem inlX5 : ∀ w ∈ wsX50, w ∈ wsL_law := fun _ h => List.mem_append_left _ (List.mem_append_right _ h)
theorem inX5 : ∀ w ∈ wsX50, w ∈ lw_tbl := fun w h => wsL_law_in w (inlX5 w h)
theorem inlX6 : ∀ w ∈ wsX60, w ∈ wsL_law := fun _ h => List.mem_append_left _ (List.mem_append_left _ (List.mem_append_left _ (List.mem_append_left _ (List.mem_append_left _ (List.mem_append_left _ (List.mem_append_left _ (List.mem_append_left _ (List.mem_append_right _ h))))))))
theorem inX6 : ∀ w ∈ wsX60, w ∈ lw_tbl := fun w h => wsL_law_in w (inlX6 w h)
theorem inlX7 : ∀ w ∈ wsX70, w ∈ wsL_law := fun _ h => List.mem_append_left _ (List.mem_append_left _ (List.mem_append_left _ (List.mem_append_left _ (List.mem_append_left _ (List.mem_append_left _ (List.mem_append_left _ (List.mem_append_right _ h)))))))
theorem inX7 : ∀ w ∈ wsX70, w ∈ lw_tbl := fun w h => wsL_law_in w (inlX7 w h)
theorem inJ6 : ∀ w ∈ wsJ60, w ∈ lw_tbl := by decide +kernel
theorem inJ9 : ∀ w ∈ wsJ90, w ∈ lw_tbl := by decide +kernel
theorem inJ10 : ∀ w ∈ wsJ100, w ∈ lw_tbl := by decide +kernel
