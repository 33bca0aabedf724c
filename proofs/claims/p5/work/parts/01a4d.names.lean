theorem lwX7_reckoned : GoodIn wsL_law wsX7_reckoned := goodIn_cons (goodIn_hd lwX7_reckoned_h) goodIn_nil
set_option maxRecDepth 20000 in
theorem lwX7_calls_h : GoodIn wsL_law (Cond.code yX7_calls cX7_calls 9 none :: wsX7_calls_o1) := goodIn_r _ [346, 115, 124, 116, 111, 320, 326, 125, 325, 114, 134, 135, 136, 137, 347, 348, 143, 349, 350, 351, 5, 327, 328, 329] (by decide +kernel) (by decide +kernel)
theorem lwwX7_calls_o1 : GoodIn wsL_law wsX7_calls_o1 := goodIn_tl lwX7_calls_h
theorem lwX7_calls : GoodIn wsL_law wsX7_calls := goodIn_cons (goodIn_hd lwX7_calls_h) (goodIn_app (goodIn_app lwwX7_calls_o1 (goodIn_app lwX7_throwsOut lwX7_enter)) (goodIn_mem inlX7 ok_wsX70))
set_option maxRecDepth 20000 in
theorem lwX7_tell_h : GoodIn wsL_law (Cond.code yX7_tell cX7_tell 4 none :: wsX7_tell_o1) := goodIn_r _ [342, 130, 325, 125, 131, 132, 133, 134] (by decide +kernel) (by decide +kernel)
theorem lwwX7_tell_o1 : GoodIn wsL_law wsX7_tell_o1 := goodIn_tl lwX7_tell_h
theorem lwX7_tell : GoodIn wsL_law wsX7_tell := goodIn_cons (goodIn_hd lwX7_tell_h) (goodIn_app lwwX7_tell_o1 (goodIn_mem inlX7 ok_wsX70))
set_option maxRecDepth 20000 in
theorem lwX7_act_h : GoodIn wsL_law (Cond.code yX7_act cX7_act 10 none :: wsX7_act_o1) := goodIn_r _ [338, 113, 114, 115, 124, 122, 116, 143, 339, 340, 341, 5, 343, 344, 345, 349, 350, 351, 331, 332, 333, 353, 354] (by decide +kernel) (by decide +kernel)
theorem lwwX7_act_o1 : GoodIn wsL_law wsX7_act_o1 := goodIn_tl lwX7_act_h
theorem lwX7_act : GoodIn wsL_law wsX7_act := goodIn_cons (goodIn_hd lwX7_act_h) (goodIn_app (goodIn_app lwwX7_act_o1 (goodIn_app lwX7_tell (goodIn_app lwX7_calls (goodIn_app lwX7_returns (goodIn_app lwX7_throwsOut lwX7_reckoned))))) (goodIn_mem inlX7 ok_wsX70))
set_option maxRecDepth 20000 in
theorem lwX7_play_h : GoodIn wsL_law (Cond.code yX7_play cX7_play 9 none :: wsX7_play_o1) := goodIn_r _ [324, 325, 326, 125, 126, 127, 128, 129, 130, 134, 121, 122, 112, 327, 328, 329, 5, 331, 332, 333, 335, 336, 337] (by decide +kernel) (by decide +kernel)
theorem lwwX7_play_o1 : GoodIn wsL_law wsX7_play_o1 := goodIn_tl lwX7_play_h
theorem lwX7_play : GoodIn wsL_law wsX7_play := goodIn_cons (goodIn_hd lwX7_play_h) (goodIn_app (goodIn_app lwwX7_play_o1 (goodIn_app lwX7_enter (goodIn_app lwX7_returns lwX7_act))) (goodIn_mem inlX7 ok_wsX70))
set_option maxRecDepth 20000 in
theorem lwX7_run_h : GoodIn wsL_law (Cond.code yX7_run cX7_run 5 (some .int) :: wsX7_run_o1) := goodIn_r _ [319, 320, 125, 200, 201, 202, 5, 211, 212, 213, 321, 322, 323] (by decide +kernel) (by decide +kernel)
theorem lwwX7_run_o1 : GoodIn wsL_law wsX7_run_o1 := goodIn_tl lwX7_run_h
theorem lwX7_run : GoodIn wsL_law wsX7_run := goodIn_cons (goodIn_hd lwX7_run_h) (goodIn_app (goodIn_app lwwX7_run_o1 (goodIn_app lwX7_isMethod (goodIn_app lwX7_isNumber lwX7_play))) (goodIn_mem inlX7 ok_wsX70))
set_option maxRecDepth 20000 in
theorem lwX7_ran_h : GoodIn wsL_law (Cond.code yX7_ran cX7_ran 2 (some .int) :: wsX7_ran_o1) := goodIn_r _ [368, 127, 126, 128, 130, 129] (by decide +kernel) (by decide +kernel)
theorem lwwX7_ran_o1 : GoodIn wsL_law wsX7_ran_o1 := goodIn_tl lwX7_ran_h
theorem lwX7_ran : GoodIn wsL_law wsX7_ran := goodIn_cons (goodIn_hd lwX7_ran_h) (goodIn_app lwwX7_ran_o1 (goodIn_mem inlX7 ok_wsX70))
set_option maxRecDepth 20000 in
theorem lwX7_told_h : GoodIn wsL_law (Cond.code yX7_told cX7_told 3 (some .int) :: wsX7_told_o1) := goodIn_r _ [378, 130, 131, 132, 164, 165, 5] (by decide +kernel) (by decide +kernel)
theorem lwwX7_told_o1 : GoodIn wsL_law wsX7_told_o1 := goodIn_tl lwX7_told_h
theorem lwX7_told : GoodIn wsL_law wsX7_told := goodIn_cons (goodIn_hd lwX7_told_h) (goodIn_app (goodIn_app lwwX7_told_o1 lwX7_in) (goodIn_mem inlX7 ok_wsX70))
set_option maxRecDepth 20000 in
theorem lwX7_rename_h : GoodIn wsL_law (Cond.code yX7_rename cX7_rename 5 (some .int) :: wsX7_rename_o1) := goodIn_r _ [394, 117, 164, 165, 5] (by decide +kernel) (by decide +kernel)
theorem lwwX7_rename_o1 : GoodIn wsL_law wsX7_rename_o1 := goodIn_tl lwX7_rename_h
theorem lwX7_rename : GoodIn wsL_law wsX7_rename := goodIn_cons (goodIn_hd lwX7_rename_h) (goodIn_app (goodIn_app lwwX7_rename_o1 lwX7_in) (goodIn_mem inlX7 ok_wsX70))
set_option maxRecDepth 20000 in
theorem lwX7_group_h : GoodIn wsL_law (Cond.code yX7_group cX7_group 4 (some .int) :: wsX7_group_o1) := goodIn_r _ [403, 118, 164, 165, 5] (by decide +kernel) (by decide +kernel)
theorem lwwX7_group_o1 : GoodIn wsL_law wsX7_group_o1 := goodIn_tl lwX7_group_h
theorem lwX7_group : GoodIn wsL_law wsX7_group := goodIn_cons (goodIn_hd lwX7_group_h) (goodIn_app (goodIn_app lwwX7_group_o1 lwX7_in) (goodIn_mem inlX7 ok_wsX70))
set_option maxRecDepth 20000 in
theorem lwX7_portOf_h : GoodIn wsL_law (Cond.code yX7_portOf cX7_portOf 3 (some .int) :: wsX7_portOf_o1) := goodIn_r _ [472, 131, 117] (by decide +kernel) (by decide +kernel)
theorem lwwX7_portOf_o1 : GoodIn wsL_law wsX7_portOf_o1 := goodIn_tl lwX7_portOf_h
theorem lwX7_portOf : GoodIn wsL_law wsX7_portOf := goodIn_cons (goodIn_hd lwX7_portOf_h) (goodIn_app lwwX7_portOf_o1 (goodIn_mem inlX7 ok_wsX70))
set_option maxRecDepth 20000 in
theorem lwX7_next_h : GoodIn wsL_law (Cond.code yX7_next cX7_next 6 (some .int) :: wsX7_next_o1) := goodIn_r _ [468, 130, 133, 118, 469, 470, 471, 5] (by decide +kernel) (by decide +kernel)
theorem lwwX7_next_o1 : GoodIn wsL_law wsX7_next_o1 := goodIn_tl lwX7_next_h
theorem lwX7_next : GoodIn wsL_law wsX7_next := goodIn_cons (goodIn_hd lwX7_next_h) (goodIn_app (goodIn_app lwwX7_next_o1 lwX7_portOf) (goodIn_mem inlX7 ok_wsX70))
set_option maxRecDepth 20000 in
theorem lwX7_areTellsLike_h : GoodIn wsL_law (Cond.code yX7_areTellsLike cX7_areTellsLike 5 (some .boolean) :: wsX7_areTellsLike_o1) := goodIn_r _ [464, 130, 132, 465, 466, 467, 5, 469, 470, 471] (by decide +kernel) (by decide +kernel)
theorem lwwX7_areTellsLike_o1 : GoodIn wsL_law wsX7_areTellsLike_o1 := goodIn_tl lwX7_areTellsLike_h
theorem lwX7_areTellsLike : GoodIn wsL_law wsX7_areTellsLike := goodIn_cons (goodIn_hd lwX7_areTellsLike_h) (goodIn_app (goodIn_app lwwX7_areTellsLike_o1 (goodIn_app lwX7_next lwX7_portOf)) (goodIn_mem inlX7 ok_wsX70))
set_option maxRecDepth 20000 in
theorem lwX7_isPair_h : GoodIn wsL_law (Cond.code yX7_isPair cX7_isPair 5 (some .boolean) :: wsX7_isPair_o1) := goodIn_r _ [459, 460, 119, 120] (by decide +kernel) (by decide +kernel)
theorem lwwX7_isPair_o1 : GoodIn wsL_law wsX7_isPair_o1 := goodIn_tl lwX7_isPair_h
theorem lwX7_isPair : GoodIn wsL_law wsX7_isPair := goodIn_cons (goodIn_hd lwX7_isPair_h) (goodIn_app lwwX7_isPair_o1 (goodIn_mem inlX7 ok_wsX70))
set_option maxRecDepth 20000 in
theorem lwX7_areLike_h : GoodIn wsL_law (Cond.code yX7_areLike cX7_areLike 4 (some .boolean) :: wsX7_areLike_o1) := goodIn_r _ [455, 125, 126, 127, 134, 135, 136, 137, 456, 457, 458, 5, 461, 462, 463] (by decide +kernel) (by decide +kernel)
theorem lwwX7_areLike_o1 : GoodIn wsL_law wsX7_areLike_o1 := goodIn_tl lwX7_areLike_h
theorem lwX7_areLike : GoodIn wsL_law wsX7_areLike := goodIn_cons (goodIn_hd lwX7_areLike_h) (goodIn_app (goodIn_app lwwX7_areLike_o1 (goodIn_app lwX7_isPair lwX7_areTellsLike)) (goodIn_mem inlX7 ok_wsX70))
set_option maxRecDepth 20000 in
theorem lwX7_held_h : GoodIn wsL_law (Cond.code yX7_held cX7_held 6 (some .int) :: wsX7_held_o1) := goodIn_r _ [451, 320, 143, 125, 446, 447, 321, 322, 323, 5, 452, 453, 454] (by decide +kernel) (by decide +kernel)
theorem lwwX7_held_o1 : GoodIn wsL_law wsX7_held_o1 := goodIn_tl lwX7_held_h
theorem lwX7_held : GoodIn wsL_law wsX7_held := goodIn_cons (goodIn_hd lwX7_held_h) (goodIn_app (goodIn_app lwwX7_held_o1 (goodIn_app lwX7_play lwX7_areLike)) (goodIn_mem inlX7 ok_wsX70))
set_option maxRecDepth 20000 in
theorem lwX7_hold_h : GoodIn wsL_law (Cond.code yX7_hold cX7_hold 4 (some .int) :: wsX7_hold_o1) := goodIn_r _ [445, 446, 138, 447, 139, 200, 201, 202, 5, 448, 449, 450] (by decide +kernel) (by decide +kernel)
theorem lwwX7_hold_o1 : GoodIn wsL_law wsX7_hold_o1 := goodIn_tl lwX7_hold_h
theorem lwX7_hold : GoodIn wsL_law wsX7_hold := goodIn_cons (goodIn_hd lwX7_hold_h) (goodIn_app (goodIn_app lwwX7_hold_o1 (goodIn_app lwX7_isMethod lwX7_held)) (goodIn_mem inlX7 ok_wsX70))
set_option maxRecDepth 20000 in
theorem lwX7_first_h : GoodIn wsL_law (Cond.code yX7_first cX7_first 2 (some .int) :: wsX7_first_o1) := goodIn_r _ [480, 138, 139] (by decide +kernel) (by decide +kernel)
theorem lwwX7_first_o1 : GoodIn wsL_law wsX7_first_o1 := goodIn_tl lwX7_first_h
theorem lwX7_first : GoodIn wsL_law wsX7_first := goodIn_cons (goodIn_hd lwX7_first_h) (goodIn_app lwwX7_first_o1 (goodIn_mem inlX7 ok_wsX70))
set_option maxRecDepth 20000 in
theorem lwX7_match_h : GoodIn wsL_law (Cond.code yX7_match cX7_match 3 (some .int) :: wsX7_match_o1) := goodIn_r _ [488, 111, 200, 201, 202, 5, 448, 449, 450] (by decide +kernel) (by decide +kernel)
theorem lwwX7_match_o1 : GoodIn wsL_law wsX7_match_o1 := goodIn_tl lwX7_match_h
theorem lwX7_match : GoodIn wsL_law wsX7_match := goodIn_cons (goodIn_hd lwX7_match_h) (goodIn_app (goodIn_app lwwX7_match_o1 (goodIn_app lwX7_isMethod lwX7_held)) (goodIn_mem inlX7 ok_wsX70))
set_option maxRecDepth 20000 in
theorem lwX7_renames_h : GoodIn wsL_law (Cond.code yX7_renames cX7_renames 4 (some .boolean) :: wsX7_renames_o1) := goodIn_r _ [523, 117] (by decide +kernel) (by decide +kernel)
theorem lwwX7_renames_o1 : GoodIn wsL_law wsX7_renames_o1 := goodIn_tl lwX7_renames_h
theorem lwX7_renames : GoodIn wsL_law wsX7_renames := goodIn_cons (goodIn_hd lwX7_renames_h) (goodIn_app lwwX7_renames_o1 (goodIn_mem inlX7 ok_wsX70))
set_option maxRecDepth 20000 in
theorem lwX7_find_h : GoodIn wsL_law (Cond.code yX7_find cX7_find 5 (some .int) :: wsX7_find_o1) := goodIn_r _ [519, 140, 117, 200, 201, 202, 5, 520, 521, 522, 448, 449, 450] (by decide +kernel) (by decide +kernel)
theorem lwwX7_find_o1 : GoodIn wsL_law wsX7_find_o1 := goodIn_tl lwX7_find_h
theorem lwX7_find : GoodIn wsL_law wsX7_find := goodIn_cons (goodIn_hd lwX7_find_h) (goodIn_app (goodIn_app lwwX7_find_o1 (goodIn_app lwX7_isMethod (goodIn_app lwX7_renames lwX7_held))) (goodIn_mem inlX7 ok_wsX70))
set_option maxRecDepth 20000 in
theorem lwX7_assume_h : GoodIn wsL_law (Cond.code yX7_assume cX7_assume 3 (some .int) :: wsX7_assume_o1) := goodIn_r _ [540, 460, 119, 120, 200, 201, 202, 5, 456, 457, 458] (by decide +kernel) (by decide +kernel)
theorem lwwX7_assume_o1 : GoodIn wsL_law wsX7_assume_o1 := goodIn_tl lwX7_assume_h
theorem lwX7_assume : GoodIn wsL_law wsX7_assume := goodIn_cons (goodIn_hd lwX7_assume_h) (goodIn_app (goodIn_app lwwX7_assume_o1 (goodIn_app lwX7_isMethod lwX7_isPair)) (goodIn_mem inlX7 ok_wsX70))
set_option maxRecDepth 20000 in
theorem lwX7_drop_h : GoodIn wsL_law (Cond.code yX7_drop cX7_drop 2 (some .int) :: wsX7_drop_o1) := goodIn_r _ [548, 460] (by decide +kernel) (by decide +kernel)
theorem lwwX7_drop_o1 : GoodIn wsL_law wsX7_drop_o1 := goodIn_tl lwX7_drop_h
theorem lwX7_drop : GoodIn wsL_law wsX7_drop := goodIn_cons (goodIn_hd lwX7_drop_h) (goodIn_app lwwX7_drop_o1 (goodIn_mem inlX7 ok_wsX70))
set_option maxRecDepth 20000 in
theorem lwX7_walks_h : GoodIn wsL_law (Cond.code yX7_walks cX7_walks 4 (some .int) :: wsX7_walks_o1) := goodIn_r _ [608, 119, 120, 125, 321, 322, 323, 5, 452, 453, 454] (by decide +kernel) (by decide +kernel)
theorem lwwX7_walks_o1 : GoodIn wsL_law wsX7_walks_o1 := goodIn_tl lwX7_walks_h
theorem lwX7_walks : GoodIn wsL_law wsX7_walks := goodIn_cons (goodIn_hd lwX7_walks_h) (goodIn_app (goodIn_app lwwX7_walks_o1 (goodIn_app lwX7_play lwX7_areLike)) (goodIn_mem inlX7 ok_wsX70))
set_option maxRecDepth 20000 in
theorem lwX7_tells_h : GoodIn wsL_law (Cond.code yX7_tells cX7_tells 4 none :: wsX7_tells_o1) := goodIn_r _ [612, 141, 347, 348, 600] (by decide +kernel) (by decide +kernel)
theorem lwwX7_tells_o1 : GoodIn wsL_law wsX7_tells_o1 := goodIn_tl lwX7_tells_h
theorem lwX7_tells : GoodIn wsL_law wsX7_tells := goodIn_cons (goodIn_hd lwX7_tells_h) (goodIn_app lwwX7_tells_o1 (goodIn_mem inlX7 ok_wsX70))
set_option maxRecDepth 20000 in
theorem lwX7_proved_h : GoodIn wsL_law (Cond.code yX7_proved cX7_proved 7 (some .int) :: wsX7_proved_o1) := goodIn_r _ [604, 143, 347, 348, 605, 606, 607, 5, 609, 610, 611] (by decide +kernel) (by decide +kernel)
theorem lwwX7_proved_o1 : GoodIn wsL_law wsX7_proved_o1 := goodIn_tl lwX7_proved_h
theorem lwX7_proved : GoodIn wsL_law wsX7_proved := goodIn_cons (goodIn_hd lwX7_proved_h) (goodIn_app (goodIn_app lwwX7_proved_o1 (goodIn_app lwX7_walks lwX7_tells)) (goodIn_mem inlX7 ok_wsX70))
set_option maxRecDepth 20000 in
theorem lwX7_prove_h : GoodIn wsL_law (Cond.code yX7_prove cX7_prove 3 (some .int) :: wsX7_prove_o1) := goodIn_r _ [599, 600, 460, 320, 601, 602, 603, 5] (by decide +kernel) (by decide +kernel)
theorem lwwX7_prove_o1 : GoodIn wsL_law wsX7_prove_o1 := goodIn_tl lwX7_prove_h
theorem lwX7_prove : GoodIn wsL_law wsX7_prove := goodIn_cons (goodIn_hd lwX7_prove_h) (goodIn_app (goodIn_app lwwX7_prove_o1 lwX7_proved) (goodIn_mem inlX7 ok_wsX70))
set_option maxRecDepth 20000 in
theorem lwX7_why_h : GoodIn wsL_law (Cond.code yX7_why cX7_why 2 (some .int) :: wsX7_why_o1) := goodIn_r _ [621, 600, 141, 164, 165, 5] (by decide +kernel) (by decide +kernel)
theorem lwwX7_why_o1 : GoodIn wsL_law wsX7_why_o1 := goodIn_tl lwX7_why_h
theorem lwX7_why : GoodIn wsL_law wsX7_why := goodIn_cons (goodIn_hd lwX7_why_h) (goodIn_app (goodIn_app lwwX7_why_o1 lwX7_in) (goodIn_mem inlX7 ok_wsX70))
set_option maxRecDepth 20000 in
theorem lwX7_count_h : GoodIn wsL_law (Cond.code yX7_count cX7_count 2 (some .int) :: wsX7_count_o1) := goodIn_r _ [630, 117, 118, 111, 460, 142, 164, 165, 5] (by decide +kernel) (by decide +kernel)
theorem lwwX7_count_o1 : GoodIn wsL_law wsX7_count_o1 := goodIn_tl lwX7_count_h
theorem lwX7_count : GoodIn wsL_law wsX7_count := goodIn_cons (goodIn_hd lwX7_count_h) (goodIn_app (goodIn_app lwwX7_count_o1 lwX7_in) (goodIn_mem inlX7 ok_wsX70))
set_option maxRecDepth 20000 in
theorem lwL_cell_h : GoodIn wsL_law ([Cond.code yL_cell cL_cell 2 (some .int)]) := goodIn_r _ [9] (by decide +kernel) (by decide +kernel)
theorem lwL_cell : GoodIn wsL_law wsL_cell := goodIn_cons (goodIn_hd lwL_cell_h) goodIn_nil
