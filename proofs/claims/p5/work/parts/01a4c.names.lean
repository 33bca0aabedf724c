theorem lwwX6_runBoth_o1 : GoodIn wsL_law wsX6_runBoth_o1 := goodIn_tl lwX6_runBoth_h
theorem lwX6_runBoth : GoodIn wsL_law wsX6_runBoth := goodIn_cons (goodIn_hd lwX6_runBoth_h) (goodIn_app (goodIn_app (goodIn_app (goodIn_app (goodIn_app lwwX6_runBoth_o1 lwX1_go) (goodIn_mem inlX6 ok_wsX60)) (goodIn_mem inlX1 ok_wsX10)) (goodIn_mem inlX5 ok_wsX50)) (goodIn_mem inlX0 ok_wsX00))
set_option maxRecDepth 20000 in
theorem lwX6_runsAlike_h : GoodIn wsL_law (Cond.code yX6_runsAlike cX6_runsAlike 4 (some .boolean) :: wsX6_runsAlike_o1) := goodIn_r _ [423, 44, 231, 45, 363, 424, 425, 426, 81, 428, 429, 430, 23] (by decide +kernel) (by decide +kernel)
theorem lwwX6_runsAlike_o1 : GoodIn wsL_law wsX6_runsAlike_o1 := goodIn_tl lwX6_runsAlike_h
theorem lwX6_runsAlike : GoodIn wsL_law wsX6_runsAlike := goodIn_cons (goodIn_hd lwX6_runsAlike_h) (goodIn_app (goodIn_app (goodIn_app (goodIn_app (goodIn_app lwwX6_runsAlike_o1 (goodIn_app lwX5_endsLike lwX3_alike)) (goodIn_mem inlX6 ok_wsX60)) (goodIn_mem inlX1 ok_wsX10)) (goodIn_mem inlX5 ok_wsX50)) (goodIn_mem inlX3 ok_wsX30))
set_option maxRecDepth 20000 in
theorem lwX6_held_h : GoodIn wsL_law (Cond.code yX6_held cX6_held 6 (some .int) :: wsX6_held_o1) := goodIn_r _ [415, 39, 24, 34, 35, 416, 417, 418, 2, 42, 81, 18, 420, 421, 422, 23] (by decide +kernel) (by decide +kernel)
theorem lwwX6_held_o1 : GoodIn wsL_law wsX6_held_o1 := goodIn_tl lwX6_held_h
theorem lwX6_held : GoodIn wsL_law wsX6_held := goodIn_cons (goodIn_hd lwX6_held_h) (goodIn_app (goodIn_app (goodIn_app (goodIn_app (goodIn_app (goodIn_app lwwX6_held_o1 (goodIn_app lwX6_runBoth lwX6_runsAlike)) (goodIn_mem inlX6 ok_wsX60)) (goodIn_mem inlX1 ok_wsX10)) (goodIn_mem inlX5 ok_wsX50)) (goodIn_mem inlX0 ok_wsX00)) (goodIn_mem inlX3 ok_wsX30))
set_option maxRecDepth 20000 in
theorem lwX6_hold_h : GoodIn wsL_law (Cond.code yX6_hold cX6_hold 4 (some .int) :: wsX6_hold_o1) := goodIn_r _ [407, 34, 36, 35, 37, 408, 409, 410, 2, 18, 412, 413, 414, 42, 81, 23] (by decide +kernel) (by decide +kernel)
theorem lwwX6_hold_o1 : GoodIn wsL_law wsX6_hold_o1 := goodIn_tl lwX6_hold_h
theorem lwX6_hold : GoodIn wsL_law wsX6_hold := goodIn_cons (goodIn_hd lwX6_hold_h) (goodIn_app (goodIn_app (goodIn_app (goodIn_app (goodIn_app (goodIn_app lwwX6_hold_o1 (goodIn_app lwX6_isPair lwX6_held)) (goodIn_mem inlX6 ok_wsX60)) (goodIn_mem inlX0 ok_wsX00)) (goodIn_mem inlX1 ok_wsX10)) (goodIn_mem inlX5 ok_wsX50)) (goodIn_mem inlX3 ok_wsX30))
set_option maxRecDepth 20000 in
theorem lwX6_first_h : GoodIn wsL_law (Cond.code yX6_first cX6_first 2 (some .int) :: wsX6_first_o1) := goodIn_r _ [476, 36, 37] (by decide +kernel) (by decide +kernel)
theorem lwwX6_first_o1 : GoodIn wsL_law wsX6_first_o1 := goodIn_tl lwX6_first_h
theorem lwX6_first : GoodIn wsL_law wsX6_first := goodIn_cons (goodIn_hd lwX6_first_h) (goodIn_app lwwX6_first_o1 (goodIn_mem inlX6 ok_wsX60))
set_option maxRecDepth 20000 in
theorem lwX6_match_h : GoodIn wsL_law (Cond.code yX6_match cX6_match 3 (some .int) :: wsX6_match_o1) := goodIn_r _ [484, 19, 20, 148, 176, 177, 178, 18, 412, 413, 414, 2, 42, 81, 299, 23] (by decide +kernel) (by decide +kernel)
theorem lwwX6_match_o1 : GoodIn wsL_law wsX6_match_o1 := goodIn_tl lwX6_match_h
theorem lwX6_match : GoodIn wsL_law wsX6_match := goodIn_cons (goodIn_hd lwX6_match_h) (goodIn_app (goodIn_app (goodIn_app (goodIn_app (goodIn_app (goodIn_app lwwX6_match_o1 (goodIn_app lwX0_has lwX6_held)) (goodIn_mem inlX6 ok_wsX60)) (goodIn_mem inlX0 ok_wsX00)) (goodIn_mem inlX1 ok_wsX10)) (goodIn_mem inlX5 ok_wsX50)) (goodIn_mem inlX3 ok_wsX30))
set_option maxRecDepth 20000 in
theorem lwX6_stillAlike_h : GoodIn wsL_law (Cond.code yX6_stillAlike cX6_stillAlike 5 (some .int) :: wsX6_stillAlike_o1) := goodIn_r _ [506, 494, 25, 507, 508, 509, 23, 420, 421, 422, 2, 81] (by decide +kernel) (by decide +kernel)
theorem lwwX6_stillAlike_o1 : GoodIn wsL_law wsX6_stillAlike_o1 := goodIn_tl lwX6_stillAlike_h
theorem lwX6_stillAlike : GoodIn wsL_law wsX6_stillAlike := goodIn_cons (goodIn_hd lwX6_stillAlike_h) (goodIn_app (goodIn_app (goodIn_app (goodIn_app (goodIn_app lwwX6_stillAlike_o1 (goodIn_app lwX3_takeNames lwX6_runsAlike)) (goodIn_mem inlX6 ok_wsX60)) (goodIn_mem inlX3 ok_wsX30)) (goodIn_mem inlX1 ok_wsX10)) (goodIn_mem inlX5 ok_wsX50))
set_option maxRecDepth 20000 in
theorem lwJ6_numberOfTrailingZeros_0f7a4_h : GoodIn wsL_law (Cond.code yJ6_numberOfTrailingZeros_0f7a4 cJ6_numberOfTrailingZeros_0f7a4 2 (some .int) :: wsJ6_numberOfTrailingZeros_0f7a4_o1) := goodIn_r _ [514, 515] (by decide +kernel) (by decide +kernel)
theorem lwwJ6_numberOfTrailingZeros_0f7a4_o1 : GoodIn wsL_law wsJ6_numberOfTrailingZeros_0f7a4_o1 := goodIn_tl lwJ6_numberOfTrailingZeros_0f7a4_h
theorem lwJ6_numberOfTrailingZeros_0f7a4 : GoodIn wsL_law wsJ6_numberOfTrailingZeros_0f7a4 := goodIn_cons (goodIn_hd lwJ6_numberOfTrailingZeros_0f7a4_h) lwwJ6_numberOfTrailingZeros_0f7a4_o1
set_option maxRecDepth 20000 in
theorem lwX6_find_h : GoodIn wsL_law (Cond.code yX6_find cX6_find 6 (some .int) :: wsX6_find_o1) := goodIn_r _ [492, 25, 24, 493, 39, 494, 408, 409, 410, 2, 18, 495, 496, 497, 23, 500, 502, 416, 417, 418, 42, 81, 503, 504, 505] (by decide +kernel) (by decide +kernel)
theorem lwwX6_find_o1 : GoodIn wsL_law wsX6_find_o1 := goodIn_tl lwX6_find_h
set_option maxRecDepth 20000 in
theorem lwwX6_find_o2 : GoodIn wsL_law (wsX6_find_o2) := goodIn_r _ [511, 512, 513, 515] (by decide +kernel) (by decide +kernel)
theorem lwX6_find : GoodIn wsL_law wsX6_find := goodIn_cons (goodIn_hd lwX6_find_h) (goodIn_app (goodIn_app (goodIn_app (goodIn_app (goodIn_app (goodIn_app lwwX6_find_o1 (goodIn_app lwwX6_find_o2 (goodIn_app lwX6_isPair (goodIn_app lwX3_takeGroups (goodIn_app lwX6_runBoth (goodIn_app lwX6_stillAlike lwJ6_numberOfTrailingZeros_0f7a4)))))) (goodIn_mem inlX6 ok_wsX60)) (goodIn_mem inlX0 ok_wsX00)) (goodIn_mem inlX3 ok_wsX30)) (goodIn_mem inlX1 ok_wsX10)) (goodIn_mem inlX5 ok_wsX50))
set_option maxRecDepth 20000 in
theorem lwX6_assume_h : GoodIn wsL_law (Cond.code yX6_assume cX6_assume 3 (some .int) :: wsX6_assume_o1) := goodIn_r _ [527, 29, 528, 408, 409, 410, 2, 18, 529, 530, 531, 28, 533, 534, 535] (by decide +kernel) (by decide +kernel)
theorem lwwX6_assume_o1 : GoodIn wsL_law wsX6_assume_o1 := goodIn_tl lwX6_assume_h
theorem lwX6_assume : GoodIn wsL_law wsX6_assume := goodIn_cons (goodIn_hd lwX6_assume_h) (goodIn_app (goodIn_app (goodIn_app (goodIn_app lwwX6_assume_o1 (goodIn_app lwX6_isPair (goodIn_app lwX2_has lwX2_add))) (goodIn_mem inlX6 ok_wsX60)) (goodIn_mem inlX2 ok_wsX20)) (goodIn_mem inlX0 ok_wsX00))
set_option maxRecDepth 20000 in
theorem lwX6_drop_h : GoodIn wsL_law (Cond.code yX6_drop cX6_drop 2 (some .int) :: wsX6_drop_o1) := goodIn_r _ [544, 29, 528] (by decide +kernel) (by decide +kernel)
theorem lwwX6_drop_o1 : GoodIn wsL_law wsX6_drop_o1 := goodIn_tl lwX6_drop_h
theorem lwX6_drop : GoodIn wsL_law wsX6_drop := goodIn_cons (goodIn_hd lwX6_drop_h) (goodIn_app (goodIn_app lwwX6_drop_o1 (goodIn_mem inlX6 ok_wsX60)) (goodIn_mem inlX2 ok_wsX20))
set_option maxRecDepth 20000 in
theorem lwX6_callingsAlike_h : GoodIn wsL_law (Cond.code yX6_callingsAlike cX6_callingsAlike 6 (some .boolean) :: wsX6_callingsAlike_o1) := goodIn_r _ [584, 568, 585, 29, 586, 24, 363, 587, 588, 589, 81, 529, 530, 531, 28, 428, 429, 430, 23] (by decide +kernel) (by decide +kernel)
theorem lwwX6_callingsAlike_o1 : GoodIn wsL_law wsX6_callingsAlike_o1 := goodIn_tl lwX6_callingsAlike_h
theorem lwX6_callingsAlike : GoodIn wsL_law wsX6_callingsAlike := goodIn_cons (goodIn_hd lwX6_callingsAlike_h) (goodIn_app (goodIn_app (goodIn_app (goodIn_app (goodIn_app lwwX6_callingsAlike_o1 (goodIn_app lwX5_sameCalling (goodIn_app lwX2_has lwX3_alike))) (goodIn_mem inlX5 ok_wsX50)) (goodIn_mem inlX6 ok_wsX60)) (goodIn_mem inlX2 ok_wsX20)) (goodIn_mem inlX3 ok_wsX30))
set_option maxRecDepth 20000 in
theorem lwX6_walksAnswer_h : GoodIn wsL_law (Cond.code yX6_walksAnswer cX6_walksAnswer 3 (some .int) :: wsX6_walksAnswer_o1) := goodIn_r _ [580, 46, 231, 47, 232, 424, 425, 426, 81, 581, 582, 583, 2, 28, 23] (by decide +kernel) (by decide +kernel)
theorem lwwX6_walksAnswer_o1 : GoodIn wsL_law wsX6_walksAnswer_o1 := goodIn_tl lwX6_walksAnswer_h
theorem lwX6_walksAnswer : GoodIn wsL_law wsX6_walksAnswer := goodIn_cons (goodIn_hd lwX6_walksAnswer_h) (goodIn_app (goodIn_app (goodIn_app (goodIn_app (goodIn_app (goodIn_app lwwX6_walksAnswer_o1 (goodIn_app lwX5_endsLike lwX6_callingsAlike)) (goodIn_mem inlX6 ok_wsX60)) (goodIn_mem inlX1 ok_wsX10)) (goodIn_mem inlX5 ok_wsX50)) (goodIn_mem inlX2 ok_wsX20)) (goodIn_mem inlX3 ok_wsX30))
set_option maxRecDepth 20000 in
theorem lwX6_proveInputs_h : GoodIn wsL_law (Cond.code yX6_proveInputs cX6_proveInputs 8 none :: wsX6_proveInputs_o1) := goodIn_r _ [565, 39, 46, 47, 29, 566, 567, 33, 231, 568, 569, 570, 571, 572, 573, 574, 575, 42, 237, 238, 239, 81, 18, 577, 578] (by decide +kernel) (by decide +kernel)
theorem lwwX6_proveInputs_o1 : GoodIn wsL_law wsX6_proveInputs_o1 := goodIn_tl lwX6_proveInputs_h
set_option maxRecDepth 20000 in
theorem lwwX6_proveInputs_o2 : GoodIn wsL_law (wsX6_proveInputs_o2) := goodIn_r _ [579, 2, 28, 23, 591, 592, 593, 32, 595, 559, 560] (by decide +kernel) (by decide +kernel)
theorem lwX6_proveInputs : GoodIn wsL_law wsX6_proveInputs := goodIn_cons (goodIn_hd lwX6_proveInputs_h) (goodIn_app (goodIn_app (goodIn_app (goodIn_app (goodIn_app (goodIn_app (goodIn_app (goodIn_app lwwX6_proveInputs_o1 (goodIn_app lwwX6_proveInputs_o2 (goodIn_app lwX1_takeAnswers (goodIn_app lwX1_go (goodIn_app lwX6_walksAnswer (goodIn_app lwX4_yieldsTo lwX4_keep)))))) (goodIn_mem inlX6 ok_wsX60)) (goodIn_mem inlX2 ok_wsX20)) (goodIn_mem inlX1 ok_wsX10)) (goodIn_mem inlX5 ok_wsX50)) (goodIn_mem inlX0 ok_wsX00)) (goodIn_mem inlX3 ok_wsX30)) (goodIn_mem inlX4 ok_wsX40))
set_option maxRecDepth 20000 in
theorem lwX6_prove_h : GoodIn wsL_law (Cond.code yX6_prove cX6_prove 4 (some .int) :: wsX6_prove_o1) := goodIn_r _ [552, 33, 29, 528, 39, 553, 554, 555, 556, 32, 562, 563, 564, 2, 571, 42, 81, 18, 28, 23] (by decide +kernel) (by decide +kernel)
theorem lwwX6_prove_o1 : GoodIn wsL_law wsX6_prove_o1 := goodIn_tl lwX6_prove_h
theorem lwX6_prove : GoodIn wsL_law wsX6_prove := goodIn_cons (goodIn_hd lwX6_prove_h) (goodIn_app (goodIn_app (goodIn_app (goodIn_app (goodIn_app (goodIn_app (goodIn_app (goodIn_app lwwX6_prove_o1 (goodIn_app lwX4_begin lwX6_proveInputs)) (goodIn_mem inlX6 ok_wsX60)) (goodIn_mem inlX2 ok_wsX20)) (goodIn_mem inlX4 ok_wsX40)) (goodIn_mem inlX1 ok_wsX10)) (goodIn_mem inlX5 ok_wsX50)) (goodIn_mem inlX0 ok_wsX00)) (goodIn_mem inlX3 ok_wsX30))
set_option maxRecDepth 20000 in
theorem lwX6_why_h : GoodIn wsL_law (Cond.code yX6_why cX6_why 2 (some .int) :: wsX6_why_o1) := goodIn_r _ [616, 33, 617, 149, 150, 2] (by decide +kernel) (by decide +kernel)
theorem lwwX6_why_o1 : GoodIn wsL_law wsX6_why_o1 := goodIn_tl lwX6_why_h
theorem lwX6_why : GoodIn wsL_law wsX6_why := goodIn_cons (goodIn_hd lwX6_why_h) (goodIn_app (goodIn_app (goodIn_app lwwX6_why_o1 lwX6_within) (goodIn_mem inlX6 ok_wsX60)) (goodIn_mem inlX4 ok_wsX40))
set_option maxRecDepth 20000 in
theorem lwX6_count_h : GoodIn wsL_law (Cond.code yX6_count cX6_count 2 (some .int) :: wsX6_count_o1) := goodIn_r _ [625, 19, 148, 20, 29, 528, 38, 24, 626, 399] (by decide +kernel) (by decide +kernel)
theorem lwwX6_count_o1 : GoodIn wsL_law wsX6_count_o1 := goodIn_tl lwX6_count_h
theorem lwX6_count : GoodIn wsL_law wsX6_count := goodIn_cons (goodIn_hd lwX6_count_h) (goodIn_app (goodIn_app (goodIn_app (goodIn_app lwwX6_count_o1 (goodIn_mem inlX6 ok_wsX60)) (goodIn_mem inlX0 ok_wsX00)) (goodIn_mem inlX2 ok_wsX20)) (goodIn_mem inlX3 ok_wsX30))
set_option maxRecDepth 20000 in
theorem lwX7_init_h : GoodIn wsL_law (Cond.code yX7_init cX7_init 3 none :: wsX7_init_o1) := goodIn_r _ [109, 110, 14, 15, 52, 111, 112, 113, 114, 115, 116, 117, 118, 119, 120, 121, 122, 123, 124, 125, 126, 127, 128, 129, 130] (by decide +kernel) (by decide +kernel)
theorem lwwX7_init_o1 : GoodIn wsL_law wsX7_init_o1 := goodIn_tl lwX7_init_h
set_option maxRecDepth 20000 in
theorem lwwX7_init_o2 : GoodIn wsL_law (wsX7_init_o2) := goodIn_r _ [131, 132, 133, 134, 135, 136, 137, 138, 139, 140, 141, 142, 143] (by decide +kernel) (by decide +kernel)
theorem lwX7_init : GoodIn wsL_law wsX7_init := goodIn_cons (goodIn_hd lwX7_init_h) (goodIn_app (goodIn_app lwwX7_init_o1 lwwX7_init_o2) (goodIn_mem inlX7 ok_wsX70))
set_option maxRecDepth 20000 in
theorem lwX7_in_h : GoodIn wsL_law ([Cond.code yX7_in cX7_in 3 (some .boolean)]) := goodIn_r _ [166] (by decide +kernel) (by decide +kernel)
theorem lwX7_in : GoodIn wsL_law wsX7_in := goodIn_cons (goodIn_hd lwX7_in_h) goodIn_nil
set_option maxRecDepth 20000 in
theorem lwX7_isMethod_h : GoodIn wsL_law (Cond.code yX7_isMethod cX7_isMethod 3 (some .boolean) :: wsX7_isMethod_o1) := goodIn_r _ [203, 111, 164, 165, 5] (by decide +kernel) (by decide +kernel)
theorem lwwX7_isMethod_o1 : GoodIn wsL_law wsX7_isMethod_o1 := goodIn_tl lwX7_isMethod_h
theorem lwX7_isMethod : GoodIn wsL_law wsX7_isMethod := goodIn_cons (goodIn_hd lwX7_isMethod_h) (goodIn_app (goodIn_app lwwX7_isMethod_o1 lwX7_in) (goodIn_mem inlX7 ok_wsX70))
set_option maxRecDepth 20000 in
theorem lwX7_isNumber_h : GoodIn wsL_law (Cond.code yX7_isNumber cX7_isNumber 2 (some .boolean) :: wsX7_isNumber_o1) := goodIn_r _ [214, 143, 164, 165, 5] (by decide +kernel) (by decide +kernel)
theorem lwwX7_isNumber_o1 : GoodIn wsL_law wsX7_isNumber_o1 := goodIn_tl lwX7_isNumber_h
theorem lwX7_isNumber : GoodIn wsL_law wsX7_isNumber := goodIn_cons (goodIn_hd lwX7_isNumber_h) (goodIn_app (goodIn_app lwwX7_isNumber_o1 lwX7_in) (goodIn_mem inlX7 ok_wsX70))
set_option maxRecDepth 20000 in
theorem lwX7_method_h : GoodIn wsL_law (Cond.code yX7_method cX7_method 3 (some .int) :: wsX7_method_o1) := goodIn_r _ [163, 111, 112, 164, 165, 5] (by decide +kernel) (by decide +kernel)
theorem lwwX7_method_o1 : GoodIn wsL_law wsX7_method_o1 := goodIn_tl lwX7_method_h
theorem lwX7_method : GoodIn wsL_law wsX7_method := goodIn_cons (goodIn_hd lwX7_method_h) (goodIn_app (goodIn_app lwwX7_method_o1 lwX7_in) (goodIn_mem inlX7 ok_wsX70))
set_option maxRecDepth 20000 in
theorem lwX7_isRegister_h : GoodIn wsL_law (Cond.code yX7_isRegister cX7_isRegister 1 (some .boolean) :: wsX7_isRegister_o1) := goodIn_r _ [210, 164, 165, 5] (by decide +kernel) (by decide +kernel)
theorem lwwX7_isRegister_o1 : GoodIn wsL_law wsX7_isRegister_o1 := goodIn_tl lwX7_isRegister_h
theorem lwX7_isRegister : GoodIn wsL_law wsX7_isRegister := goodIn_cons (goodIn_hd lwX7_isRegister_h) (goodIn_app lwwX7_isRegister_o1 lwX7_in)
set_option maxRecDepth 20000 in
theorem lwX7_isRight_h : GoodIn wsL_law (Cond.code yX7_isRight cX7_isRight 5 (some .boolean) :: wsX7_isRight_o1) := goodIn_r _ [207, 208, 209, 5, 164, 165, 211, 212, 213] (by decide +kernel) (by decide +kernel)
theorem lwwX7_isRight_o1 : GoodIn wsL_law wsX7_isRight_o1 := goodIn_tl lwX7_isRight_h
theorem lwX7_isRight : GoodIn wsL_law wsX7_isRight := goodIn_cons (goodIn_hd lwX7_isRight_h) (goodIn_app (goodIn_app lwwX7_isRight_o1 (goodIn_app lwX7_isRegister (goodIn_app lwX7_isNumber lwX7_in))) (goodIn_mem inlX7 ok_wsX70))
set_option maxRecDepth 20000 in
theorem lwX7_op_h : GoodIn wsL_law (Cond.code yX7_op cX7_op 9 (some .int) :: wsX7_op_o1) := goodIn_r _ [199, 112, 113, 114, 115, 116, 200, 201, 202, 5, 204, 205, 206] (by decide +kernel) (by decide +kernel)
theorem lwwX7_op_o1 : GoodIn wsL_law wsX7_op_o1 := goodIn_tl lwX7_op_h
theorem lwX7_op : GoodIn wsL_law wsX7_op := goodIn_cons (goodIn_hd lwX7_op_h) (goodIn_app (goodIn_app lwwX7_op_o1 (goodIn_app lwX7_isMethod lwX7_isRight)) (goodIn_mem inlX7 ok_wsX70))
set_option maxRecDepth 20000 in
theorem lwX7_clear_h : GoodIn wsL_law (Cond.code yX7_clear cX7_clear 4 (some .int) :: wsX7_clear_o1) := goodIn_r _ [226, 112, 200, 201, 202, 5] (by decide +kernel) (by decide +kernel)
theorem lwwX7_clear_o1 : GoodIn wsL_law wsX7_clear_o1 := goodIn_tl lwX7_clear_h
theorem lwX7_clear : GoodIn wsL_law wsX7_clear := goodIn_cons (goodIn_hd lwX7_clear_h) (goodIn_app (goodIn_app lwwX7_clear_o1 lwX7_isMethod) (goodIn_mem inlX7 ok_wsX70))
set_option maxRecDepth 20000 in
theorem lwX7_enter_h : GoodIn wsL_law (Cond.code yX7_enter cX7_enter 6 none :: wsX7_enter_o1) := goodIn_r _ [330, 121, 326, 122, 123, 124, 129, 325] (by decide +kernel) (by decide +kernel)
theorem lwwX7_enter_o1 : GoodIn wsL_law wsX7_enter_o1 := goodIn_tl lwX7_enter_h
theorem lwX7_enter : GoodIn wsL_law wsX7_enter := goodIn_cons (goodIn_hd lwX7_enter_h) (goodIn_app lwwX7_enter_o1 (goodIn_mem inlX7 ok_wsX70))
set_option maxRecDepth 20000 in
theorem lwX7_returns_h : GoodIn wsL_law (Cond.code yX7_returns cX7_returns 2 none :: wsX7_returns_o1) := goodIn_r _ [334, 326, 125, 325, 127, 124, 123] (by decide +kernel) (by decide +kernel)
theorem lwwX7_returns_o1 : GoodIn wsL_law wsX7_returns_o1 := goodIn_tl lwX7_returns_h
theorem lwX7_returns : GoodIn wsL_law wsX7_returns := goodIn_cons (goodIn_hd lwX7_returns_h) (goodIn_app lwwX7_returns_o1 (goodIn_mem inlX7 ok_wsX70))
set_option maxRecDepth 20000 in
theorem lwX7_throwsOut_h : GoodIn wsL_law (Cond.code yX7_throwsOut cX7_throwsOut 3 none :: wsX7_throwsOut_o1) := goodIn_r _ [352, 125, 325, 126, 127] (by decide +kernel) (by decide +kernel)
theorem lwwX7_throwsOut_o1 : GoodIn wsL_law wsX7_throwsOut_o1 := goodIn_tl lwX7_throwsOut_h
theorem lwX7_throwsOut : GoodIn wsL_law wsX7_throwsOut := goodIn_cons (goodIn_hd lwX7_throwsOut_h) (goodIn_app lwwX7_throwsOut_o1 (goodIn_mem inlX7 ok_wsX70))
set_option maxRecDepth 20000 in
theorem lwX7_reckoned_h : GoodIn wsL_law ([Cond.code yX7_reckoned cX7_reckoned 3 (some .int)]) := goodIn_r _ [355] (by decide +kernel) (by decide +kernel)
