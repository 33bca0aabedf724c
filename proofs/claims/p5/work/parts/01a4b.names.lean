theorem lwwX2_add_o1 : GoodIn wsL_law wsX2_add_o1 := goodIn_tl lwX2_add_h
theorem lwX2_add : GoodIn wsL_law wsX2_add := goodIn_cons (goodIn_hd lwX2_add_h) (goodIn_app lwwX2_add_o1 (goodIn_mem inlX2 ok_wsX20))
set_option maxRecDepth 20000 in
theorem lwX3_init_h : GoodIn wsL_law (Cond.code yX3_init cX3_init 1 none :: wsX3_init_o1) := goodIn_r _ [59, 60, 14, 15, 52, 61, 62, 63] (by decide +kernel) (by decide +kernel)
theorem lwwX3_init_o1 : GoodIn wsL_law wsX3_init_o1 := goodIn_tl lwX3_init_h
theorem lwX3_init : GoodIn wsL_law wsX3_init := goodIn_cons (goodIn_hd lwX3_init_h) (goodIn_app lwwX3_init_o1 (goodIn_mem inlX3 ok_wsX30))
set_option maxRecDepth 20000 in
theorem lwX3_name_h : GoodIn wsL_law (Cond.code yX3_name cX3_name 3 none :: wsX3_name_o1) := goodIn_r _ [390, 61, 63] (by decide +kernel) (by decide +kernel)
theorem lwwX3_name_o1 : GoodIn wsL_law wsX3_name_o1 := goodIn_tl lwX3_name_h
theorem lwX3_name : GoodIn wsL_law wsX3_name := goodIn_cons (goodIn_hd lwX3_name_h) (goodIn_app lwwX3_name_o1 (goodIn_mem inlX3 ok_wsX30))
set_option maxRecDepth 20000 in
theorem lwX3_swapIn_h : GoodIn wsL_law (Cond.code yX3_swapIn cX3_swapIn 4 (some .int) :: wsX3_swapIn_o1) := goodIn_r _ [386, 61, 63, 387, 388, 389, 23] (by decide +kernel) (by decide +kernel)
theorem lwwX3_swapIn_o1 : GoodIn wsL_law wsX3_swapIn_o1 := goodIn_tl lwX3_swapIn_h
theorem lwX3_swapIn : GoodIn wsL_law wsX3_swapIn := goodIn_cons (goodIn_hd lwX3_swapIn_h) (goodIn_app (goodIn_app lwwX3_swapIn_o1 lwX3_name) (goodIn_mem inlX3 ok_wsX30))
set_option maxRecDepth 20000 in
theorem lwX3_takeNames_h : GoodIn wsL_law (Cond.code yX3_takeNames cX3_takeNames 2 none :: wsX3_takeNames_o1) := goodIn_r _ [510, 387, 388, 389, 23] (by decide +kernel) (by decide +kernel)
theorem lwwX3_takeNames_o1 : GoodIn wsL_law wsX3_takeNames_o1 := goodIn_tl lwX3_takeNames_h
theorem lwX3_takeNames : GoodIn wsL_law wsX3_takeNames := goodIn_cons (goodIn_hd lwX3_takeNames_h) (goodIn_app (goodIn_app lwwX3_takeNames_o1 lwX3_name) (goodIn_mem inlX3 ok_wsX30))
set_option maxRecDepth 20000 in
theorem lwX3_takeGroups_h : GoodIn wsL_law (Cond.code yX3_takeGroups cX3_takeGroups 2 none :: wsX3_takeGroups_o1) := goodIn_r _ [498, 62, 499, 500, 501, 502] (by decide +kernel) (by decide +kernel)
theorem lwwX3_takeGroups_o1 : GoodIn wsL_law wsX3_takeGroups_o1 := goodIn_tl lwX3_takeGroups_h
theorem lwX3_takeGroups : GoodIn wsL_law wsX3_takeGroups := goodIn_cons (goodIn_hd lwX3_takeGroups_h) (goodIn_app lwwX3_takeGroups_o1 (goodIn_mem inlX3 ok_wsX30))
set_option maxRecDepth 20000 in
theorem lwX3_nextIn_h : GoodIn wsL_law (Cond.code yX3_nextIn cX3_nextIn 6 (some .int) :: wsX3_nextIn_o1) := goodIn_r _ [441, 62, 63, 436] (by decide +kernel) (by decide +kernel)
theorem lwwX3_nextIn_o1 : GoodIn wsL_law wsX3_nextIn_o1 := goodIn_tl lwX3_nextIn_h
theorem lwX3_nextIn : GoodIn wsL_law wsX3_nextIn := goodIn_cons (goodIn_hd lwX3_nextIn_h) (goodIn_app (goodIn_app lwwX3_nextIn_o1 (goodIn_mem inlX3 ok_wsX30)) (goodIn_mem inlX5 ok_wsX50))
set_option maxRecDepth 20000 in
theorem lwX3_alikeIn_h : GoodIn wsL_law (Cond.code yX3_alikeIn cX3_alikeIn 9 (some .boolean) :: wsX3_alikeIn_o1) := goodIn_r _ [435, 436, 62, 63, 437, 438, 439, 440, 23] (by decide +kernel) (by decide +kernel)
theorem lwwX3_alikeIn_o1 : GoodIn wsL_law wsX3_alikeIn_o1 := goodIn_tl lwX3_alikeIn_h
theorem lwX3_alikeIn : GoodIn wsL_law wsX3_alikeIn := goodIn_cons (goodIn_hd lwX3_alikeIn_h) (goodIn_app (goodIn_app (goodIn_app lwwX3_alikeIn_o1 lwX3_nextIn) (goodIn_mem inlX5 ok_wsX50)) (goodIn_mem inlX3 ok_wsX30))
set_option maxRecDepth 20000 in
theorem lwX3_alike_h : GoodIn wsL_law (Cond.code yX3_alike cX3_alike 6 (some .boolean) :: wsX3_alike_o1) := goodIn_r _ [431, 432, 433, 434, 23] (by decide +kernel) (by decide +kernel)
theorem lwwX3_alike_o1 : GoodIn wsL_law wsX3_alike_o1 := goodIn_tl lwX3_alike_h
theorem lwX3_alike : GoodIn wsL_law wsX3_alike := goodIn_cons (goodIn_hd lwX3_alike_h) (goodIn_app (goodIn_app (goodIn_app lwwX3_alike_o1 lwX3_alikeIn) (goodIn_mem inlX5 ok_wsX50)) (goodIn_mem inlX3 ok_wsX30))
set_option maxRecDepth 20000 in
theorem lwX4_init_h : GoodIn wsL_law (Cond.code yX4_init cX4_init 1 none :: wsX4_init_o1) := goodIn_r _ [71, 72, 14, 15, 73, 52, 74] (by decide +kernel) (by decide +kernel)
theorem lwwX4_init_o1 : GoodIn wsL_law wsX4_init_o1 := goodIn_tl lwX4_init_h
theorem lwX4_init : GoodIn wsL_law wsX4_init := goodIn_cons (goodIn_hd lwX4_init_h) (goodIn_app lwwX4_init_o1 (goodIn_mem inlX4 ok_wsX40))
set_option maxRecDepth 20000 in
theorem lwX4_keep_h : GoodIn wsL_law (Cond.code yX4_keep cX4_keep 7 none :: wsX4_keep_o1) := goodIn_r _ [561, 73, 74] (by decide +kernel) (by decide +kernel)
theorem lwwX4_keep_o1 : GoodIn wsL_law wsX4_keep_o1 := goodIn_tl lwX4_keep_h
theorem lwX4_keep : GoodIn wsL_law wsX4_keep := goodIn_cons (goodIn_hd lwX4_keep_h) (goodIn_app lwwX4_keep_o1 (goodIn_mem inlX4 ok_wsX40))
set_option maxRecDepth 20000 in
theorem lwX4_begin_h : GoodIn wsL_law (Cond.code yX4_begin cX4_begin 2 none :: wsX4_begin_o1) := goodIn_r _ [557, 558, 559, 560, 32] (by decide +kernel) (by decide +kernel)
theorem lwwX4_begin_o1 : GoodIn wsL_law wsX4_begin_o1 := goodIn_tl lwX4_begin_h
theorem lwX4_begin : GoodIn wsL_law wsX4_begin := goodIn_cons (goodIn_hd lwX4_begin_h) (goodIn_app (goodIn_app lwwX4_begin_o1 lwX4_keep) (goodIn_mem inlX4 ok_wsX40))
set_option maxRecDepth 20000 in
theorem lwX4_yieldsTo_h : GoodIn wsL_law (Cond.code yX4_yieldsTo cX4_yieldsTo 2 (some .boolean) :: wsX4_yieldsTo_o1) := goodIn_r _ [594, 73] (by decide +kernel) (by decide +kernel)
theorem lwwX4_yieldsTo_o1 : GoodIn wsL_law wsX4_yieldsTo_o1 := goodIn_tl lwX4_yieldsTo_h
theorem lwX4_yieldsTo : GoodIn wsL_law wsX4_yieldsTo := goodIn_cons (goodIn_hd lwX4_yieldsTo_h) (goodIn_app lwwX4_yieldsTo_o1 (goodIn_mem inlX4 ok_wsX40))
set_option maxRecDepth 20000 in
theorem lwX5_endsLike_h : GoodIn wsL_law (Cond.code yX5_endsLike cX5_endsLike 2 (some .boolean) :: wsX5_endsLike_o1) := goodIn_r _ [427, 95, 96] (by decide +kernel) (by decide +kernel)
theorem lwwX5_endsLike_o1 : GoodIn wsL_law wsX5_endsLike_o1 := goodIn_tl lwX5_endsLike_h
theorem lwX5_endsLike : GoodIn wsL_law wsX5_endsLike := goodIn_cons (goodIn_hd lwX5_endsLike_h) (goodIn_app lwwX5_endsLike_o1 (goodIn_mem inlX5 ok_wsX50))
set_option maxRecDepth 20000 in
theorem lwX5_sameCalling_h : GoodIn wsL_law (Cond.code yX5_sameCalling cX5_sameCalling 3 (some .boolean) :: wsX5_sameCalling_o1) := goodIn_r _ [590, 104, 105, 106] (by decide +kernel) (by decide +kernel)
theorem lwwX5_sameCalling_o1 : GoodIn wsL_law wsX5_sameCalling_o1 := goodIn_tl lwX5_sameCalling_h
theorem lwX5_sameCalling : GoodIn wsL_law wsX5_sameCalling := goodIn_cons (goodIn_hd lwX5_sameCalling_h) (goodIn_app lwwX5_sameCalling_o1 (goodIn_mem inlX5 ok_wsX50))
set_option maxRecDepth 20000 in
theorem lwX6_init_h : GoodIn wsL_law (Cond.code yX6_init cX6_init 2 none :: wsX6_init_o1) := goodIn_r _ [12, 13, 16, 17, 18, 19, 20, 21, 22, 23, 24, 25, 26, 27, 28, 29, 30, 31, 32, 33, 34, 35, 36, 37, 38] (by decide +kernel) (by decide +kernel)
theorem lwwX6_init_o1 : GoodIn wsL_law wsX6_init_o1 := goodIn_tl lwX6_init_h
set_option maxRecDepth 20000 in
theorem lwwX6_init_o2 : GoodIn wsL_law (wsX6_init_o2) := goodIn_r _ [39, 40, 41, 42, 43, 44, 45, 46, 47, 48, 52, 58, 64, 70, 75, 76, 80, 81] (by decide +kernel) (by decide +kernel)
theorem lwX6_init : GoodIn wsL_law wsX6_init := goodIn_cons (goodIn_hd lwX6_init_h) (goodIn_app (goodIn_app (goodIn_app (goodIn_app (goodIn_app (goodIn_app (goodIn_app (goodIn_app lwwX6_init_o1 (goodIn_app lwwX6_init_o2 (goodIn_app lwX0_init (goodIn_app lwX3_init (goodIn_app lwX2_init (goodIn_app lwX4_init lwX1_init)))))) (goodIn_mem inlX0 ok_wsX00)) (goodIn_mem inlX6 ok_wsX60)) (goodIn_mem inlX3 ok_wsX30)) (goodIn_mem inlX2 ok_wsX20)) (goodIn_mem inlX4 ok_wsX40)) (goodIn_mem inlX1 ok_wsX10)) (goodIn_mem inlX5 ok_wsX50))
set_option maxRecDepth 20000 in
theorem lwX6_within_h : GoodIn wsL_law ([Cond.code yX6_within cX6_within 3 (some .boolean)]) := goodIn_r _ [151] (by decide +kernel) (by decide +kernel)
theorem lwX6_within : GoodIn wsL_law wsX6_within := goodIn_cons (goodIn_hd lwX6_within_h) goodIn_nil
set_option maxRecDepth 20000 in
theorem lwX6_buildOf_h : GoodIn wsL_law (Cond.code yX6_buildOf cX6_buildOf 2 (some (.object "EqualMethods$Build")) :: wsX6_buildOf_o1) := goodIn_r _ [155, 19, 20] (by decide +kernel) (by decide +kernel)
theorem lwwX6_buildOf_o1 : GoodIn wsL_law wsX6_buildOf_o1 := goodIn_tl lwX6_buildOf_h
theorem lwX6_buildOf : GoodIn wsL_law wsX6_buildOf := goodIn_cons (goodIn_hd lwX6_buildOf_h) (goodIn_app lwwX6_buildOf_o1 (goodIn_mem inlX6 ok_wsX60))
set_option maxRecDepth 20000 in
theorem lwX6_method_h : GoodIn wsL_law (Cond.code yX6_method cX6_method 3 (some .int) :: wsX6_method_o1) := goodIn_r _ [147, 148, 149, 150, 2, 152, 153, 154, 156, 157, 158, 18] (by decide +kernel) (by decide +kernel)
theorem lwwX6_method_o1 : GoodIn wsL_law wsX6_method_o1 := goodIn_tl lwX6_method_h
theorem lwX6_method : GoodIn wsL_law wsX6_method := goodIn_cons (goodIn_hd lwX6_method_h) (goodIn_app (goodIn_app (goodIn_app lwwX6_method_o1 (goodIn_app lwX6_within (goodIn_app lwX6_buildOf lwX0_addMethod))) (goodIn_mem inlX0 ok_wsX00)) (goodIn_mem inlX6 ok_wsX60))
set_option maxRecDepth 20000 in
theorem lwX6_isMethod_h : GoodIn wsL_law (Cond.code yX6_isMethod cX6_isMethod 3 (some .boolean) :: wsX6_isMethod_o1) := goodIn_r _ [175, 149, 150, 2, 152, 153, 154, 176, 177, 178, 18] (by decide +kernel) (by decide +kernel)
theorem lwwX6_isMethod_o1 : GoodIn wsL_law wsX6_isMethod_o1 := goodIn_tl lwX6_isMethod_h
theorem lwX6_isMethod : GoodIn wsL_law wsX6_isMethod := goodIn_cons (goodIn_hd lwX6_isMethod_h) (goodIn_app (goodIn_app (goodIn_app lwwX6_isMethod_o1 (goodIn_app lwX6_within (goodIn_app lwX6_buildOf lwX0_has))) (goodIn_mem inlX6 ok_wsX60)) (goodIn_mem inlX0 ok_wsX00))
set_option maxRecDepth 20000 in
theorem lwX6_isPort_h : GoodIn wsL_law (Cond.code yX6_isPort cX6_isPort 1 (some .boolean) :: wsX6_isPort_o1) := goodIn_r _ [187, 149, 150, 2] (by decide +kernel) (by decide +kernel)
theorem lwwX6_isPort_o1 : GoodIn wsL_law wsX6_isPort_o1 := goodIn_tl lwX6_isPort_h
theorem lwX6_isPort : GoodIn wsL_law wsX6_isPort := goodIn_cons (goodIn_hd lwX6_isPort_h) (goodIn_app lwwX6_isPort_o1 lwX6_within)
set_option maxRecDepth 20000 in
theorem lwX6_fits_h : GoodIn wsL_law (Cond.code yX6_fits cX6_fits 4 (some .boolean) :: wsX6_fits_o1) := goodIn_r _ [183, 184, 39, 149, 150, 2, 185, 186] (by decide +kernel) (by decide +kernel)
theorem lwwX6_fits_o1 : GoodIn wsL_law wsX6_fits_o1 := goodIn_tl lwX6_fits_h
theorem lwX6_fits : GoodIn wsL_law wsX6_fits := goodIn_cons (goodIn_hd lwX6_fits_h) (goodIn_app (goodIn_app lwwX6_fits_o1 (goodIn_app lwX6_within lwX6_isPort)) (goodIn_mem inlX6 ok_wsX60))
set_option maxRecDepth 20000 in
theorem lwX6_op_h : GoodIn wsL_law (Cond.code yX6_op cX6_op 8 (some .int) :: wsX6_op_o1) := goodIn_r _ [170, 171, 172, 173, 174, 2, 149, 150, 152, 153, 154, 18, 180, 181, 182, 188, 189, 190] (by decide +kernel) (by decide +kernel)
theorem lwwX6_op_o1 : GoodIn wsL_law wsX6_op_o1 := goodIn_tl lwX6_op_h
theorem lwX6_op : GoodIn wsL_law wsX6_op := goodIn_cons (goodIn_hd lwX6_op_h) (goodIn_app (goodIn_app (goodIn_app lwwX6_op_o1 (goodIn_app lwX6_isMethod (goodIn_app lwX6_within (goodIn_app lwX6_fits (goodIn_app lwX6_buildOf lwX0_addOp))))) (goodIn_mem inlX0 ok_wsX00)) (goodIn_mem inlX6 ok_wsX60))
set_option maxRecDepth 20000 in
theorem lwX6_clear_h : GoodIn wsL_law (Cond.code yX6_clear cX6_clear 3 (some .int) :: wsX6_clear_o1) := goodIn_r _ [218, 172, 173, 174, 2, 152, 153, 154, 18, 219, 220, 221] (by decide +kernel) (by decide +kernel)
theorem lwwX6_clear_o1 : GoodIn wsL_law wsX6_clear_o1 := goodIn_tl lwX6_clear_h
theorem lwX6_clear : GoodIn wsL_law wsX6_clear := goodIn_cons (goodIn_hd lwX6_clear_h) (goodIn_app (goodIn_app (goodIn_app lwwX6_clear_o1 (goodIn_app lwX6_isMethod (goodIn_app lwX6_buildOf lwX0_removeOps))) (goodIn_mem inlX6 ok_wsX60)) (goodIn_mem inlX0 ok_wsX00))
set_option maxRecDepth 20000 in
theorem lwX6_run_h : GoodIn wsL_law (Cond.code yX6_run cX6_run 5 (some .int) :: wsX6_run_o1) := goodIn_r _ [230, 39, 43, 231, 232, 172, 173, 174, 2, 149, 150, 152, 153, 154, 18, 233, 234, 235, 42, 237, 238, 239, 81] (by decide +kernel) (by decide +kernel)
theorem lwwX6_run_o1 : GoodIn wsL_law wsX6_run_o1 := goodIn_tl lwX6_run_h
theorem lwX6_run : GoodIn wsL_law wsX6_run := goodIn_cons (goodIn_hd lwX6_run_h) (goodIn_app (goodIn_app (goodIn_app (goodIn_app (goodIn_app lwwX6_run_o1 (goodIn_app lwX6_isMethod (goodIn_app lwX6_within (goodIn_app lwX6_buildOf (goodIn_app lwX1_turnTo lwX1_go))))) (goodIn_mem inlX6 ok_wsX60)) (goodIn_mem inlX1 ok_wsX10)) (goodIn_mem inlX5 ok_wsX50)) (goodIn_mem inlX0 ok_wsX00))
set_option maxRecDepth 20000 in
theorem lwX6_ran_h : GoodIn wsL_law (Cond.code yX6_ran cX6_ran 3 (some .int) :: wsX6_ran_o1) := goodIn_r _ [359, 43, 231, 360, 361, 362, 363, 364] (by decide +kernel) (by decide +kernel)
theorem lwwX6_ran_o1 : GoodIn wsL_law wsX6_ran_o1 := goodIn_tl lwX6_ran_h
theorem lwX6_ran : GoodIn wsL_law wsX6_ran := goodIn_cons (goodIn_hd lwX6_ran_h) (goodIn_app (goodIn_app (goodIn_app lwwX6_ran_o1 (goodIn_mem inlX6 ok_wsX60)) (goodIn_mem inlX1 ok_wsX10)) (goodIn_mem inlX5 ok_wsX50))
set_option maxRecDepth 20000 in
theorem lwX6_told_h : GoodIn wsL_law (Cond.code yX6_told cX6_told 4 (some .int) :: wsX6_told_o1) := goodIn_r _ [372, 43, 231, 363, 373, 374, 149, 150, 2] (by decide +kernel) (by decide +kernel)
theorem lwwX6_told_o1 : GoodIn wsL_law wsX6_told_o1 := goodIn_tl lwX6_told_h
theorem lwX6_told : GoodIn wsL_law wsX6_told := goodIn_cons (goodIn_hd lwX6_told_h) (goodIn_app (goodIn_app (goodIn_app (goodIn_app lwwX6_told_o1 lwX6_within) (goodIn_mem inlX6 ok_wsX60)) (goodIn_mem inlX1 ok_wsX10)) (goodIn_mem inlX5 ok_wsX50))
set_option maxRecDepth 20000 in
theorem lwX6_rename_h : GoodIn wsL_law (Cond.code yX6_rename cX6_rename 3 (some .int) :: wsX6_rename_o1) := goodIn_r _ [382, 24, 185, 186, 2, 383, 384, 385, 23] (by decide +kernel) (by decide +kernel)
theorem lwwX6_rename_o1 : GoodIn wsL_law wsX6_rename_o1 := goodIn_tl lwX6_rename_h
theorem lwX6_rename : GoodIn wsL_law wsX6_rename := goodIn_cons (goodIn_hd lwX6_rename_h) (goodIn_app (goodIn_app (goodIn_app lwwX6_rename_o1 (goodIn_app lwX6_isPort lwX3_swapIn)) (goodIn_mem inlX6 ok_wsX60)) (goodIn_mem inlX3 ok_wsX30))
set_option maxRecDepth 20000 in
theorem lwX6_group_h : GoodIn wsL_law (Cond.code yX6_group cX6_group 4 (some .int) :: wsX6_group_o1) := goodIn_r _ [398, 24, 399, 185, 186, 2, 149, 150] (by decide +kernel) (by decide +kernel)
theorem lwwX6_group_o1 : GoodIn wsL_law wsX6_group_o1 := goodIn_tl lwX6_group_h
theorem lwX6_group : GoodIn wsL_law wsX6_group := goodIn_cons (goodIn_hd lwX6_group_h) (goodIn_app (goodIn_app (goodIn_app lwwX6_group_o1 (goodIn_app lwX6_isPort lwX6_within)) (goodIn_mem inlX6 ok_wsX60)) (goodIn_mem inlX3 ok_wsX30))
set_option maxRecDepth 20000 in
theorem lwX6_isPair_h : GoodIn wsL_law (Cond.code yX6_isPair cX6_isPair 3 (some .boolean) :: wsX6_isPair_o1) := goodIn_r _ [411, 19, 20, 176, 177, 178, 18] (by decide +kernel) (by decide +kernel)
theorem lwwX6_isPair_o1 : GoodIn wsL_law wsX6_isPair_o1 := goodIn_tl lwX6_isPair_h
theorem lwX6_isPair : GoodIn wsL_law wsX6_isPair := goodIn_cons (goodIn_hd lwX6_isPair_h) (goodIn_app (goodIn_app (goodIn_app lwwX6_isPair_o1 lwX0_has) (goodIn_mem inlX6 ok_wsX60)) (goodIn_mem inlX0 ok_wsX00))
set_option maxRecDepth 20000 in
theorem lwX6_runBoth_h : GoodIn wsL_law (Cond.code yX6_runBoth cX6_runBoth 5 (some .boolean) :: wsX6_runBoth_o1) := goodIn_r _ [419, 44, 45, 231, 232, 237, 238, 239, 42, 81, 18] (by decide +kernel) (by decide +kernel)
