set_option maxRecDepth 20000 in
theorem lwX0_init_h : GoodIn wsL_law (Cond.code yX0_init cX0_init 1 none :: wsX0_init_o1) := goodIn_r _ [49, 50, 14, 15, 51, 52, 53, 54, 55, 56, 57] (by decide +kernel) (by decide +kernel)
theorem lwwX0_init_o1 : GoodIn wsL_law wsX0_init_o1 := goodIn_tl lwX0_init_h
theorem lwX0_init : GoodIn wsL_law wsX0_init := goodIn_cons (goodIn_hd lwX0_init_h) (goodIn_app lwwX0_init_o1 (goodIn_mem inlX0 ok_wsX00))
set_option maxRecDepth 20000 in
theorem lwX0_has_h : GoodIn wsL_law (Cond.code yX0_has cX0_has 2 (some .boolean) :: wsX0_has_o1) := goodIn_r _ [179, 51] (by decide +kernel) (by decide +kernel)
theorem lwwX0_has_o1 : GoodIn wsL_law wsX0_has_o1 := goodIn_tl lwX0_has_h
theorem lwX0_has : GoodIn wsL_law wsX0_has := goodIn_cons (goodIn_hd lwX0_has_h) (goodIn_app lwwX0_has_o1 (goodIn_mem inlX0 ok_wsX00))
set_option maxRecDepth 20000 in
theorem lwX0_addMethod_h : GoodIn wsL_law (Cond.code yX0_addMethod cX0_addMethod 1 (some .int) :: wsX0_addMethod_o1) := goodIn_r _ [159, 51] (by decide +kernel) (by decide +kernel)
theorem lwwX0_addMethod_o1 : GoodIn wsL_law wsX0_addMethod_o1 := goodIn_tl lwX0_addMethod_h
theorem lwX0_addMethod : GoodIn wsL_law wsX0_addMethod := goodIn_cons (goodIn_hd lwX0_addMethod_h) (goodIn_app lwwX0_addMethod_o1 (goodIn_mem inlX0 ok_wsX00))
set_option maxRecDepth 20000 in
theorem lwX0_placeOf_h : GoodIn wsL_law ([Cond.code yX0_placeOf cX0_placeOf 3 (some .int)]) := goodIn_r _ [195] (by decide +kernel) (by decide +kernel)
theorem lwX0_placeOf : GoodIn wsL_law wsX0_placeOf := goodIn_cons (goodIn_hd lwX0_placeOf_h) goodIn_nil
set_option maxRecDepth 20000 in
theorem lwX0_addOp_h : GoodIn wsL_law (Cond.code yX0_addOp cX0_addOp 7 (some .int) :: wsX0_addOp_o1) := goodIn_r _ [191, 53, 54, 55, 56, 57, 192, 193, 194, 18] (by decide +kernel) (by decide +kernel)
theorem lwwX0_addOp_o1 : GoodIn wsL_law wsX0_addOp_o1 := goodIn_tl lwX0_addOp_h
theorem lwX0_addOp : GoodIn wsL_law wsX0_addOp := goodIn_cons (goodIn_hd lwX0_addOp_h) (goodIn_app (goodIn_app lwwX0_addOp_o1 lwX0_placeOf) (goodIn_mem inlX0 ok_wsX00))
set_option maxRecDepth 20000 in
theorem lwX0_removeOps_h : GoodIn wsL_law (Cond.code yX0_removeOps cX0_removeOps 3 (some .int) :: wsX0_removeOps_o1) := goodIn_r _ [222, 53] (by decide +kernel) (by decide +kernel)
theorem lwwX0_removeOps_o1 : GoodIn wsL_law wsX0_removeOps_o1 := goodIn_tl lwX0_removeOps_h
theorem lwX0_removeOps : GoodIn wsL_law wsX0_removeOps := goodIn_cons (goodIn_hd lwX0_removeOps_h) (goodIn_app lwwX0_removeOps_o1 (goodIn_mem inlX0 ok_wsX00))
set_option maxRecDepth 20000 in
theorem lwX5_init_h : GoodIn wsL_law (Cond.code yX5_init cX5_init 1 none :: wsX5_init_o1) := goodIn_r _ [92, 93, 14, 15, 94, 95, 96, 97, 98, 99, 52, 100, 101, 102, 103, 104, 105, 106] (by decide +kernel) (by decide +kernel)
theorem lwwX5_init_o1 : GoodIn wsL_law wsX5_init_o1 := goodIn_tl lwX5_init_h
theorem lwX5_init : GoodIn wsL_law wsX5_init := goodIn_cons (goodIn_hd lwX5_init_h) (goodIn_app lwwX5_init_o1 (goodIn_mem inlX5 ok_wsX50))
set_option maxRecDepth 20000 in
theorem lwX1_init_h : GoodIn wsL_law (Cond.code yX1_init cX1_init 4 none :: wsX1_init_o1) := goodIn_r _ [77, 78, 79, 80, 81, 82, 52, 83, 84, 85, 86, 87, 88, 89, 90, 91] (by decide +kernel) (by decide +kernel)
theorem lwwX1_init_o1 : GoodIn wsL_law wsX1_init_o1 := goodIn_tl lwX1_init_h
theorem lwX1_init : GoodIn wsL_law wsX1_init := goodIn_cons (goodIn_hd lwX1_init_h) (goodIn_app (goodIn_app (goodIn_app lwwX1_init_o1 lwX5_init) (goodIn_mem inlX5 ok_wsX50)) (goodIn_mem inlX1 ok_wsX10))
set_option maxRecDepth 20000 in
theorem lwX1_turnTo_h : GoodIn wsL_law (Cond.code yX1_turnTo cX1_turnTo 2 none :: wsX1_turnTo_o1) := goodIn_r _ [236, 88] (by decide +kernel) (by decide +kernel)
theorem lwwX1_turnTo_o1 : GoodIn wsL_law wsX1_turnTo_o1 := goodIn_tl lwX1_turnTo_h
theorem lwX1_turnTo : GoodIn wsL_law wsX1_turnTo := goodIn_cons (goodIn_hd lwX1_turnTo_h) (goodIn_app lwwX1_turnTo_o1 (goodIn_mem inlX1 ok_wsX10))
set_option maxRecDepth 20000 in
theorem lwX1_takeAnswers_h : GoodIn wsL_law (Cond.code yX1_takeAnswers cX1_takeAnswers 3 none :: wsX1_takeAnswers_o1) := goodIn_r _ [576, 86] (by decide +kernel) (by decide +kernel)
theorem lwwX1_takeAnswers_o1 : GoodIn wsL_law wsX1_takeAnswers_o1 := goodIn_tl lwX1_takeAnswers_h
theorem lwX1_takeAnswers : GoodIn wsL_law wsX1_takeAnswers := goodIn_cons (goodIn_hd lwX1_takeAnswers_h) (goodIn_app lwwX1_takeAnswers_o1 (goodIn_mem inlX1 ok_wsX10))
set_option maxRecDepth 20000 in
theorem lwX5_finish_h : GoodIn wsL_law (Cond.code yX5_finish cX5_finish 4 none :: wsX5_finish_o1) := goodIn_r _ [250, 94, 95, 96] (by decide +kernel) (by decide +kernel)
theorem lwwX5_finish_o1 : GoodIn wsL_law wsX5_finish_o1 := goodIn_tl lwX5_finish_h
theorem lwX5_finish : GoodIn wsL_law wsX5_finish := goodIn_cons (goodIn_hd lwX5_finish_h) (goodIn_app lwwX5_finish_o1 (goodIn_mem inlX5 ok_wsX50))
set_option maxRecDepth 20000 in
theorem lwX5_forget_h : GoodIn wsL_law (Cond.code yX5_forget cX5_forget 1 none :: wsX5_forget_o1) := goodIn_r _ [246, 97, 98, 99, 102, 247, 248, 249, 81] (by decide +kernel) (by decide +kernel)
theorem lwwX5_forget_o1 : GoodIn wsL_law wsX5_forget_o1 := goodIn_tl lwX5_forget_h
theorem lwX5_forget : GoodIn wsL_law wsX5_forget := goodIn_cons (goodIn_hd lwX5_forget_h) (goodIn_app (goodIn_app lwwX5_forget_o1 lwX5_finish) (goodIn_mem inlX5 ok_wsX50))
set_option maxRecDepth 20000 in
theorem lwX1_enter_h : GoodIn wsL_law (Cond.code yX1_enter cX1_enter 6 none :: wsX1_enter_o1) := goodIn_r _ [254, 87, 83, 84, 85, 82, 255] (by decide +kernel) (by decide +kernel)
theorem lwwX1_enter_o1 : GoodIn wsL_law wsX1_enter_o1 := goodIn_tl lwX1_enter_h
theorem lwX1_enter : GoodIn wsL_law wsX1_enter := goodIn_cons (goodIn_hd lwX1_enter_h) (goodIn_app (goodIn_app lwwX1_enter_o1 (goodIn_mem inlX1 ok_wsX10)) (goodIn_mem inlX5 ok_wsX50))
set_option maxRecDepth 20000 in
theorem lwX1_placeOfTop_h : GoodIn wsL_law (Cond.code yX1_placeOfTop cX1_placeOfTop 1 (some .int) :: wsX1_placeOfTop_o1) := goodIn_r _ [265, 88, 85, 87, 84, 266, 193, 194, 18] (by decide +kernel) (by decide +kernel)
theorem lwwX1_placeOfTop_o1 : GoodIn wsL_law wsX1_placeOfTop_o1 := goodIn_tl lwX1_placeOfTop_h
theorem lwX1_placeOfTop : GoodIn wsL_law wsX1_placeOfTop := goodIn_cons (goodIn_hd lwX1_placeOfTop_h) (goodIn_app (goodIn_app lwwX1_placeOfTop_o1 lwX0_placeOf) (goodIn_mem inlX1 ok_wsX10))
set_option maxRecDepth 20000 in
theorem lwX1_put_h : GoodIn wsL_law (Cond.code yX1_put cX1_put 3 none :: wsX1_put_o1) := goodIn_r _ [270, 83, 87, 84] (by decide +kernel) (by decide +kernel)
theorem lwwX1_put_o1 : GoodIn wsL_law wsX1_put_o1 := goodIn_tl lwX1_put_h
theorem lwX1_put : GoodIn wsL_law wsX1_put := goodIn_cons (goodIn_hd lwX1_put_h) (goodIn_app lwwX1_put_o1 (goodIn_mem inlX1 ok_wsX10))
set_option maxRecDepth 20000 in
theorem lwX1_giveBack_h : GoodIn wsL_law (Cond.code yX1_giveBack cX1_giveBack 2 none :: wsX1_giveBack_o1) := goodIn_r _ [259, 87, 82, 88, 260, 261, 248, 249, 81, 262, 263, 264, 42, 18, 267, 268, 269] (by decide +kernel) (by decide +kernel)
theorem lwwX1_giveBack_o1 : GoodIn wsL_law wsX1_giveBack_o1 := goodIn_tl lwX1_giveBack_h
theorem lwX1_giveBack : GoodIn wsL_law wsX1_giveBack := goodIn_cons (goodIn_hd lwX1_giveBack_h) (goodIn_app (goodIn_app (goodIn_app (goodIn_app lwwX1_giveBack_o1 (goodIn_app lwX5_finish (goodIn_app lwX1_placeOfTop lwX1_put))) (goodIn_mem inlX1 ok_wsX10)) (goodIn_mem inlX0 ok_wsX00)) (goodIn_mem inlX5 ok_wsX50))
set_option maxRecDepth 20000 in
theorem lwX1_isSpentBy_h : GoodIn wsL_law (Cond.code yX1_isSpentBy cX1_isSpentBy 2 (some .boolean) :: wsX1_isSpentBy_o1) := goodIn_r _ [274, 82, 275, 276] (by decide +kernel) (by decide +kernel)
theorem lwwX1_isSpentBy_o1 : GoodIn wsL_law wsX1_isSpentBy_o1 := goodIn_tl lwX1_isSpentBy_h
theorem lwX1_isSpentBy : GoodIn wsL_law wsX1_isSpentBy := goodIn_cons (goodIn_hd lwX1_isSpentBy_h) (goodIn_app (goodIn_app lwwX1_isSpentBy_o1 (goodIn_mem inlX1 ok_wsX10)) (goodIn_mem inlX5 ok_wsX50))
set_option maxRecDepth 20000 in
theorem lwX1_stop_h : GoodIn wsL_law (Cond.code yX1_stop cX1_stop 4 none :: wsX1_stop_o1) := goodIn_r _ [280, 87, 82, 261, 248, 249, 81] (by decide +kernel) (by decide +kernel)
theorem lwwX1_stop_o1 : GoodIn wsL_law wsX1_stop_o1 := goodIn_tl lwX1_stop_h
theorem lwX1_stop : GoodIn wsL_law wsX1_stop := goodIn_cons (goodIn_hd lwX1_stop_h) (goodIn_app (goodIn_app (goodIn_app lwwX1_stop_o1 lwX5_finish) (goodIn_mem inlX1 ok_wsX10)) (goodIn_mem inlX5 ok_wsX50))
set_option maxRecDepth 20000 in
theorem lwX1_get_h : GoodIn wsL_law (Cond.code yX1_get cX1_get 2 (some .int) :: wsX1_get_o1) := goodIn_r _ [290, 83, 87] (by decide +kernel) (by decide +kernel)
theorem lwwX1_get_o1 : GoodIn wsL_law wsX1_get_o1 := goodIn_tl lwX1_get_h
theorem lwX1_get : GoodIn wsL_law wsX1_get := goodIn_cons (goodIn_hd lwX1_get_h) (goodIn_app lwwX1_get_o1 (goodIn_mem inlX1 ok_wsX10))
set_option maxRecDepth 20000 in
theorem lwX5_addTell_h : GoodIn wsL_law (Cond.code yX5_addTell cX5_addTell 3 none :: wsX5_addTell_o1) := goodIn_r _ [294, 100, 99, 101] (by decide +kernel) (by decide +kernel)
theorem lwwX5_addTell_o1 : GoodIn wsL_law wsX5_addTell_o1 := goodIn_tl lwX5_addTell_h
theorem lwX5_addTell : GoodIn wsL_law wsX5_addTell := goodIn_cons (goodIn_hd lwX5_addTell_h) (goodIn_app lwwX5_addTell_o1 (goodIn_mem inlX5 ok_wsX50))
set_option maxRecDepth 20000 in
theorem lwX5_addCalling_h : GoodIn wsL_law (Cond.code yX5_addCalling cX5_addCalling 4 none :: wsX5_addCalling_o1) := goodIn_r _ [308, 103, 102, 104, 105, 106, 99] (by decide +kernel) (by decide +kernel)
theorem lwwX5_addCalling_o1 : GoodIn wsL_law wsX5_addCalling_o1 := goodIn_tl lwX5_addCalling_h
theorem lwX5_addCalling : GoodIn wsL_law wsX5_addCalling := goodIn_cons (goodIn_hd lwX5_addCalling_h) (goodIn_app lwwX5_addCalling_o1 (goodIn_mem inlX5 ok_wsX50))
set_option maxRecDepth 20000 in
theorem lwX1_answer_h : GoodIn wsL_law (Cond.code yX1_answer cX1_answer 6 none :: wsX1_answer_o1) := goodIn_r _ [303, 82, 304, 86, 89, 277, 278, 279, 42, 81, 305, 306, 307, 267, 268, 269] (by decide +kernel) (by decide +kernel)
theorem lwwX1_answer_o1 : GoodIn wsL_law wsX1_answer_o1 := goodIn_tl lwX1_answer_h
theorem lwX1_answer : GoodIn wsL_law wsX1_answer := goodIn_cons (goodIn_hd lwX1_answer_h) (goodIn_app (goodIn_app (goodIn_app lwwX1_answer_o1 (goodIn_app lwX1_stop (goodIn_app lwX5_addCalling lwX1_put))) (goodIn_mem inlX1 ok_wsX10)) (goodIn_mem inlX5 ok_wsX50))
set_option maxRecDepth 20000 in
theorem lwX1_ask_h : GoodIn wsL_law (Cond.code yX1_ask cX1_ask 5 none :: wsX1_ask_o1) := goodIn_r _ [298, 88, 89, 90, 87, 299, 177, 178, 18, 277, 278, 279, 42, 81, 300, 301, 302, 251, 252, 253] (by decide +kernel) (by decide +kernel)
theorem lwwX1_ask_o1 : GoodIn wsL_law wsX1_ask_o1 := goodIn_tl lwX1_ask_h
theorem lwX1_ask : GoodIn wsL_law wsX1_ask := goodIn_cons (goodIn_hd lwX1_ask_h) (goodIn_app (goodIn_app (goodIn_app (goodIn_app lwwX1_ask_o1 (goodIn_app lwX0_has (goodIn_app lwX1_stop (goodIn_app lwX1_answer lwX1_enter)))) (goodIn_mem inlX1 ok_wsX10)) (goodIn_mem inlX0 ok_wsX00)) (goodIn_mem inlX5 ok_wsX50))
set_option maxRecDepth 20000 in
theorem lwX1_result_h : GoodIn wsL_law ([Cond.code yX1_result cX1_result 3 (some .int)]) := goodIn_r _ [315] (by decide +kernel) (by decide +kernel)
theorem lwX1_result : GoodIn wsL_law wsX1_result := goodIn_cons (goodIn_hd lwX1_result_h) goodIn_nil
set_option maxRecDepth 20000 in
theorem lwX1_calculate_h : GoodIn wsL_law (Cond.code yX1_calculate cX1_calculate 5 none :: wsX1_calculate_o1) := goodIn_r _ [312, 89, 277, 278, 279, 42, 81, 313, 314, 267, 268, 269] (by decide +kernel) (by decide +kernel)
theorem lwwX1_calculate_o1 : GoodIn wsL_law wsX1_calculate_o1 := goodIn_tl lwX1_calculate_h
theorem lwX1_calculate : GoodIn wsL_law wsX1_calculate := goodIn_cons (goodIn_hd lwX1_calculate_h) (goodIn_app (goodIn_app (goodIn_app lwwX1_calculate_o1 (goodIn_app lwX1_stop (goodIn_app lwX1_result lwX1_put))) (goodIn_mem inlX1 ok_wsX10)) (goodIn_mem inlX5 ok_wsX50))
set_option maxRecDepth 20000 in
theorem lwX1_perform_h : GoodIn wsL_law (Cond.code yX1_perform cX1_perform 5 none :: wsX1_perform_o1) := goodIn_r _ [284, 88, 260, 285, 286, 82, 275, 242, 84, 87, 267, 268, 269, 42, 287, 288, 289, 291, 292, 293, 81, 295, 296, 297, 18] (by decide +kernel) (by decide +kernel)
theorem lwwX1_perform_o1 : GoodIn wsL_law wsX1_perform_o1 := goodIn_tl lwX1_perform_h
set_option maxRecDepth 20000 in
theorem lwwX1_perform_o2 : GoodIn wsL_law (wsX1_perform_o2) := goodIn_r _ [277, 278, 279, 256, 257, 258, 309, 310, 311] (by decide +kernel) (by decide +kernel)
theorem lwX1_perform : GoodIn wsL_law wsX1_perform := goodIn_cons (goodIn_hd lwX1_perform_h) (goodIn_app (goodIn_app (goodIn_app (goodIn_app lwwX1_perform_o1 (goodIn_app lwwX1_perform_o2 (goodIn_app lwX1_put (goodIn_app lwX1_get (goodIn_app lwX5_addTell (goodIn_app lwX1_ask (goodIn_app lwX1_giveBack (goodIn_app lwX1_stop lwX1_calculate)))))))) (goodIn_mem inlX1 ok_wsX10)) (goodIn_mem inlX0 ok_wsX00)) (goodIn_mem inlX5 ok_wsX50))
set_option maxRecDepth 20000 in
theorem lwX1_go_h : GoodIn wsL_law (Cond.code yX1_go cX1_go 5 none :: wsX1_go_o1) := goodIn_r _ [240, 82, 87, 84, 88, 241, 85, 242, 243, 244, 245, 81, 251, 252, 253, 42, 256, 257, 258, 262, 263, 264, 18, 271, 272] (by decide +kernel) (by decide +kernel)
theorem lwwX1_go_o1 : GoodIn wsL_law wsX1_go_o1 := goodIn_tl lwX1_go_h
set_option maxRecDepth 20000 in
theorem lwwX1_go_o2 : GoodIn wsL_law (wsX1_go_o2) := goodIn_r _ [273, 277, 278, 279, 281, 282, 283] (by decide +kernel) (by decide +kernel)
theorem lwX1_go : GoodIn wsL_law wsX1_go := goodIn_cons (goodIn_hd lwX1_go_h) (goodIn_app (goodIn_app (goodIn_app (goodIn_app lwwX1_go_o1 (goodIn_app lwwX1_go_o2 (goodIn_app lwX5_forget (goodIn_app lwX1_enter (goodIn_app lwX1_giveBack (goodIn_app lwX1_placeOfTop (goodIn_app lwX1_isSpentBy (goodIn_app lwX1_stop lwX1_perform)))))))) (goodIn_mem inlX1 ok_wsX10)) (goodIn_mem inlX0 ok_wsX00)) (goodIn_mem inlX5 ok_wsX50))
set_option maxRecDepth 20000 in
theorem lwX2_init_h : GoodIn wsL_law (Cond.code yX2_init cX2_init 1 none :: wsX2_init_o1) := goodIn_r _ [65, 66, 14, 15, 67, 52, 68, 69] (by decide +kernel) (by decide +kernel)
theorem lwwX2_init_o1 : GoodIn wsL_law wsX2_init_o1 := goodIn_tl lwX2_init_h
theorem lwX2_init : GoodIn wsL_law wsX2_init := goodIn_cons (goodIn_hd lwX2_init_h) (goodIn_app lwwX2_init_o1 (goodIn_mem inlX2 ok_wsX20))
set_option maxRecDepth 20000 in
theorem lwX2_has_h : GoodIn wsL_law (Cond.code yX2_has cX2_has 4 (some .boolean) :: wsX2_has_o1) := goodIn_r _ [532, 67, 68, 69] (by decide +kernel) (by decide +kernel)
theorem lwwX2_has_o1 : GoodIn wsL_law wsX2_has_o1 := goodIn_tl lwX2_has_h
theorem lwX2_has : GoodIn wsL_law wsX2_has := goodIn_cons (goodIn_hd lwX2_has_h) (goodIn_app lwwX2_has_o1 (goodIn_mem inlX2 ok_wsX20))
set_option maxRecDepth 20000 in
theorem lwX2_add_h : GoodIn wsL_law (Cond.code yX2_add cX2_add 3 (some .int) :: wsX2_add_o1) := goodIn_r _ [536, 68, 67, 69] (by decide +kernel) (by decide +kernel)
