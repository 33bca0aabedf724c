theorem dX0_init_0 : decode cX0_init 0 = .ok (.aload_n 0, 1) := by decide +kernel
theorem dX0_init_1 : decode cX0_init 1 = .ok (.invokespecial 3, 3) := by decide +kernel
theorem dX0_init_4 : decode cX0_init 4 = .ok (.aload_n 0, 1) := by decide +kernel
theorem dX0_init_5 : decode cX0_init 5 = .ok (.iconst 0, 1) := by decide +kernel
theorem dX0_init_6 : decode cX0_init 6 = .ok (.putfield 9, 3) := by decide +kernel
theorem dX0_init_9 : decode cX0_init 9 = .ok (.aload_n 0, 1) := by decide +kernel
theorem dX0_init_10 : decode cX0_init 10 = .ok (.bipush 6, 2) := by decide +kernel
theorem dX0_init_12 : decode cX0_init 12 = .ok (.newarray .int, 2) := by decide +kernel
theorem dX0_init_14 : decode cX0_init 14 = .ok (.putfield 15, 3) := by decide +kernel
theorem dX0_init_17 : decode cX0_init 17 = .ok (.aload_n 0, 1) := by decide +kernel
theorem dX0_init_18 : decode cX0_init 18 = .ok (.sipush 144, 3) := by decide +kernel
theorem dX0_init_21 : decode cX0_init 21 = .ok (.newarray .int, 2) := by decide +kernel
theorem dX0_init_23 : decode cX0_init 23 = .ok (.putfield 19, 3) := by decide +kernel
theorem dX0_init_26 : decode cX0_init 26 = .ok (.aload_n 0, 1) := by decide +kernel
theorem dX0_init_27 : decode cX0_init 27 = .ok (.sipush 144, 3) := by decide +kernel
theorem dX0_init_30 : decode cX0_init 30 = .ok (.newarray .int, 2) := by decide +kernel
theorem dX0_init_32 : decode cX0_init 32 = .ok (.putfield 22, 3) := by decide +kernel
theorem dX0_init_35 : decode cX0_init 35 = .ok (.aload_n 0, 1) := by decide +kernel
theorem dX0_init_36 : decode cX0_init 36 = .ok (.sipush 144, 3) := by decide +kernel
theorem dX0_init_39 : decode cX0_init 39 = .ok (.newarray .int, 2) := by decide +kernel
theorem dX0_init_41 : decode cX0_init 41 = .ok (.putfield 25, 3) := by decide +kernel
theorem dX0_init_44 : decode cX0_init 44 = .ok (.aload_n 0, 1) := by decide +kernel
theorem dX0_init_45 : decode cX0_init 45 = .ok (.sipush 144, 3) := by decide +kernel
theorem dX0_init_48 : decode cX0_init 48 = .ok (.newarray .int, 2) := by decide +kernel
theorem dX0_init_50 : decode cX0_init 50 = .ok (.putfield 28, 3) := by decide +kernel
theorem dX0_init_53 : decode cX0_init 53 = .ok (.return_, 1) := by decide +kernel
theorem dX0_has_0 : decode cX0_has 0 = .ok (.iload_n 1, 1) := by decide +kernel
theorem dX0_has_1 : decode cX0_has 1 = .ok (.ifCond .lt 15, 3) := by decide +kernel
theorem dX0_has_4 : decode cX0_has 4 = .ok (.iload_n 1, 1) := by decide +kernel
theorem dX0_has_5 : decode cX0_has 5 = .ok (.aload_n 0, 1) := by decide +kernel
theorem dX0_has_6 : decode cX0_has 6 = .ok (.getfield 9, 3) := by decide +kernel
theorem dX0_has_9 : decode cX0_has 9 = .ok (.if_icmp .ge 7, 3) := by decide +kernel
theorem dX0_has_12 : decode cX0_has 12 = .ok (.iconst 1, 1) := by decide +kernel
theorem dX0_has_13 : decode cX0_has 13 = .ok (.goto 4, 3) := by decide +kernel
theorem dX0_has_16 : decode cX0_has 16 = .ok (.iconst 0, 1) := by decide +kernel
theorem dX0_has_17 : decode cX0_has 17 = .ok (.ireturn, 1) := by decide +kernel
theorem dX0_addMethod_0 : decode cX0_addMethod 0 = .ok (.aload_n 0, 1) := by decide +kernel
theorem dX0_addMethod_1 : decode cX0_addMethod 1 = .ok (.dup, 1) := by decide +kernel
theorem dX0_addMethod_2 : decode cX0_addMethod 2 = .ok (.getfield 9, 3) := by decide +kernel
theorem dX0_addMethod_5 : decode cX0_addMethod 5 = .ok (.dup_x1, 1) := by decide +kernel
theorem dX0_addMethod_6 : decode cX0_addMethod 6 = .ok (.iconst 1, 1) := by decide +kernel
theorem dX0_addMethod_7 : decode cX0_addMethod 7 = .ok (.iadd, 1) := by decide +kernel
theorem dX0_addMethod_8 : decode cX0_addMethod 8 = .ok (.putfield 9, 3) := by decide +kernel
theorem dX0_addMethod_11 : decode cX0_addMethod 11 = .ok (.ireturn, 1) := by decide +kernel
theorem ggX0_addOp_X0_placeOf : GoodIn wsX0_addOp wsX0_placeOf := goodIn_mem (fun _ h => List.mem_cons_of_mem _ (List.mem_append_left _ (List.mem_append_right _ h))) ok_wsX0_placeOf
set_option maxRecDepth 20000 in
theorem gX0_addOp_X0_placeOf : GoodIn wsX0_addOp (wsV RX0 31 RX0 yX0_placeOf wsX0_placeOf) := goodIn_app (goodIn_of _ (by decide +kernel)) ggX0_addOp_X0_placeOf
theorem dX0_addOp_0 : decode cX0_addOp 0 = .ok (.aload_n 0, 1) := by decide +kernel
theorem dX0_addOp_1 : decode cX0_addOp 1 = .ok (.iload_n 1, 1) := by decide +kernel
theorem dX0_addOp_2 : decode cX0_addOp 2 = .ok (.aload_n 0, 1) := by decide +kernel
theorem dX0_addOp_3 : decode cX0_addOp 3 = .ok (.getfield 15, 3) := by decide +kernel
theorem dX0_addOp_6 : decode cX0_addOp 6 = .ok (.iload_n 1, 1) := by decide +kernel
theorem dX0_addOp_7 : decode cX0_addOp 7 = .ok (.iaload, 1) := by decide +kernel
theorem dX0_addOp_8 : decode cX0_addOp 8 = .ok (.invokevirtual 31, 3) := by decide +kernel
theorem dX0_addOp_11 : decode cX0_addOp 11 = .ok (.istore 6, 2) := by decide +kernel
theorem dX0_addOp_13 : decode cX0_addOp 13 = .ok (.aload_n 0, 1) := by decide +kernel
theorem dX0_addOp_14 : decode cX0_addOp 14 = .ok (.getfield 19, 3) := by decide +kernel
theorem dX0_addOp_17 : decode cX0_addOp 17 = .ok (.iload 6, 2) := by decide +kernel
theorem dX0_addOp_19 : decode cX0_addOp 19 = .ok (.iload_n 2, 1) := by decide +kernel
theorem dX0_addOp_20 : decode cX0_addOp 20 = .ok (.iastore, 1) := by decide +kernel
theorem dX0_addOp_21 : decode cX0_addOp 21 = .ok (.aload_n 0, 1) := by decide +kernel
theorem dX0_addOp_22 : decode cX0_addOp 22 = .ok (.getfield 22, 3) := by decide +kernel
theorem dX0_addOp_25 : decode cX0_addOp 25 = .ok (.iload 6, 2) := by decide +kernel
theorem dX0_addOp_27 : decode cX0_addOp 27 = .ok (.iload_n 3, 1) := by decide +kernel
theorem dX0_addOp_28 : decode cX0_addOp 28 = .ok (.iastore, 1) := by decide +kernel
theorem dX0_addOp_29 : decode cX0_addOp 29 = .ok (.aload_n 0, 1) := by decide +kernel
theorem dX0_addOp_30 : decode cX0_addOp 30 = .ok (.getfield 25, 3) := by decide +kernel
theorem dX0_addOp_33 : decode cX0_addOp 33 = .ok (.iload 6, 2) := by decide +kernel
theorem dX0_addOp_35 : decode cX0_addOp 35 = .ok (.iload 4, 2) := by decide +kernel
theorem dX0_addOp_37 : decode cX0_addOp 37 = .ok (.iastore, 1) := by decide +kernel
theorem dX0_addOp_38 : decode cX0_addOp 38 = .ok (.aload_n 0, 1) := by decide +kernel
theorem dX0_addOp_39 : decode cX0_addOp 39 = .ok (.getfield 28, 3) := by decide +kernel
theorem dX0_addOp_42 : decode cX0_addOp 42 = .ok (.iload 6, 2) := by decide +kernel
theorem dX0_addOp_44 : decode cX0_addOp 44 = .ok (.iload 5, 2) := by decide +kernel
theorem dX0_addOp_46 : decode cX0_addOp 46 = .ok (.iastore, 1) := by decide +kernel
theorem dX0_addOp_47 : decode cX0_addOp 47 = .ok (.aload_n 0, 1) := by decide +kernel
theorem dX0_addOp_48 : decode cX0_addOp 48 = .ok (.getfield 15, 3) := by decide +kernel
theorem dX0_addOp_51 : decode cX0_addOp 51 = .ok (.iload_n 1, 1) := by decide +kernel
theorem dX0_addOp_52 : decode cX0_addOp 52 = .ok (.dup2, 1) := by decide +kernel
theorem dX0_addOp_53 : decode cX0_addOp 53 = .ok (.iaload, 1) := by decide +kernel
theorem dX0_addOp_54 : decode cX0_addOp 54 = .ok (.dup_x2, 1) := by decide +kernel
theorem dX0_addOp_55 : decode cX0_addOp 55 = .ok (.iconst 1, 1) := by decide +kernel
theorem dX0_addOp_56 : decode cX0_addOp 56 = .ok (.iadd, 1) := by decide +kernel
theorem dX0_addOp_57 : decode cX0_addOp 57 = .ok (.iastore, 1) := by decide +kernel
theorem dX0_addOp_58 : decode cX0_addOp 58 = .ok (.ireturn, 1) := by decide +kernel
theorem dX0_removeOps_0 : decode cX0_removeOps 0 = .ok (.aload_n 0, 1) := by decide +kernel
theorem dX0_removeOps_1 : decode cX0_removeOps 1 = .ok (.getfield 15, 3) := by decide +kernel
theorem dX0_removeOps_4 : decode cX0_removeOps 4 = .ok (.iload_n 1, 1) := by decide +kernel
theorem dX0_removeOps_5 : decode cX0_removeOps 5 = .ok (.iaload, 1) := by decide +kernel
theorem dX0_removeOps_6 : decode cX0_removeOps 6 = .ok (.istore_n 2, 1) := by decide +kernel
theorem dX0_removeOps_7 : decode cX0_removeOps 7 = .ok (.aload_n 0, 1) := by decide +kernel
theorem dX0_removeOps_8 : decode cX0_removeOps 8 = .ok (.getfield 15, 3) := by decide +kernel
theorem dX0_removeOps_11 : decode cX0_removeOps 11 = .ok (.iload_n 1, 1) := by decide +kernel
theorem dX0_removeOps_12 : decode cX0_removeOps 12 = .ok (.iconst 0, 1) := by decide +kernel
theorem dX0_removeOps_13 : decode cX0_removeOps 13 = .ok (.iastore, 1) := by decide +kernel
theorem dX0_removeOps_14 : decode cX0_removeOps 14 = .ok (.iload_n 2, 1) := by decide +kernel
theorem dX0_removeOps_15 : decode cX0_removeOps 15 = .ok (.ireturn, 1) := by decide +kernel
theorem dX0_placeOf_0 : decode cX0_placeOf 0 = .ok (.iload_n 1, 1) := by decide +kernel
theorem dX0_placeOf_1 : decode cX0_placeOf 1 = .ok (.bipush 24, 2) := by decide +kernel
theorem dX0_placeOf_3 : decode cX0_placeOf 3 = .ok (.imul, 1) := by decide +kernel
theorem dX0_placeOf_4 : decode cX0_placeOf 4 = .ok (.iload_n 2, 1) := by decide +kernel
theorem dX0_placeOf_5 : decode cX0_placeOf 5 = .ok (.iadd, 1) := by decide +kernel
theorem dX0_placeOf_6 : decode cX0_placeOf 6 = .ok (.ireturn, 1) := by decide +kernel
theorem ggX1_init_X5_init : GoodIn wsX1_init wsX5_init := goodIn_mem (fun _ h => List.mem_cons_of_mem _ (List.mem_append_left _ (List.mem_append_left _ (List.mem_append_right _ h)))) ok_wsX5_init
set_option maxRecDepth 20000 in
theorem gX1_init_X5_init_n11 : GoodIn wsX1_init (wsX5_init) := ggX1_init_X5_init
theorem dX1_init_0 : decode cX1_init 0 = .ok (.aload_n 0, 1) := by decide +kernel
theorem dX1_init_1 : decode cX1_init 1 = .ok (.invokespecial 3, 3) := by decide +kernel
theorem dX1_init_4 : decode cX1_init 4 = .ok (.aload_n 0, 1) := by decide +kernel
theorem dX1_init_5 : decode cX1_init 5 = .ok (.new 9, 3) := by decide +kernel
theorem dX1_init_8 : decode cX1_init 8 = .ok (.dup, 1) := by decide +kernel
theorem dX1_init_9 : decode cX1_init 9 = .ok (.invokespecial 11, 3) := by decide +kernel
theorem dX1_init_12 : decode cX1_init 12 = .ok (.putfield 12, 3) := by decide +kernel
theorem dX1_init_15 : decode cX1_init 15 = .ok (.aload_n 0, 1) := by decide +kernel
theorem dX1_init_16 : decode cX1_init 16 = .ok (.bipush 48, 2) := by decide +kernel
theorem dX1_init_18 : decode cX1_init 18 = .ok (.newarray .int, 2) := by decide +kernel
theorem dX1_init_20 : decode cX1_init 20 = .ok (.putfield 18, 3) := by decide +kernel
theorem dX1_init_23 : decode cX1_init 23 = .ok (.aload_n 0, 1) := by decide +kernel
theorem dX1_init_24 : decode cX1_init 24 = .ok (.bipush 8, 2) := by decide +kernel
theorem dX1_init_26 : decode cX1_init 26 = .ok (.newarray .int, 2) := by decide +kernel
theorem dX1_init_28 : decode cX1_init 28 = .ok (.putfield 22, 3) := by decide +kernel
theorem dX1_init_31 : decode cX1_init 31 = .ok (.aload_n 0, 1) := by decide +kernel
theorem dX1_init_32 : decode cX1_init 32 = .ok (.bipush 8, 2) := by decide +kernel
theorem dX1_init_34 : decode cX1_init 34 = .ok (.newarray .int, 2) := by decide +kernel
theorem dX1_init_36 : decode cX1_init 36 = .ok (.putfield 25, 3) := by decide +kernel
theorem dX1_init_39 : decode cX1_init 39 = .ok (.aload_n 0, 1) := by decide +kernel
theorem dX1_init_40 : decode cX1_init 40 = .ok (.iconst 2, 1) := by decide +kernel
theorem dX1_init_41 : decode cX1_init 41 = .ok (.newarray .int, 2) := by decide +kernel
theorem dX1_init_43 : decode cX1_init 43 = .ok (.putfield 28, 3) := by decide +kernel
theorem dX1_init_46 : decode cX1_init 46 = .ok (.aload_n 0, 1) := by decide +kernel
theorem dX1_init_47 : decode cX1_init 47 = .ok (.iconst 0, 1) := by decide +kernel
theorem dX1_init_48 : decode cX1_init 48 = .ok (.putfield 31, 3) := by decide +kernel
theorem dX1_init_51 : decode cX1_init 51 = .ok (.aload_n 0, 1) := by decide +kernel
theorem dX1_init_52 : decode cX1_init 52 = .ok (.aload_n 1, 1) := by decide +kernel
theorem dX1_init_53 : decode cX1_init 53 = .ok (.putfield 35, 3) := by decide +kernel
theorem dX1_init_56 : decode cX1_init 56 = .ok (.aload_n 0, 1) := by decide +kernel
theorem dX1_init_57 : decode cX1_init 57 = .ok (.iload_n 2, 1) := by decide +kernel
theorem dX1_init_58 : decode cX1_init 58 = .ok (.putfield 39, 3) := by decide +kernel
theorem dX1_init_61 : decode cX1_init 61 = .ok (.aload_n 0, 1) := by decide +kernel
theorem dX1_init_62 : decode cX1_init 62 = .ok (.iload_n 3, 1) := by decide +kernel
theorem dX1_init_63 : decode cX1_init 63 = .ok (.putfield 42, 3) := by decide +kernel
theorem dX1_init_66 : decode cX1_init 66 = .ok (.return_, 1) := by decide +kernel
theorem dX1_turnTo_0 : decode cX1_turnTo 0 = .ok (.aload_n 0, 1) := by decide +kernel
theorem dX1_turnTo_1 : decode cX1_turnTo 1 = .ok (.aload_n 1, 1) := by decide +kernel
theorem dX1_turnTo_2 : decode cX1_turnTo 2 = .ok (.putfield 35, 3) := by decide +kernel
theorem dX1_turnTo_5 : decode cX1_turnTo 5 = .ok (.return_, 1) := by decide +kernel
theorem dX1_takeAnswers_0 : decode cX1_takeAnswers 0 = .ok (.aload_n 0, 1) := by decide +kernel
theorem dX1_takeAnswers_1 : decode cX1_takeAnswers 1 = .ok (.getfield 28, 3) := by decide +kernel
theorem dX1_takeAnswers_4 : decode cX1_takeAnswers 4 = .ok (.iconst 0, 1) := by decide +kernel
theorem dX1_takeAnswers_5 : decode cX1_takeAnswers 5 = .ok (.iload_n 1, 1) := by decide +kernel
theorem dX1_takeAnswers_6 : decode cX1_takeAnswers 6 = .ok (.iastore, 1) := by decide +kernel
theorem dX1_takeAnswers_7 : decode cX1_takeAnswers 7 = .ok (.aload_n 0, 1) := by decide +kernel
theorem dX1_takeAnswers_8 : decode cX1_takeAnswers 8 = .ok (.getfield 28, 3) := by decide +kernel
theorem dX1_takeAnswers_11 : decode cX1_takeAnswers 11 = .ok (.iconst 1, 1) := by decide +kernel
theorem dX1_takeAnswers_12 : decode cX1_takeAnswers 12 = .ok (.iload_n 2, 1) := by decide +kernel
theorem dX1_takeAnswers_13 : decode cX1_takeAnswers 13 = .ok (.iastore, 1) := by decide +kernel
theorem dX1_takeAnswers_14 : decode cX1_takeAnswers 14 = .ok (.return_, 1) := by decide +kernel
theorem ggX1_go_X5_forget : GoodIn wsX1_go wsX5_forget := goodIn_mem (fun _ h => List.mem_cons_of_mem _ (List.mem_append_left _ (List.mem_append_left _ (List.mem_append_left _ (List.mem_append_right _ (List.mem_append_right _ (List.mem_append_left _ h))))))) ok_wsX5_forget
set_option maxRecDepth 20000 in
theorem gX1_go_X5_forget : GoodIn wsX1_go (wsV RX1 46 RX5 yX5_forget wsX5_forget) := goodIn_app (goodIn_of _ (by decide +kernel)) ggX1_go_X5_forget
theorem ggX1_go_X1_enter : GoodIn wsX1_go wsX1_enter := goodIn_mem (fun _ h => List.mem_cons_of_mem _ (List.mem_append_left _ (List.mem_append_left _ (List.mem_append_left _ (List.mem_append_right _ (List.mem_append_right _ (List.mem_append_right _ (List.mem_append_left _ h)))))))) ok_wsX1_enter
set_option maxRecDepth 20000 in
theorem gX1_go_X1_enter : GoodIn wsX1_go (wsV RX1 49 RX1 yX1_enter wsX1_enter) := goodIn_app (goodIn_of _ (by decide +kernel)) ggX1_go_X1_enter
theorem ggX1_go_X1_giveBack : GoodIn wsX1_go wsX1_giveBack := goodIn_mem (fun _ h => List.mem_cons_of_mem _ (List.mem_append_left _ (List.mem_append_left _ (List.mem_append_left _ (List.mem_append_right _ (List.mem_append_right _ (List.mem_append_right _ (List.mem_append_right _ (List.mem_append_left _ h))))))))) ok_wsX1_giveBack
set_option maxRecDepth 20000 in
theorem gX1_go_X1_giveBack : GoodIn wsX1_go (wsV RX1 58 RX1 yX1_giveBack wsX1_giveBack) := goodIn_app (goodIn_of _ (by decide +kernel)) ggX1_go_X1_giveBack
theorem ggX1_go_X1_placeOfTop : GoodIn wsX1_go wsX1_placeOfTop := goodIn_mem (fun _ h => List.mem_cons_of_mem _ (List.mem_append_left _ (List.mem_append_left _ (List.mem_append_left _ (List.mem_append_right _ (List.mem_append_right _ (List.mem_append_right _ (List.mem_append_right _ (List.mem_append_right _ (List.mem_append_left _ h)))))))))) ok_wsX1_placeOfTop
set_option maxRecDepth 20000 in
theorem gX1_go_X1_placeOfTop : GoodIn wsX1_go (wsV RX1 65 RX1 yX1_placeOfTop wsX1_placeOfTop) := goodIn_app (goodIn_of _ (by decide +kernel)) ggX1_go_X1_placeOfTop
theorem ggX1_go_X1_isSpentBy : GoodIn wsX1_go wsX1_isSpentBy := goodIn_mem (fun _ h => List.mem_cons_of_mem _ (List.mem_append_left _ (List.mem_append_left _ (List.mem_append_left _ (List.mem_append_right _ (List.mem_append_right _ (List.mem_append_right _ (List.mem_append_right _ (List.mem_append_right _ (List.mem_append_right _ (List.mem_append_left _ h))))))))))) ok_wsX1_isSpentBy
set_option maxRecDepth 20000 in
theorem gX1_go_X1_isSpentBy : GoodIn wsX1_go (wsV RX1 69 RX1 yX1_isSpentBy wsX1_isSpentBy) := goodIn_app (goodIn_of _ (by decide +kernel)) ggX1_go_X1_isSpentBy
theorem ggX1_go_X1_stop : GoodIn wsX1_go wsX1_stop := goodIn_mem (fun _ h => List.mem_cons_of_mem _ (List.mem_append_left _ (List.mem_append_left _ (List.mem_append_left _ (List.mem_append_right _ (List.mem_append_right _ (List.mem_append_right _ (List.mem_append_right _ (List.mem_append_right _ (List.mem_append_right _ (List.mem_append_right _ (List.mem_append_left _ h)))))))))))) ok_wsX1_stop
set_option maxRecDepth 20000 in
theorem gX1_go_X1_stop : GoodIn wsX1_go (wsV RX1 73 RX1 yX1_stop wsX1_stop) := goodIn_app (goodIn_of _ (by decide +kernel)) ggX1_go_X1_stop
theorem ggX1_go_X1_perform : GoodIn wsX1_go wsX1_perform := goodIn_mem (fun _ h => List.mem_cons_of_mem _ (List.mem_append_left _ (List.mem_append_left _ (List.mem_append_left _ (List.mem_append_right _ (List.mem_append_right _ (List.mem_append_right _ (List.mem_append_right _ (List.mem_append_right _ (List.mem_append_right _ (List.mem_append_right _ (List.mem_append_right _ h)))))))))))) ok_wsX1_perform
set_option maxRecDepth 20000 in
theorem gX1_go_X1_perform : GoodIn wsX1_go (wsV RX1 76 RX1 yX1_perform wsX1_perform) := goodIn_app (goodIn_of _ (by decide +kernel)) ggX1_go_X1_perform
theorem dX1_go_0 : decode cX1_go 0 = .ok (.aload_n 0, 1) := by decide +kernel
theorem dX1_go_1 : decode cX1_go 1 = .ok (.getfield 12, 3) := by decide +kernel
theorem dX1_go_4 : decode cX1_go 4 = .ok (.invokevirtual 46, 3) := by decide +kernel
theorem dX1_go_7 : decode cX1_go 7 = .ok (.aload_n 0, 1) := by decide +kernel
theorem dX1_go_8 : decode cX1_go 8 = .ok (.iconst 0, 1) := by decide +kernel
theorem dX1_go_9 : decode cX1_go 9 = .ok (.putfield 31, 3) := by decide +kernel
theorem dX1_go_12 : decode cX1_go 12 = .ok (.aload_n 0, 1) := by decide +kernel
theorem dX1_go_13 : decode cX1_go 13 = .ok (.iload_n 1, 1) := by decide +kernel
theorem dX1_go_14 : decode cX1_go 14 = .ok (.iload_n 2, 1) := by decide +kernel
theorem dX1_go_15 : decode cX1_go 15 = .ok (.iload_n 3, 1) := by decide +kernel
theorem dX1_go_16 : decode cX1_go 16 = .ok (.invokevirtual 49, 3) := by decide +kernel
theorem dX1_go_19 : decode cX1_go 19 = .ok (.iconst 0, 1) := by decide +kernel
theorem dX1_go_20 : decode cX1_go 20 = .ok (.istore 4, 2) := by decide +kernel
theorem dX1_go_22 : decode cX1_go 22 = .ok (.iload 4, 2) := by decide +kernel
theorem dX1_go_24 : decode cX1_go 24 = .ok (.sipush 1000, 3) := by decide +kernel
theorem dX1_go_27 : decode cX1_go 27 = .ok (.if_icmp .ge 94, 3) := by decide +kernel
theorem dX1_go_30 : decode cX1_go 30 = .ok (.aload_n 0, 1) := by decide +kernel
theorem dX1_go_31 : decode cX1_go 31 = .ok (.getfield 31, 3) := by decide +kernel
theorem dX1_go_34 : decode cX1_go 34 = .ok (.ifCond .le 87, 3) := by decide +kernel
theorem dX1_go_37 : decode cX1_go 37 = .ok (.aload_n 0, 1) := by decide +kernel
theorem dX1_go_38 : decode cX1_go 38 = .ok (.getfield 22, 3) := by decide +kernel
theorem dX1_go_41 : decode cX1_go 41 = .ok (.aload_n 0, 1) := by decide +kernel
theorem dX1_go_42 : decode cX1_go 42 = .ok (.getfield 31, 3) := by decide +kernel
theorem dX1_go_45 : decode cX1_go 45 = .ok (.iconst 1, 1) := by decide +kernel
theorem dX1_go_46 : decode cX1_go 46 = .ok (.isub, 1) := by decide +kernel
theorem dX1_go_47 : decode cX1_go 47 = .ok (.iaload, 1) := by decide +kernel
theorem dX1_go_48 : decode cX1_go 48 = .ok (.aload_n 0, 1) := by decide +kernel
theorem dX1_go_49 : decode cX1_go 49 = .ok (.getfield 35, 3) := by decide +kernel
theorem dX1_go_52 : decode cX1_go 52 = .ok (.getfield 53, 3) := by decide +kernel
theorem dX1_go_55 : decode cX1_go 55 = .ok (.aload_n 0, 1) := by decide +kernel
theorem dX1_go_56 : decode cX1_go 56 = .ok (.getfield 25, 3) := by decide +kernel
theorem dX1_go_59 : decode cX1_go 59 = .ok (.aload_n 0, 1) := by decide +kernel
theorem dX1_go_60 : decode cX1_go 60 = .ok (.getfield 31, 3) := by decide +kernel
theorem dX1_go_63 : decode cX1_go 63 = .ok (.iconst 1, 1) := by decide +kernel
theorem dX1_go_64 : decode cX1_go 64 = .ok (.isub, 1) := by decide +kernel
theorem dX1_go_65 : decode cX1_go 65 = .ok (.iaload, 1) := by decide +kernel
theorem dX1_go_66 : decode cX1_go 66 = .ok (.iaload, 1) := by decide +kernel
theorem dX1_go_67 : decode cX1_go 67 = .ok (.if_icmp .lt 11, 3) := by decide +kernel
theorem dX1_go_70 : decode cX1_go 70 = .ok (.aload_n 0, 1) := by decide +kernel
theorem dX1_go_71 : decode cX1_go 71 = .ok (.iconst 0, 1) := by decide +kernel
theorem dX1_go_72 : decode cX1_go 72 = .ok (.invokevirtual 58, 3) := by decide +kernel
theorem dX1_go_75 : decode cX1_go 75 = .ok (.goto 40, 3) := by decide +kernel
theorem dX1_go_78 : decode cX1_go 78 = .ok (.aload_n 0, 1) := by decide +kernel
theorem dX1_go_79 : decode cX1_go 79 = .ok (.aload_n 0, 1) := by decide +kernel
theorem dX1_go_80 : decode cX1_go 80 = .ok (.getfield 35, 3) := by decide +kernel
theorem dX1_go_83 : decode cX1_go 83 = .ok (.getfield 62, 3) := by decide +kernel
theorem dX1_go_86 : decode cX1_go 86 = .ok (.aload_n 0, 1) := by decide +kernel
theorem dX1_go_87 : decode cX1_go 87 = .ok (.invokevirtual 65, 3) := by decide +kernel
theorem dX1_go_90 : decode cX1_go 90 = .ok (.iaload, 1) := by decide +kernel
theorem dX1_go_91 : decode cX1_go 91 = .ok (.invokevirtual 69, 3) := by decide +kernel
theorem dX1_go_94 : decode cX1_go 94 = .ok (.ifCond .eq 13, 3) := by decide +kernel
theorem dX1_go_97 : decode cX1_go 97 = .ok (.aload_n 0, 1) := by decide +kernel
theorem dX1_go_98 : decode cX1_go 98 = .ok (.iconst 2, 1) := by decide +kernel
theorem dX1_go_99 : decode cX1_go 99 = .ok (.iconst 0, 1) := by decide +kernel
theorem dX1_go_100 : decode cX1_go 100 = .ok (.iconst 0, 1) := by decide +kernel
theorem dX1_go_101 : decode cX1_go 101 = .ok (.invokevirtual 73, 3) := by decide +kernel
theorem dX1_go_104 : decode cX1_go 104 = .ok (.goto 11, 3) := by decide +kernel
theorem dX1_go_107 : decode cX1_go 107 = .ok (.aload_n 0, 1) := by decide +kernel
theorem dX1_go_108 : decode cX1_go 108 = .ok (.aload_n 0, 1) := by decide +kernel
theorem dX1_go_109 : decode cX1_go 109 = .ok (.invokevirtual 65, 3) := by decide +kernel
theorem dX1_go_112 : decode cX1_go 112 = .ok (.invokevirtual 76, 3) := by decide +kernel
theorem dX1_go_115 : decode cX1_go 115 = .ok (.iinc 4 1, 3) := by decide +kernel
theorem dX1_go_118 : decode cX1_go 118 = .ok (.goto (-96), 3) := by decide +kernel
theorem dX1_go_121 : decode cX1_go 121 = .ok (.return_, 1) := by decide +kernel
theorem ggX1_placeOfTop_X0_placeOf : GoodIn wsX1_placeOfTop wsX0_placeOf := goodIn_mem (fun _ h => List.mem_cons_of_mem _ (List.mem_append_left _ (List.mem_append_right _ h))) ok_wsX0_placeOf
set_option maxRecDepth 20000 in
theorem gX1_placeOfTop_X0_placeOf : GoodIn wsX1_placeOfTop (wsV RX1 79 RX0 yX0_placeOf wsX0_placeOf) := goodIn_app (goodIn_of _ (by decide +kernel)) ggX1_placeOfTop_X0_placeOf
theorem dX1_placeOfTop_0 : decode cX1_placeOfTop 0 = .ok (.aload_n 0, 1) := by decide +kernel
theorem dX1_placeOfTop_1 : decode cX1_placeOfTop 1 = .ok (.getfield 35, 3) := by decide +kernel
theorem dX1_placeOfTop_4 : decode cX1_placeOfTop 4 = .ok (.aload_n 0, 1) := by decide +kernel
theorem dX1_placeOfTop_5 : decode cX1_placeOfTop 5 = .ok (.getfield 25, 3) := by decide +kernel
theorem dX1_placeOfTop_8 : decode cX1_placeOfTop 8 = .ok (.aload_n 0, 1) := by decide +kernel
theorem dX1_placeOfTop_9 : decode cX1_placeOfTop 9 = .ok (.getfield 31, 3) := by decide +kernel
theorem dX1_placeOfTop_12 : decode cX1_placeOfTop 12 = .ok (.iconst 1, 1) := by decide +kernel
theorem dX1_placeOfTop_13 : decode cX1_placeOfTop 13 = .ok (.isub, 1) := by decide +kernel
theorem dX1_placeOfTop_14 : decode cX1_placeOfTop 14 = .ok (.iaload, 1) := by decide +kernel
theorem dX1_placeOfTop_15 : decode cX1_placeOfTop 15 = .ok (.aload_n 0, 1) := by decide +kernel
theorem dX1_placeOfTop_16 : decode cX1_placeOfTop 16 = .ok (.getfield 22, 3) := by decide +kernel
theorem dX1_placeOfTop_19 : decode cX1_placeOfTop 19 = .ok (.aload_n 0, 1) := by decide +kernel
theorem dX1_placeOfTop_20 : decode cX1_placeOfTop 20 = .ok (.getfield 31, 3) := by decide +kernel
theorem dX1_placeOfTop_23 : decode cX1_placeOfTop 23 = .ok (.iconst 1, 1) := by decide +kernel
theorem dX1_placeOfTop_24 : decode cX1_placeOfTop 24 = .ok (.isub, 1) := by decide +kernel
theorem dX1_placeOfTop_25 : decode cX1_placeOfTop 25 = .ok (.iaload, 1) := by decide +kernel
theorem dX1_placeOfTop_26 : decode cX1_placeOfTop 26 = .ok (.invokevirtual 79, 3) := by decide +kernel
theorem dX1_placeOfTop_29 : decode cX1_placeOfTop 29 = .ok (.ireturn, 1) := by decide +kernel
theorem dX1_isSpentBy_0 : decode cX1_isSpentBy 0 = .ok (.aload_n 0, 1) := by decide +kernel
theorem dX1_isSpentBy_1 : decode cX1_isSpentBy 1 = .ok (.getfield 12, 3) := by decide +kernel
theorem dX1_isSpentBy_4 : decode cX1_isSpentBy 4 = .ok (.getfield 83, 3) := by decide +kernel
theorem dX1_isSpentBy_7 : decode cX1_isSpentBy 7 = .ok (.bipush 100, 2) := by decide +kernel
theorem dX1_isSpentBy_9 : decode cX1_isSpentBy 9 = .ok (.if_icmp .eq 21, 3) := by decide +kernel
theorem dX1_isSpentBy_12 : decode cX1_isSpentBy 12 = .ok (.iload_n 1, 1) := by decide +kernel
theorem dX1_isSpentBy_13 : decode cX1_isSpentBy 13 = .ok (.bipush 12, 2) := by decide +kernel
theorem dX1_isSpentBy_15 : decode cX1_isSpentBy 15 = .ok (.if_icmp .ne 19, 3) := by decide +kernel
theorem dX1_isSpentBy_18 : decode cX1_isSpentBy 18 = .ok (.aload_n 0, 1) := by decide +kernel
theorem dX1_isSpentBy_19 : decode cX1_isSpentBy 19 = .ok (.getfield 12, 3) := by decide +kernel
theorem dX1_isSpentBy_22 : decode cX1_isSpentBy 22 = .ok (.getfield 85, 3) := by decide +kernel
theorem dX1_isSpentBy_25 : decode cX1_isSpentBy 25 = .ok (.bipush 40, 2) := by decide +kernel
theorem dX1_isSpentBy_27 : decode cX1_isSpentBy 27 = .ok (.if_icmp .ne 7, 3) := by decide +kernel
theorem dX1_isSpentBy_30 : decode cX1_isSpentBy 30 = .ok (.iconst 1, 1) := by decide +kernel
theorem dX1_isSpentBy_31 : decode cX1_isSpentBy 31 = .ok (.goto 4, 3) := by decide +kernel
theorem dX1_isSpentBy_34 : decode cX1_isSpentBy 34 = .ok (.iconst 0, 1) := by decide +kernel
theorem dX1_isSpentBy_35 : decode cX1_isSpentBy 35 = .ok (.ireturn, 1) := by decide +kernel
theorem ggX1_perform_X1_put : GoodIn wsX1_perform wsX1_put := goodIn_mem (fun _ h => List.mem_cons_of_mem _ (List.mem_append_left _ (List.mem_append_left _ (List.mem_append_left _ (List.mem_append_right _ (List.mem_append_right _ (List.mem_append_left _ h))))))) ok_wsX1_put
set_option maxRecDepth 20000 in
theorem gX1_perform_X1_put : GoodIn wsX1_perform (wsV RX1 97 RX1 yX1_put wsX1_put) := goodIn_app (goodIn_of _ (by decide +kernel)) ggX1_perform_X1_put
theorem ggX1_perform_X1_get : GoodIn wsX1_perform wsX1_get := goodIn_mem (fun _ h => List.mem_cons_of_mem _ (List.mem_append_left _ (List.mem_append_left _ (List.mem_append_left _ (List.mem_append_right _ (List.mem_append_right _ (List.mem_append_right _ (List.mem_append_left _ h)))))))) ok_wsX1_get
set_option maxRecDepth 20000 in
theorem gX1_perform_X1_get : GoodIn wsX1_perform (wsV RX1 101 RX1 yX1_get wsX1_get) := goodIn_app (goodIn_of _ (by decide +kernel)) ggX1_perform_X1_get
theorem ggX1_perform_X5_addTell : GoodIn wsX1_perform wsX5_addTell := goodIn_mem (fun _ h => List.mem_cons_of_mem _ (List.mem_append_left _ (List.mem_append_left _ (List.mem_append_left _ (List.mem_append_right _ (List.mem_append_right _ (List.mem_append_right _ (List.mem_append_right _ (List.mem_append_left _ h))))))))) ok_wsX5_addTell
set_option maxRecDepth 20000 in
theorem gX1_perform_X5_addTell : GoodIn wsX1_perform (wsV RX1 105 RX5 yX5_addTell wsX5_addTell) := goodIn_app (goodIn_of _ (by decide +kernel)) ggX1_perform_X5_addTell
theorem ggX1_perform_X1_ask : GoodIn wsX1_perform wsX1_ask := goodIn_mem (fun _ h => List.mem_cons_of_mem _ (List.mem_append_left _ (List.mem_append_left _ (List.mem_append_left _ (List.mem_append_right _ (List.mem_append_right _ (List.mem_append_right _ (List.mem_append_right _ (List.mem_append_right _ (List.mem_append_left _ h)))))))))) ok_wsX1_ask
set_option maxRecDepth 20000 in
theorem gX1_perform_X1_ask : GoodIn wsX1_perform (wsV RX1 108 RX1 yX1_ask wsX1_ask) := goodIn_app (goodIn_of _ (by decide +kernel)) ggX1_perform_X1_ask
theorem ggX1_perform_X1_giveBack : GoodIn wsX1_perform wsX1_giveBack := goodIn_mem (fun _ h => List.mem_cons_of_mem _ (List.mem_append_left _ (List.mem_append_left _ (List.mem_append_left _ (List.mem_append_right _ (List.mem_append_right _ (List.mem_append_right _ (List.mem_append_right _ (List.mem_append_right _ (List.mem_append_right _ (List.mem_append_left _ h))))))))))) ok_wsX1_giveBack
set_option maxRecDepth 20000 in
theorem gX1_perform_X1_giveBack : GoodIn wsX1_perform (wsV RX1 58 RX1 yX1_giveBack wsX1_giveBack) := goodIn_app (goodIn_of _ (by decide +kernel)) ggX1_perform_X1_giveBack
theorem ggX1_perform_X1_stop : GoodIn wsX1_perform wsX1_stop := goodIn_mem (fun _ h => List.mem_cons_of_mem _ (List.mem_append_left _ (List.mem_append_left _ (List.mem_append_left _ (List.mem_append_right _ (List.mem_append_right _ (List.mem_append_right _ (List.mem_append_right _ (List.mem_append_right _ (List.mem_append_right _ (List.mem_append_right _ (List.mem_append_left _ h)))))))))))) ok_wsX1_stop
set_option maxRecDepth 20000 in
theorem gX1_perform_X1_stop : GoodIn wsX1_perform (wsV RX1 73 RX1 yX1_stop wsX1_stop) := goodIn_app (goodIn_of _ (by decide +kernel)) ggX1_perform_X1_stop
theorem ggX1_perform_X1_calculate : GoodIn wsX1_perform wsX1_calculate := goodIn_mem (fun _ h => List.mem_cons_of_mem _ (List.mem_append_left _ (List.mem_append_left _ (List.mem_append_left _ (List.mem_append_right _ (List.mem_append_right _ (List.mem_append_right _ (List.mem_append_right _ (List.mem_append_right _ (List.mem_append_right _ (List.mem_append_right _ (List.mem_append_right _ h)))))))))))) ok_wsX1_calculate
set_option maxRecDepth 20000 in
theorem gX1_perform_X1_calculate : GoodIn wsX1_perform (wsV RX1 112 RX1 yX1_calculate wsX1_calculate) := goodIn_app (goodIn_of _ (by decide +kernel)) ggX1_perform_X1_calculate
theorem dX1_perform_0 : decode cX1_perform 0 = .ok (.aload_n 0, 1) := by decide +kernel
theorem dX1_perform_1 : decode cX1_perform 1 = .ok (.getfield 35, 3) := by decide +kernel
theorem dX1_perform_4 : decode cX1_perform 4 = .ok (.getfield 88, 3) := by decide +kernel
theorem dX1_perform_7 : decode cX1_perform 7 = .ok (.iload_n 1, 1) := by decide +kernel
theorem dX1_perform_8 : decode cX1_perform 8 = .ok (.iaload, 1) := by decide +kernel
theorem dX1_perform_9 : decode cX1_perform 9 = .ok (.istore_n 2, 1) := by decide +kernel
theorem dX1_perform_10 : decode cX1_perform 10 = .ok (.aload_n 0, 1) := by decide +kernel
theorem dX1_perform_11 : decode cX1_perform 11 = .ok (.getfield 35, 3) := by decide +kernel
theorem dX1_perform_14 : decode cX1_perform 14 = .ok (.getfield 91, 3) := by decide +kernel
theorem dX1_perform_17 : decode cX1_perform 17 = .ok (.iload_n 1, 1) := by decide +kernel
theorem dX1_perform_18 : decode cX1_perform 18 = .ok (.iaload, 1) := by decide +kernel
theorem dX1_perform_19 : decode cX1_perform 19 = .ok (.istore_n 3, 1) := by decide +kernel
theorem dX1_perform_20 : decode cX1_perform 20 = .ok (.aload_n 0, 1) := by decide +kernel
theorem dX1_perform_21 : decode cX1_perform 21 = .ok (.getfield 35, 3) := by decide +kernel
theorem dX1_perform_24 : decode cX1_perform 24 = .ok (.getfield 94, 3) := by decide +kernel
theorem dX1_perform_27 : decode cX1_perform 27 = .ok (.iload_n 1, 1) := by decide +kernel
theorem dX1_perform_28 : decode cX1_perform 28 = .ok (.iaload, 1) := by decide +kernel
theorem dX1_perform_29 : decode cX1_perform 29 = .ok (.istore 4, 2) := by decide +kernel
theorem dX1_perform_31 : decode cX1_perform 31 = .ok (.aload_n 0, 1) := by decide +kernel
theorem dX1_perform_32 : decode cX1_perform 32 = .ok (.getfield 12, 3) := by decide +kernel
theorem dX1_perform_35 : decode cX1_perform 35 = .ok (.dup, 1) := by decide +kernel
theorem dX1_perform_36 : decode cX1_perform 36 = .ok (.getfield 83, 3) := by decide +kernel
theorem dX1_perform_39 : decode cX1_perform 39 = .ok (.iconst 1, 1) := by decide +kernel
theorem dX1_perform_40 : decode cX1_perform 40 = .ok (.iadd, 1) := by decide +kernel
theorem dX1_perform_41 : decode cX1_perform 41 = .ok (.putfield 83, 3) := by decide +kernel
theorem dX1_perform_44 : decode cX1_perform 44 = .ok (.aload_n 0, 1) := by decide +kernel
theorem dX1_perform_45 : decode cX1_perform 45 = .ok (.getfield 35, 3) := by decide +kernel
theorem dX1_perform_48 : decode cX1_perform 48 = .ok (.getfield 62, 3) := by decide +kernel
theorem dX1_perform_51 : decode cX1_perform 51 = .ok (.iload_n 1, 1) := by decide +kernel
theorem dX1_perform_52 : decode cX1_perform 52 = .ok (.iaload, 1) := by decide +kernel
theorem dX1_perform_53 : decode cX1_perform 53 = .ok (.tableswitch 245 0 15 #[79, 88, 245, 245, 245, 245, 245, 245, 245, 245, 101, 140, 155, 186, 219, 231], 79) := by decide +kernel
theorem dX1_perform_132 : decode cX1_perform 132 = .ok (.aload_n 0, 1) := by decide +kernel
theorem dX1_perform_133 : decode cX1_perform 133 = .ok (.iload_n 2, 1) := by decide +kernel
theorem dX1_perform_134 : decode cX1_perform 134 = .ok (.iload_n 3, 1) := by decide +kernel
theorem dX1_perform_135 : decode cX1_perform 135 = .ok (.invokevirtual 97, 3) := by decide +kernel
theorem dX1_perform_138 : decode cX1_perform 138 = .ok (.goto 185, 3) := by decide +kernel
theorem dX1_perform_141 : decode cX1_perform 141 = .ok (.aload_n 0, 1) := by decide +kernel
theorem dX1_perform_142 : decode cX1_perform 142 = .ok (.iload_n 2, 1) := by decide +kernel
theorem dX1_perform_143 : decode cX1_perform 143 = .ok (.aload_n 0, 1) := by decide +kernel
theorem dX1_perform_144 : decode cX1_perform 144 = .ok (.iload_n 3, 1) := by decide +kernel
theorem dX1_perform_145 : decode cX1_perform 145 = .ok (.invokevirtual 101, 3) := by decide +kernel
theorem dX1_perform_148 : decode cX1_perform 148 = .ok (.invokevirtual 97, 3) := by decide +kernel
theorem dX1_perform_151 : decode cX1_perform 151 = .ok (.goto 172, 3) := by decide +kernel
theorem dX1_perform_154 : decode cX1_perform 154 = .ok (.aload_n 0, 1) := by decide +kernel
theorem dX1_perform_155 : decode cX1_perform 155 = .ok (.getfield 22, 3) := by decide +kernel
theorem dX1_perform_158 : decode cX1_perform 158 = .ok (.aload_n 0, 1) := by decide +kernel
theorem dX1_perform_159 : decode cX1_perform 159 = .ok (.getfield 31, 3) := by decide +kernel
theorem dX1_perform_162 : decode cX1_perform 162 = .ok (.iconst 1, 1) := by decide +kernel
theorem dX1_perform_163 : decode cX1_perform 163 = .ok (.isub, 1) := by decide +kernel
theorem dX1_perform_164 : decode cX1_perform 164 = .ok (.aload_n 0, 1) := by decide +kernel
theorem dX1_perform_165 : decode cX1_perform 165 = .ok (.iload_n 2, 1) := by decide +kernel
theorem dX1_perform_166 : decode cX1_perform 166 = .ok (.invokevirtual 101, 3) := by decide +kernel
theorem dX1_perform_169 : decode cX1_perform 169 = .ok (.ifCond .ne 7, 3) := by decide +kernel
theorem dX1_perform_172 : decode cX1_perform 172 = .ok (.iload_n 3, 1) := by decide +kernel
theorem dX1_perform_173 : decode cX1_perform 173 = .ok (.goto 16, 3) := by decide +kernel
theorem dX1_perform_176 : decode cX1_perform 176 = .ok (.aload_n 0, 1) := by decide +kernel
theorem dX1_perform_177 : decode cX1_perform 177 = .ok (.getfield 22, 3) := by decide +kernel
theorem dX1_perform_180 : decode cX1_perform 180 = .ok (.aload_n 0, 1) := by decide +kernel
theorem dX1_perform_181 : decode cX1_perform 181 = .ok (.getfield 31, 3) := by decide +kernel
theorem dX1_perform_184 : decode cX1_perform 184 = .ok (.iconst 1, 1) := by decide +kernel
theorem dX1_perform_185 : decode cX1_perform 185 = .ok (.isub, 1) := by decide +kernel
theorem dX1_perform_186 : decode cX1_perform 186 = .ok (.iaload, 1) := by decide +kernel
theorem dX1_perform_187 : decode cX1_perform 187 = .ok (.iconst 1, 1) := by decide +kernel
theorem dX1_perform_188 : decode cX1_perform 188 = .ok (.iadd, 1) := by decide +kernel
theorem dX1_perform_189 : decode cX1_perform 189 = .ok (.iastore, 1) := by decide +kernel
theorem dX1_perform_190 : decode cX1_perform 190 = .ok (.goto 133, 3) := by decide +kernel
theorem dX1_perform_193 : decode cX1_perform 193 = .ok (.aload_n 0, 1) := by decide +kernel
theorem dX1_perform_194 : decode cX1_perform 194 = .ok (.getfield 22, 3) := by decide +kernel
theorem dX1_perform_197 : decode cX1_perform 197 = .ok (.aload_n 0, 1) := by decide +kernel
theorem dX1_perform_198 : decode cX1_perform 198 = .ok (.getfield 31, 3) := by decide +kernel
theorem dX1_perform_201 : decode cX1_perform 201 = .ok (.iconst 1, 1) := by decide +kernel
theorem dX1_perform_202 : decode cX1_perform 202 = .ok (.isub, 1) := by decide +kernel
theorem dX1_perform_203 : decode cX1_perform 203 = .ok (.iload_n 2, 1) := by decide +kernel
theorem dX1_perform_204 : decode cX1_perform 204 = .ok (.iastore, 1) := by decide +kernel
theorem dX1_perform_205 : decode cX1_perform 205 = .ok (.goto 118, 3) := by decide +kernel
theorem dX1_perform_208 : decode cX1_perform 208 = .ok (.aload_n 0, 1) := by decide +kernel
theorem dX1_perform_209 : decode cX1_perform 209 = .ok (.getfield 12, 3) := by decide +kernel
theorem dX1_perform_212 : decode cX1_perform 212 = .ok (.iload_n 2, 1) := by decide +kernel
theorem dX1_perform_213 : decode cX1_perform 213 = .ok (.aload_n 0, 1) := by decide +kernel
theorem dX1_perform_214 : decode cX1_perform 214 = .ok (.iload_n 3, 1) := by decide +kernel
theorem dX1_perform_215 : decode cX1_perform 215 = .ok (.invokevirtual 101, 3) := by decide +kernel
theorem dX1_perform_218 : decode cX1_perform 218 = .ok (.invokevirtual 105, 3) := by decide +kernel
theorem dX1_perform_221 : decode cX1_perform 221 = .ok (.aload_n 0, 1) := by decide +kernel
theorem dX1_perform_222 : decode cX1_perform 222 = .ok (.getfield 22, 3) := by decide +kernel
theorem dX1_perform_225 : decode cX1_perform 225 = .ok (.aload_n 0, 1) := by decide +kernel
theorem dX1_perform_226 : decode cX1_perform 226 = .ok (.getfield 31, 3) := by decide +kernel
theorem dX1_perform_229 : decode cX1_perform 229 = .ok (.iconst 1, 1) := by decide +kernel
theorem dX1_perform_230 : decode cX1_perform 230 = .ok (.isub, 1) := by decide +kernel
theorem dX1_perform_231 : decode cX1_perform 231 = .ok (.dup2, 1) := by decide +kernel
theorem dX1_perform_232 : decode cX1_perform 232 = .ok (.iaload, 1) := by decide +kernel
theorem dX1_perform_233 : decode cX1_perform 233 = .ok (.iconst 1, 1) := by decide +kernel
theorem dX1_perform_234 : decode cX1_perform 234 = .ok (.iadd, 1) := by decide +kernel
theorem dX1_perform_235 : decode cX1_perform 235 = .ok (.iastore, 1) := by decide +kernel
theorem dX1_perform_236 : decode cX1_perform 236 = .ok (.goto 87, 3) := by decide +kernel
theorem dX1_perform_239 : decode cX1_perform 239 = .ok (.aload_n 0, 1) := by decide +kernel
theorem dX1_perform_240 : decode cX1_perform 240 = .ok (.iload_n 2, 1) := by decide +kernel
theorem dX1_perform_241 : decode cX1_perform 241 = .ok (.iload_n 3, 1) := by decide +kernel
theorem dX1_perform_242 : decode cX1_perform 242 = .ok (.aload_n 0, 1) := by decide +kernel
theorem dX1_perform_243 : decode cX1_perform 243 = .ok (.iload 4, 2) := by decide +kernel
theorem dX1_perform_245 : decode cX1_perform 245 = .ok (.invokevirtual 101, 3) := by decide +kernel
theorem dX1_perform_248 : decode cX1_perform 248 = .ok (.aload_n 0, 1) := by decide +kernel
theorem dX1_perform_249 : decode cX1_perform 249 = .ok (.iload 4, 2) := by decide +kernel
theorem dX1_perform_251 : decode cX1_perform 251 = .ok (.iconst 5, 1) := by decide +kernel
theorem dX1_perform_252 : decode cX1_perform 252 = .ok (.if_icmp .ne 7, 3) := by decide +kernel
theorem dX1_perform_255 : decode cX1_perform 255 = .ok (.iconst 0, 1) := by decide +kernel
theorem dX1_perform_256 : decode cX1_perform 256 = .ok (.goto 7, 3) := by decide +kernel
theorem dX1_perform_259 : decode cX1_perform 259 = .ok (.iload 4, 2) := by decide +kernel
theorem dX1_perform_261 : decode cX1_perform 261 = .ok (.iconst 1, 1) := by decide +kernel
theorem dX1_perform_262 : decode cX1_perform 262 = .ok (.iadd, 1) := by decide +kernel
theorem dX1_perform_263 : decode cX1_perform 263 = .ok (.invokevirtual 101, 3) := by decide +kernel
theorem dX1_perform_266 : decode cX1_perform 266 = .ok (.invokevirtual 108, 3) := by decide +kernel
theorem dX1_perform_269 : decode cX1_perform 269 = .ok (.goto 54, 3) := by decide +kernel
theorem dX1_perform_272 : decode cX1_perform 272 = .ok (.aload_n 0, 1) := by decide +kernel
theorem dX1_perform_273 : decode cX1_perform 273 = .ok (.aload_n 0, 1) := by decide +kernel
theorem dX1_perform_274 : decode cX1_perform 274 = .ok (.iload_n 2, 1) := by decide +kernel
theorem dX1_perform_275 : decode cX1_perform 275 = .ok (.invokevirtual 101, 3) := by decide +kernel
theorem dX1_perform_278 : decode cX1_perform 278 = .ok (.invokevirtual 58, 3) := by decide +kernel
theorem dX1_perform_281 : decode cX1_perform 281 = .ok (.goto 42, 3) := by decide +kernel
theorem dX1_perform_284 : decode cX1_perform 284 = .ok (.aload_n 0, 1) := by decide +kernel
theorem dX1_perform_285 : decode cX1_perform 285 = .ok (.iconst 1, 1) := by decide +kernel
theorem dX1_perform_286 : decode cX1_perform 286 = .ok (.iload_n 2, 1) := by decide +kernel
theorem dX1_perform_287 : decode cX1_perform 287 = .ok (.aload_n 0, 1) := by decide +kernel
theorem dX1_perform_288 : decode cX1_perform 288 = .ok (.iload_n 3, 1) := by decide +kernel
theorem dX1_perform_289 : decode cX1_perform 289 = .ok (.invokevirtual 101, 3) := by decide +kernel
theorem dX1_perform_292 : decode cX1_perform 292 = .ok (.invokevirtual 73, 3) := by decide +kernel
theorem dX1_perform_295 : decode cX1_perform 295 = .ok (.goto 28, 3) := by decide +kernel
theorem dX1_perform_298 : decode cX1_perform 298 = .ok (.aload_n 0, 1) := by decide +kernel
theorem dX1_perform_299 : decode cX1_perform 299 = .ok (.aload_n 0, 1) := by decide +kernel
theorem dX1_perform_300 : decode cX1_perform 300 = .ok (.getfield 35, 3) := by decide +kernel
theorem dX1_perform_303 : decode cX1_perform 303 = .ok (.getfield 62, 3) := by decide +kernel
theorem dX1_perform_306 : decode cX1_perform 306 = .ok (.iload_n 1, 1) := by decide +kernel
theorem dX1_perform_307 : decode cX1_perform 307 = .ok (.iaload, 1) := by decide +kernel
theorem dX1_perform_308 : decode cX1_perform 308 = .ok (.iload_n 2, 1) := by decide +kernel
theorem dX1_perform_309 : decode cX1_perform 309 = .ok (.aload_n 0, 1) := by decide +kernel
theorem dX1_perform_310 : decode cX1_perform 310 = .ok (.iload_n 3, 1) := by decide +kernel
theorem dX1_perform_311 : decode cX1_perform 311 = .ok (.invokevirtual 101, 3) := by decide +kernel
theorem dX1_perform_314 : decode cX1_perform 314 = .ok (.aload_n 0, 1) := by decide +kernel
theorem dX1_perform_315 : decode cX1_perform 315 = .ok (.iload 4, 2) := by decide +kernel
theorem dX1_perform_317 : decode cX1_perform 317 = .ok (.invokevirtual 101, 3) := by decide +kernel
theorem dX1_perform_320 : decode cX1_perform 320 = .ok (.invokevirtual 112, 3) := by decide +kernel
theorem dX1_perform_323 : decode cX1_perform 323 = .ok (.return_, 1) := by decide +kernel
theorem ggX1_calculate_X1_stop : GoodIn wsX1_calculate wsX1_stop := goodIn_mem (fun _ h => List.mem_cons_of_mem _ (List.mem_append_left _ (List.mem_append_left _ (List.mem_append_right _ (List.mem_append_left _ h))))) ok_wsX1_stop
set_option maxRecDepth 20000 in
theorem gX1_calculate_X1_stop : GoodIn wsX1_calculate (wsV RX1 73 RX1 yX1_stop wsX1_stop) := goodIn_app (goodIn_of _ (by decide +kernel)) ggX1_calculate_X1_stop
theorem ggX1_calculate_X1_result : GoodIn wsX1_calculate wsX1_result := goodIn_mem (fun _ h => List.mem_cons_of_mem _ (List.mem_append_left _ (List.mem_append_left _ (List.mem_append_right _ (List.mem_append_right _ (List.mem_append_left _ h)))))) ok_wsX1_result
set_option maxRecDepth 20000 in
theorem gX1_calculate_X1_result : GoodIn wsX1_calculate (va_wsS RX1 115 yX1_result wsX1_result) := goodIn_app (goodIn_of _ (by decide +kernel)) ggX1_calculate_X1_result
theorem ggX1_calculate_X1_put : GoodIn wsX1_calculate wsX1_put := goodIn_mem (fun _ h => List.mem_cons_of_mem _ (List.mem_append_left _ (List.mem_append_left _ (List.mem_append_right _ (List.mem_append_right _ (List.mem_append_right _ h)))))) ok_wsX1_put
set_option maxRecDepth 20000 in
theorem gX1_calculate_X1_put : GoodIn wsX1_calculate (wsV RX1 97 RX1 yX1_put wsX1_put) := goodIn_app (goodIn_of _ (by decide +kernel)) ggX1_calculate_X1_put
theorem dX1_calculate_0 : decode cX1_calculate 0 = .ok (.iload 4, 2) := by decide +kernel
theorem dX1_calculate_2 : decode cX1_calculate 2 = .ok (.ifCond .ne 24, 3) := by decide +kernel
theorem dX1_calculate_5 : decode cX1_calculate 5 = .ok (.iload_n 1, 1) := by decide +kernel
theorem dX1_calculate_6 : decode cX1_calculate 6 = .ok (.iconst 5, 1) := by decide +kernel
theorem dX1_calculate_7 : decode cX1_calculate 7 = .ok (.if_icmp .eq 9, 3) := by decide +kernel
theorem dX1_calculate_10 : decode cX1_calculate 10 = .ok (.iload_n 1, 1) := by decide +kernel
theorem dX1_calculate_11 : decode cX1_calculate 11 = .ok (.bipush 6, 2) := by decide +kernel
theorem dX1_calculate_13 : decode cX1_calculate 13 = .ok (.if_icmp .ne 13, 3) := by decide +kernel
theorem dX1_calculate_16 : decode cX1_calculate 16 = .ok (.aload_n 0, 1) := by decide +kernel
theorem dX1_calculate_17 : decode cX1_calculate 17 = .ok (.iconst 1, 1) := by decide +kernel
theorem dX1_calculate_18 : decode cX1_calculate 18 = .ok (.iconst 1, 1) := by decide +kernel
theorem dX1_calculate_19 : decode cX1_calculate 19 = .ok (.iconst 0, 1) := by decide +kernel
theorem dX1_calculate_20 : decode cX1_calculate 20 = .ok (.invokevirtual 73, 3) := by decide +kernel
theorem dX1_calculate_23 : decode cX1_calculate 23 = .ok (.goto 20, 3) := by decide +kernel
theorem dX1_calculate_26 : decode cX1_calculate 26 = .ok (.aload_n 0, 1) := by decide +kernel
theorem dX1_calculate_27 : decode cX1_calculate 27 = .ok (.iload_n 2, 1) := by decide +kernel
theorem dX1_calculate_28 : decode cX1_calculate 28 = .ok (.iload_n 1, 1) := by decide +kernel
theorem dX1_calculate_29 : decode cX1_calculate 29 = .ok (.iload_n 3, 1) := by decide +kernel
theorem dX1_calculate_30 : decode cX1_calculate 30 = .ok (.iload 4, 2) := by decide +kernel
theorem dX1_calculate_32 : decode cX1_calculate 32 = .ok (.invokestatic 115, 3) := by decide +kernel
theorem dX1_calculate_35 : decode cX1_calculate 35 = .ok (.aload_n 0, 1) := by decide +kernel
theorem dX1_calculate_36 : decode cX1_calculate 36 = .ok (.getfield 39, 3) := by decide +kernel
theorem dX1_calculate_39 : decode cX1_calculate 39 = .ok (.iand, 1) := by decide +kernel
theorem dX1_calculate_40 : decode cX1_calculate 40 = .ok (.invokevirtual 97, 3) := by decide +kernel
theorem dX1_calculate_43 : decode cX1_calculate 43 = .ok (.return_, 1) := by decide +kernel
theorem dX1_result_0 : decode cX1_result 0 = .ok (.iload_n 0, 1) := by decide +kernel
theorem dX1_result_1 : decode cX1_result 1 = .ok (.tableswitch 102 2 9 #[47, 51, 55, 59, 71, 83, 87, 91], 47) := by decide +kernel
theorem dX1_result_48 : decode cX1_result 48 = .ok (.iload_n 1, 1) := by decide +kernel
theorem dX1_result_49 : decode cX1_result 49 = .ok (.iload_n 2, 1) := by decide +kernel
theorem dX1_result_50 : decode cX1_result 50 = .ok (.iadd, 1) := by decide +kernel
theorem dX1_result_51 : decode cX1_result 51 = .ok (.ireturn, 1) := by decide +kernel
theorem dX1_result_52 : decode cX1_result 52 = .ok (.iload_n 1, 1) := by decide +kernel
theorem dX1_result_53 : decode cX1_result 53 = .ok (.iload_n 2, 1) := by decide +kernel
theorem dX1_result_54 : decode cX1_result 54 = .ok (.isub, 1) := by decide +kernel
theorem dX1_result_55 : decode cX1_result 55 = .ok (.ireturn, 1) := by decide +kernel
theorem dX1_result_56 : decode cX1_result 56 = .ok (.iload_n 1, 1) := by decide +kernel
theorem dX1_result_57 : decode cX1_result 57 = .ok (.iload_n 2, 1) := by decide +kernel
theorem dX1_result_58 : decode cX1_result 58 = .ok (.imul, 1) := by decide +kernel
theorem dX1_result_59 : decode cX1_result 59 = .ok (.ireturn, 1) := by decide +kernel
theorem dX1_result_60 : decode cX1_result 60 = .ok (.iload_n 2, 1) := by decide +kernel
theorem dX1_result_61 : decode cX1_result 61 = .ok (.ifCond .ne 7, 3) := by decide +kernel
theorem dX1_result_64 : decode cX1_result 64 = .ok (.iconst 0, 1) := by decide +kernel
theorem dX1_result_65 : decode cX1_result 65 = .ok (.goto 6, 3) := by decide +kernel
theorem dX1_result_68 : decode cX1_result 68 = .ok (.iload_n 1, 1) := by decide +kernel
theorem dX1_result_69 : decode cX1_result 69 = .ok (.iload_n 2, 1) := by decide +kernel
theorem dX1_result_70 : decode cX1_result 70 = .ok (.idiv, 1) := by decide +kernel
theorem dX1_result_71 : decode cX1_result 71 = .ok (.ireturn, 1) := by decide +kernel
theorem dX1_result_72 : decode cX1_result 72 = .ok (.iload_n 2, 1) := by decide +kernel
theorem dX1_result_73 : decode cX1_result 73 = .ok (.ifCond .ne 7, 3) := by decide +kernel
theorem dX1_result_76 : decode cX1_result 76 = .ok (.iconst 0, 1) := by decide +kernel
theorem dX1_result_77 : decode cX1_result 77 = .ok (.goto 6, 3) := by decide +kernel
theorem dX1_result_80 : decode cX1_result 80 = .ok (.iload_n 1, 1) := by decide +kernel
theorem dX1_result_81 : decode cX1_result 81 = .ok (.iload_n 2, 1) := by decide +kernel
theorem dX1_result_82 : decode cX1_result 82 = .ok (.irem, 1) := by decide +kernel
theorem dX1_result_83 : decode cX1_result 83 = .ok (.ireturn, 1) := by decide +kernel
theorem dX1_result_84 : decode cX1_result 84 = .ok (.iload_n 1, 1) := by decide +kernel
theorem dX1_result_85 : decode cX1_result 85 = .ok (.iload_n 2, 1) := by decide +kernel
theorem dX1_result_86 : decode cX1_result 86 = .ok (.iand, 1) := by decide +kernel
theorem dX1_result_87 : decode cX1_result 87 = .ok (.ireturn, 1) := by decide +kernel
theorem dX1_result_88 : decode cX1_result 88 = .ok (.iload_n 1, 1) := by decide +kernel
theorem dX1_result_89 : decode cX1_result 89 = .ok (.iload_n 2, 1) := by decide +kernel
theorem dX1_result_90 : decode cX1_result 90 = .ok (.ixor, 1) := by decide +kernel
theorem dX1_result_91 : decode cX1_result 91 = .ok (.ireturn, 1) := by decide +kernel
theorem dX1_result_92 : decode cX1_result 92 = .ok (.iload_n 1, 1) := by decide +kernel
theorem dX1_result_93 : decode cX1_result 93 = .ok (.iload_n 2, 1) := by decide +kernel
theorem dX1_result_94 : decode cX1_result 94 = .ok (.if_icmp .ge 7, 3) := by decide +kernel
theorem dX1_result_97 : decode cX1_result 97 = .ok (.iconst 1, 1) := by decide +kernel
theorem dX1_result_98 : decode cX1_result 98 = .ok (.goto 4, 3) := by decide +kernel
theorem dX1_result_101 : decode cX1_result 101 = .ok (.iconst 0, 1) := by decide +kernel
theorem dX1_result_102 : decode cX1_result 102 = .ok (.ireturn, 1) := by decide +kernel
theorem dX1_result_103 : decode cX1_result 103 = .ok (.iconst 0, 1) := by decide +kernel
theorem dX1_result_104 : decode cX1_result 104 = .ok (.ireturn, 1) := by decide +kernel
theorem ggX1_ask_X0_has : GoodIn wsX1_ask wsX0_has := goodIn_mem (fun _ h => List.mem_cons_of_mem _ (List.mem_append_left _ (List.mem_append_left _ (List.mem_append_left _ (List.mem_append_right _ (List.mem_append_left _ h)))))) ok_wsX0_has
set_option maxRecDepth 20000 in
theorem gX1_ask_X0_has : GoodIn wsX1_ask (wsV RX1 119 RX0 yX0_has wsX0_has) := goodIn_app (goodIn_of _ (by decide +kernel)) ggX1_ask_X0_has
theorem ggX1_ask_X1_stop : GoodIn wsX1_ask wsX1_stop := goodIn_mem (fun _ h => List.mem_cons_of_mem _ (List.mem_append_left _ (List.mem_append_left _ (List.mem_append_left _ (List.mem_append_right _ (List.mem_append_right _ (List.mem_append_left _ h))))))) ok_wsX1_stop
set_option maxRecDepth 20000 in
theorem gX1_ask_X1_stop : GoodIn wsX1_ask (wsV RX1 73 RX1 yX1_stop wsX1_stop) := goodIn_app (goodIn_of _ (by decide +kernel)) ggX1_ask_X1_stop
theorem ggX1_ask_X1_answer : GoodIn wsX1_ask wsX1_answer := goodIn_mem (fun _ h => List.mem_cons_of_mem _ (List.mem_append_left _ (List.mem_append_left _ (List.mem_append_left _ (List.mem_append_right _ (List.mem_append_right _ (List.mem_append_right _ (List.mem_append_left _ h)))))))) ok_wsX1_answer
set_option maxRecDepth 20000 in
theorem gX1_ask_X1_answer : GoodIn wsX1_ask (wsV RX1 122 RX1 yX1_answer wsX1_answer) := goodIn_app (goodIn_of _ (by decide +kernel)) ggX1_ask_X1_answer
theorem ggX1_ask_X1_enter : GoodIn wsX1_ask wsX1_enter := goodIn_mem (fun _ h => List.mem_cons_of_mem _ (List.mem_append_left _ (List.mem_append_left _ (List.mem_append_left _ (List.mem_append_right _ (List.mem_append_right _ (List.mem_append_right _ (List.mem_append_right _ h)))))))) ok_wsX1_enter
set_option maxRecDepth 20000 in
theorem gX1_ask_X1_enter : GoodIn wsX1_ask (wsV RX1 49 RX1 yX1_enter wsX1_enter) := goodIn_app (goodIn_of _ (by decide +kernel)) ggX1_ask_X1_enter
theorem dX1_ask_0 : decode cX1_ask 0 = .ok (.aload_n 0, 1) := by decide +kernel
theorem dX1_ask_1 : decode cX1_ask 1 = .ok (.getfield 35, 3) := by decide +kernel
theorem dX1_ask_4 : decode cX1_ask 4 = .ok (.iload_n 2, 1) := by decide +kernel
theorem dX1_ask_5 : decode cX1_ask 5 = .ok (.invokevirtual 119, 3) := by decide +kernel
theorem dX1_ask_8 : decode cX1_ask 8 = .ok (.ifCond .ne 19, 3) := by decide +kernel
theorem dX1_ask_11 : decode cX1_ask 11 = .ok (.aload_n 0, 1) := by decide +kernel
theorem dX1_ask_12 : decode cX1_ask 12 = .ok (.iconst 1, 1) := by decide +kernel
theorem dX1_ask_13 : decode cX1_ask 13 = .ok (.bipush 8, 2) := by decide +kernel
theorem dX1_ask_15 : decode cX1_ask 15 = .ok (.iload_n 2, 1) := by decide +kernel
theorem dX1_ask_16 : decode cX1_ask 16 = .ok (.aload_n 0, 1) := by decide +kernel
theorem dX1_ask_17 : decode cX1_ask 17 = .ok (.getfield 39, 3) := by decide +kernel
theorem dX1_ask_20 : decode cX1_ask 20 = .ok (.iand, 1) := by decide +kernel
theorem dX1_ask_21 : decode cX1_ask 21 = .ok (.invokevirtual 73, 3) := by decide +kernel
theorem dX1_ask_24 : decode cX1_ask 24 = .ok (.goto 49, 3) := by decide +kernel
theorem dX1_ask_27 : decode cX1_ask 27 = .ok (.aload_n 0, 1) := by decide +kernel
theorem dX1_ask_28 : decode cX1_ask 28 = .ok (.getfield 42, 3) := by decide +kernel
theorem dX1_ask_31 : decode cX1_ask 31 = .ok (.ifCond .eq 15, 3) := by decide +kernel
theorem dX1_ask_34 : decode cX1_ask 34 = .ok (.aload_n 0, 1) := by decide +kernel
theorem dX1_ask_35 : decode cX1_ask 35 = .ok (.iload_n 1, 1) := by decide +kernel
theorem dX1_ask_36 : decode cX1_ask 36 = .ok (.iload_n 2, 1) := by decide +kernel
theorem dX1_ask_37 : decode cX1_ask 37 = .ok (.iload_n 3, 1) := by decide +kernel
theorem dX1_ask_38 : decode cX1_ask 38 = .ok (.iload 4, 2) := by decide +kernel
theorem dX1_ask_40 : decode cX1_ask 40 = .ok (.invokevirtual 122, 3) := by decide +kernel
theorem dX1_ask_43 : decode cX1_ask 43 = .ok (.goto 30, 3) := by decide +kernel
theorem dX1_ask_46 : decode cX1_ask 46 = .ok (.aload_n 0, 1) := by decide +kernel
theorem dX1_ask_47 : decode cX1_ask 47 = .ok (.getfield 31, 3) := by decide +kernel
theorem dX1_ask_50 : decode cX1_ask 50 = .ok (.bipush 8, 2) := by decide +kernel
theorem dX1_ask_52 : decode cX1_ask 52 = .ok (.if_icmp .ne 13, 3) := by decide +kernel
theorem dX1_ask_55 : decode cX1_ask 55 = .ok (.aload_n 0, 1) := by decide +kernel
theorem dX1_ask_56 : decode cX1_ask 56 = .ok (.iconst 2, 1) := by decide +kernel
theorem dX1_ask_57 : decode cX1_ask 57 = .ok (.iconst 0, 1) := by decide +kernel
theorem dX1_ask_58 : decode cX1_ask 58 = .ok (.iconst 0, 1) := by decide +kernel
theorem dX1_ask_59 : decode cX1_ask 59 = .ok (.invokevirtual 73, 3) := by decide +kernel
theorem dX1_ask_62 : decode cX1_ask 62 = .ok (.goto 11, 3) := by decide +kernel
theorem dX1_ask_65 : decode cX1_ask 65 = .ok (.aload_n 0, 1) := by decide +kernel
theorem dX1_ask_66 : decode cX1_ask 66 = .ok (.iload_n 2, 1) := by decide +kernel
theorem dX1_ask_67 : decode cX1_ask 67 = .ok (.iload_n 3, 1) := by decide +kernel
theorem dX1_ask_68 : decode cX1_ask 68 = .ok (.iload 4, 2) := by decide +kernel
theorem dX1_ask_70 : decode cX1_ask 70 = .ok (.invokevirtual 49, 3) := by decide +kernel
theorem dX1_ask_73 : decode cX1_ask 73 = .ok (.return_, 1) := by decide +kernel
theorem ggX1_answer_X1_stop : GoodIn wsX1_answer wsX1_stop := goodIn_mem (fun _ h => List.mem_cons_of_mem _ (List.mem_append_left _ (List.mem_append_left _ (List.mem_append_right _ (List.mem_append_left _ h))))) ok_wsX1_stop
set_option maxRecDepth 20000 in
theorem gX1_answer_X1_stop : GoodIn wsX1_answer (wsV RX1 73 RX1 yX1_stop wsX1_stop) := goodIn_app (goodIn_of _ (by decide +kernel)) ggX1_answer_X1_stop
theorem ggX1_answer_X5_addCalling : GoodIn wsX1_answer wsX5_addCalling := goodIn_mem (fun _ h => List.mem_cons_of_mem _ (List.mem_append_left _ (List.mem_append_left _ (List.mem_append_right _ (List.mem_append_right _ (List.mem_append_left _ h)))))) ok_wsX5_addCalling
set_option maxRecDepth 20000 in
theorem gX1_answer_X5_addCalling : GoodIn wsX1_answer (wsV RX1 128 RX5 yX5_addCalling wsX5_addCalling) := goodIn_app (goodIn_of _ (by decide +kernel)) ggX1_answer_X5_addCalling
theorem ggX1_answer_X1_put : GoodIn wsX1_answer wsX1_put := goodIn_mem (fun _ h => List.mem_cons_of_mem _ (List.mem_append_left _ (List.mem_append_left _ (List.mem_append_right _ (List.mem_append_right _ (List.mem_append_right _ h)))))) ok_wsX1_put
set_option maxRecDepth 20000 in
theorem gX1_answer_X1_put : GoodIn wsX1_answer (wsV RX1 97 RX1 yX1_put wsX1_put) := goodIn_app (goodIn_of _ (by decide +kernel)) ggX1_answer_X1_put
theorem dX1_answer_0 : decode cX1_answer 0 = .ok (.aload_n 0, 1) := by decide +kernel
theorem dX1_answer_1 : decode cX1_answer 1 = .ok (.getfield 12, 3) := by decide +kernel
theorem dX1_answer_4 : decode cX1_answer 4 = .ok (.getfield 125, 3) := by decide +kernel
theorem dX1_answer_7 : decode cX1_answer 7 = .ok (.iconst 2, 1) := by decide +kernel
theorem dX1_answer_8 : decode cX1_answer 8 = .ok (.if_icmp .ne 11, 3) := by decide +kernel
theorem dX1_answer_11 : decode cX1_answer 11 = .ok (.aload_n 0, 1) := by decide +kernel
theorem dX1_answer_12 : decode cX1_answer 12 = .ok (.iconst 2, 1) := by decide +kernel
theorem dX1_answer_13 : decode cX1_answer 13 = .ok (.iconst 0, 1) := by decide +kernel
theorem dX1_answer_14 : decode cX1_answer 14 = .ok (.iconst 0, 1) := by decide +kernel
theorem dX1_answer_15 : decode cX1_answer 15 = .ok (.invokevirtual 73, 3) := by decide +kernel
theorem dX1_answer_18 : decode cX1_answer 18 = .ok (.return_, 1) := by decide +kernel
theorem dX1_answer_19 : decode cX1_answer 19 = .ok (.aload_n 0, 1) := by decide +kernel
theorem dX1_answer_20 : decode cX1_answer 20 = .ok (.getfield 28, 3) := by decide +kernel
theorem dX1_answer_23 : decode cX1_answer 23 = .ok (.aload_n 0, 1) := by decide +kernel
theorem dX1_answer_24 : decode cX1_answer 24 = .ok (.getfield 12, 3) := by decide +kernel
theorem dX1_answer_27 : decode cX1_answer 27 = .ok (.getfield 125, 3) := by decide +kernel
theorem dX1_answer_30 : decode cX1_answer 30 = .ok (.iaload, 1) := by decide +kernel
theorem dX1_answer_31 : decode cX1_answer 31 = .ok (.istore 5, 2) := by decide +kernel
theorem dX1_answer_33 : decode cX1_answer 33 = .ok (.aload_n 0, 1) := by decide +kernel
theorem dX1_answer_34 : decode cX1_answer 34 = .ok (.getfield 12, 3) := by decide +kernel
theorem dX1_answer_37 : decode cX1_answer 37 = .ok (.iload_n 2, 1) := by decide +kernel
theorem dX1_answer_38 : decode cX1_answer 38 = .ok (.iload_n 3, 1) := by decide +kernel
theorem dX1_answer_39 : decode cX1_answer 39 = .ok (.iload 4, 2) := by decide +kernel
theorem dX1_answer_41 : decode cX1_answer 41 = .ok (.invokevirtual 128, 3) := by decide +kernel
theorem dX1_answer_44 : decode cX1_answer 44 = .ok (.iload 5, 2) := by decide +kernel
theorem dX1_answer_46 : decode cX1_answer 46 = .ok (.aload_n 0, 1) := by decide +kernel
theorem dX1_answer_47 : decode cX1_answer 47 = .ok (.getfield 39, 3) := by decide +kernel
theorem dX1_answer_50 : decode cX1_answer 50 = .ok (.if_icmp .le 14, 3) := by decide +kernel
theorem dX1_answer_53 : decode cX1_answer 53 = .ok (.aload_n 0, 1) := by decide +kernel
theorem dX1_answer_54 : decode cX1_answer 54 = .ok (.iconst 1, 1) := by decide +kernel
theorem dX1_answer_55 : decode cX1_answer 55 = .ok (.bipush 9, 2) := by decide +kernel
theorem dX1_answer_57 : decode cX1_answer 57 = .ok (.iconst 0, 1) := by decide +kernel
theorem dX1_answer_58 : decode cX1_answer 58 = .ok (.invokevirtual 73, 3) := by decide +kernel
theorem dX1_answer_61 : decode cX1_answer 61 = .ok (.goto 10, 3) := by decide +kernel
theorem dX1_answer_64 : decode cX1_answer 64 = .ok (.aload_n 0, 1) := by decide +kernel
theorem dX1_answer_65 : decode cX1_answer 65 = .ok (.iload_n 1, 1) := by decide +kernel
theorem dX1_answer_66 : decode cX1_answer 66 = .ok (.iload 5, 2) := by decide +kernel
theorem dX1_answer_68 : decode cX1_answer 68 = .ok (.invokevirtual 97, 3) := by decide +kernel
theorem dX1_answer_71 : decode cX1_answer 71 = .ok (.return_, 1) := by decide +kernel
theorem dX1_enter_0 : decode cX1_enter 0 = .ok (.aload_n 0, 1) := by decide +kernel
theorem dX1_enter_1 : decode cX1_enter 1 = .ok (.getfield 31, 3) := by decide +kernel
theorem dX1_enter_4 : decode cX1_enter 4 = .ok (.bipush 6, 2) := by decide +kernel
theorem dX1_enter_6 : decode cX1_enter 6 = .ok (.imul, 1) := by decide +kernel
theorem dX1_enter_7 : decode cX1_enter 7 = .ok (.istore 4, 2) := by decide +kernel
theorem dX1_enter_9 : decode cX1_enter 9 = .ok (.iconst 0, 1) := by decide +kernel
theorem dX1_enter_10 : decode cX1_enter 10 = .ok (.istore 5, 2) := by decide +kernel
theorem dX1_enter_12 : decode cX1_enter 12 = .ok (.iload 5, 2) := by decide +kernel
theorem dX1_enter_14 : decode cX1_enter 14 = .ok (.bipush 6, 2) := by decide +kernel
theorem dX1_enter_16 : decode cX1_enter 16 = .ok (.if_icmp .ge 20, 3) := by decide +kernel
theorem dX1_enter_19 : decode cX1_enter 19 = .ok (.aload_n 0, 1) := by decide +kernel
theorem dX1_enter_20 : decode cX1_enter 20 = .ok (.getfield 18, 3) := by decide +kernel
theorem dX1_enter_23 : decode cX1_enter 23 = .ok (.iload 4, 2) := by decide +kernel
theorem dX1_enter_25 : decode cX1_enter 25 = .ok (.iload 5, 2) := by decide +kernel
theorem dX1_enter_27 : decode cX1_enter 27 = .ok (.iadd, 1) := by decide +kernel
theorem dX1_enter_28 : decode cX1_enter 28 = .ok (.iconst 0, 1) := by decide +kernel
theorem dX1_enter_29 : decode cX1_enter 29 = .ok (.iastore, 1) := by decide +kernel
theorem dX1_enter_30 : decode cX1_enter 30 = .ok (.iinc 5 1, 3) := by decide +kernel
theorem dX1_enter_33 : decode cX1_enter 33 = .ok (.goto (-21), 3) := by decide +kernel
theorem dX1_enter_36 : decode cX1_enter 36 = .ok (.aload_n 0, 1) := by decide +kernel
theorem dX1_enter_37 : decode cX1_enter 37 = .ok (.getfield 18, 3) := by decide +kernel
theorem dX1_enter_40 : decode cX1_enter 40 = .ok (.iload 4, 2) := by decide +kernel
theorem dX1_enter_42 : decode cX1_enter 42 = .ok (.iload_n 2, 1) := by decide +kernel
theorem dX1_enter_43 : decode cX1_enter 43 = .ok (.iastore, 1) := by decide +kernel
theorem dX1_enter_44 : decode cX1_enter 44 = .ok (.aload_n 0, 1) := by decide +kernel
theorem dX1_enter_45 : decode cX1_enter 45 = .ok (.getfield 18, 3) := by decide +kernel
theorem dX1_enter_48 : decode cX1_enter 48 = .ok (.iload 4, 2) := by decide +kernel
theorem dX1_enter_50 : decode cX1_enter 50 = .ok (.iconst 1, 1) := by decide +kernel
theorem dX1_enter_51 : decode cX1_enter 51 = .ok (.iadd, 1) := by decide +kernel
theorem dX1_enter_52 : decode cX1_enter 52 = .ok (.iload_n 3, 1) := by decide +kernel
theorem dX1_enter_53 : decode cX1_enter 53 = .ok (.iastore, 1) := by decide +kernel
theorem dX1_enter_54 : decode cX1_enter 54 = .ok (.aload_n 0, 1) := by decide +kernel
theorem dX1_enter_55 : decode cX1_enter 55 = .ok (.getfield 22, 3) := by decide +kernel
theorem dX1_enter_58 : decode cX1_enter 58 = .ok (.aload_n 0, 1) := by decide +kernel
theorem dX1_enter_59 : decode cX1_enter 59 = .ok (.getfield 31, 3) := by decide +kernel
theorem dX1_enter_62 : decode cX1_enter 62 = .ok (.iconst 0, 1) := by decide +kernel
theorem dX1_enter_63 : decode cX1_enter 63 = .ok (.iastore, 1) := by decide +kernel
theorem dX1_enter_64 : decode cX1_enter 64 = .ok (.aload_n 0, 1) := by decide +kernel
theorem dX1_enter_65 : decode cX1_enter 65 = .ok (.getfield 25, 3) := by decide +kernel
theorem dX1_enter_68 : decode cX1_enter 68 = .ok (.aload_n 0, 1) := by decide +kernel
theorem dX1_enter_69 : decode cX1_enter 69 = .ok (.getfield 31, 3) := by decide +kernel
theorem dX1_enter_72 : decode cX1_enter 72 = .ok (.iload_n 1, 1) := by decide +kernel
theorem dX1_enter_73 : decode cX1_enter 73 = .ok (.iastore, 1) := by decide +kernel
theorem dX1_enter_74 : decode cX1_enter 74 = .ok (.aload_n 0, 1) := by decide +kernel
theorem dX1_enter_75 : decode cX1_enter 75 = .ok (.dup, 1) := by decide +kernel
theorem dX1_enter_76 : decode cX1_enter 76 = .ok (.getfield 31, 3) := by decide +kernel
theorem dX1_enter_79 : decode cX1_enter 79 = .ok (.iconst 1, 1) := by decide +kernel
theorem dX1_enter_80 : decode cX1_enter 80 = .ok (.iadd, 1) := by decide +kernel
theorem dX1_enter_81 : decode cX1_enter 81 = .ok (.putfield 31, 3) := by decide +kernel
theorem dX1_enter_84 : decode cX1_enter 84 = .ok (.aload_n 0, 1) := by decide +kernel
theorem dX1_enter_85 : decode cX1_enter 85 = .ok (.getfield 31, 3) := by decide +kernel
theorem dX1_enter_88 : decode cX1_enter 88 = .ok (.aload_n 0, 1) := by decide +kernel
theorem dX1_enter_89 : decode cX1_enter 89 = .ok (.getfield 12, 3) := by decide +kernel
theorem dX1_enter_92 : decode cX1_enter 92 = .ok (.getfield 131, 3) := by decide +kernel
theorem dX1_enter_95 : decode cX1_enter 95 = .ok (.if_icmp .le 14, 3) := by decide +kernel
theorem dX1_enter_98 : decode cX1_enter 98 = .ok (.aload_n 0, 1) := by decide +kernel
theorem dX1_enter_99 : decode cX1_enter 99 = .ok (.getfield 12, 3) := by decide +kernel
theorem dX1_enter_102 : decode cX1_enter 102 = .ok (.aload_n 0, 1) := by decide +kernel
theorem dX1_enter_103 : decode cX1_enter 103 = .ok (.getfield 31, 3) := by decide +kernel
theorem dX1_enter_106 : decode cX1_enter 106 = .ok (.putfield 131, 3) := by decide +kernel
theorem dX1_enter_109 : decode cX1_enter 109 = .ok (.return_, 1) := by decide +kernel
theorem ggX1_giveBack_X5_finish : GoodIn wsX1_giveBack wsX5_finish := goodIn_mem (fun _ h => List.mem_cons_of_mem _ (List.mem_append_left _ (List.mem_append_left _ (List.mem_append_left _ (List.mem_append_right _ (List.mem_append_left _ h)))))) ok_wsX5_finish
set_option maxRecDepth 20000 in
theorem gX1_giveBack_X5_finish : GoodIn wsX1_giveBack (wsV RX1 134 RX5 yX5_finish wsX5_finish) := goodIn_app (goodIn_of _ (by decide +kernel)) ggX1_giveBack_X5_finish
theorem ggX1_giveBack_X1_placeOfTop : GoodIn wsX1_giveBack wsX1_placeOfTop := goodIn_mem (fun _ h => List.mem_cons_of_mem _ (List.mem_append_left _ (List.mem_append_left _ (List.mem_append_left _ (List.mem_append_right _ (List.mem_append_right _ (List.mem_append_left _ h))))))) ok_wsX1_placeOfTop
set_option maxRecDepth 20000 in
theorem gX1_giveBack_X1_placeOfTop : GoodIn wsX1_giveBack (wsV RX1 65 RX1 yX1_placeOfTop wsX1_placeOfTop) := goodIn_app (goodIn_of _ (by decide +kernel)) ggX1_giveBack_X1_placeOfTop
theorem ggX1_giveBack_X1_put : GoodIn wsX1_giveBack wsX1_put := goodIn_mem (fun _ h => List.mem_cons_of_mem _ (List.mem_append_left _ (List.mem_append_left _ (List.mem_append_left _ (List.mem_append_right _ (List.mem_append_right _ (List.mem_append_right _ h))))))) ok_wsX1_put
set_option maxRecDepth 20000 in
theorem gX1_giveBack_X1_put : GoodIn wsX1_giveBack (wsV RX1 97 RX1 yX1_put wsX1_put) := goodIn_app (goodIn_of _ (by decide +kernel)) ggX1_giveBack_X1_put
theorem dX1_giveBack_0 : decode cX1_giveBack 0 = .ok (.aload_n 0, 1) := by decide +kernel
theorem dX1_giveBack_1 : decode cX1_giveBack 1 = .ok (.dup, 1) := by decide +kernel
theorem dX1_giveBack_2 : decode cX1_giveBack 2 = .ok (.getfield 31, 3) := by decide +kernel
theorem dX1_giveBack_5 : decode cX1_giveBack 5 = .ok (.iconst 1, 1) := by decide +kernel
theorem dX1_giveBack_6 : decode cX1_giveBack 6 = .ok (.isub, 1) := by decide +kernel
theorem dX1_giveBack_7 : decode cX1_giveBack 7 = .ok (.putfield 31, 3) := by decide +kernel
theorem dX1_giveBack_10 : decode cX1_giveBack 10 = .ok (.aload_n 0, 1) := by decide +kernel
theorem dX1_giveBack_11 : decode cX1_giveBack 11 = .ok (.getfield 31, 3) := by decide +kernel
theorem dX1_giveBack_14 : decode cX1_giveBack 14 = .ok (.ifCond .ne 16, 3) := by decide +kernel
theorem dX1_giveBack_17 : decode cX1_giveBack 17 = .ok (.aload_n 0, 1) := by decide +kernel
theorem dX1_giveBack_18 : decode cX1_giveBack 18 = .ok (.getfield 12, 3) := by decide +kernel
theorem dX1_giveBack_21 : decode cX1_giveBack 21 = .ok (.iconst 0, 1) := by decide +kernel
theorem dX1_giveBack_22 : decode cX1_giveBack 22 = .ok (.iconst 0, 1) := by decide +kernel
theorem dX1_giveBack_23 : decode cX1_giveBack 23 = .ok (.iload_n 1, 1) := by decide +kernel
theorem dX1_giveBack_24 : decode cX1_giveBack 24 = .ok (.invokevirtual 134, 3) := by decide +kernel
theorem dX1_giveBack_27 : decode cX1_giveBack 27 = .ok (.goto 20, 3) := by decide +kernel
theorem dX1_giveBack_30 : decode cX1_giveBack 30 = .ok (.aload_n 0, 1) := by decide +kernel
theorem dX1_giveBack_31 : decode cX1_giveBack 31 = .ok (.aload_n 0, 1) := by decide +kernel
theorem dX1_giveBack_32 : decode cX1_giveBack 32 = .ok (.getfield 35, 3) := by decide +kernel
theorem dX1_giveBack_35 : decode cX1_giveBack 35 = .ok (.getfield 88, 3) := by decide +kernel
theorem dX1_giveBack_38 : decode cX1_giveBack 38 = .ok (.aload_n 0, 1) := by decide +kernel
theorem dX1_giveBack_39 : decode cX1_giveBack 39 = .ok (.invokevirtual 65, 3) := by decide +kernel
theorem dX1_giveBack_42 : decode cX1_giveBack 42 = .ok (.iaload, 1) := by decide +kernel
theorem dX1_giveBack_43 : decode cX1_giveBack 43 = .ok (.iload_n 1, 1) := by decide +kernel
theorem dX1_giveBack_44 : decode cX1_giveBack 44 = .ok (.invokevirtual 97, 3) := by decide +kernel
theorem dX1_giveBack_47 : decode cX1_giveBack 47 = .ok (.return_, 1) := by decide +kernel
theorem ggX1_stop_X5_finish : GoodIn wsX1_stop wsX5_finish := goodIn_mem (fun _ h => List.mem_cons_of_mem _ (List.mem_append_left _ (List.mem_append_left _ (List.mem_append_right _ h)))) ok_wsX5_finish
set_option maxRecDepth 20000 in
theorem gX1_stop_X5_finish : GoodIn wsX1_stop (wsV RX1 134 RX5 yX5_finish wsX5_finish) := goodIn_app (goodIn_of _ (by decide +kernel)) ggX1_stop_X5_finish
theorem dX1_stop_0 : decode cX1_stop 0 = .ok (.aload_n 0, 1) := by decide +kernel
theorem dX1_stop_1 : decode cX1_stop 1 = .ok (.iconst 0, 1) := by decide +kernel
theorem dX1_stop_2 : decode cX1_stop 2 = .ok (.putfield 31, 3) := by decide +kernel
theorem dX1_stop_5 : decode cX1_stop 5 = .ok (.aload_n 0, 1) := by decide +kernel
theorem dX1_stop_6 : decode cX1_stop 6 = .ok (.getfield 12, 3) := by decide +kernel
theorem dX1_stop_9 : decode cX1_stop 9 = .ok (.iload_n 1, 1) := by decide +kernel
theorem dX1_stop_10 : decode cX1_stop 10 = .ok (.iload_n 2, 1) := by decide +kernel
theorem dX1_stop_11 : decode cX1_stop 11 = .ok (.iload_n 3, 1) := by decide +kernel
theorem dX1_stop_12 : decode cX1_stop 12 = .ok (.invokevirtual 134, 3) := by decide +kernel
theorem dX1_stop_15 : decode cX1_stop 15 = .ok (.return_, 1) := by decide +kernel
theorem dX1_get_0 : decode cX1_get 0 = .ok (.aload_n 0, 1) := by decide +kernel
theorem dX1_get_1 : decode cX1_get 1 = .ok (.getfield 18, 3) := by decide +kernel
theorem dX1_get_4 : decode cX1_get 4 = .ok (.aload_n 0, 1) := by decide +kernel
theorem dX1_get_5 : decode cX1_get 5 = .ok (.getfield 31, 3) := by decide +kernel
theorem dX1_get_8 : decode cX1_get 8 = .ok (.iconst 1, 1) := by decide +kernel
theorem dX1_get_9 : decode cX1_get 9 = .ok (.isub, 1) := by decide +kernel
theorem dX1_get_10 : decode cX1_get 10 = .ok (.bipush 6, 2) := by decide +kernel
theorem dX1_get_12 : decode cX1_get 12 = .ok (.imul, 1) := by decide +kernel
theorem dX1_get_13 : decode cX1_get 13 = .ok (.iload_n 1, 1) := by decide +kernel
theorem dX1_get_14 : decode cX1_get 14 = .ok (.iadd, 1) := by decide +kernel
theorem dX1_get_15 : decode cX1_get 15 = .ok (.iaload, 1) := by decide +kernel
theorem dX1_get_16 : decode cX1_get 16 = .ok (.ireturn, 1) := by decide +kernel
theorem dX1_put_0 : decode cX1_put 0 = .ok (.aload_n 0, 1) := by decide +kernel
theorem dX1_put_1 : decode cX1_put 1 = .ok (.getfield 18, 3) := by decide +kernel
theorem dX1_put_4 : decode cX1_put 4 = .ok (.aload_n 0, 1) := by decide +kernel
theorem dX1_put_5 : decode cX1_put 5 = .ok (.getfield 31, 3) := by decide +kernel
theorem dX1_put_8 : decode cX1_put 8 = .ok (.iconst 1, 1) := by decide +kernel
theorem dX1_put_9 : decode cX1_put 9 = .ok (.isub, 1) := by decide +kernel
theorem dX1_put_10 : decode cX1_put 10 = .ok (.bipush 6, 2) := by decide +kernel
theorem dX1_put_12 : decode cX1_put 12 = .ok (.imul, 1) := by decide +kernel
theorem dX1_put_13 : decode cX1_put 13 = .ok (.iload_n 1, 1) := by decide +kernel
theorem dX1_put_14 : decode cX1_put 14 = .ok (.iadd, 1) := by decide +kernel
theorem dX1_put_15 : decode cX1_put 15 = .ok (.iload_n 2, 1) := by decide +kernel
theorem dX1_put_16 : decode cX1_put 16 = .ok (.iastore, 1) := by decide +kernel
theorem dX1_put_17 : decode cX1_put 17 = .ok (.aload_n 0, 1) := by decide +kernel
theorem dX1_put_18 : decode cX1_put 18 = .ok (.getfield 22, 3) := by decide +kernel
theorem dX1_put_21 : decode cX1_put 21 = .ok (.aload_n 0, 1) := by decide +kernel
theorem dX1_put_22 : decode cX1_put 22 = .ok (.getfield 31, 3) := by decide +kernel
theorem dX1_put_25 : decode cX1_put 25 = .ok (.iconst 1, 1) := by decide +kernel
theorem dX1_put_26 : decode cX1_put 26 = .ok (.isub, 1) := by decide +kernel
theorem dX1_put_27 : decode cX1_put 27 = .ok (.dup2, 1) := by decide +kernel
theorem dX1_put_28 : decode cX1_put 28 = .ok (.iaload, 1) := by decide +kernel
theorem dX1_put_29 : decode cX1_put 29 = .ok (.iconst 1, 1) := by decide +kernel
theorem dX1_put_30 : decode cX1_put 30 = .ok (.iadd, 1) := by decide +kernel
theorem dX1_put_31 : decode cX1_put 31 = .ok (.iastore, 1) := by decide +kernel
theorem dX1_put_32 : decode cX1_put 32 = .ok (.return_, 1) := by decide +kernel
theorem dX2_init_0 : decode cX2_init 0 = .ok (.aload_n 0, 1) := by decide +kernel
theorem dX2_init_1 : decode cX2_init 1 = .ok (.invokespecial 3, 3) := by decide +kernel
theorem dX2_init_4 : decode cX2_init 4 = .ok (.aload_n 0, 1) := by decide +kernel
theorem dX2_init_5 : decode cX2_init 5 = .ok (.iconst 0, 1) := by decide +kernel
theorem dX2_init_6 : decode cX2_init 6 = .ok (.putfield 9, 3) := by decide +kernel
theorem dX2_init_9 : decode cX2_init 9 = .ok (.aload_n 0, 1) := by decide +kernel
theorem dX2_init_10 : decode cX2_init 10 = .ok (.bipush 6, 2) := by decide +kernel
theorem dX2_init_12 : decode cX2_init 12 = .ok (.newarray .int, 2) := by decide +kernel
theorem dX2_init_14 : decode cX2_init 14 = .ok (.putfield 15, 3) := by decide +kernel
theorem dX2_init_17 : decode cX2_init 17 = .ok (.aload_n 0, 1) := by decide +kernel
theorem dX2_init_18 : decode cX2_init 18 = .ok (.bipush 6, 2) := by decide +kernel
theorem dX2_init_20 : decode cX2_init 20 = .ok (.newarray .int, 2) := by decide +kernel
theorem dX2_init_22 : decode cX2_init 22 = .ok (.putfield 19, 3) := by decide +kernel
theorem dX2_init_25 : decode cX2_init 25 = .ok (.return_, 1) := by decide +kernel
theorem dX2_has_0 : decode cX2_has 0 = .ok (.iconst 0, 1) := by decide +kernel
theorem dX2_has_1 : decode cX2_has 1 = .ok (.istore_n 3, 1) := by decide +kernel
theorem dX2_has_2 : decode cX2_has 2 = .ok (.iload_n 3, 1) := by decide +kernel
theorem dX2_has_3 : decode cX2_has 3 = .ok (.aload_n 0, 1) := by decide +kernel
theorem dX2_has_4 : decode cX2_has 4 = .ok (.getfield 9, 3) := by decide +kernel
theorem dX2_has_7 : decode cX2_has 7 = .ok (.if_icmp .ge 31, 3) := by decide +kernel
theorem dX2_has_10 : decode cX2_has 10 = .ok (.aload_n 0, 1) := by decide +kernel
theorem dX2_has_11 : decode cX2_has 11 = .ok (.getfield 15, 3) := by decide +kernel
theorem dX2_has_14 : decode cX2_has 14 = .ok (.iload_n 3, 1) := by decide +kernel
theorem dX2_has_15 : decode cX2_has 15 = .ok (.iaload, 1) := by decide +kernel
theorem dX2_has_16 : decode cX2_has 16 = .ok (.iload_n 1, 1) := by decide +kernel
theorem dX2_has_17 : decode cX2_has 17 = .ok (.if_icmp .ne 15, 3) := by decide +kernel
theorem dX2_has_20 : decode cX2_has 20 = .ok (.aload_n 0, 1) := by decide +kernel
theorem dX2_has_21 : decode cX2_has 21 = .ok (.getfield 19, 3) := by decide +kernel
theorem dX2_has_24 : decode cX2_has 24 = .ok (.iload_n 3, 1) := by decide +kernel
theorem dX2_has_25 : decode cX2_has 25 = .ok (.iaload, 1) := by decide +kernel
theorem dX2_has_26 : decode cX2_has 26 = .ok (.iload_n 2, 1) := by decide +kernel
theorem dX2_has_27 : decode cX2_has 27 = .ok (.if_icmp .ne 5, 3) := by decide +kernel
theorem dX2_has_30 : decode cX2_has 30 = .ok (.iconst 1, 1) := by decide +kernel
theorem dX2_has_31 : decode cX2_has 31 = .ok (.ireturn, 1) := by decide +kernel
theorem dX2_has_32 : decode cX2_has 32 = .ok (.iinc 3 1, 3) := by decide +kernel
theorem dX2_has_35 : decode cX2_has 35 = .ok (.goto (-33), 3) := by decide +kernel
theorem dX2_has_38 : decode cX2_has 38 = .ok (.iconst 0, 1) := by decide +kernel
theorem dX2_has_39 : decode cX2_has 39 = .ok (.ireturn, 1) := by decide +kernel
theorem dX2_add_0 : decode cX2_add 0 = .ok (.aload_n 0, 1) := by decide +kernel
theorem dX2_add_1 : decode cX2_add 1 = .ok (.getfield 15, 3) := by decide +kernel
theorem dX2_add_4 : decode cX2_add 4 = .ok (.aload_n 0, 1) := by decide +kernel
theorem dX2_add_5 : decode cX2_add 5 = .ok (.getfield 9, 3) := by decide +kernel
theorem dX2_add_8 : decode cX2_add 8 = .ok (.iload_n 1, 1) := by decide +kernel
theorem dX2_add_9 : decode cX2_add 9 = .ok (.iastore, 1) := by decide +kernel
theorem dX2_add_10 : decode cX2_add 10 = .ok (.aload_n 0, 1) := by decide +kernel
theorem dX2_add_11 : decode cX2_add 11 = .ok (.getfield 19, 3) := by decide +kernel
theorem dX2_add_14 : decode cX2_add 14 = .ok (.aload_n 0, 1) := by decide +kernel
theorem dX2_add_15 : decode cX2_add 15 = .ok (.getfield 9, 3) := by decide +kernel
theorem dX2_add_18 : decode cX2_add 18 = .ok (.iload_n 2, 1) := by decide +kernel
theorem dX2_add_19 : decode cX2_add 19 = .ok (.iastore, 1) := by decide +kernel
theorem dX2_add_20 : decode cX2_add 20 = .ok (.aload_n 0, 1) := by decide +kernel
theorem dX2_add_21 : decode cX2_add 21 = .ok (.dup, 1) := by decide +kernel
theorem dX2_add_22 : decode cX2_add 22 = .ok (.getfield 9, 3) := by decide +kernel
theorem dX2_add_25 : decode cX2_add 25 = .ok (.dup_x1, 1) := by decide +kernel
theorem dX2_add_26 : decode cX2_add 26 = .ok (.iconst 1, 1) := by decide +kernel
theorem dX2_add_27 : decode cX2_add 27 = .ok (.iadd, 1) := by decide +kernel
theorem dX2_add_28 : decode cX2_add 28 = .ok (.putfield 9, 3) := by decide +kernel
theorem dX2_add_31 : decode cX2_add 31 = .ok (.ireturn, 1) := by decide +kernel
theorem dX3_init_0 : decode cX3_init 0 = .ok (.aload_n 0, 1) := by decide +kernel
theorem dX3_init_1 : decode cX3_init 1 = .ok (.invokespecial 3, 3) := by decide +kernel
theorem dX3_init_4 : decode cX3_init 4 = .ok (.aload_n 0, 1) := by decide +kernel
theorem dX3_init_5 : decode cX3_init 5 = .ok (.iconst 4, 1) := by decide +kernel
theorem dX3_init_6 : decode cX3_init 6 = .ok (.newarray .int, 2) := by decide +kernel
theorem dX3_init_8 : decode cX3_init 8 = .ok (.dup, 1) := by decide +kernel
theorem dX3_init_9 : decode cX3_init 9 = .ok (.iconst 0, 1) := by decide +kernel
theorem dX3_init_10 : decode cX3_init 10 = .ok (.iconst 0, 1) := by decide +kernel
theorem dX3_init_11 : decode cX3_init 11 = .ok (.iastore, 1) := by decide +kernel
theorem dX3_init_12 : decode cX3_init 12 = .ok (.dup, 1) := by decide +kernel
theorem dX3_init_13 : decode cX3_init 13 = .ok (.iconst 1, 1) := by decide +kernel
theorem dX3_init_14 : decode cX3_init 14 = .ok (.iconst 1, 1) := by decide +kernel
theorem dX3_init_15 : decode cX3_init 15 = .ok (.iastore, 1) := by decide +kernel
theorem dX3_init_16 : decode cX3_init 16 = .ok (.dup, 1) := by decide +kernel
theorem dX3_init_17 : decode cX3_init 17 = .ok (.iconst 2, 1) := by decide +kernel
theorem dX3_init_18 : decode cX3_init 18 = .ok (.iconst 2, 1) := by decide +kernel
theorem dX3_init_19 : decode cX3_init 19 = .ok (.iastore, 1) := by decide +kernel
theorem dX3_init_20 : decode cX3_init 20 = .ok (.dup, 1) := by decide +kernel
theorem dX3_init_21 : decode cX3_init 21 = .ok (.iconst 3, 1) := by decide +kernel
theorem dX3_init_22 : decode cX3_init 22 = .ok (.iconst 3, 1) := by decide +kernel
theorem dX3_init_23 : decode cX3_init 23 = .ok (.iastore, 1) := by decide +kernel
theorem dX3_init_24 : decode cX3_init 24 = .ok (.putfield 9, 3) := by decide +kernel
theorem dX3_init_27 : decode cX3_init 27 = .ok (.aload_n 0, 1) := by decide +kernel
theorem dX3_init_28 : decode cX3_init 28 = .ok (.iconst 4, 1) := by decide +kernel
theorem dX3_init_29 : decode cX3_init 29 = .ok (.newarray .int, 2) := by decide +kernel
theorem dX3_init_31 : decode cX3_init 31 = .ok (.putfield 15, 3) := by decide +kernel
theorem dX3_init_34 : decode cX3_init 34 = .ok (.aload_n 0, 1) := by decide +kernel
theorem dX3_init_35 : decode cX3_init 35 = .ok (.iconst 4, 1) := by decide +kernel
theorem dX3_init_36 : decode cX3_init 36 = .ok (.newarray .int, 2) := by decide +kernel
theorem dX3_init_38 : decode cX3_init 38 = .ok (.dup, 1) := by decide +kernel
theorem dX3_init_39 : decode cX3_init 39 = .ok (.iconst 0, 1) := by decide +kernel
theorem dX3_init_40 : decode cX3_init 40 = .ok (.iconst 0, 1) := by decide +kernel
theorem dX3_init_41 : decode cX3_init 41 = .ok (.iastore, 1) := by decide +kernel
theorem dX3_init_42 : decode cX3_init 42 = .ok (.dup, 1) := by decide +kernel
theorem dX3_init_43 : decode cX3_init 43 = .ok (.iconst 1, 1) := by decide +kernel
theorem dX3_init_44 : decode cX3_init 44 = .ok (.iconst 1, 1) := by decide +kernel
theorem dX3_init_45 : decode cX3_init 45 = .ok (.iastore, 1) := by decide +kernel
theorem dX3_init_46 : decode cX3_init 46 = .ok (.dup, 1) := by decide +kernel
theorem dX3_init_47 : decode cX3_init 47 = .ok (.iconst 2, 1) := by decide +kernel
theorem dX3_init_48 : decode cX3_init 48 = .ok (.iconst 2, 1) := by decide +kernel
theorem dX3_init_49 : decode cX3_init 49 = .ok (.iastore, 1) := by decide +kernel
theorem dX3_init_50 : decode cX3_init 50 = .ok (.dup, 1) := by decide +kernel
theorem dX3_init_51 : decode cX3_init 51 = .ok (.iconst 3, 1) := by decide +kernel
theorem dX3_init_52 : decode cX3_init 52 = .ok (.iconst 3, 1) := by decide +kernel
theorem dX3_init_53 : decode cX3_init 53 = .ok (.iastore, 1) := by decide +kernel
theorem dX3_init_54 : decode cX3_init 54 = .ok (.putfield 18, 3) := by decide +kernel
theorem dX3_init_57 : decode cX3_init 57 = .ok (.return_, 1) := by decide +kernel
theorem ggX3_swapIn_X3_name : GoodIn wsX3_swapIn wsX3_name := goodIn_mem (fun _ h => List.mem_cons_of_mem _ (List.mem_append_left _ (List.mem_append_right _ h))) ok_wsX3_name
set_option maxRecDepth 20000 in
theorem gX3_swapIn_X3_name : GoodIn wsX3_swapIn (wsV RX3 21 RX3 yX3_name wsX3_name) := goodIn_app (goodIn_of _ (by decide +kernel)) ggX3_swapIn_X3_name
theorem dX3_swapIn_0 : decode cX3_swapIn 0 = .ok (.aload_n 0, 1) := by decide +kernel
theorem dX3_swapIn_1 : decode cX3_swapIn 1 = .ok (.getfield 9, 3) := by decide +kernel
theorem dX3_swapIn_4 : decode cX3_swapIn 4 = .ok (.iload_n 1, 1) := by decide +kernel
theorem dX3_swapIn_5 : decode cX3_swapIn 5 = .ok (.iaload, 1) := by decide +kernel
theorem dX3_swapIn_6 : decode cX3_swapIn 6 = .ok (.istore_n 3, 1) := by decide +kernel
theorem dX3_swapIn_7 : decode cX3_swapIn 7 = .ok (.aload_n 0, 1) := by decide +kernel
theorem dX3_swapIn_8 : decode cX3_swapIn 8 = .ok (.aload_n 0, 1) := by decide +kernel
theorem dX3_swapIn_9 : decode cX3_swapIn 9 = .ok (.getfield 18, 3) := by decide +kernel
theorem dX3_swapIn_12 : decode cX3_swapIn 12 = .ok (.iload_n 2, 1) := by decide +kernel
theorem dX3_swapIn_13 : decode cX3_swapIn 13 = .ok (.iaload, 1) := by decide +kernel
theorem dX3_swapIn_14 : decode cX3_swapIn 14 = .ok (.iload_n 3, 1) := by decide +kernel
theorem dX3_swapIn_15 : decode cX3_swapIn 15 = .ok (.invokevirtual 21, 3) := by decide +kernel
theorem dX3_swapIn_18 : decode cX3_swapIn 18 = .ok (.aload_n 0, 1) := by decide +kernel
theorem dX3_swapIn_19 : decode cX3_swapIn 19 = .ok (.iload_n 1, 1) := by decide +kernel
theorem dX3_swapIn_20 : decode cX3_swapIn 20 = .ok (.iload_n 2, 1) := by decide +kernel
theorem dX3_swapIn_21 : decode cX3_swapIn 21 = .ok (.invokevirtual 21, 3) := by decide +kernel
theorem dX3_swapIn_24 : decode cX3_swapIn 24 = .ok (.iload_n 3, 1) := by decide +kernel
theorem dX3_swapIn_25 : decode cX3_swapIn 25 = .ok (.ireturn, 1) := by decide +kernel
theorem ggX3_takeNames_X3_name : GoodIn wsX3_takeNames wsX3_name := goodIn_mem (fun _ h => List.mem_cons_of_mem _ (List.mem_append_left _ (List.mem_append_right _ h))) ok_wsX3_name
set_option maxRecDepth 20000 in
theorem gX3_takeNames_X3_name : GoodIn wsX3_takeNames (wsV RX3 21 RX3 yX3_name wsX3_name) := goodIn_app (goodIn_of _ (by decide +kernel)) ggX3_takeNames_X3_name
theorem dX3_takeNames_0 : decode cX3_takeNames 0 = .ok (.aload_n 0, 1) := by decide +kernel
theorem dX3_takeNames_1 : decode cX3_takeNames 1 = .ok (.iconst 0, 1) := by decide +kernel
theorem dX3_takeNames_2 : decode cX3_takeNames 2 = .ok (.iload_n 1, 1) := by decide +kernel
theorem dX3_takeNames_3 : decode cX3_takeNames 3 = .ok (.sipush 1000, 3) := by decide +kernel
theorem dX3_takeNames_6 : decode cX3_takeNames 6 = .ok (.idiv, 1) := by decide +kernel
theorem dX3_takeNames_7 : decode cX3_takeNames 7 = .ok (.invokevirtual 21, 3) := by decide +kernel
theorem dX3_takeNames_10 : decode cX3_takeNames 10 = .ok (.aload_n 0, 1) := by decide +kernel
theorem dX3_takeNames_11 : decode cX3_takeNames 11 = .ok (.iconst 1, 1) := by decide +kernel
theorem dX3_takeNames_12 : decode cX3_takeNames 12 = .ok (.iload_n 1, 1) := by decide +kernel
theorem dX3_takeNames_13 : decode cX3_takeNames 13 = .ok (.bipush 100, 2) := by decide +kernel
theorem dX3_takeNames_15 : decode cX3_takeNames 15 = .ok (.idiv, 1) := by decide +kernel
theorem dX3_takeNames_16 : decode cX3_takeNames 16 = .ok (.bipush 10, 2) := by decide +kernel
theorem dX3_takeNames_18 : decode cX3_takeNames 18 = .ok (.irem, 1) := by decide +kernel
theorem dX3_takeNames_19 : decode cX3_takeNames 19 = .ok (.invokevirtual 21, 3) := by decide +kernel
theorem dX3_takeNames_22 : decode cX3_takeNames 22 = .ok (.aload_n 0, 1) := by decide +kernel
theorem dX3_takeNames_23 : decode cX3_takeNames 23 = .ok (.iconst 2, 1) := by decide +kernel
theorem dX3_takeNames_24 : decode cX3_takeNames 24 = .ok (.iload_n 1, 1) := by decide +kernel
theorem dX3_takeNames_25 : decode cX3_takeNames 25 = .ok (.bipush 10, 2) := by decide +kernel
theorem dX3_takeNames_27 : decode cX3_takeNames 27 = .ok (.idiv, 1) := by decide +kernel
theorem dX3_takeNames_28 : decode cX3_takeNames 28 = .ok (.bipush 10, 2) := by decide +kernel
theorem dX3_takeNames_30 : decode cX3_takeNames 30 = .ok (.irem, 1) := by decide +kernel
theorem dX3_takeNames_31 : decode cX3_takeNames 31 = .ok (.invokevirtual 21, 3) := by decide +kernel
theorem dX3_takeNames_34 : decode cX3_takeNames 34 = .ok (.aload_n 0, 1) := by decide +kernel
theorem dX3_takeNames_35 : decode cX3_takeNames 35 = .ok (.iconst 3, 1) := by decide +kernel
theorem dX3_takeNames_36 : decode cX3_takeNames 36 = .ok (.iload_n 1, 1) := by decide +kernel
theorem dX3_takeNames_37 : decode cX3_takeNames 37 = .ok (.bipush 10, 2) := by decide +kernel
theorem dX3_takeNames_39 : decode cX3_takeNames 39 = .ok (.irem, 1) := by decide +kernel
theorem dX3_takeNames_40 : decode cX3_takeNames 40 = .ok (.invokevirtual 21, 3) := by decide +kernel
theorem dX3_takeNames_43 : decode cX3_takeNames 43 = .ok (.return_, 1) := by decide +kernel
theorem dX3_takeGroups_0 : decode cX3_takeGroups 0 = .ok (.aload_n 1, 1) := by decide +kernel
theorem dX3_takeGroups_1 : decode cX3_takeGroups 1 = .ok (.getfield 15, 3) := by decide +kernel
theorem dX3_takeGroups_4 : decode cX3_takeGroups 4 = .ok (.iconst 0, 1) := by decide +kernel
theorem dX3_takeGroups_5 : decode cX3_takeGroups 5 = .ok (.aload_n 0, 1) := by decide +kernel
theorem dX3_takeGroups_6 : decode cX3_takeGroups 6 = .ok (.getfield 15, 3) := by decide +kernel
theorem dX3_takeGroups_9 : decode cX3_takeGroups 9 = .ok (.iconst 0, 1) := by decide +kernel
theorem dX3_takeGroups_10 : decode cX3_takeGroups 10 = .ok (.iconst 4, 1) := by decide +kernel
theorem dX3_takeGroups_11 : decode cX3_takeGroups 11 = .ok (.invokestatic 25, 3) := by decide +kernel
theorem dX3_takeGroups_14 : decode cX3_takeGroups 14 = .ok (.return_, 1) := by decide +kernel
theorem dX3_name_0 : decode cX3_name 0 = .ok (.aload_n 0, 1) := by decide +kernel
theorem dX3_name_1 : decode cX3_name 1 = .ok (.getfield 9, 3) := by decide +kernel
theorem dX3_name_4 : decode cX3_name 4 = .ok (.iload_n 1, 1) := by decide +kernel
theorem dX3_name_5 : decode cX3_name 5 = .ok (.iload_n 2, 1) := by decide +kernel
theorem dX3_name_6 : decode cX3_name 6 = .ok (.iastore, 1) := by decide +kernel
theorem dX3_name_7 : decode cX3_name 7 = .ok (.aload_n 0, 1) := by decide +kernel
theorem dX3_name_8 : decode cX3_name 8 = .ok (.getfield 18, 3) := by decide +kernel
theorem dX3_name_11 : decode cX3_name 11 = .ok (.iload_n 2, 1) := by decide +kernel
theorem dX3_name_12 : decode cX3_name 12 = .ok (.iload_n 1, 1) := by decide +kernel
theorem dX3_name_13 : decode cX3_name 13 = .ok (.iastore, 1) := by decide +kernel
theorem dX3_name_14 : decode cX3_name 14 = .ok (.return_, 1) := by decide +kernel
theorem ggX3_alike_X3_alikeIn : GoodIn wsX3_alike wsX3_alikeIn := goodIn_mem (fun _ h => List.mem_cons_of_mem _ (List.mem_append_left _ (List.mem_append_left _ (List.mem_append_right _ h)))) ok_wsX3_alikeIn
set_option maxRecDepth 20000 in
theorem gX3_alike_X3_alikeIn : GoodIn wsX3_alike (wsV RX3 31 RX3 yX3_alikeIn wsX3_alikeIn) := goodIn_app (goodIn_of _ (by decide +kernel)) ggX3_alike_X3_alikeIn
theorem dX3_alike_0 : decode cX3_alike 0 = .ok (.iconst 0, 1) := by decide +kernel
theorem dX3_alike_1 : decode cX3_alike 1 = .ok (.istore 5, 2) := by decide +kernel
theorem dX3_alike_3 : decode cX3_alike 3 = .ok (.iload 5, 2) := by decide +kernel
theorem dX3_alike_5 : decode cX3_alike 5 = .ok (.iconst 4, 1) := by decide +kernel
theorem dX3_alike_6 : decode cX3_alike 6 = .ok (.if_icmp .ge 25, 3) := by decide +kernel
theorem dX3_alike_9 : decode cX3_alike 9 = .ok (.aload_n 0, 1) := by decide +kernel
theorem dX3_alike_10 : decode cX3_alike 10 = .ok (.iload 5, 2) := by decide +kernel
theorem dX3_alike_12 : decode cX3_alike 12 = .ok (.aload_n 1, 1) := by decide +kernel
theorem dX3_alike_13 : decode cX3_alike 13 = .ok (.aload_n 2, 1) := by decide +kernel
theorem dX3_alike_14 : decode cX3_alike 14 = .ok (.iload_n 3, 1) := by decide +kernel
theorem dX3_alike_15 : decode cX3_alike 15 = .ok (.iload 4, 2) := by decide +kernel
theorem dX3_alike_17 : decode cX3_alike 17 = .ok (.invokevirtual 31, 3) := by decide +kernel
theorem dX3_alike_20 : decode cX3_alike 20 = .ok (.ifCond .ne 5, 3) := by decide +kernel
theorem dX3_alike_23 : decode cX3_alike 23 = .ok (.iconst 0, 1) := by decide +kernel
theorem dX3_alike_24 : decode cX3_alike 24 = .ok (.ireturn, 1) := by decide +kernel
theorem dX3_alike_25 : decode cX3_alike 25 = .ok (.iinc 5 1, 3) := by decide +kernel
theorem dX3_alike_28 : decode cX3_alike 28 = .ok (.goto (-25), 3) := by decide +kernel
theorem dX3_alike_31 : decode cX3_alike 31 = .ok (.iconst 1, 1) := by decide +kernel
theorem dX3_alike_32 : decode cX3_alike 32 = .ok (.ireturn, 1) := by decide +kernel
theorem ggX3_alikeIn_X3_nextIn : GoodIn wsX3_alikeIn wsX3_nextIn := goodIn_mem (fun _ h => List.mem_cons_of_mem _ (List.mem_append_left _ (List.mem_append_left _ (List.mem_append_right _ h)))) ok_wsX3_nextIn
set_option maxRecDepth 20000 in
theorem gX3_alikeIn_X3_nextIn : GoodIn wsX3_alikeIn (wsV RX3 40 RX3 yX3_nextIn wsX3_nextIn) := goodIn_app (goodIn_of _ (by decide +kernel)) ggX3_alikeIn_X3_nextIn
theorem dX3_alikeIn_0 : decode cX3_alikeIn 0 = .ok (.iload 4, 2) := by decide +kernel
theorem dX3_alikeIn_2 : decode cX3_alikeIn 2 = .ok (.istore 6, 2) := by decide +kernel
theorem dX3_alikeIn_4 : decode cX3_alikeIn 4 = .ok (.iload 4, 2) := by decide +kernel
theorem dX3_alikeIn_6 : decode cX3_alikeIn 6 = .ok (.istore 7, 2) := by decide +kernel
theorem dX3_alikeIn_8 : decode cX3_alikeIn 8 = .ok (.iload 7, 2) := by decide +kernel
theorem dX3_alikeIn_10 : decode cX3_alikeIn 10 = .ok (.iload 5, 2) := by decide +kernel
theorem dX3_alikeIn_12 : decode cX3_alikeIn 12 = .ok (.if_icmp .ge 87, 3) := by decide +kernel
theorem dX3_alikeIn_15 : decode cX3_alikeIn 15 = .ok (.aload_n 2, 1) := by decide +kernel
theorem dX3_alikeIn_16 : decode cX3_alikeIn 16 = .ok (.getfield 35, 3) := by decide +kernel
theorem dX3_alikeIn_19 : decode cX3_alikeIn 19 = .ok (.iload 7, 2) := by decide +kernel
theorem dX3_alikeIn_21 : decode cX3_alikeIn 21 = .ok (.iaload, 1) := by decide +kernel
theorem dX3_alikeIn_22 : decode cX3_alikeIn 22 = .ok (.istore 8, 2) := by decide +kernel
theorem dX3_alikeIn_24 : decode cX3_alikeIn 24 = .ok (.aload_n 0, 1) := by decide +kernel
theorem dX3_alikeIn_25 : decode cX3_alikeIn 25 = .ok (.getfield 15, 3) := by decide +kernel
theorem dX3_alikeIn_28 : decode cX3_alikeIn 28 = .ok (.iload 8, 2) := by decide +kernel
theorem dX3_alikeIn_30 : decode cX3_alikeIn 30 = .ok (.iaload, 1) := by decide +kernel
theorem dX3_alikeIn_31 : decode cX3_alikeIn 31 = .ok (.iload_n 1, 1) := by decide +kernel
theorem dX3_alikeIn_32 : decode cX3_alikeIn 32 = .ok (.if_icmp .ne 61, 3) := by decide +kernel
theorem dX3_alikeIn_35 : decode cX3_alikeIn 35 = .ok (.aload_n 0, 1) := by decide +kernel
theorem dX3_alikeIn_36 : decode cX3_alikeIn 36 = .ok (.iload_n 1, 1) := by decide +kernel
theorem dX3_alikeIn_37 : decode cX3_alikeIn 37 = .ok (.aload_n 3, 1) := by decide +kernel
theorem dX3_alikeIn_38 : decode cX3_alikeIn 38 = .ok (.iload 6, 2) := by decide +kernel
theorem dX3_alikeIn_40 : decode cX3_alikeIn 40 = .ok (.iload 5, 2) := by decide +kernel
theorem dX3_alikeIn_42 : decode cX3_alikeIn 42 = .ok (.invokevirtual 40, 3) := by decide +kernel
theorem dX3_alikeIn_45 : decode cX3_alikeIn 45 = .ok (.istore 6, 2) := by decide +kernel
theorem dX3_alikeIn_47 : decode cX3_alikeIn 47 = .ok (.iload 6, 2) := by decide +kernel
theorem dX3_alikeIn_49 : decode cX3_alikeIn 49 = .ok (.iload 5, 2) := by decide +kernel
theorem dX3_alikeIn_51 : decode cX3_alikeIn 51 = .ok (.if_icmp .eq 37, 3) := by decide +kernel
theorem dX3_alikeIn_54 : decode cX3_alikeIn 54 = .ok (.aload_n 0, 1) := by decide +kernel
theorem dX3_alikeIn_55 : decode cX3_alikeIn 55 = .ok (.getfield 18, 3) := by decide +kernel
theorem dX3_alikeIn_58 : decode cX3_alikeIn 58 = .ok (.aload_n 3, 1) := by decide +kernel
theorem dX3_alikeIn_59 : decode cX3_alikeIn 59 = .ok (.getfield 35, 3) := by decide +kernel
theorem dX3_alikeIn_62 : decode cX3_alikeIn 62 = .ok (.iload 6, 2) := by decide +kernel
theorem dX3_alikeIn_64 : decode cX3_alikeIn 64 = .ok (.iaload, 1) := by decide +kernel
theorem dX3_alikeIn_65 : decode cX3_alikeIn 65 = .ok (.iaload, 1) := by decide +kernel
theorem dX3_alikeIn_66 : decode cX3_alikeIn 66 = .ok (.iload 8, 2) := by decide +kernel
theorem dX3_alikeIn_68 : decode cX3_alikeIn 68 = .ok (.if_icmp .ne 20, 3) := by decide +kernel
theorem dX3_alikeIn_71 : decode cX3_alikeIn 71 = .ok (.aload_n 3, 1) := by decide +kernel
theorem dX3_alikeIn_72 : decode cX3_alikeIn 72 = .ok (.getfield 44, 3) := by decide +kernel
theorem dX3_alikeIn_75 : decode cX3_alikeIn 75 = .ok (.iload 6, 2) := by decide +kernel
theorem dX3_alikeIn_77 : decode cX3_alikeIn 77 = .ok (.iaload, 1) := by decide +kernel
theorem dX3_alikeIn_78 : decode cX3_alikeIn 78 = .ok (.aload_n 2, 1) := by decide +kernel
theorem dX3_alikeIn_79 : decode cX3_alikeIn 79 = .ok (.getfield 44, 3) := by decide +kernel
theorem dX3_alikeIn_82 : decode cX3_alikeIn 82 = .ok (.iload 7, 2) := by decide +kernel
theorem dX3_alikeIn_84 : decode cX3_alikeIn 84 = .ok (.iaload, 1) := by decide +kernel
theorem dX3_alikeIn_85 : decode cX3_alikeIn 85 = .ok (.if_icmp .eq 5, 3) := by decide +kernel
theorem dX3_alikeIn_88 : decode cX3_alikeIn 88 = .ok (.iconst 0, 1) := by decide +kernel
theorem dX3_alikeIn_89 : decode cX3_alikeIn 89 = .ok (.ireturn, 1) := by decide +kernel
theorem dX3_alikeIn_90 : decode cX3_alikeIn 90 = .ok (.iinc 6 1, 3) := by decide +kernel
theorem dX3_alikeIn_93 : decode cX3_alikeIn 93 = .ok (.iinc 7 1, 3) := by decide +kernel
theorem dX3_alikeIn_96 : decode cX3_alikeIn 96 = .ok (.goto (-88), 3) := by decide +kernel
theorem dX3_alikeIn_99 : decode cX3_alikeIn 99 = .ok (.aload_n 0, 1) := by decide +kernel
theorem dX3_alikeIn_100 : decode cX3_alikeIn 100 = .ok (.iload_n 1, 1) := by decide +kernel
theorem dX3_alikeIn_101 : decode cX3_alikeIn 101 = .ok (.aload_n 3, 1) := by decide +kernel
theorem dX3_alikeIn_102 : decode cX3_alikeIn 102 = .ok (.iload 6, 2) := by decide +kernel
theorem dX3_alikeIn_104 : decode cX3_alikeIn 104 = .ok (.iload 5, 2) := by decide +kernel
theorem dX3_alikeIn_106 : decode cX3_alikeIn 106 = .ok (.invokevirtual 40, 3) := by decide +kernel
theorem dX3_alikeIn_109 : decode cX3_alikeIn 109 = .ok (.iload 5, 2) := by decide +kernel
theorem dX3_alikeIn_111 : decode cX3_alikeIn 111 = .ok (.if_icmp .ne 7, 3) := by decide +kernel
theorem dX3_alikeIn_114 : decode cX3_alikeIn 114 = .ok (.iconst 1, 1) := by decide +kernel
theorem dX3_alikeIn_115 : decode cX3_alikeIn 115 = .ok (.goto 4, 3) := by decide +kernel
theorem dX3_alikeIn_118 : decode cX3_alikeIn 118 = .ok (.iconst 0, 1) := by decide +kernel
theorem dX3_alikeIn_119 : decode cX3_alikeIn 119 = .ok (.ireturn, 1) := by decide +kernel
theorem dX3_nextIn_0 : decode cX3_nextIn 0 = .ok (.iload_n 3, 1) := by decide +kernel
theorem dX3_nextIn_1 : decode cX3_nextIn 1 = .ok (.istore 5, 2) := by decide +kernel
theorem dX3_nextIn_3 : decode cX3_nextIn 3 = .ok (.iload 5, 2) := by decide +kernel
theorem dX3_nextIn_5 : decode cX3_nextIn 5 = .ok (.iload 4, 2) := by decide +kernel
theorem dX3_nextIn_7 : decode cX3_nextIn 7 = .ok (.if_icmp .ge 33, 3) := by decide +kernel
theorem dX3_nextIn_10 : decode cX3_nextIn 10 = .ok (.aload_n 0, 1) := by decide +kernel
theorem dX3_nextIn_11 : decode cX3_nextIn 11 = .ok (.getfield 15, 3) := by decide +kernel
theorem dX3_nextIn_14 : decode cX3_nextIn 14 = .ok (.aload_n 0, 1) := by decide +kernel
theorem dX3_nextIn_15 : decode cX3_nextIn 15 = .ok (.getfield 18, 3) := by decide +kernel
theorem dX3_nextIn_18 : decode cX3_nextIn 18 = .ok (.aload_n 2, 1) := by decide +kernel
theorem dX3_nextIn_19 : decode cX3_nextIn 19 = .ok (.getfield 35, 3) := by decide +kernel
theorem dX3_nextIn_22 : decode cX3_nextIn 22 = .ok (.iload 5, 2) := by decide +kernel
theorem dX3_nextIn_24 : decode cX3_nextIn 24 = .ok (.iaload, 1) := by decide +kernel
theorem dX3_nextIn_25 : decode cX3_nextIn 25 = .ok (.iaload, 1) := by decide +kernel
theorem dX3_nextIn_26 : decode cX3_nextIn 26 = .ok (.iaload, 1) := by decide +kernel
theorem dX3_nextIn_27 : decode cX3_nextIn 27 = .ok (.iload_n 1, 1) := by decide +kernel
theorem dX3_nextIn_28 : decode cX3_nextIn 28 = .ok (.if_icmp .ne 6, 3) := by decide +kernel
theorem dX3_nextIn_31 : decode cX3_nextIn 31 = .ok (.iload 5, 2) := by decide +kernel
theorem dX3_nextIn_33 : decode cX3_nextIn 33 = .ok (.ireturn, 1) := by decide +kernel
theorem dX3_nextIn_34 : decode cX3_nextIn 34 = .ok (.iinc 5 1, 3) := by decide +kernel
theorem dX3_nextIn_37 : decode cX3_nextIn 37 = .ok (.goto (-34), 3) := by decide +kernel
theorem dX3_nextIn_40 : decode cX3_nextIn 40 = .ok (.iload 4, 2) := by decide +kernel
theorem dX3_nextIn_42 : decode cX3_nextIn 42 = .ok (.ireturn, 1) := by decide +kernel
theorem dX4_init_0 : decode cX4_init 0 = .ok (.aload_n 0, 1) := by decide +kernel
theorem dX4_init_1 : decode cX4_init 1 = .ok (.invokespecial 3, 3) := by decide +kernel
theorem dX4_init_4 : decode cX4_init 4 = .ok (.aload_n 0, 1) := by decide +kernel
theorem dX4_init_5 : decode cX4_init 5 = .ok (.iconst (-1), 1) := by decide +kernel
theorem dX4_init_6 : decode cX4_init 6 = .ok (.putfield 9, 3) := by decide +kernel
theorem dX4_init_9 : decode cX4_init 9 = .ok (.aload_n 0, 1) := by decide +kernel
theorem dX4_init_10 : decode cX4_init 10 = .ok (.iconst 5, 1) := by decide +kernel
theorem dX4_init_11 : decode cX4_init 11 = .ok (.newarray .int, 2) := by decide +kernel
theorem dX4_init_13 : decode cX4_init 13 = .ok (.dup, 1) := by decide +kernel
theorem dX4_init_14 : decode cX4_init 14 = .ok (.iconst 0, 1) := by decide +kernel
theorem dX4_init_15 : decode cX4_init 15 = .ok (.iconst (-1), 1) := by decide +kernel
theorem dX4_init_16 : decode cX4_init 16 = .ok (.iastore, 1) := by decide +kernel
theorem dX4_init_17 : decode cX4_init 17 = .ok (.dup, 1) := by decide +kernel
theorem dX4_init_18 : decode cX4_init 18 = .ok (.iconst 1, 1) := by decide +kernel
theorem dX4_init_19 : decode cX4_init 19 = .ok (.iconst (-1), 1) := by decide +kernel
theorem dX4_init_20 : decode cX4_init 20 = .ok (.iastore, 1) := by decide +kernel
theorem dX4_init_21 : decode cX4_init 21 = .ok (.dup, 1) := by decide +kernel
theorem dX4_init_22 : decode cX4_init 22 = .ok (.iconst 2, 1) := by decide +kernel
theorem dX4_init_23 : decode cX4_init 23 = .ok (.iconst (-1), 1) := by decide +kernel
theorem dX4_init_24 : decode cX4_init 24 = .ok (.iastore, 1) := by decide +kernel
theorem dX4_init_25 : decode cX4_init 25 = .ok (.dup, 1) := by decide +kernel
theorem dX4_init_26 : decode cX4_init 26 = .ok (.iconst 3, 1) := by decide +kernel
theorem dX4_init_27 : decode cX4_init 27 = .ok (.iconst (-1), 1) := by decide +kernel
theorem dX4_init_28 : decode cX4_init 28 = .ok (.iastore, 1) := by decide +kernel
theorem dX4_init_29 : decode cX4_init 29 = .ok (.dup, 1) := by decide +kernel
theorem dX4_init_30 : decode cX4_init 30 = .ok (.iconst 4, 1) := by decide +kernel
theorem dX4_init_31 : decode cX4_init 31 = .ok (.iconst (-1), 1) := by decide +kernel
theorem dX4_init_32 : decode cX4_init 32 = .ok (.iastore, 1) := by decide +kernel
theorem dX4_init_33 : decode cX4_init 33 = .ok (.putfield 15, 3) := by decide +kernel
theorem dX4_init_36 : decode cX4_init 36 = .ok (.return_, 1) := by decide +kernel
theorem ggX4_begin_X4_keep : GoodIn wsX4_begin wsX4_keep := goodIn_mem (fun _ h => List.mem_cons_of_mem _ (List.mem_append_left _ (List.mem_append_right _ h))) ok_wsX4_keep
set_option maxRecDepth 20000 in
theorem gX4_begin_X4_keep : GoodIn wsX4_begin (wsV RX4 19 RX4 yX4_keep wsX4_keep) := goodIn_app (goodIn_of _ (by decide +kernel)) ggX4_begin_X4_keep
theorem dX4_begin_0 : decode cX4_begin 0 = .ok (.aload_n 0, 1) := by decide +kernel
theorem dX4_begin_1 : decode cX4_begin 1 = .ok (.iload_n 1, 1) := by decide +kernel
theorem dX4_begin_2 : decode cX4_begin 2 = .ok (.ifCond .ne 7, 3) := by decide +kernel
theorem dX4_begin_5 : decode cX4_begin 5 = .ok (.iconst (-1), 1) := by decide +kernel
theorem dX4_begin_6 : decode cX4_begin 6 = .ok (.goto 4, 3) := by decide +kernel
theorem dX4_begin_9 : decode cX4_begin 9 = .ok (.iconst 1, 1) := by decide +kernel
theorem dX4_begin_10 : decode cX4_begin 10 = .ok (.iconst (-1), 1) := by decide +kernel
theorem dX4_begin_11 : decode cX4_begin 11 = .ok (.iconst (-1), 1) := by decide +kernel
theorem dX4_begin_12 : decode cX4_begin 12 = .ok (.iconst (-1), 1) := by decide +kernel
theorem dX4_begin_13 : decode cX4_begin 13 = .ok (.iconst (-1), 1) := by decide +kernel
theorem dX4_begin_14 : decode cX4_begin 14 = .ok (.iconst (-1), 1) := by decide +kernel
theorem dX4_begin_15 : decode cX4_begin 15 = .ok (.invokevirtual 19, 3) := by decide +kernel
theorem dX4_begin_18 : decode cX4_begin 18 = .ok (.return_, 1) := by decide +kernel
theorem dX4_yieldsTo_0 : decode cX4_yieldsTo 0 = .ok (.iload_n 1, 1) := by decide +kernel
theorem dX4_yieldsTo_1 : decode cX4_yieldsTo 1 = .ok (.ifCond .eq 16, 3) := by decide +kernel
theorem dX4_yieldsTo_4 : decode cX4_yieldsTo 4 = .ok (.iload_n 1, 1) := by decide +kernel
theorem dX4_yieldsTo_5 : decode cX4_yieldsTo 5 = .ok (.iconst 2, 1) := by decide +kernel
theorem dX4_yieldsTo_6 : decode cX4_yieldsTo 6 = .ok (.if_icmp .ne 15, 3) := by decide +kernel
theorem dX4_yieldsTo_9 : decode cX4_yieldsTo 9 = .ok (.aload_n 0, 1) := by decide +kernel
theorem dX4_yieldsTo_10 : decode cX4_yieldsTo 10 = .ok (.getfield 9, 3) := by decide +kernel
theorem dX4_yieldsTo_13 : decode cX4_yieldsTo 13 = .ok (.iconst 1, 1) := by decide +kernel
theorem dX4_yieldsTo_14 : decode cX4_yieldsTo 14 = .ok (.if_icmp .ne 7, 3) := by decide +kernel
theorem dX4_yieldsTo_17 : decode cX4_yieldsTo 17 = .ok (.iconst 1, 1) := by decide +kernel
theorem dX4_yieldsTo_18 : decode cX4_yieldsTo 18 = .ok (.goto 4, 3) := by decide +kernel
theorem dX4_yieldsTo_21 : decode cX4_yieldsTo 21 = .ok (.iconst 0, 1) := by decide +kernel
theorem dX4_yieldsTo_22 : decode cX4_yieldsTo 22 = .ok (.ireturn, 1) := by decide +kernel
theorem dX4_keep_0 : decode cX4_keep 0 = .ok (.aload_n 0, 1) := by decide +kernel
theorem dX4_keep_1 : decode cX4_keep 1 = .ok (.iload_n 1, 1) := by decide +kernel
theorem dX4_keep_2 : decode cX4_keep 2 = .ok (.putfield 9, 3) := by decide +kernel
theorem dX4_keep_5 : decode cX4_keep 5 = .ok (.aload_n 0, 1) := by decide +kernel
theorem dX4_keep_6 : decode cX4_keep 6 = .ok (.getfield 15, 3) := by decide +kernel
theorem dX4_keep_9 : decode cX4_keep 9 = .ok (.iconst 0, 1) := by decide +kernel
theorem dX4_keep_10 : decode cX4_keep 10 = .ok (.iload_n 2, 1) := by decide +kernel
theorem dX4_keep_11 : decode cX4_keep 11 = .ok (.iastore, 1) := by decide +kernel
theorem dX4_keep_12 : decode cX4_keep 12 = .ok (.aload_n 0, 1) := by decide +kernel
theorem dX4_keep_13 : decode cX4_keep 13 = .ok (.getfield 15, 3) := by decide +kernel
theorem dX4_keep_16 : decode cX4_keep 16 = .ok (.iconst 1, 1) := by decide +kernel
theorem dX4_keep_17 : decode cX4_keep 17 = .ok (.iload_n 3, 1) := by decide +kernel
theorem dX4_keep_18 : decode cX4_keep 18 = .ok (.iastore, 1) := by decide +kernel
theorem dX4_keep_19 : decode cX4_keep 19 = .ok (.aload_n 0, 1) := by decide +kernel
theorem dX4_keep_20 : decode cX4_keep 20 = .ok (.getfield 15, 3) := by decide +kernel
theorem dX4_keep_23 : decode cX4_keep 23 = .ok (.iconst 2, 1) := by decide +kernel
theorem dX4_keep_24 : decode cX4_keep 24 = .ok (.iload 4, 2) := by decide +kernel
theorem dX4_keep_26 : decode cX4_keep 26 = .ok (.iastore, 1) := by decide +kernel
theorem dX4_keep_27 : decode cX4_keep 27 = .ok (.aload_n 0, 1) := by decide +kernel
theorem dX4_keep_28 : decode cX4_keep 28 = .ok (.getfield 15, 3) := by decide +kernel
theorem dX4_keep_31 : decode cX4_keep 31 = .ok (.iconst 3, 1) := by decide +kernel
theorem dX4_keep_32 : decode cX4_keep 32 = .ok (.iload 5, 2) := by decide +kernel
theorem dX4_keep_34 : decode cX4_keep 34 = .ok (.iastore, 1) := by decide +kernel
theorem dX4_keep_35 : decode cX4_keep 35 = .ok (.aload_n 0, 1) := by decide +kernel
theorem dX4_keep_36 : decode cX4_keep 36 = .ok (.getfield 15, 3) := by decide +kernel
theorem dX4_keep_39 : decode cX4_keep 39 = .ok (.iconst 4, 1) := by decide +kernel
theorem dX4_keep_40 : decode cX4_keep 40 = .ok (.iload 6, 2) := by decide +kernel
theorem dX4_keep_42 : decode cX4_keep 42 = .ok (.iastore, 1) := by decide +kernel
theorem dX4_keep_43 : decode cX4_keep 43 = .ok (.return_, 1) := by decide +kernel
theorem dX5_init_0 : decode cX5_init 0 = .ok (.aload_n 0, 1) := by decide +kernel
theorem dX5_init_1 : decode cX5_init 1 = .ok (.invokespecial 3, 3) := by decide +kernel
theorem dX5_init_4 : decode cX5_init 4 = .ok (.aload_n 0, 1) := by decide +kernel
theorem dX5_init_5 : decode cX5_init 5 = .ok (.iconst 0, 1) := by decide +kernel
theorem dX5_init_6 : decode cX5_init 6 = .ok (.putfield 9, 3) := by decide +kernel
theorem dX5_init_9 : decode cX5_init 9 = .ok (.aload_n 0, 1) := by decide +kernel
theorem dX5_init_10 : decode cX5_init 10 = .ok (.iconst 0, 1) := by decide +kernel
theorem dX5_init_11 : decode cX5_init 11 = .ok (.putfield 15, 3) := by decide +kernel
theorem dX5_init_14 : decode cX5_init 14 = .ok (.aload_n 0, 1) := by decide +kernel
theorem dX5_init_15 : decode cX5_init 15 = .ok (.iconst 0, 1) := by decide +kernel
theorem dX5_init_16 : decode cX5_init 16 = .ok (.putfield 18, 3) := by decide +kernel
theorem dX5_init_19 : decode cX5_init 19 = .ok (.aload_n 0, 1) := by decide +kernel
theorem dX5_init_20 : decode cX5_init 20 = .ok (.iconst 0, 1) := by decide +kernel
theorem dX5_init_21 : decode cX5_init 21 = .ok (.putfield 21, 3) := by decide +kernel
theorem dX5_init_24 : decode cX5_init 24 = .ok (.aload_n 0, 1) := by decide +kernel
theorem dX5_init_25 : decode cX5_init 25 = .ok (.iconst 0, 1) := by decide +kernel
theorem dX5_init_26 : decode cX5_init 26 = .ok (.putfield 24, 3) := by decide +kernel
theorem dX5_init_29 : decode cX5_init 29 = .ok (.aload_n 0, 1) := by decide +kernel
theorem dX5_init_30 : decode cX5_init 30 = .ok (.iconst 0, 1) := by decide +kernel
theorem dX5_init_31 : decode cX5_init 31 = .ok (.putfield 27, 3) := by decide +kernel
theorem dX5_init_34 : decode cX5_init 34 = .ok (.aload_n 0, 1) := by decide +kernel
theorem dX5_init_35 : decode cX5_init 35 = .ok (.bipush 40, 2) := by decide +kernel
theorem dX5_init_37 : decode cX5_init 37 = .ok (.newarray .int, 2) := by decide +kernel
theorem dX5_init_39 : decode cX5_init 39 = .ok (.putfield 30, 3) := by decide +kernel
theorem dX5_init_42 : decode cX5_init 42 = .ok (.aload_n 0, 1) := by decide +kernel
theorem dX5_init_43 : decode cX5_init 43 = .ok (.bipush 40, 2) := by decide +kernel
theorem dX5_init_45 : decode cX5_init 45 = .ok (.newarray .int, 2) := by decide +kernel
theorem dX5_init_47 : decode cX5_init 47 = .ok (.putfield 34, 3) := by decide +kernel
theorem dX5_init_50 : decode cX5_init 50 = .ok (.aload_n 0, 1) := by decide +kernel
theorem dX5_init_51 : decode cX5_init 51 = .ok (.iconst 0, 1) := by decide +kernel
theorem dX5_init_52 : decode cX5_init 52 = .ok (.putfield 37, 3) := by decide +kernel
theorem dX5_init_55 : decode cX5_init 55 = .ok (.aload_n 0, 1) := by decide +kernel
theorem dX5_init_56 : decode cX5_init 56 = .ok (.iconst 2, 1) := by decide +kernel
theorem dX5_init_57 : decode cX5_init 57 = .ok (.newarray .int, 2) := by decide +kernel
theorem dX5_init_59 : decode cX5_init 59 = .ok (.putfield 40, 3) := by decide +kernel
theorem dX5_init_62 : decode cX5_init 62 = .ok (.aload_n 0, 1) := by decide +kernel
theorem dX5_init_63 : decode cX5_init 63 = .ok (.iconst 2, 1) := by decide +kernel
theorem dX5_init_64 : decode cX5_init 64 = .ok (.newarray .int, 2) := by decide +kernel
theorem dX5_init_66 : decode cX5_init 66 = .ok (.putfield 43, 3) := by decide +kernel
theorem dX5_init_69 : decode cX5_init 69 = .ok (.aload_n 0, 1) := by decide +kernel
theorem dX5_init_70 : decode cX5_init 70 = .ok (.iconst 2, 1) := by decide +kernel
theorem dX5_init_71 : decode cX5_init 71 = .ok (.newarray .int, 2) := by decide +kernel
theorem dX5_init_73 : decode cX5_init 73 = .ok (.putfield 46, 3) := by decide +kernel
theorem dX5_init_76 : decode cX5_init 76 = .ok (.aload_n 0, 1) := by decide +kernel
theorem dX5_init_77 : decode cX5_init 77 = .ok (.iconst 2, 1) := by decide +kernel
theorem dX5_init_78 : decode cX5_init 78 = .ok (.newarray .int, 2) := by decide +kernel
theorem dX5_init_80 : decode cX5_init 80 = .ok (.putfield 49, 3) := by decide +kernel
theorem dX5_init_83 : decode cX5_init 83 = .ok (.return_, 1) := by decide +kernel
theorem ggX5_forget_X5_finish : GoodIn wsX5_forget wsX5_finish := goodIn_mem (fun _ h => List.mem_cons_of_mem _ (List.mem_append_left _ (List.mem_append_right _ h))) ok_wsX5_finish
set_option maxRecDepth 20000 in
theorem gX5_forget_X5_finish : GoodIn wsX5_forget (wsV RX5 52 RX5 yX5_finish wsX5_finish) := goodIn_app (goodIn_of _ (by decide +kernel)) ggX5_forget_X5_finish
theorem dX5_forget_0 : decode cX5_forget 0 = .ok (.aload_n 0, 1) := by decide +kernel
theorem dX5_forget_1 : decode cX5_forget 1 = .ok (.iconst 2, 1) := by decide +kernel
theorem dX5_forget_2 : decode cX5_forget 2 = .ok (.iconst 0, 1) := by decide +kernel
theorem dX5_forget_3 : decode cX5_forget 3 = .ok (.iconst 0, 1) := by decide +kernel
theorem dX5_forget_4 : decode cX5_forget 4 = .ok (.invokevirtual 52, 3) := by decide +kernel
theorem dX5_forget_7 : decode cX5_forget 7 = .ok (.aload_n 0, 1) := by decide +kernel
theorem dX5_forget_8 : decode cX5_forget 8 = .ok (.iconst 0, 1) := by decide +kernel
theorem dX5_forget_9 : decode cX5_forget 9 = .ok (.putfield 21, 3) := by decide +kernel
theorem dX5_forget_12 : decode cX5_forget 12 = .ok (.aload_n 0, 1) := by decide +kernel
theorem dX5_forget_13 : decode cX5_forget 13 = .ok (.iconst 0, 1) := by decide +kernel
theorem dX5_forget_14 : decode cX5_forget 14 = .ok (.putfield 24, 3) := by decide +kernel
theorem dX5_forget_17 : decode cX5_forget 17 = .ok (.aload_n 0, 1) := by decide +kernel
theorem dX5_forget_18 : decode cX5_forget 18 = .ok (.iconst 0, 1) := by decide +kernel
theorem dX5_forget_19 : decode cX5_forget 19 = .ok (.putfield 27, 3) := by decide +kernel
theorem dX5_forget_22 : decode cX5_forget 22 = .ok (.aload_n 0, 1) := by decide +kernel
theorem dX5_forget_23 : decode cX5_forget 23 = .ok (.iconst 0, 1) := by decide +kernel
theorem dX5_forget_24 : decode cX5_forget 24 = .ok (.putfield 37, 3) := by decide +kernel
theorem dX5_forget_27 : decode cX5_forget 27 = .ok (.return_, 1) := by decide +kernel
theorem dX5_finish_0 : decode cX5_finish 0 = .ok (.aload_n 0, 1) := by decide +kernel
theorem dX5_finish_1 : decode cX5_finish 1 = .ok (.iload_n 1, 1) := by decide +kernel
theorem dX5_finish_2 : decode cX5_finish 2 = .ok (.putfield 9, 3) := by decide +kernel
theorem dX5_finish_5 : decode cX5_finish 5 = .ok (.aload_n 0, 1) := by decide +kernel
theorem dX5_finish_6 : decode cX5_finish 6 = .ok (.iload_n 2, 1) := by decide +kernel
theorem dX5_finish_7 : decode cX5_finish 7 = .ok (.putfield 15, 3) := by decide +kernel
theorem dX5_finish_10 : decode cX5_finish 10 = .ok (.aload_n 0, 1) := by decide +kernel
theorem dX5_finish_11 : decode cX5_finish 11 = .ok (.iload_n 3, 1) := by decide +kernel
theorem dX5_finish_12 : decode cX5_finish 12 = .ok (.putfield 18, 3) := by decide +kernel
theorem dX5_finish_15 : decode cX5_finish 15 = .ok (.return_, 1) := by decide +kernel
theorem dX5_addTell_0 : decode cX5_addTell 0 = .ok (.aload_n 0, 1) := by decide +kernel
theorem dX5_addTell_1 : decode cX5_addTell 1 = .ok (.getfield 30, 3) := by decide +kernel
theorem dX5_addTell_4 : decode cX5_addTell 4 = .ok (.aload_n 0, 1) := by decide +kernel
theorem dX5_addTell_5 : decode cX5_addTell 5 = .ok (.getfield 27, 3) := by decide +kernel
theorem dX5_addTell_8 : decode cX5_addTell 8 = .ok (.iload_n 1, 1) := by decide +kernel
theorem dX5_addTell_9 : decode cX5_addTell 9 = .ok (.iastore, 1) := by decide +kernel
theorem dX5_addTell_10 : decode cX5_addTell 10 = .ok (.aload_n 0, 1) := by decide +kernel
theorem dX5_addTell_11 : decode cX5_addTell 11 = .ok (.getfield 34, 3) := by decide +kernel
theorem dX5_addTell_14 : decode cX5_addTell 14 = .ok (.aload_n 0, 1) := by decide +kernel
theorem dX5_addTell_15 : decode cX5_addTell 15 = .ok (.getfield 27, 3) := by decide +kernel
theorem dX5_addTell_18 : decode cX5_addTell 18 = .ok (.iload_n 2, 1) := by decide +kernel
theorem dX5_addTell_19 : decode cX5_addTell 19 = .ok (.iastore, 1) := by decide +kernel
theorem dX5_addTell_20 : decode cX5_addTell 20 = .ok (.aload_n 0, 1) := by decide +kernel
theorem dX5_addTell_21 : decode cX5_addTell 21 = .ok (.dup, 1) := by decide +kernel
theorem dX5_addTell_22 : decode cX5_addTell 22 = .ok (.getfield 27, 3) := by decide +kernel
theorem dX5_addTell_25 : decode cX5_addTell 25 = .ok (.iconst 1, 1) := by decide +kernel
theorem dX5_addTell_26 : decode cX5_addTell 26 = .ok (.iadd, 1) := by decide +kernel
theorem dX5_addTell_27 : decode cX5_addTell 27 = .ok (.putfield 27, 3) := by decide +kernel
theorem dX5_addTell_30 : decode cX5_addTell 30 = .ok (.return_, 1) := by decide +kernel
theorem dX5_addCalling_0 : decode cX5_addCalling 0 = .ok (.aload_n 0, 1) := by decide +kernel
theorem dX5_addCalling_1 : decode cX5_addCalling 1 = .ok (.getfield 40, 3) := by decide +kernel
theorem dX5_addCalling_4 : decode cX5_addCalling 4 = .ok (.aload_n 0, 1) := by decide +kernel
theorem dX5_addCalling_5 : decode cX5_addCalling 5 = .ok (.getfield 37, 3) := by decide +kernel
theorem dX5_addCalling_8 : decode cX5_addCalling 8 = .ok (.iload_n 1, 1) := by decide +kernel
theorem dX5_addCalling_9 : decode cX5_addCalling 9 = .ok (.iastore, 1) := by decide +kernel
theorem dX5_addCalling_10 : decode cX5_addCalling 10 = .ok (.aload_n 0, 1) := by decide +kernel
