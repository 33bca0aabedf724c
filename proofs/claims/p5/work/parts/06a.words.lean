abbrev rmX0_has : Room := { frames := 0, cells := 0, slots := 0, locals := 0 }
theorem iX0_has_X0 : ∀ w ∈ wsX00, w ∈ wsX0_has := fun _ h => List.mem_cons_of_mem _ (List.mem_append_right _ h)
theorem fX0_has_9 : km_f wsX0_has RX0 9 0 0 := ⟨RX0, TX0, 6, rfl, by decide, iX0_has_X0, by decide +kernel⟩
abbrev rmX0_addMethod : Room := { frames := 0, cells := 0, slots := 0, locals := 0 }
theorem iX0_addMethod_X0 : ∀ w ∈ wsX00, w ∈ wsX0_addMethod := fun _ h => List.mem_cons_of_mem _ (List.mem_append_right _ h)
theorem fX0_addMethod_9 : km_f wsX0_addMethod RX0 9 0 0 := ⟨RX0, TX0, 6, rfl, by decide, iX0_addMethod_X0, by decide +kernel⟩
theorem pX0_addMethod_9 : km_p wsX0_addMethod RX0 9 0 0 .int false := ⟨RX0, TX0, 6, rfl, by decide, iX0_addMethod_X0, by decide +kernel, ⟨tyX0, tyX0_ok⟩, nmX0, by decide +kernel, rfl, fun h => by cases h⟩
abbrev rmX0_addOp : Room := { frames := 1, cells := 0, slots := 0, locals := 22 }
theorem iX0_addOp_X0 : ∀ w ∈ wsX00, w ∈ wsX0_addOp := fun _ h => List.mem_cons_of_mem _ (List.mem_append_right _ h)
theorem fX0_addOp_15 : km_f wsX0_addOp RX0 15 0 1 := ⟨RX0, TX0, 6, rfl, by decide, iX0_addOp_X0, by decide +kernel⟩
theorem vX0_addOp_31 : km_cV wsX0_addOp RX0 31 0 yX0_placeOf wsX0_placeOf 3 2 := ⟨gX0_addOp_X0_placeOf, ⟨_, _, _, rfl⟩, ⟨by decide +kernel, by decide +kernel, by decide +kernel⟩, TX0, 6, rfl⟩
theorem fX0_addOp_19 : km_f wsX0_addOp RX0 19 0 2 := ⟨RX0, TX0, 6, rfl, by decide, iX0_addOp_X0, by decide +kernel⟩
theorem fX0_addOp_22 : km_f wsX0_addOp RX0 22 0 3 := ⟨RX0, TX0, 6, rfl, by decide, iX0_addOp_X0, by decide +kernel⟩
theorem fX0_addOp_25 : km_f wsX0_addOp RX0 25 0 4 := ⟨RX0, TX0, 6, rfl, by decide, iX0_addOp_X0, by decide +kernel⟩
theorem fX0_addOp_28 : km_f wsX0_addOp RX0 28 0 5 := ⟨RX0, TX0, 6, rfl, by decide, iX0_addOp_X0, by decide +kernel⟩
abbrev rmX0_removeOps : Room := { frames := 0, cells := 0, slots := 0, locals := 0 }
theorem iX0_removeOps_X0 : ∀ w ∈ wsX00, w ∈ wsX0_removeOps := fun _ h => List.mem_cons_of_mem _ (List.mem_append_right _ h)
theorem fX0_removeOps_15 : km_f wsX0_removeOps RX0 15 0 1 := ⟨RX0, TX0, 6, rfl, by decide, iX0_removeOps_X0, by decide +kernel⟩
abbrev rmX0_placeOf : Room := { frames := 0, cells := 0, slots := 0, locals := 0 }
abbrev rmX1_turnTo : Room := { frames := 0, cells := 0, slots := 0, locals := 0 }
theorem iX1_turnTo_X1 : ∀ w ∈ wsX10, w ∈ wsX1_turnTo := fun _ h => List.mem_cons_of_mem _ (List.mem_append_right _ h)
theorem pX1_turnTo_35 : km_p wsX1_turnTo RX1 35 1 7 (.object "EqualMethods$Build") false := ⟨RX1, TX1, 9, rfl, by decide, iX1_turnTo_X1, by decide +kernel, ⟨tyX1, tyX1_ok⟩, nmX1, by decide +kernel, rfl, fun h => by cases h⟩
abbrev rmX1_takeAnswers : Room := { frames := 0, cells := 0, slots := 0, locals := 0 }
theorem iX1_takeAnswers_X1 : ∀ w ∈ wsX10, w ∈ wsX1_takeAnswers := fun _ h => List.mem_cons_of_mem _ (List.mem_append_right _ h)
theorem fX1_takeAnswers_28 : km_f wsX1_takeAnswers RX1 28 1 5 := ⟨RX1, TX1, 9, rfl, by decide, iX1_takeAnswers_X1, by decide +kernel⟩
abbrev rmX1_go : Room := { frames := 5, cells := 0, slots := 0, locals := 119 }
theorem iX1_go_X1 : ∀ w ∈ wsX10, w ∈ wsX1_go := fun _ h => List.mem_cons_of_mem _ (List.mem_append_left _ (List.mem_append_left _ (List.mem_append_right _ h)))
theorem fX1_go_12 : km_f wsX1_go RX1 12 1 0 := ⟨RX1, TX1, 9, rfl, by decide, iX1_go_X1, by decide +kernel⟩
theorem vX1_go_46 : km_cV wsX1_go RX1 46 5 yX5_forget wsX5_forget 1 0 := ⟨gX1_go_X5_forget, ⟨_, _, _, rfl⟩, ⟨by decide +kernel, by decide +kernel, by decide +kernel⟩, TX5, 13, rfl⟩
theorem pX1_go_31 : km_p wsX1_go RX1 31 1 8 .int false := ⟨RX1, TX1, 9, rfl, by decide, iX1_go_X1, by decide +kernel, ⟨tyX1, tyX1_ok⟩, nmX1, by decide +kernel, rfl, fun h => by cases h⟩
theorem vX1_go_49 : km_cV wsX1_go RX1 49 1 yX1_enter wsX1_enter 6 3 := ⟨gX1_go_X1_enter, ⟨_, _, _, rfl⟩, ⟨by decide +kernel, by decide +kernel, by decide +kernel⟩, TX1, 9, rfl⟩
theorem fX1_go_31 : km_f wsX1_go RX1 31 1 8 := ⟨RX1, TX1, 9, rfl, by decide, iX1_go_X1, by decide +kernel⟩
theorem fX1_go_22 : km_f wsX1_go RX1 22 1 3 := ⟨RX1, TX1, 9, rfl, by decide, iX1_go_X1, by decide +kernel⟩
theorem fX1_go_35 : km_f wsX1_go RX1 35 1 7 := ⟨RX1, TX1, 9, rfl, by decide, iX1_go_X1, by decide +kernel⟩
theorem iX1_go_X0 : ∀ w ∈ wsX00, w ∈ wsX1_go := fun _ h => List.mem_cons_of_mem _ (List.mem_append_left _ (List.mem_append_right _ h))
theorem fX1_go_53 : km_f wsX1_go RX1 53 0 1 := ⟨RX0, TX0, 6, rfl, by decide, iX1_go_X0, by decide +kernel⟩
theorem fX1_go_25 : km_f wsX1_go RX1 25 1 4 := ⟨RX1, TX1, 9, rfl, by decide, iX1_go_X1, by decide +kernel⟩
theorem vX1_go_58 : km_cV wsX1_go RX1 58 1 yX1_giveBack wsX1_giveBack 2 1 := ⟨gX1_go_X1_giveBack, ⟨_, _, _, rfl⟩, ⟨by decide +kernel, by decide +kernel, by decide +kernel⟩, TX1, 9, rfl⟩
theorem fX1_go_62 : km_f wsX1_go RX1 62 0 2 := ⟨RX0, TX0, 6, rfl, by decide, iX1_go_X0, by decide +kernel⟩
theorem vX1_go_65 : km_cV wsX1_go RX1 65 1 yX1_placeOfTop wsX1_placeOfTop 1 0 := ⟨gX1_go_X1_placeOfTop, ⟨_, _, _, rfl⟩, ⟨by decide +kernel, by decide +kernel, by decide +kernel⟩, TX1, 9, rfl⟩
theorem vX1_go_69 : km_cV wsX1_go RX1 69 1 yX1_isSpentBy wsX1_isSpentBy 2 1 := ⟨gX1_go_X1_isSpentBy, ⟨_, _, _, rfl⟩, ⟨by decide +kernel, by decide +kernel, by decide +kernel⟩, TX1, 9, rfl⟩
theorem vX1_go_73 : km_cV wsX1_go RX1 73 1 yX1_stop wsX1_stop 4 3 := ⟨gX1_go_X1_stop, ⟨_, _, _, rfl⟩, ⟨by decide +kernel, by decide +kernel, by decide +kernel⟩, TX1, 9, rfl⟩
theorem vX1_go_76 : km_cV wsX1_go RX1 76 1 yX1_perform wsX1_perform 5 1 := ⟨gX1_go_X1_perform, ⟨_, _, _, rfl⟩, ⟨by decide +kernel, by decide +kernel, by decide +kernel⟩, TX1, 9, rfl⟩
abbrev rmX1_placeOfTop : Room := { frames := 1, cells := 0, slots := 0, locals := 22 }
theorem iX1_placeOfTop_X1 : ∀ w ∈ wsX10, w ∈ wsX1_placeOfTop := fun _ h => List.mem_cons_of_mem _ (List.mem_append_right _ h)
theorem fX1_placeOfTop_35 : km_f wsX1_placeOfTop RX1 35 1 7 := ⟨RX1, TX1, 9, rfl, by decide, iX1_placeOfTop_X1, by decide +kernel⟩
theorem fX1_placeOfTop_25 : km_f wsX1_placeOfTop RX1 25 1 4 := ⟨RX1, TX1, 9, rfl, by decide, iX1_placeOfTop_X1, by decide +kernel⟩
theorem fX1_placeOfTop_31 : km_f wsX1_placeOfTop RX1 31 1 8 := ⟨RX1, TX1, 9, rfl, by decide, iX1_placeOfTop_X1, by decide +kernel⟩
theorem fX1_placeOfTop_22 : km_f wsX1_placeOfTop RX1 22 1 3 := ⟨RX1, TX1, 9, rfl, by decide, iX1_placeOfTop_X1, by decide +kernel⟩
theorem vX1_placeOfTop_79 : km_cV wsX1_placeOfTop RX1 79 0 yX0_placeOf wsX0_placeOf 3 2 := ⟨gX1_placeOfTop_X0_placeOf, ⟨_, _, _, rfl⟩, ⟨by decide +kernel, by decide +kernel, by decide +kernel⟩, TX0, 6, rfl⟩
abbrev rmX1_isSpentBy : Room := { frames := 0, cells := 0, slots := 0, locals := 0 }
theorem iX1_isSpentBy_X1 : ∀ w ∈ wsX10, w ∈ wsX1_isSpentBy := fun _ h => List.mem_cons_of_mem _ (List.mem_append_left _ (List.mem_append_right _ h))
theorem fX1_isSpentBy_12 : km_f wsX1_isSpentBy RX1 12 1 0 := ⟨RX1, TX1, 9, rfl, by decide, iX1_isSpentBy_X1, by decide +kernel⟩
theorem iX1_isSpentBy_X5 : ∀ w ∈ wsX50, w ∈ wsX1_isSpentBy := fun _ h => List.mem_cons_of_mem _ (List.mem_append_right _ h)
theorem fX1_isSpentBy_83 : km_f wsX1_isSpentBy RX1 83 5 3 := ⟨RX5, TX5, 13, rfl, by decide, iX1_isSpentBy_X5, by decide +kernel⟩
theorem fX1_isSpentBy_85 : km_f wsX1_isSpentBy RX1 85 5 5 := ⟨RX5, TX5, 13, rfl, by decide, iX1_isSpentBy_X5, by decide +kernel⟩
abbrev rmX1_perform : Room := { frames := 4, cells := 0, slots := 0, locals := 95 }
theorem iX1_perform_X1 : ∀ w ∈ wsX10, w ∈ wsX1_perform := fun _ h => List.mem_cons_of_mem _ (List.mem_append_left _ (List.mem_append_left _ (List.mem_append_right _ h)))
theorem fX1_perform_35 : km_f wsX1_perform RX1 35 1 7 := ⟨RX1, TX1, 9, rfl, by decide, iX1_perform_X1, by decide +kernel⟩
theorem iX1_perform_X0 : ∀ w ∈ wsX00, w ∈ wsX1_perform := fun _ h => List.mem_cons_of_mem _ (List.mem_append_left _ (List.mem_append_right _ h))
theorem fX1_perform_88 : km_f wsX1_perform RX1 88 0 3 := ⟨RX0, TX0, 6, rfl, by decide, iX1_perform_X0, by decide +kernel⟩
theorem fX1_perform_91 : km_f wsX1_perform RX1 91 0 4 := ⟨RX0, TX0, 6, rfl, by decide, iX1_perform_X0, by decide +kernel⟩
theorem fX1_perform_94 : km_f wsX1_perform RX1 94 0 5 := ⟨RX0, TX0, 6, rfl, by decide, iX1_perform_X0, by decide +kernel⟩
theorem fX1_perform_12 : km_f wsX1_perform RX1 12 1 0 := ⟨RX1, TX1, 9, rfl, by decide, iX1_perform_X1, by decide +kernel⟩
theorem iX1_perform_X5 : ∀ w ∈ wsX50, w ∈ wsX1_perform := fun _ h => List.mem_cons_of_mem _ (List.mem_append_right _ h)
theorem fX1_perform_83 : km_f wsX1_perform RX1 83 5 3 := ⟨RX5, TX5, 13, rfl, by decide, iX1_perform_X5, by decide +kernel⟩
theorem pX1_perform_83 : km_p wsX1_perform RX1 83 5 3 .int false := ⟨RX5, TX5, 13, rfl, by decide, iX1_perform_X5, by decide +kernel, ⟨tyX5, tyX5_ok⟩, nmX5, by decide +kernel, rfl, fun h => by cases h⟩
theorem fX1_perform_62 : km_f wsX1_perform RX1 62 0 2 := ⟨RX0, TX0, 6, rfl, by decide, iX1_perform_X0, by decide +kernel⟩
theorem vX1_perform_97 : km_cV wsX1_perform RX1 97 1 yX1_put wsX1_put 3 2 := ⟨gX1_perform_X1_put, ⟨_, _, _, rfl⟩, ⟨by decide +kernel, by decide +kernel, by decide +kernel⟩, TX1, 9, rfl⟩
theorem vX1_perform_101 : km_cV wsX1_perform RX1 101 1 yX1_get wsX1_get 2 1 := ⟨gX1_perform_X1_get, ⟨_, _, _, rfl⟩, ⟨by decide +kernel, by decide +kernel, by decide +kernel⟩, TX1, 9, rfl⟩
theorem fX1_perform_22 : km_f wsX1_perform RX1 22 1 3 := ⟨RX1, TX1, 9, rfl, by decide, iX1_perform_X1, by decide +kernel⟩
theorem fX1_perform_31 : km_f wsX1_perform RX1 31 1 8 := ⟨RX1, TX1, 9, rfl, by decide, iX1_perform_X1, by decide +kernel⟩
theorem vX1_perform_105 : km_cV wsX1_perform RX1 105 5 yX5_addTell wsX5_addTell 3 2 := ⟨gX1_perform_X5_addTell, ⟨_, _, _, rfl⟩, ⟨by decide +kernel, by decide +kernel, by decide +kernel⟩, TX5, 13, rfl⟩
theorem vX1_perform_108 : km_cV wsX1_perform RX1 108 1 yX1_ask wsX1_ask 5 4 := ⟨gX1_perform_X1_ask, ⟨_, _, _, rfl⟩, ⟨by decide +kernel, by decide +kernel, by decide +kernel⟩, TX1, 9, rfl⟩
theorem vX1_perform_58 : km_cV wsX1_perform RX1 58 1 yX1_giveBack wsX1_giveBack 2 1 := ⟨gX1_perform_X1_giveBack, ⟨_, _, _, rfl⟩, ⟨by decide +kernel, by decide +kernel, by decide +kernel⟩, TX1, 9, rfl⟩
theorem vX1_perform_73 : km_cV wsX1_perform RX1 73 1 yX1_stop wsX1_stop 4 3 := ⟨gX1_perform_X1_stop, ⟨_, _, _, rfl⟩, ⟨by decide +kernel, by decide +kernel, by decide +kernel⟩, TX1, 9, rfl⟩
theorem vX1_perform_112 : km_cV wsX1_perform RX1 112 1 yX1_calculate wsX1_calculate 5 4 := ⟨gX1_perform_X1_calculate, ⟨_, _, _, rfl⟩, ⟨by decide +kernel, by decide +kernel, by decide +kernel⟩, TX1, 9, rfl⟩
abbrev rmX1_calculate : Room := { frames := 2, cells := 0, slots := 0, locals := 46 }
theorem vX1_calculate_73 : km_cV wsX1_calculate RX1 73 1 yX1_stop wsX1_stop 4 3 := ⟨gX1_calculate_X1_stop, ⟨_, _, _, rfl⟩, ⟨by decide +kernel, by decide +kernel, by decide +kernel⟩, TX1, 9, rfl⟩
theorem vX1_calculate_115 : km_cS wsX1_calculate RX1 115 yX1_result wsX1_result 3 3 := ⟨gX1_calculate_X1_result, ⟨_, _, _, rfl⟩, ⟨by decide +kernel, by decide +kernel, by decide +kernel⟩⟩
theorem iX1_calculate_X1 : ∀ w ∈ wsX10, w ∈ wsX1_calculate := fun _ h => List.mem_cons_of_mem _ (List.mem_append_left _ (List.mem_append_right _ h))
theorem fX1_calculate_39 : km_f wsX1_calculate RX1 39 1 1 := ⟨RX1, TX1, 9, rfl, by decide, iX1_calculate_X1, by decide +kernel⟩
theorem vX1_calculate_97 : km_cV wsX1_calculate RX1 97 1 yX1_put wsX1_put 3 2 := ⟨gX1_calculate_X1_put, ⟨_, _, _, rfl⟩, ⟨by decide +kernel, by decide +kernel, by decide +kernel⟩, TX1, 9, rfl⟩
abbrev rmX1_result : Room := { frames := 0, cells := 0, slots := 0, locals := 0 }
abbrev rmX1_ask : Room := { frames := 3, cells := 0, slots := 0, locals := 71 }
theorem iX1_ask_X1 : ∀ w ∈ wsX10, w ∈ wsX1_ask := fun _ h => List.mem_cons_of_mem _ (List.mem_append_left _ (List.mem_append_left _ (List.mem_append_right _ h)))
theorem fX1_ask_35 : km_f wsX1_ask RX1 35 1 7 := ⟨RX1, TX1, 9, rfl, by decide, iX1_ask_X1, by decide +kernel⟩
theorem vX1_ask_119 : km_cV wsX1_ask RX1 119 0 yX0_has wsX0_has 2 1 := ⟨gX1_ask_X0_has, ⟨_, _, _, rfl⟩, ⟨by decide +kernel, by decide +kernel, by decide +kernel⟩, TX0, 6, rfl⟩
theorem fX1_ask_39 : km_f wsX1_ask RX1 39 1 1 := ⟨RX1, TX1, 9, rfl, by decide, iX1_ask_X1, by decide +kernel⟩
theorem vX1_ask_73 : km_cV wsX1_ask RX1 73 1 yX1_stop wsX1_stop 4 3 := ⟨gX1_ask_X1_stop, ⟨_, _, _, rfl⟩, ⟨by decide +kernel, by decide +kernel, by decide +kernel⟩, TX1, 9, rfl⟩
theorem fX1_ask_42 : km_f wsX1_ask RX1 42 1 6 := ⟨RX1, TX1, 9, rfl, by decide, iX1_ask_X1, by decide +kernel⟩
theorem vX1_ask_122 : km_cV wsX1_ask RX1 122 1 yX1_answer wsX1_answer 6 4 := ⟨gX1_ask_X1_answer, ⟨_, _, _, rfl⟩, ⟨by decide +kernel, by decide +kernel, by decide +kernel⟩, TX1, 9, rfl⟩
theorem fX1_ask_31 : km_f wsX1_ask RX1 31 1 8 := ⟨RX1, TX1, 9, rfl, by decide, iX1_ask_X1, by decide +kernel⟩
theorem vX1_ask_49 : km_cV wsX1_ask RX1 49 1 yX1_enter wsX1_enter 6 3 := ⟨gX1_ask_X1_enter, ⟨_, _, _, rfl⟩, ⟨by decide +kernel, by decide +kernel, by decide +kernel⟩, TX1, 9, rfl⟩
abbrev rmX1_answer : Room := { frames := 2, cells := 0, slots := 0, locals := 46 }
theorem iX1_answer_X1 : ∀ w ∈ wsX10, w ∈ wsX1_answer := fun _ h => List.mem_cons_of_mem _ (List.mem_append_left _ (List.mem_append_right _ h))
theorem fX1_answer_12 : km_f wsX1_answer RX1 12 1 0 := ⟨RX1, TX1, 9, rfl, by decide, iX1_answer_X1, by decide +kernel⟩
theorem iX1_answer_X5 : ∀ w ∈ wsX50, w ∈ wsX1_answer := fun _ h => List.mem_cons_of_mem _ (List.mem_append_right _ h)
theorem fX1_answer_125 : km_f wsX1_answer RX1 125 5 8 := ⟨RX5, TX5, 13, rfl, by decide, iX1_answer_X5, by decide +kernel⟩
theorem vX1_answer_73 : km_cV wsX1_answer RX1 73 1 yX1_stop wsX1_stop 4 3 := ⟨gX1_answer_X1_stop, ⟨_, _, _, rfl⟩, ⟨by decide +kernel, by decide +kernel, by decide +kernel⟩, TX1, 9, rfl⟩
theorem fX1_answer_28 : km_f wsX1_answer RX1 28 1 5 := ⟨RX1, TX1, 9, rfl, by decide, iX1_answer_X1, by decide +kernel⟩
theorem vX1_answer_128 : km_cV wsX1_answer RX1 128 5 yX5_addCalling wsX5_addCalling 4 3 := ⟨gX1_answer_X5_addCalling, ⟨_, _, _, rfl⟩, ⟨by decide +kernel, by decide +kernel, by decide +kernel⟩, TX5, 13, rfl⟩
theorem fX1_answer_39 : km_f wsX1_answer RX1 39 1 1 := ⟨RX1, TX1, 9, rfl, by decide, iX1_answer_X1, by decide +kernel⟩
theorem vX1_answer_97 : km_cV wsX1_answer RX1 97 1 yX1_put wsX1_put 3 2 := ⟨gX1_answer_X1_put, ⟨_, _, _, rfl⟩, ⟨by decide +kernel, by decide +kernel, by decide +kernel⟩, TX1, 9, rfl⟩
abbrev rmX1_enter : Room := { frames := 0, cells := 0, slots := 0, locals := 0 }
theorem iX1_enter_X1 : ∀ w ∈ wsX10, w ∈ wsX1_enter := fun _ h => List.mem_cons_of_mem _ (List.mem_append_left _ (List.mem_append_right _ h))
theorem fX1_enter_31 : km_f wsX1_enter RX1 31 1 8 := ⟨RX1, TX1, 9, rfl, by decide, iX1_enter_X1, by decide +kernel⟩
theorem fX1_enter_18 : km_f wsX1_enter RX1 18 1 2 := ⟨RX1, TX1, 9, rfl, by decide, iX1_enter_X1, by decide +kernel⟩
theorem fX1_enter_22 : km_f wsX1_enter RX1 22 1 3 := ⟨RX1, TX1, 9, rfl, by decide, iX1_enter_X1, by decide +kernel⟩
theorem fX1_enter_25 : km_f wsX1_enter RX1 25 1 4 := ⟨RX1, TX1, 9, rfl, by decide, iX1_enter_X1, by decide +kernel⟩
theorem pX1_enter_31 : km_p wsX1_enter RX1 31 1 8 .int false := ⟨RX1, TX1, 9, rfl, by decide, iX1_enter_X1, by decide +kernel, ⟨tyX1, tyX1_ok⟩, nmX1, by decide +kernel, rfl, fun h => by cases h⟩
theorem fX1_enter_12 : km_f wsX1_enter RX1 12 1 0 := ⟨RX1, TX1, 9, rfl, by decide, iX1_enter_X1, by decide +kernel⟩
theorem iX1_enter_X5 : ∀ w ∈ wsX50, w ∈ wsX1_enter := fun _ h => List.mem_cons_of_mem _ (List.mem_append_right _ h)
theorem fX1_enter_131 : km_f wsX1_enter RX1 131 5 4 := ⟨RX5, TX5, 13, rfl, by decide, iX1_enter_X5, by decide +kernel⟩
theorem pX1_enter_131 : km_p wsX1_enter RX1 131 5 4 .int false := ⟨RX5, TX5, 13, rfl, by decide, iX1_enter_X5, by decide +kernel, ⟨tyX5, tyX5_ok⟩, nmX5, by decide +kernel, rfl, fun h => by cases h⟩
abbrev rmX1_giveBack : Room := { frames := 2, cells := 0, slots := 0, locals := 42 }
theorem iX1_giveBack_X1 : ∀ w ∈ wsX10, w ∈ wsX1_giveBack := fun _ h => List.mem_cons_of_mem _ (List.mem_append_left _ (List.mem_append_left _ (List.mem_append_right _ h)))
theorem fX1_giveBack_31 : km_f wsX1_giveBack RX1 31 1 8 := ⟨RX1, TX1, 9, rfl, by decide, iX1_giveBack_X1, by decide +kernel⟩
theorem pX1_giveBack_31 : km_p wsX1_giveBack RX1 31 1 8 .int false := ⟨RX1, TX1, 9, rfl, by decide, iX1_giveBack_X1, by decide +kernel, ⟨tyX1, tyX1_ok⟩, nmX1, by decide +kernel, rfl, fun h => by cases h⟩
theorem fX1_giveBack_12 : km_f wsX1_giveBack RX1 12 1 0 := ⟨RX1, TX1, 9, rfl, by decide, iX1_giveBack_X1, by decide +kernel⟩
theorem vX1_giveBack_134 : km_cV wsX1_giveBack RX1 134 5 yX5_finish wsX5_finish 4 3 := ⟨gX1_giveBack_X5_finish, ⟨_, _, _, rfl⟩, ⟨by decide +kernel, by decide +kernel, by decide +kernel⟩, TX5, 13, rfl⟩
theorem fX1_giveBack_35 : km_f wsX1_giveBack RX1 35 1 7 := ⟨RX1, TX1, 9, rfl, by decide, iX1_giveBack_X1, by decide +kernel⟩
theorem iX1_giveBack_X0 : ∀ w ∈ wsX00, w ∈ wsX1_giveBack := fun _ h => List.mem_cons_of_mem _ (List.mem_append_left _ (List.mem_append_right _ h))
theorem fX1_giveBack_88 : km_f wsX1_giveBack RX1 88 0 3 := ⟨RX0, TX0, 6, rfl, by decide, iX1_giveBack_X0, by decide +kernel⟩
theorem vX1_giveBack_65 : km_cV wsX1_giveBack RX1 65 1 yX1_placeOfTop wsX1_placeOfTop 1 0 := ⟨gX1_giveBack_X1_placeOfTop, ⟨_, _, _, rfl⟩, ⟨by decide +kernel, by decide +kernel, by decide +kernel⟩, TX1, 9, rfl⟩
theorem vX1_giveBack_97 : km_cV wsX1_giveBack RX1 97 1 yX1_put wsX1_put 3 2 := ⟨gX1_giveBack_X1_put, ⟨_, _, _, rfl⟩, ⟨by decide +kernel, by decide +kernel, by decide +kernel⟩, TX1, 9, rfl⟩
abbrev rmX1_stop : Room := { frames := 1, cells := 0, slots := 0, locals := 23 }
theorem iX1_stop_X1 : ∀ w ∈ wsX10, w ∈ wsX1_stop := fun _ h => List.mem_cons_of_mem _ (List.mem_append_left _ (List.mem_append_right _ h))
theorem pX1_stop_31 : km_p wsX1_stop RX1 31 1 8 .int false := ⟨RX1, TX1, 9, rfl, by decide, iX1_stop_X1, by decide +kernel, ⟨tyX1, tyX1_ok⟩, nmX1, by decide +kernel, rfl, fun h => by cases h⟩
theorem fX1_stop_12 : km_f wsX1_stop RX1 12 1 0 := ⟨RX1, TX1, 9, rfl, by decide, iX1_stop_X1, by decide +kernel⟩
theorem vX1_stop_134 : km_cV wsX1_stop RX1 134 5 yX5_finish wsX5_finish 4 3 := ⟨gX1_stop_X5_finish, ⟨_, _, _, rfl⟩, ⟨by decide +kernel, by decide +kernel, by decide +kernel⟩, TX5, 13, rfl⟩
abbrev rmX1_get : Room := { frames := 0, cells := 0, slots := 0, locals := 0 }
theorem iX1_get_X1 : ∀ w ∈ wsX10, w ∈ wsX1_get := fun _ h => List.mem_cons_of_mem _ (List.mem_append_right _ h)
theorem fX1_get_18 : km_f wsX1_get RX1 18 1 2 := ⟨RX1, TX1, 9, rfl, by decide, iX1_get_X1, by decide +kernel⟩
theorem fX1_get_31 : km_f wsX1_get RX1 31 1 8 := ⟨RX1, TX1, 9, rfl, by decide, iX1_get_X1, by decide +kernel⟩
abbrev rmX1_put : Room := { frames := 0, cells := 0, slots := 0, locals := 0 }
theorem iX1_put_X1 : ∀ w ∈ wsX10, w ∈ wsX1_put := fun _ h => List.mem_cons_of_mem _ (List.mem_append_right _ h)
theorem fX1_put_18 : km_f wsX1_put RX1 18 1 2 := ⟨RX1, TX1, 9, rfl, by decide, iX1_put_X1, by decide +kernel⟩
theorem fX1_put_31 : km_f wsX1_put RX1 31 1 8 := ⟨RX1, TX1, 9, rfl, by decide, iX1_put_X1, by decide +kernel⟩
theorem fX1_put_22 : km_f wsX1_put RX1 22 1 3 := ⟨RX1, TX1, 9, rfl, by decide, iX1_put_X1, by decide +kernel⟩
abbrev rmX2_has : Room := { frames := 0, cells := 0, slots := 0, locals := 0 }
theorem iX2_has_X2 : ∀ w ∈ wsX20, w ∈ wsX2_has := fun _ h => List.mem_cons_of_mem _ (List.mem_append_right _ h)
theorem fX2_has_9 : km_f wsX2_has RX2 9 2 0 := ⟨RX2, TX2, 3, rfl, by decide, iX2_has_X2, by decide +kernel⟩
theorem fX2_has_15 : km_f wsX2_has RX2 15 2 1 := ⟨RX2, TX2, 3, rfl, by decide, iX2_has_X2, by decide +kernel⟩
theorem fX2_has_19 : km_f wsX2_has RX2 19 2 2 := ⟨RX2, TX2, 3, rfl, by decide, iX2_has_X2, by decide +kernel⟩
abbrev rmX2_add : Room := { frames := 0, cells := 0, slots := 0, locals := 0 }
theorem iX2_add_X2 : ∀ w ∈ wsX20, w ∈ wsX2_add := fun _ h => List.mem_cons_of_mem _ (List.mem_append_right _ h)
theorem fX2_add_15 : km_f wsX2_add RX2 15 2 1 := ⟨RX2, TX2, 3, rfl, by decide, iX2_add_X2, by decide +kernel⟩
theorem fX2_add_9 : km_f wsX2_add RX2 9 2 0 := ⟨RX2, TX2, 3, rfl, by decide, iX2_add_X2, by decide +kernel⟩
theorem fX2_add_19 : km_f wsX2_add RX2 19 2 2 := ⟨RX2, TX2, 3, rfl, by decide, iX2_add_X2, by decide +kernel⟩
theorem pX2_add_9 : km_p wsX2_add RX2 9 2 0 .int false := ⟨RX2, TX2, 3, rfl, by decide, iX2_add_X2, by decide +kernel, ⟨tyX2, tyX2_ok⟩, nmX2, by decide +kernel, rfl, fun h => by cases h⟩
abbrev rmX3_swapIn : Room := { frames := 1, cells := 0, slots := 0, locals := 22 }
theorem iX3_swapIn_X3 : ∀ w ∈ wsX30, w ∈ wsX3_swapIn := fun _ h => List.mem_cons_of_mem _ (List.mem_append_right _ h)
theorem fX3_swapIn_9 : km_f wsX3_swapIn RX3 9 3 0 := ⟨RX3, TX3, 3, rfl, by decide, iX3_swapIn_X3, by decide +kernel⟩
theorem fX3_swapIn_18 : km_f wsX3_swapIn RX3 18 3 2 := ⟨RX3, TX3, 3, rfl, by decide, iX3_swapIn_X3, by decide +kernel⟩
theorem vX3_swapIn_21 : km_cV wsX3_swapIn RX3 21 3 yX3_name wsX3_name 3 2 := ⟨gX3_swapIn_X3_name, ⟨_, _, _, rfl⟩, ⟨by decide +kernel, by decide +kernel, by decide +kernel⟩, TX3, 3, rfl⟩
abbrev rmX3_takeNames : Room := { frames := 1, cells := 0, slots := 0, locals := 22 }
theorem vX3_takeNames_21 : km_cV wsX3_takeNames RX3 21 3 yX3_name wsX3_name 3 2 := ⟨gX3_takeNames_X3_name, ⟨_, _, _, rfl⟩, ⟨by decide +kernel, by decide +kernel, by decide +kernel⟩, TX3, 3, rfl⟩
abbrev rmX3_takeGroups : Room := { frames := 1, cells := 0, slots := 0, locals := 30 }
theorem iX3_takeGroups_X3 : ∀ w ∈ wsX30, w ∈ wsX3_takeGroups := fun _ h => List.mem_cons_of_mem _ (List.mem_append_right _ h)
theorem fX3_takeGroups_15 : km_f wsX3_takeGroups RX3 15 3 1 := ⟨RX3, TX3, 3, rfl, by decide, iX3_takeGroups_X3, by decide +kernel⟩
abbrev rmX3_name : Room := { frames := 0, cells := 0, slots := 0, locals := 0 }
theorem iX3_name_X3 : ∀ w ∈ wsX30, w ∈ wsX3_name := fun _ h => List.mem_cons_of_mem _ (List.mem_append_right _ h)
theorem fX3_name_9 : km_f wsX3_name RX3 9 3 0 := ⟨RX3, TX3, 3, rfl, by decide, iX3_name_X3, by decide +kernel⟩
theorem fX3_name_18 : km_f wsX3_name RX3 18 3 2 := ⟨RX3, TX3, 3, rfl, by decide, iX3_name_X3, by decide +kernel⟩
abbrev rmX3_alike : Room := { frames := 2, cells := 0, slots := 0, locals := 53 }
theorem vX3_alike_31 : km_cV wsX3_alike RX3 31 3 yX3_alikeIn wsX3_alikeIn 9 5 := ⟨gX3_alike_X3_alikeIn, ⟨_, _, _, rfl⟩, ⟨by decide +kernel, by decide +kernel, by decide +kernel⟩, TX3, 3, rfl⟩
abbrev rmX3_alikeIn : Room := { frames := 1, cells := 0, slots := 0, locals := 25 }
theorem iX3_alikeIn_X5 : ∀ w ∈ wsX50, w ∈ wsX3_alikeIn := fun _ h => List.mem_cons_of_mem _ (List.mem_append_left _ (List.mem_append_right _ h))
theorem fX3_alikeIn_35 : km_f wsX3_alikeIn RX3 35 5 6 := ⟨RX5, TX5, 13, rfl, by decide, iX3_alikeIn_X5, by decide +kernel⟩
theorem iX3_alikeIn_X3 : ∀ w ∈ wsX30, w ∈ wsX3_alikeIn := fun _ h => List.mem_cons_of_mem _ (List.mem_append_right _ h)
theorem fX3_alikeIn_15 : km_f wsX3_alikeIn RX3 15 3 1 := ⟨RX3, TX3, 3, rfl, by decide, iX3_alikeIn_X3, by decide +kernel⟩
theorem vX3_alikeIn_40 : km_cV wsX3_alikeIn RX3 40 3 yX3_nextIn wsX3_nextIn 6 4 := ⟨gX3_alikeIn_X3_nextIn, ⟨_, _, _, rfl⟩, ⟨by decide +kernel, by decide +kernel, by decide +kernel⟩, TX3, 3, rfl⟩
theorem fX3_alikeIn_18 : km_f wsX3_alikeIn RX3 18 3 2 := ⟨RX3, TX3, 3, rfl, by decide, iX3_alikeIn_X3, by decide +kernel⟩
theorem fX3_alikeIn_44 : km_f wsX3_alikeIn RX3 44 5 7 := ⟨RX5, TX5, 13, rfl, by decide, iX3_alikeIn_X5, by decide +kernel⟩
abbrev rmX3_nextIn : Room := { frames := 0, cells := 0, slots := 0, locals := 0 }
theorem iX3_nextIn_X3 : ∀ w ∈ wsX30, w ∈ wsX3_nextIn := fun _ h => List.mem_cons_of_mem _ (List.mem_append_left _ (List.mem_append_right _ h))
theorem fX3_nextIn_15 : km_f wsX3_nextIn RX3 15 3 1 := ⟨RX3, TX3, 3, rfl, by decide, iX3_nextIn_X3, by decide +kernel⟩
theorem fX3_nextIn_18 : km_f wsX3_nextIn RX3 18 3 2 := ⟨RX3, TX3, 3, rfl, by decide, iX3_nextIn_X3, by decide +kernel⟩
theorem iX3_nextIn_X5 : ∀ w ∈ wsX50, w ∈ wsX3_nextIn := fun _ h => List.mem_cons_of_mem _ (List.mem_append_right _ h)
theorem fX3_nextIn_35 : km_f wsX3_nextIn RX3 35 5 6 := ⟨RX5, TX5, 13, rfl, by decide, iX3_nextIn_X5, by decide +kernel⟩
abbrev rmX4_begin : Room := { frames := 1, cells := 0, slots := 0, locals := 26 }
theorem vX4_begin_19 : km_cV wsX4_begin RX4 19 4 yX4_keep wsX4_keep 7 6 := ⟨gX4_begin_X4_keep, ⟨_, _, _, rfl⟩, ⟨by decide +kernel, by decide +kernel, by decide +kernel⟩, TX4, 2, rfl⟩
abbrev rmX4_yieldsTo : Room := { frames := 0, cells := 0, slots := 0, locals := 0 }
theorem iX4_yieldsTo_X4 : ∀ w ∈ wsX40, w ∈ wsX4_yieldsTo := fun _ h => List.mem_cons_of_mem _ (List.mem_append_right _ h)
theorem fX4_yieldsTo_9 : km_f wsX4_yieldsTo RX4 9 4 0 := ⟨RX4, TX4, 2, rfl, by decide, iX4_yieldsTo_X4, by decide +kernel⟩
abbrev rmX4_keep : Room := { frames := 0, cells := 0, slots := 0, locals := 0 }
theorem iX4_keep_X4 : ∀ w ∈ wsX40, w ∈ wsX4_keep := fun _ h => List.mem_cons_of_mem _ (List.mem_append_right _ h)
theorem pX4_keep_9 : km_p wsX4_keep RX4 9 4 0 .int false := ⟨RX4, TX4, 2, rfl, by decide, iX4_keep_X4, by decide +kernel, ⟨tyX4, tyX4_ok⟩, nmX4, by decide +kernel, rfl, fun h => by cases h⟩
theorem fX4_keep_15 : km_f wsX4_keep RX4 15 4 1 := ⟨RX4, TX4, 2, rfl, by decide, iX4_keep_X4, by decide +kernel⟩
abbrev rmX5_forget : Room := { frames := 1, cells := 0, slots := 0, locals := 23 }
theorem vX5_forget_52 : km_cV wsX5_forget RX5 52 5 yX5_finish wsX5_finish 4 3 := ⟨gX5_forget_X5_finish, ⟨_, _, _, rfl⟩, ⟨by decide +kernel, by decide +kernel, by decide +kernel⟩, TX5, 13, rfl⟩
theorem iX5_forget_X5 : ∀ w ∈ wsX50, w ∈ wsX5_forget := fun _ h => List.mem_cons_of_mem _ (List.mem_append_right _ h)
theorem pX5_forget_21 : km_p wsX5_forget RX5 21 5 3 .int false := ⟨RX5, TX5, 13, rfl, by decide, iX5_forget_X5, by decide +kernel, ⟨tyX5, tyX5_ok⟩, nmX5, by decide +kernel, rfl, fun h => by cases h⟩
theorem pX5_forget_24 : km_p wsX5_forget RX5 24 5 4 .int false := ⟨RX5, TX5, 13, rfl, by decide, iX5_forget_X5, by decide +kernel, ⟨tyX5, tyX5_ok⟩, nmX5, by decide +kernel, rfl, fun h => by cases h⟩
theorem pX5_forget_27 : km_p wsX5_forget RX5 27 5 5 .int false := ⟨RX5, TX5, 13, rfl, by decide, iX5_forget_X5, by decide +kernel, ⟨tyX5, tyX5_ok⟩, nmX5, by decide +kernel, rfl, fun h => by cases h⟩
theorem pX5_forget_37 : km_p wsX5_forget RX5 37 5 8 .int false := ⟨RX5, TX5, 13, rfl, by decide, iX5_forget_X5, by decide +kernel, ⟨tyX5, tyX5_ok⟩, nmX5, by decide +kernel, rfl, fun h => by cases h⟩
abbrev rmX5_finish : Room := { frames := 0, cells := 0, slots := 0, locals := 0 }
theorem iX5_finish_X5 : ∀ w ∈ wsX50, w ∈ wsX5_finish := fun _ h => List.mem_cons_of_mem _ (List.mem_append_right _ h)
theorem pX5_finish_9 : km_p wsX5_finish RX5 9 5 0 .int false := ⟨RX5, TX5, 13, rfl, by decide, iX5_finish_X5, by decide +kernel, ⟨tyX5, tyX5_ok⟩, nmX5, by decide +kernel, rfl, fun h => by cases h⟩
theorem pX5_finish_15 : km_p wsX5_finish RX5 15 5 1 .int false := ⟨RX5, TX5, 13, rfl, by decide, iX5_finish_X5, by decide +kernel, ⟨tyX5, tyX5_ok⟩, nmX5, by decide +kernel, rfl, fun h => by cases h⟩
theorem pX5_finish_18 : km_p wsX5_finish RX5 18 5 2 .int false := ⟨RX5, TX5, 13, rfl, by decide, iX5_finish_X5, by decide +kernel, ⟨tyX5, tyX5_ok⟩, nmX5, by decide +kernel, rfl, fun h => by cases h⟩
abbrev rmX5_addTell : Room := { frames := 0, cells := 0, slots := 0, locals := 0 }
theorem iX5_addTell_X5 : ∀ w ∈ wsX50, w ∈ wsX5_addTell := fun _ h => List.mem_cons_of_mem _ (List.mem_append_right _ h)
theorem fX5_addTell_30 : km_f wsX5_addTell RX5 30 5 6 := ⟨RX5, TX5, 13, rfl, by decide, iX5_addTell_X5, by decide +kernel⟩
theorem fX5_addTell_27 : km_f wsX5_addTell RX5 27 5 5 := ⟨RX5, TX5, 13, rfl, by decide, iX5_addTell_X5, by decide +kernel⟩
theorem fX5_addTell_34 : km_f wsX5_addTell RX5 34 5 7 := ⟨RX5, TX5, 13, rfl, by decide, iX5_addTell_X5, by decide +kernel⟩
theorem pX5_addTell_27 : km_p wsX5_addTell RX5 27 5 5 .int false := ⟨RX5, TX5, 13, rfl, by decide, iX5_addTell_X5, by decide +kernel, ⟨tyX5, tyX5_ok⟩, nmX5, by decide +kernel, rfl, fun h => by cases h⟩
abbrev rmX5_addCalling : Room := { frames := 0, cells := 0, slots := 0, locals := 0 }
theorem iX5_addCalling_X5 : ∀ w ∈ wsX50, w ∈ wsX5_addCalling := fun _ h => List.mem_cons_of_mem _ (List.mem_append_right _ h)
theorem fX5_addCalling_40 : km_f wsX5_addCalling RX5 40 5 9 := ⟨RX5, TX5, 13, rfl, by decide, iX5_addCalling_X5, by decide +kernel⟩
theorem fX5_addCalling_37 : km_f wsX5_addCalling RX5 37 5 8 := ⟨RX5, TX5, 13, rfl, by decide, iX5_addCalling_X5, by decide +kernel⟩
theorem fX5_addCalling_43 : km_f wsX5_addCalling RX5 43 5 10 := ⟨RX5, TX5, 13, rfl, by decide, iX5_addCalling_X5, by decide +kernel⟩
theorem fX5_addCalling_46 : km_f wsX5_addCalling RX5 46 5 11 := ⟨RX5, TX5, 13, rfl, by decide, iX5_addCalling_X5, by decide +kernel⟩
theorem fX5_addCalling_49 : km_f wsX5_addCalling RX5 49 5 12 := ⟨RX5, TX5, 13, rfl, by decide, iX5_addCalling_X5, by decide +kernel⟩
theorem fX5_addCalling_27 : km_f wsX5_addCalling RX5 27 5 5 := ⟨RX5, TX5, 13, rfl, by decide, iX5_addCalling_X5, by decide +kernel⟩
theorem pX5_addCalling_37 : km_p wsX5_addCalling RX5 37 5 8 .int false := ⟨RX5, TX5, 13, rfl, by decide, iX5_addCalling_X5, by decide +kernel, ⟨tyX5, tyX5_ok⟩, nmX5, by decide +kernel, rfl, fun h => by cases h⟩
abbrev rmX5_endsLike : Room := { frames := 0, cells := 0, slots := 0, locals := 0 }
theorem iX5_endsLike_X5 : ∀ w ∈ wsX50, w ∈ wsX5_endsLike := fun _ h => List.mem_cons_of_mem _ (List.mem_append_right _ h)
theorem fX5_endsLike_15 : km_f wsX5_endsLike RX5 15 5 1 := ⟨RX5, TX5, 13, rfl, by decide, iX5_endsLike_X5, by decide +kernel⟩
theorem fX5_endsLike_18 : km_f wsX5_endsLike RX5 18 5 2 := ⟨RX5, TX5, 13, rfl, by decide, iX5_endsLike_X5, by decide +kernel⟩
abbrev rmX5_sameCalling : Room := { frames := 0, cells := 0, slots := 0, locals := 0 }
theorem iX5_sameCalling_X5 : ∀ w ∈ wsX50, w ∈ wsX5_sameCalling := fun _ h => List.mem_cons_of_mem _ (List.mem_append_right _ h)
theorem fX5_sameCalling_43 : km_f wsX5_sameCalling RX5 43 5 10 := ⟨RX5, TX5, 13, rfl, by decide, iX5_sameCalling_X5, by decide +kernel⟩
theorem fX5_sameCalling_46 : km_f wsX5_sameCalling RX5 46 5 11 := ⟨RX5, TX5, 13, rfl, by decide, iX5_sameCalling_X5, by decide +kernel⟩
theorem fX5_sameCalling_49 : km_f wsX5_sameCalling RX5 49 5 12 := ⟨RX5, TX5, 13, rfl, by decide, iX5_sameCalling_X5, by decide +kernel⟩
abbrev rmJ6_numberOfTrailingZeros_0f7a4 : Room := { frames := 0, cells := 0, slots := 0, locals := 0 }
theorem lJ6_numberOfTrailingZeros_0f7a4 : Jvm.Cond.constant RJ6 264 65536 ∈ wsJ6_numberOfTrailingZeros_0f7a4 := by decide +kernel
