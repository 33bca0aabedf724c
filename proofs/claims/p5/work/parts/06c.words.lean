abbrev rmX7_in : Room := { frames := 0, cells := 0, slots := 0, locals := 0 }
abbrev rmX7_isMethod : Room := { frames := 1, cells := 0, slots := 0, locals := 22 }
theorem vX7_isMethod_110 : km_cS wsX7_isMethod RX7 110 yX7_in wsX7_in 3 3 := ⟨gX7_isMethod_X7_in, ⟨_, _, _, rfl⟩, ⟨by decide +kernel, by decide +kernel, by decide +kernel⟩⟩
theorem iX7_isMethod_X7 : ∀ w ∈ wsX70, w ∈ wsX7_isMethod := fun _ h => List.mem_cons_of_mem _ (List.mem_append_right _ h)
theorem fX7_isMethod_7 : km_f wsX7_isMethod RX7 7 7 2 := ⟨RX7, TX7, 42, rfl, by decide, iX7_isMethod_X7, by decide +kernel⟩
abbrev rmX7_isNumber : Room := { frames := 1, cells := 0, slots := 0, locals := 22 }
theorem iX7_isNumber_X7 : ∀ w ∈ wsX70, w ∈ wsX7_isNumber := fun _ h => List.mem_cons_of_mem _ (List.mem_append_right _ h)
theorem fX7_isNumber_107 : km_f wsX7_isNumber RX7 107 7 1 := ⟨RX7, TX7, 42, rfl, by decide, iX7_isNumber_X7, by decide +kernel⟩
theorem vX7_isNumber_110 : km_cS wsX7_isNumber RX7 110 yX7_in wsX7_in 3 3 := ⟨gX7_isNumber_X7_in, ⟨_, _, _, rfl⟩, ⟨by decide +kernel, by decide +kernel, by decide +kernel⟩⟩
abbrev rmX7_method : Room := { frames := 1, cells := 0, slots := 0, locals := 22 }
theorem vX7_method_110 : km_cS wsX7_method RX7 110 yX7_in wsX7_in 3 3 := ⟨gX7_method_X7_in, ⟨_, _, _, rfl⟩, ⟨by decide +kernel, by decide +kernel, by decide +kernel⟩⟩
theorem iX7_method_X7 : ∀ w ∈ wsX70, w ∈ wsX7_method := fun _ h => List.mem_cons_of_mem _ (List.mem_append_right _ h)
theorem fX7_method_7 : km_f wsX7_method RX7 7 7 2 := ⟨RX7, TX7, 42, rfl, by decide, iX7_method_X7, by decide +kernel⟩
theorem fX7_method_13 : km_f wsX7_method RX7 13 7 3 := ⟨RX7, TX7, 42, rfl, by decide, iX7_method_X7, by decide +kernel⟩
abbrev rmX7_isRegister : Room := { frames := 1, cells := 0, slots := 0, locals := 22 }
theorem vX7_isRegister_110 : km_cS wsX7_isRegister RX7 110 yX7_in wsX7_in 3 3 := ⟨gX7_isRegister_X7_in, ⟨_, _, _, rfl⟩, ⟨by decide +kernel, by decide +kernel, by decide +kernel⟩⟩
abbrev rmX7_isRight : Room := { frames := 2, cells := 0, slots := 0, locals := 43 }
theorem vX7_isRight_114 : km_cS wsX7_isRight RX7 114 yX7_isRegister wsX7_isRegister 1 1 := ⟨gX7_isRight_X7_isRegister, ⟨_, _, _, rfl⟩, ⟨by decide +kernel, by decide +kernel, by decide +kernel⟩⟩
theorem vX7_isRight_118 : km_cV wsX7_isRight RX7 118 7 yX7_isNumber wsX7_isNumber 2 1 := ⟨gX7_isRight_X7_isNumber, ⟨_, _, _, rfl⟩, ⟨by decide +kernel, by decide +kernel, by decide +kernel⟩, TX7, 42, rfl⟩
theorem vX7_isRight_110 : km_cS wsX7_isRight RX7 110 yX7_in wsX7_in 3 3 := ⟨gX7_isRight_X7_in, ⟨_, _, _, rfl⟩, ⟨by decide +kernel, by decide +kernel, by decide +kernel⟩⟩
abbrev rmX7_op : Room := { frames := 3, cells := 0, slots := 0, locals := 67 }
theorem vX7_op_121 : km_cV wsX7_op RX7 121 7 yX7_isMethod wsX7_isMethod 3 2 := ⟨gX7_op_X7_isMethod, ⟨_, _, _, rfl⟩, ⟨by decide +kernel, by decide +kernel, by decide +kernel⟩, TX7, 42, rfl⟩
theorem vX7_op_125 : km_cV wsX7_op RX7 125 7 yX7_isRight wsX7_isRight 5 4 := ⟨gX7_op_X7_isRight, ⟨_, _, _, rfl⟩, ⟨by decide +kernel, by decide +kernel, by decide +kernel⟩, TX7, 42, rfl⟩
theorem iX7_op_X7 : ∀ w ∈ wsX70, w ∈ wsX7_op := fun _ h => List.mem_cons_of_mem _ (List.mem_append_right _ h)
theorem fX7_op_13 : km_f wsX7_op RX7 13 7 3 := ⟨RX7, TX7, 42, rfl, by decide, iX7_op_X7, by decide +kernel⟩
theorem fX7_op_16 : km_f wsX7_op RX7 16 7 4 := ⟨RX7, TX7, 42, rfl, by decide, iX7_op_X7, by decide +kernel⟩
theorem fX7_op_19 : km_f wsX7_op RX7 19 7 5 := ⟨RX7, TX7, 42, rfl, by decide, iX7_op_X7, by decide +kernel⟩
theorem fX7_op_22 : km_f wsX7_op RX7 22 7 6 := ⟨RX7, TX7, 42, rfl, by decide, iX7_op_X7, by decide +kernel⟩
theorem fX7_op_25 : km_f wsX7_op RX7 25 7 7 := ⟨RX7, TX7, 42, rfl, by decide, iX7_op_X7, by decide +kernel⟩
abbrev rmX7_clear : Room := { frames := 2, cells := 0, slots := 0, locals := 44 }
theorem vX7_clear_121 : km_cV wsX7_clear RX7 121 7 yX7_isMethod wsX7_isMethod 3 2 := ⟨gX7_clear_X7_isMethod, ⟨_, _, _, rfl⟩, ⟨by decide +kernel, by decide +kernel, by decide +kernel⟩, TX7, 42, rfl⟩
theorem iX7_clear_X7 : ∀ w ∈ wsX70, w ∈ wsX7_clear := fun _ h => List.mem_cons_of_mem _ (List.mem_append_right _ h)
theorem fX7_clear_13 : km_f wsX7_clear RX7 13 7 3 := ⟨RX7, TX7, 42, rfl, by decide, iX7_clear_X7, by decide +kernel⟩
abbrev rmX7_enter : Room := { frames := 0, cells := 0, slots := 0, locals := 0 }
theorem iX7_enter_X7 : ∀ w ∈ wsX70, w ∈ wsX7_enter := fun _ h => List.mem_cons_of_mem _ (List.mem_append_right _ h)
theorem fX7_enter_40 : km_f wsX7_enter RX7 40 7 14 := ⟨RX7, TX7, 42, rfl, by decide, iX7_enter_X7, by decide +kernel⟩
theorem fX7_enter_129 : km_f wsX7_enter RX7 129 7 13 := ⟨RX7, TX7, 42, rfl, by decide, iX7_enter_X7, by decide +kernel⟩
theorem fX7_enter_43 : km_f wsX7_enter RX7 43 7 15 := ⟨RX7, TX7, 42, rfl, by decide, iX7_enter_X7, by decide +kernel⟩
theorem fX7_enter_46 : km_f wsX7_enter RX7 46 7 16 := ⟨RX7, TX7, 42, rfl, by decide, iX7_enter_X7, by decide +kernel⟩
theorem fX7_enter_49 : km_f wsX7_enter RX7 49 7 17 := ⟨RX7, TX7, 42, rfl, by decide, iX7_enter_X7, by decide +kernel⟩
theorem pX7_enter_129 : km_p wsX7_enter RX7 129 7 13 .int false := ⟨RX7, TX7, 42, rfl, by decide, iX7_enter_X7, by decide +kernel, ⟨tyX7, tyX7_ok⟩, nmX7, by decide +kernel, rfl, fun h => by cases h⟩
theorem fX7_enter_64 : km_f wsX7_enter RX7 64 7 26 := ⟨RX7, TX7, 42, rfl, by decide, iX7_enter_X7, by decide +kernel⟩
theorem fX7_enter_132 : km_f wsX7_enter RX7 132 7 18 := ⟨RX7, TX7, 42, rfl, by decide, iX7_enter_X7, by decide +kernel⟩
abbrev rmX7_returns : Room := { frames := 0, cells := 0, slots := 0, locals := 0 }
theorem iX7_returns_X7 : ∀ w ∈ wsX70, w ∈ wsX7_returns := fun _ h => List.mem_cons_of_mem _ (List.mem_append_right _ h)
theorem fX7_returns_129 : km_f wsX7_returns RX7 129 7 13 := ⟨RX7, TX7, 42, rfl, by decide, iX7_returns_X7, by decide +kernel⟩
theorem pX7_returns_129 : km_p wsX7_returns RX7 129 7 13 .int false := ⟨RX7, TX7, 42, rfl, by decide, iX7_returns_X7, by decide +kernel, ⟨tyX7, tyX7_ok⟩, nmX7, by decide +kernel, rfl, fun h => by cases h⟩
theorem fX7_returns_52 : km_f wsX7_returns RX7 52 7 22 := ⟨RX7, TX7, 42, rfl, by decide, iX7_returns_X7, by decide +kernel⟩
theorem fX7_returns_132 : km_f wsX7_returns RX7 132 7 18 := ⟨RX7, TX7, 42, rfl, by decide, iX7_returns_X7, by decide +kernel⟩
theorem fX7_returns_58 : km_f wsX7_returns RX7 58 7 24 := ⟨RX7, TX7, 42, rfl, by decide, iX7_returns_X7, by decide +kernel⟩
theorem fX7_returns_49 : km_f wsX7_returns RX7 49 7 17 := ⟨RX7, TX7, 42, rfl, by decide, iX7_returns_X7, by decide +kernel⟩
theorem fX7_returns_46 : km_f wsX7_returns RX7 46 7 16 := ⟨RX7, TX7, 42, rfl, by decide, iX7_returns_X7, by decide +kernel⟩
abbrev rmX7_throwsOut : Room := { frames := 0, cells := 0, slots := 0, locals := 0 }
theorem iX7_throwsOut_X7 : ∀ w ∈ wsX70, w ∈ wsX7_throwsOut := fun _ h => List.mem_cons_of_mem _ (List.mem_append_right _ h)
theorem fX7_throwsOut_52 : km_f wsX7_throwsOut RX7 52 7 22 := ⟨RX7, TX7, 42, rfl, by decide, iX7_throwsOut_X7, by decide +kernel⟩
theorem fX7_throwsOut_132 : km_f wsX7_throwsOut RX7 132 7 18 := ⟨RX7, TX7, 42, rfl, by decide, iX7_throwsOut_X7, by decide +kernel⟩
theorem fX7_throwsOut_55 : km_f wsX7_throwsOut RX7 55 7 23 := ⟨RX7, TX7, 42, rfl, by decide, iX7_throwsOut_X7, by decide +kernel⟩
theorem fX7_throwsOut_58 : km_f wsX7_throwsOut RX7 58 7 24 := ⟨RX7, TX7, 42, rfl, by decide, iX7_throwsOut_X7, by decide +kernel⟩
abbrev rmX7_reckoned : Room := { frames := 0, cells := 0, slots := 0, locals := 0 }
abbrev rmX7_calls : Room := { frames := 1, cells := 0, slots := 0, locals := 25 }
theorem iX7_calls_X7 : ∀ w ∈ wsX70, w ∈ wsX7_calls := fun _ h => List.mem_cons_of_mem _ (List.mem_append_right _ h)
theorem fX7_calls_22 : km_f wsX7_calls RX7 22 7 6 := ⟨RX7, TX7, 42, rfl, by decide, iX7_calls_X7, by decide +kernel⟩
theorem fX7_calls_49 : km_f wsX7_calls RX7 49 7 17 := ⟨RX7, TX7, 42, rfl, by decide, iX7_calls_X7, by decide +kernel⟩
theorem fX7_calls_25 : km_f wsX7_calls RX7 25 7 7 := ⟨RX7, TX7, 42, rfl, by decide, iX7_calls_X7, by decide +kernel⟩
theorem fX7_calls_7 : km_f wsX7_calls RX7 7 7 2 := ⟨RX7, TX7, 42, rfl, by decide, iX7_calls_X7, by decide +kernel⟩
theorem vX7_calls_135 : km_cV wsX7_calls RX7 135 7 yX7_throwsOut wsX7_throwsOut 3 2 := ⟨gX7_calls_X7_throwsOut, ⟨_, _, _, rfl⟩, ⟨by decide +kernel, by decide +kernel, by decide +kernel⟩, TX7, 42, rfl⟩
theorem fX7_calls_139 : km_f wsX7_calls RX7 139 7 19 := ⟨RX7, TX7, 42, rfl, by decide, iX7_calls_X7, by decide +kernel⟩
theorem fX7_calls_129 : km_f wsX7_calls RX7 129 7 13 := ⟨RX7, TX7, 42, rfl, by decide, iX7_calls_X7, by decide +kernel⟩
theorem fX7_calls_52 : km_f wsX7_calls RX7 52 7 22 := ⟨RX7, TX7, 42, rfl, by decide, iX7_calls_X7, by decide +kernel⟩
theorem fX7_calls_132 : km_f wsX7_calls RX7 132 7 18 := ⟨RX7, TX7, 42, rfl, by decide, iX7_calls_X7, by decide +kernel⟩
theorem fX7_calls_19 : km_f wsX7_calls RX7 19 7 5 := ⟨RX7, TX7, 42, rfl, by decide, iX7_calls_X7, by decide +kernel⟩
theorem vX7_calls_143 : km_cV wsX7_calls RX7 143 7 yX7_enter wsX7_enter 6 4 := ⟨gX7_calls_X7_enter, ⟨_, _, _, rfl⟩, ⟨by decide +kernel, by decide +kernel, by decide +kernel⟩, TX7, 42, rfl⟩
theorem fX7_calls_79 : km_f wsX7_calls RX7 79 7 31 := ⟨RX7, TX7, 42, rfl, by decide, iX7_calls_X7, by decide +kernel⟩
theorem fX7_calls_82 : km_f wsX7_calls RX7 82 7 32 := ⟨RX7, TX7, 42, rfl, by decide, iX7_calls_X7, by decide +kernel⟩
theorem fX7_calls_85 : km_f wsX7_calls RX7 85 7 33 := ⟨RX7, TX7, 42, rfl, by decide, iX7_calls_X7, by decide +kernel⟩
theorem fX7_calls_88 : km_f wsX7_calls RX7 88 7 34 := ⟨RX7, TX7, 42, rfl, by decide, iX7_calls_X7, by decide +kernel⟩
theorem fX7_calls_147 : km_f wsX7_calls RX7 147 7 20 := ⟨RX7, TX7, 42, rfl, by decide, iX7_calls_X7, by decide +kernel⟩
theorem fX7_calls_150 : km_f wsX7_calls RX7 150 7 21 := ⟨RX7, TX7, 42, rfl, by decide, iX7_calls_X7, by decide +kernel⟩
theorem fX7_calls_107 : km_f wsX7_calls RX7 107 7 1 := ⟨RX7, TX7, 42, rfl, by decide, iX7_calls_X7, by decide +kernel⟩
abbrev rmX7_tell : Room := { frames := 0, cells := 0, slots := 0, locals := 0 }
theorem iX7_tell_X7 : ∀ w ∈ wsX70, w ∈ wsX7_tell := fun _ h => List.mem_cons_of_mem _ (List.mem_append_right _ h)
theorem fX7_tell_67 : km_f wsX7_tell RX7 67 7 27 := ⟨RX7, TX7, 42, rfl, by decide, iX7_tell_X7, by decide +kernel⟩
theorem fX7_tell_132 : km_f wsX7_tell RX7 132 7 18 := ⟨RX7, TX7, 42, rfl, by decide, iX7_tell_X7, by decide +kernel⟩
theorem fX7_tell_52 : km_f wsX7_tell RX7 52 7 22 := ⟨RX7, TX7, 42, rfl, by decide, iX7_tell_X7, by decide +kernel⟩
theorem fX7_tell_70 : km_f wsX7_tell RX7 70 7 28 := ⟨RX7, TX7, 42, rfl, by decide, iX7_tell_X7, by decide +kernel⟩
theorem fX7_tell_73 : km_f wsX7_tell RX7 73 7 29 := ⟨RX7, TX7, 42, rfl, by decide, iX7_tell_X7, by decide +kernel⟩
theorem fX7_tell_76 : km_f wsX7_tell RX7 76 7 30 := ⟨RX7, TX7, 42, rfl, by decide, iX7_tell_X7, by decide +kernel⟩
theorem fX7_tell_79 : km_f wsX7_tell RX7 79 7 31 := ⟨RX7, TX7, 42, rfl, by decide, iX7_tell_X7, by decide +kernel⟩
abbrev rmX7_act : Room := { frames := 2, cells := 0, slots := 0, locals := 53 }
theorem iX7_act_X7 : ∀ w ∈ wsX70, w ∈ wsX7_act := fun _ h => List.mem_cons_of_mem _ (List.mem_append_right _ h)
theorem fX7_act_16 : km_f wsX7_act RX7 16 7 4 := ⟨RX7, TX7, 42, rfl, by decide, iX7_act_X7, by decide +kernel⟩
theorem fX7_act_19 : km_f wsX7_act RX7 19 7 5 := ⟨RX7, TX7, 42, rfl, by decide, iX7_act_X7, by decide +kernel⟩
theorem fX7_act_22 : km_f wsX7_act RX7 22 7 6 := ⟨RX7, TX7, 42, rfl, by decide, iX7_act_X7, by decide +kernel⟩
theorem fX7_act_49 : km_f wsX7_act RX7 49 7 17 := ⟨RX7, TX7, 42, rfl, by decide, iX7_act_X7, by decide +kernel⟩
theorem fX7_act_43 : km_f wsX7_act RX7 43 7 15 := ⟨RX7, TX7, 42, rfl, by decide, iX7_act_X7, by decide +kernel⟩
theorem vX7_act_153 : km_cV wsX7_act RX7 153 7 yX7_tell wsX7_tell 4 2 := ⟨gX7_act_X7_tell, ⟨_, _, _, rfl⟩, ⟨by decide +kernel, by decide +kernel, by decide +kernel⟩, TX7, 42, rfl⟩
theorem vX7_act_156 : km_cV wsX7_act RX7 156 7 yX7_calls wsX7_calls 9 3 := ⟨gX7_act_X7_calls, ⟨_, _, _, rfl⟩, ⟨by decide +kernel, by decide +kernel, by decide +kernel⟩, TX7, 42, rfl⟩
theorem vX7_act_160 : km_cV wsX7_act RX7 160 7 yX7_returns wsX7_returns 2 1 := ⟨gX7_act_X7_returns, ⟨_, _, _, rfl⟩, ⟨by decide +kernel, by decide +kernel, by decide +kernel⟩, TX7, 42, rfl⟩
theorem vX7_act_135 : km_cV wsX7_act RX7 135 7 yX7_throwsOut wsX7_throwsOut 3 2 := ⟨gX7_act_X7_throwsOut, ⟨_, _, _, rfl⟩, ⟨by decide +kernel, by decide +kernel, by decide +kernel⟩, TX7, 42, rfl⟩
theorem fX7_act_25 : km_f wsX7_act RX7 25 7 7 := ⟨RX7, TX7, 42, rfl, by decide, iX7_act_X7, by decide +kernel⟩
theorem vX7_act_164 : km_cS wsX7_act RX7 164 yX7_reckoned wsX7_reckoned 3 3 := ⟨gX7_act_X7_reckoned, ⟨_, _, _, rfl⟩, ⟨by decide +kernel, by decide +kernel, by decide +kernel⟩⟩
theorem fX7_act_107 : km_f wsX7_act RX7 107 7 1 := ⟨RX7, TX7, 42, rfl, by decide, iX7_act_X7, by decide +kernel⟩
abbrev rmX7_play : Room := { frames := 3, cells := 0, slots := 0, locals := 82 }
theorem iX7_play_X7 : ∀ w ∈ wsX70, w ∈ wsX7_play := fun _ h => List.mem_cons_of_mem _ (List.mem_append_right _ h)
theorem pX7_play_132 : km_p wsX7_play RX7 132 7 18 .int false := ⟨RX7, TX7, 42, rfl, by decide, iX7_play_X7, by decide +kernel, ⟨tyX7, tyX7_ok⟩, nmX7, by decide +kernel, rfl, fun h => by cases h⟩
theorem pX7_play_129 : km_p wsX7_play RX7 129 7 13 .int false := ⟨RX7, TX7, 42, rfl, by decide, iX7_play_X7, by decide +kernel, ⟨tyX7, tyX7_ok⟩, nmX7, by decide +kernel, rfl, fun h => by cases h⟩
theorem fX7_play_52 : km_f wsX7_play RX7 52 7 22 := ⟨RX7, TX7, 42, rfl, by decide, iX7_play_X7, by decide +kernel⟩
theorem fX7_play_55 : km_f wsX7_play RX7 55 7 23 := ⟨RX7, TX7, 42, rfl, by decide, iX7_play_X7, by decide +kernel⟩
theorem fX7_play_58 : km_f wsX7_play RX7 58 7 24 := ⟨RX7, TX7, 42, rfl, by decide, iX7_play_X7, by decide +kernel⟩
theorem fX7_play_61 : km_f wsX7_play RX7 61 7 25 := ⟨RX7, TX7, 42, rfl, by decide, iX7_play_X7, by decide +kernel⟩
theorem fX7_play_64 : km_f wsX7_play RX7 64 7 26 := ⟨RX7, TX7, 42, rfl, by decide, iX7_play_X7, by decide +kernel⟩
theorem fX7_play_67 : km_f wsX7_play RX7 67 7 27 := ⟨RX7, TX7, 42, rfl, by decide, iX7_play_X7, by decide +kernel⟩
theorem fX7_play_79 : km_f wsX7_play RX7 79 7 31 := ⟨RX7, TX7, 42, rfl, by decide, iX7_play_X7, by decide +kernel⟩
theorem vX7_play_143 : km_cV wsX7_play RX7 143 7 yX7_enter wsX7_enter 6 4 := ⟨gX7_play_X7_enter, ⟨_, _, _, rfl⟩, ⟨by decide +kernel, by decide +kernel, by decide +kernel⟩, TX7, 42, rfl⟩
theorem fX7_play_129 : km_f wsX7_play RX7 129 7 13 := ⟨RX7, TX7, 42, rfl, by decide, iX7_play_X7, by decide +kernel⟩
theorem fX7_play_40 : km_f wsX7_play RX7 40 7 14 := ⟨RX7, TX7, 42, rfl, by decide, iX7_play_X7, by decide +kernel⟩
theorem fX7_play_43 : km_f wsX7_play RX7 43 7 15 := ⟨RX7, TX7, 42, rfl, by decide, iX7_play_X7, by decide +kernel⟩
theorem fX7_play_13 : km_f wsX7_play RX7 13 7 3 := ⟨RX7, TX7, 42, rfl, by decide, iX7_play_X7, by decide +kernel⟩
theorem vX7_play_160 : km_cV wsX7_play RX7 160 7 yX7_returns wsX7_returns 2 1 := ⟨gX7_play_X7_returns, ⟨_, _, _, rfl⟩, ⟨by decide +kernel, by decide +kernel, by decide +kernel⟩, TX7, 42, rfl⟩
theorem vX7_play_168 : km_cV wsX7_play RX7 168 7 yX7_act wsX7_act 10 3 := ⟨gX7_play_X7_act, ⟨_, _, _, rfl⟩, ⟨by decide +kernel, by decide +kernel, by decide +kernel⟩, TX7, 42, rfl⟩
abbrev rmX7_run : Room := { frames := 4, cells := 0, slots := 0, locals := 110 }
theorem vX7_run_121 : km_cV wsX7_run RX7 121 7 yX7_isMethod wsX7_isMethod 3 2 := ⟨gX7_run_X7_isMethod, ⟨_, _, _, rfl⟩, ⟨by decide +kernel, by decide +kernel, by decide +kernel⟩, TX7, 42, rfl⟩
theorem vX7_run_118 : km_cV wsX7_run RX7 118 7 yX7_isNumber wsX7_isNumber 2 1 := ⟨gX7_run_X7_isNumber, ⟨_, _, _, rfl⟩, ⟨by decide +kernel, by decide +kernel, by decide +kernel⟩, TX7, 42, rfl⟩
theorem iX7_run_X7 : ∀ w ∈ wsX70, w ∈ wsX7_run := fun _ h => List.mem_cons_of_mem _ (List.mem_append_right _ h)
theorem pX7_run_139 : km_p wsX7_run RX7 139 7 19 .boolean false := ⟨RX7, TX7, 42, rfl, by decide, iX7_run_X7, by decide +kernel, ⟨tyX7, tyX7_ok⟩, nmX7, by decide +kernel, rfl, fun h => by cases h⟩
theorem vX7_run_171 : km_cV wsX7_run RX7 171 7 yX7_play wsX7_play 9 5 := ⟨gX7_run_X7_play, ⟨_, _, _, rfl⟩, ⟨by decide +kernel, by decide +kernel, by decide +kernel⟩, TX7, 42, rfl⟩
theorem fX7_run_52 : km_f wsX7_run RX7 52 7 22 := ⟨RX7, TX7, 42, rfl, by decide, iX7_run_X7, by decide +kernel⟩
abbrev rmX7_ran : Room := { frames := 0, cells := 0, slots := 0, locals := 0 }
theorem iX7_ran_X7 : ∀ w ∈ wsX70, w ∈ wsX7_ran := fun _ h => List.mem_cons_of_mem _ (List.mem_append_right _ h)
theorem fX7_ran_58 : km_f wsX7_ran RX7 58 7 24 := ⟨RX7, TX7, 42, rfl, by decide, iX7_ran_X7, by decide +kernel⟩
theorem fX7_ran_55 : km_f wsX7_ran RX7 55 7 23 := ⟨RX7, TX7, 42, rfl, by decide, iX7_ran_X7, by decide +kernel⟩
theorem fX7_ran_61 : km_f wsX7_ran RX7 61 7 25 := ⟨RX7, TX7, 42, rfl, by decide, iX7_ran_X7, by decide +kernel⟩
theorem fX7_ran_67 : km_f wsX7_ran RX7 67 7 27 := ⟨RX7, TX7, 42, rfl, by decide, iX7_ran_X7, by decide +kernel⟩
theorem fX7_ran_64 : km_f wsX7_ran RX7 64 7 26 := ⟨RX7, TX7, 42, rfl, by decide, iX7_ran_X7, by decide +kernel⟩
abbrev rmX7_told : Room := { frames := 1, cells := 0, slots := 0, locals := 22 }
theorem vX7_told_110 : km_cS wsX7_told RX7 110 yX7_in wsX7_in 3 3 := ⟨gX7_told_X7_in, ⟨_, _, _, rfl⟩, ⟨by decide +kernel, by decide +kernel, by decide +kernel⟩⟩
theorem iX7_told_X7 : ∀ w ∈ wsX70, w ∈ wsX7_told := fun _ h => List.mem_cons_of_mem _ (List.mem_append_right _ h)
theorem fX7_told_67 : km_f wsX7_told RX7 67 7 27 := ⟨RX7, TX7, 42, rfl, by decide, iX7_told_X7, by decide +kernel⟩
theorem fX7_told_70 : km_f wsX7_told RX7 70 7 28 := ⟨RX7, TX7, 42, rfl, by decide, iX7_told_X7, by decide +kernel⟩
theorem fX7_told_73 : km_f wsX7_told RX7 73 7 29 := ⟨RX7, TX7, 42, rfl, by decide, iX7_told_X7, by decide +kernel⟩
abbrev rmX7_rename : Room := { frames := 1, cells := 0, slots := 0, locals := 22 }
theorem vX7_rename_110 : km_cS wsX7_rename RX7 110 yX7_in wsX7_in 3 3 := ⟨gX7_rename_X7_in, ⟨_, _, _, rfl⟩, ⟨by decide +kernel, by decide +kernel, by decide +kernel⟩⟩
theorem iX7_rename_X7 : ∀ w ∈ wsX70, w ∈ wsX7_rename := fun _ h => List.mem_cons_of_mem _ (List.mem_append_right _ h)
theorem fX7_rename_28 : km_f wsX7_rename RX7 28 7 8 := ⟨RX7, TX7, 42, rfl, by decide, iX7_rename_X7, by decide +kernel⟩
abbrev rmX7_group : Room := { frames := 1, cells := 0, slots := 0, locals := 22 }
theorem vX7_group_110 : km_cS wsX7_group RX7 110 yX7_in wsX7_in 3 3 := ⟨gX7_group_X7_in, ⟨_, _, _, rfl⟩, ⟨by decide +kernel, by decide +kernel, by decide +kernel⟩⟩
theorem iX7_group_X7 : ∀ w ∈ wsX70, w ∈ wsX7_group := fun _ h => List.mem_cons_of_mem _ (List.mem_append_right _ h)
theorem fX7_group_31 : km_f wsX7_group RX7 31 7 9 := ⟨RX7, TX7, 42, rfl, by decide, iX7_group_X7, by decide +kernel⟩
abbrev rmX7_portOf : Room := { frames := 0, cells := 0, slots := 0, locals := 0 }
theorem iX7_portOf_X7 : ∀ w ∈ wsX70, w ∈ wsX7_portOf := fun _ h => List.mem_cons_of_mem _ (List.mem_append_right _ h)
theorem fX7_portOf_70 : km_f wsX7_portOf RX7 70 7 28 := ⟨RX7, TX7, 42, rfl, by decide, iX7_portOf_X7, by decide +kernel⟩
theorem fX7_portOf_28 : km_f wsX7_portOf RX7 28 7 8 := ⟨RX7, TX7, 42, rfl, by decide, iX7_portOf_X7, by decide +kernel⟩
abbrev rmX7_next : Room := { frames := 1, cells := 0, slots := 0, locals := 22 }
theorem iX7_next_X7 : ∀ w ∈ wsX70, w ∈ wsX7_next := fun _ h => List.mem_cons_of_mem _ (List.mem_append_right _ h)
theorem fX7_next_67 : km_f wsX7_next RX7 67 7 27 := ⟨RX7, TX7, 42, rfl, by decide, iX7_next_X7, by decide +kernel⟩
theorem fX7_next_76 : km_f wsX7_next RX7 76 7 30 := ⟨RX7, TX7, 42, rfl, by decide, iX7_next_X7, by decide +kernel⟩
theorem fX7_next_31 : km_f wsX7_next RX7 31 7 9 := ⟨RX7, TX7, 42, rfl, by decide, iX7_next_X7, by decide +kernel⟩
theorem vX7_next_175 : km_cV wsX7_next RX7 175 7 yX7_portOf wsX7_portOf 3 1 := ⟨gX7_next_X7_portOf, ⟨_, _, _, rfl⟩, ⟨by decide +kernel, by decide +kernel, by decide +kernel⟩, TX7, 42, rfl⟩
abbrev rmX7_areTellsLike : Room := { frames := 2, cells := 0, slots := 0, locals := 47 }
theorem vX7_areTellsLike_179 : km_cV wsX7_areTellsLike RX7 179 7 yX7_next wsX7_next 6 4 := ⟨gX7_areTellsLike_X7_next, ⟨_, _, _, rfl⟩, ⟨by decide +kernel, by decide +kernel, by decide +kernel⟩, TX7, 42, rfl⟩
theorem iX7_areTellsLike_X7 : ∀ w ∈ wsX70, w ∈ wsX7_areTellsLike := fun _ h => List.mem_cons_of_mem _ (List.mem_append_right _ h)
theorem fX7_areTellsLike_67 : km_f wsX7_areTellsLike RX7 67 7 27 := ⟨RX7, TX7, 42, rfl, by decide, iX7_areTellsLike_X7, by decide +kernel⟩
theorem vX7_areTellsLike_175 : km_cV wsX7_areTellsLike RX7 175 7 yX7_portOf wsX7_portOf 3 1 := ⟨gX7_areTellsLike_X7_portOf, ⟨_, _, _, rfl⟩, ⟨by decide +kernel, by decide +kernel, by decide +kernel⟩, TX7, 42, rfl⟩
theorem fX7_areTellsLike_73 : km_f wsX7_areTellsLike RX7 73 7 29 := ⟨RX7, TX7, 42, rfl, by decide, iX7_areTellsLike_X7, by decide +kernel⟩
abbrev rmX7_isPair : Room := { frames := 0, cells := 0, slots := 0, locals := 0 }
theorem iX7_isPair_X7 : ∀ w ∈ wsX70, w ∈ wsX7_isPair := fun _ h => List.mem_cons_of_mem _ (List.mem_append_right _ h)
theorem fX7_isPair_183 : km_f wsX7_isPair RX7 183 7 10 := ⟨RX7, TX7, 42, rfl, by decide, iX7_isPair_X7, by decide +kernel⟩
theorem fX7_isPair_34 : km_f wsX7_isPair RX7 34 7 11 := ⟨RX7, TX7, 42, rfl, by decide, iX7_isPair_X7, by decide +kernel⟩
theorem fX7_isPair_37 : km_f wsX7_isPair RX7 37 7 12 := ⟨RX7, TX7, 42, rfl, by decide, iX7_isPair_X7, by decide +kernel⟩
abbrev rmX7_areLike : Room := { frames := 3, cells := 0, slots := 0, locals := 71 }
theorem iX7_areLike_X7 : ∀ w ∈ wsX70, w ∈ wsX7_areLike := fun _ h => List.mem_cons_of_mem _ (List.mem_append_right _ h)
theorem fX7_areLike_52 : km_f wsX7_areLike RX7 52 7 22 := ⟨RX7, TX7, 42, rfl, by decide, iX7_areLike_X7, by decide +kernel⟩
theorem fX7_areLike_55 : km_f wsX7_areLike RX7 55 7 23 := ⟨RX7, TX7, 42, rfl, by decide, iX7_areLike_X7, by decide +kernel⟩
theorem fX7_areLike_58 : km_f wsX7_areLike RX7 58 7 24 := ⟨RX7, TX7, 42, rfl, by decide, iX7_areLike_X7, by decide +kernel⟩
theorem fX7_areLike_79 : km_f wsX7_areLike RX7 79 7 31 := ⟨RX7, TX7, 42, rfl, by decide, iX7_areLike_X7, by decide +kernel⟩
theorem fX7_areLike_82 : km_f wsX7_areLike RX7 82 7 32 := ⟨RX7, TX7, 42, rfl, by decide, iX7_areLike_X7, by decide +kernel⟩
theorem vX7_areLike_186 : km_cV wsX7_areLike RX7 186 7 yX7_isPair wsX7_isPair 5 2 := ⟨gX7_areLike_X7_isPair, ⟨_, _, _, rfl⟩, ⟨by decide +kernel, by decide +kernel, by decide +kernel⟩, TX7, 42, rfl⟩
theorem fX7_areLike_85 : km_f wsX7_areLike RX7 85 7 33 := ⟨RX7, TX7, 42, rfl, by decide, iX7_areLike_X7, by decide +kernel⟩
theorem fX7_areLike_88 : km_f wsX7_areLike RX7 88 7 34 := ⟨RX7, TX7, 42, rfl, by decide, iX7_areLike_X7, by decide +kernel⟩
theorem vX7_areLike_189 : km_cV wsX7_areLike RX7 189 7 yX7_areTellsLike wsX7_areTellsLike 5 2 := ⟨gX7_areLike_X7_areTellsLike, ⟨_, _, _, rfl⟩, ⟨by decide +kernel, by decide +kernel, by decide +kernel⟩, TX7, 42, rfl⟩
abbrev rmX7_held : Room := { frames := 4, cells := 0, slots := 0, locals := 110 }
theorem iX7_held_X7 : ∀ w ∈ wsX70, w ∈ wsX7_held := fun _ h => List.mem_cons_of_mem _ (List.mem_append_right _ h)
theorem pX7_held_139 : km_p wsX7_held RX7 139 7 19 .boolean false := ⟨RX7, TX7, 42, rfl, by decide, iX7_held_X7, by decide +kernel, ⟨tyX7, tyX7_ok⟩, nmX7, by decide +kernel, rfl, fun h => by cases h⟩
theorem fX7_held_107 : km_f wsX7_held RX7 107 7 1 := ⟨RX7, TX7, 42, rfl, by decide, iX7_held_X7, by decide +kernel⟩
theorem vX7_held_171 : km_cV wsX7_held RX7 171 7 yX7_play wsX7_play 9 5 := ⟨gX7_held_X7_play, ⟨_, _, _, rfl⟩, ⟨by decide +kernel, by decide +kernel, by decide +kernel⟩, TX7, 42, rfl⟩
theorem fX7_held_52 : km_f wsX7_held RX7 52 7 22 := ⟨RX7, TX7, 42, rfl, by decide, iX7_held_X7, by decide +kernel⟩
theorem vX7_held_192 : km_cV wsX7_held RX7 192 7 yX7_areLike wsX7_areLike 4 0 := ⟨gX7_held_X7_areLike, ⟨_, _, _, rfl⟩, ⟨by decide +kernel, by decide +kernel, by decide +kernel⟩, TX7, 42, rfl⟩
theorem pX7_held_196 : km_p wsX7_held RX7 196 7 35 .int false := ⟨RX7, TX7, 42, rfl, by decide, iX7_held_X7, by decide +kernel, ⟨tyX7, tyX7_ok⟩, nmX7, by decide +kernel, rfl, fun h => by cases h⟩
theorem pX7_held_199 : km_p wsX7_held RX7 199 7 36 .int false := ⟨RX7, TX7, 42, rfl, by decide, iX7_held_X7, by decide +kernel, ⟨tyX7, tyX7_ok⟩, nmX7, by decide +kernel, rfl, fun h => by cases h⟩
abbrev rmX7_hold : Room := { frames := 5, cells := 0, slots := 0, locals := 135 }
theorem vX7_hold_121 : km_cV wsX7_hold RX7 121 7 yX7_isMethod wsX7_isMethod 3 2 := ⟨gX7_hold_X7_isMethod, ⟨_, _, _, rfl⟩, ⟨by decide +kernel, by decide +kernel, by decide +kernel⟩, TX7, 42, rfl⟩
theorem vX7_hold_202 : km_cV wsX7_hold RX7 202 7 yX7_held wsX7_held 6 2 := ⟨gX7_hold_X7_held, ⟨_, _, _, rfl⟩, ⟨by decide +kernel, by decide +kernel, by decide +kernel⟩, TX7, 42, rfl⟩
theorem iX7_hold_X7 : ∀ w ∈ wsX70, w ∈ wsX7_hold := fun _ h => List.mem_cons_of_mem _ (List.mem_append_right _ h)
theorem fX7_hold_196 : km_f wsX7_hold RX7 196 7 35 := ⟨RX7, TX7, 42, rfl, by decide, iX7_hold_X7, by decide +kernel⟩
theorem pX7_hold_91 : km_p wsX7_hold RX7 91 7 37 .int false := ⟨RX7, TX7, 42, rfl, by decide, iX7_hold_X7, by decide +kernel, ⟨tyX7, tyX7_ok⟩, nmX7, by decide +kernel, rfl, fun h => by cases h⟩
theorem fX7_hold_199 : km_f wsX7_hold RX7 199 7 36 := ⟨RX7, TX7, 42, rfl, by decide, iX7_hold_X7, by decide +kernel⟩
theorem pX7_hold_95 : km_p wsX7_hold RX7 95 7 38 .int false := ⟨RX7, TX7, 42, rfl, by decide, iX7_hold_X7, by decide +kernel, ⟨tyX7, tyX7_ok⟩, nmX7, by decide +kernel, rfl, fun h => by cases h⟩
abbrev rmX7_first : Room := { frames := 0, cells := 0, slots := 0, locals := 0 }
theorem iX7_first_X7 : ∀ w ∈ wsX70, w ∈ wsX7_first := fun _ h => List.mem_cons_of_mem _ (List.mem_append_right _ h)
theorem fX7_first_91 : km_f wsX7_first RX7 91 7 37 := ⟨RX7, TX7, 42, rfl, by decide, iX7_first_X7, by decide +kernel⟩
theorem fX7_first_95 : km_f wsX7_first RX7 95 7 38 := ⟨RX7, TX7, 42, rfl, by decide, iX7_first_X7, by decide +kernel⟩
abbrev rmX7_match : Room := { frames := 5, cells := 0, slots := 0, locals := 135 }
theorem vX7_match_121 : km_cV wsX7_match RX7 121 7 yX7_isMethod wsX7_isMethod 3 2 := ⟨gX7_match_X7_isMethod, ⟨_, _, _, rfl⟩, ⟨by decide +kernel, by decide +kernel, by decide +kernel⟩, TX7, 42, rfl⟩
theorem iX7_match_X7 : ∀ w ∈ wsX70, w ∈ wsX7_match := fun _ h => List.mem_cons_of_mem _ (List.mem_append_right _ h)
theorem fX7_match_7 : km_f wsX7_match RX7 7 7 2 := ⟨RX7, TX7, 42, rfl, by decide, iX7_match_X7, by decide +kernel⟩
theorem vX7_match_202 : km_cV wsX7_match RX7 202 7 yX7_held wsX7_held 6 2 := ⟨gX7_match_X7_held, ⟨_, _, _, rfl⟩, ⟨by decide +kernel, by decide +kernel, by decide +kernel⟩, TX7, 42, rfl⟩
abbrev rmX7_renames : Room := { frames := 0, cells := 0, slots := 0, locals := 0 }
theorem iX7_renames_X7 : ∀ w ∈ wsX70, w ∈ wsX7_renames := fun _ h => List.mem_cons_of_mem _ (List.mem_append_right _ h)
theorem fX7_renames_28 : km_f wsX7_renames RX7 28 7 8 := ⟨RX7, TX7, 42, rfl, by decide, iX7_renames_X7, by decide +kernel⟩
abbrev rmX7_find : Room := { frames := 5, cells := 0, slots := 0, locals := 135 }
theorem vX7_find_121 : km_cV wsX7_find RX7 121 7 yX7_isMethod wsX7_isMethod 3 2 := ⟨gX7_find_X7_isMethod, ⟨_, _, _, rfl⟩, ⟨by decide +kernel, by decide +kernel, by decide +kernel⟩, TX7, 42, rfl⟩
theorem iX7_find_X7 : ∀ w ∈ wsX70, w ∈ wsX7_find := fun _ h => List.mem_cons_of_mem _ (List.mem_append_right _ h)
theorem fX7_find_98 : km_f wsX7_find RX7 98 7 39 := ⟨RX7, TX7, 42, rfl, by decide, iX7_find_X7, by decide +kernel⟩
theorem fX7_find_28 : km_f wsX7_find RX7 28 7 8 := ⟨RX7, TX7, 42, rfl, by decide, iX7_find_X7, by decide +kernel⟩
theorem vX7_find_206 : km_cV wsX7_find RX7 206 7 yX7_renames wsX7_renames 4 1 := ⟨gX7_find_X7_renames, ⟨_, _, _, rfl⟩, ⟨by decide +kernel, by decide +kernel, by decide +kernel⟩, TX7, 42, rfl⟩
theorem vX7_find_202 : km_cV wsX7_find RX7 202 7 yX7_held wsX7_held 6 2 := ⟨gX7_find_X7_held, ⟨_, _, _, rfl⟩, ⟨by decide +kernel, by decide +kernel, by decide +kernel⟩, TX7, 42, rfl⟩
abbrev rmX7_assume : Room := { frames := 2, cells := 0, slots := 0, locals := 44 }
theorem vX7_assume_121 : km_cV wsX7_assume RX7 121 7 yX7_isMethod wsX7_isMethod 3 2 := ⟨gX7_assume_X7_isMethod, ⟨_, _, _, rfl⟩, ⟨by decide +kernel, by decide +kernel, by decide +kernel⟩, TX7, 42, rfl⟩
theorem vX7_assume_186 : km_cV wsX7_assume RX7 186 7 yX7_isPair wsX7_isPair 5 2 := ⟨gX7_assume_X7_isPair, ⟨_, _, _, rfl⟩, ⟨by decide +kernel, by decide +kernel, by decide +kernel⟩, TX7, 42, rfl⟩
theorem iX7_assume_X7 : ∀ w ∈ wsX70, w ∈ wsX7_assume := fun _ h => List.mem_cons_of_mem _ (List.mem_append_right _ h)
theorem fX7_assume_183 : km_f wsX7_assume RX7 183 7 10 := ⟨RX7, TX7, 42, rfl, by decide, iX7_assume_X7, by decide +kernel⟩
theorem fX7_assume_34 : km_f wsX7_assume RX7 34 7 11 := ⟨RX7, TX7, 42, rfl, by decide, iX7_assume_X7, by decide +kernel⟩
theorem fX7_assume_37 : km_f wsX7_assume RX7 37 7 12 := ⟨RX7, TX7, 42, rfl, by decide, iX7_assume_X7, by decide +kernel⟩
theorem pX7_assume_183 : km_p wsX7_assume RX7 183 7 10 .int false := ⟨RX7, TX7, 42, rfl, by decide, iX7_assume_X7, by decide +kernel, ⟨tyX7, tyX7_ok⟩, nmX7, by decide +kernel, rfl, fun h => by cases h⟩
abbrev rmX7_drop : Room := { frames := 0, cells := 0, slots := 0, locals := 0 }
theorem iX7_drop_X7 : ∀ w ∈ wsX70, w ∈ wsX7_drop := fun _ h => List.mem_cons_of_mem _ (List.mem_append_right _ h)
theorem fX7_drop_183 : km_f wsX7_drop RX7 183 7 10 := ⟨RX7, TX7, 42, rfl, by decide, iX7_drop_X7, by decide +kernel⟩
theorem pX7_drop_183 : km_p wsX7_drop RX7 183 7 10 .int false := ⟨RX7, TX7, 42, rfl, by decide, iX7_drop_X7, by decide +kernel, ⟨tyX7, tyX7_ok⟩, nmX7, by decide +kernel, rfl, fun h => by cases h⟩
abbrev rmX7_walks : Room := { frames := 4, cells := 0, slots := 0, locals := 110 }
theorem iX7_walks_X7 : ∀ w ∈ wsX70, w ∈ wsX7_walks := fun _ h => List.mem_cons_of_mem _ (List.mem_append_right _ h)
theorem fX7_walks_34 : km_f wsX7_walks RX7 34 7 11 := ⟨RX7, TX7, 42, rfl, by decide, iX7_walks_X7, by decide +kernel⟩
theorem vX7_walks_171 : km_cV wsX7_walks RX7 171 7 yX7_play wsX7_play 9 5 := ⟨gX7_walks_X7_play, ⟨_, _, _, rfl⟩, ⟨by decide +kernel, by decide +kernel, by decide +kernel⟩, TX7, 42, rfl⟩
theorem fX7_walks_37 : km_f wsX7_walks RX7 37 7 12 := ⟨RX7, TX7, 42, rfl, by decide, iX7_walks_X7, by decide +kernel⟩
theorem fX7_walks_52 : km_f wsX7_walks RX7 52 7 22 := ⟨RX7, TX7, 42, rfl, by decide, iX7_walks_X7, by decide +kernel⟩
theorem vX7_walks_192 : km_cV wsX7_walks RX7 192 7 yX7_areLike wsX7_areLike 4 0 := ⟨gX7_walks_X7_areLike, ⟨_, _, _, rfl⟩, ⟨by decide +kernel, by decide +kernel, by decide +kernel⟩, TX7, 42, rfl⟩
abbrev rmX7_tells : Room := { frames := 0, cells := 0, slots := 0, locals := 0 }
theorem iX7_tells_X7 : ∀ w ∈ wsX70, w ∈ wsX7_tells := fun _ h => List.mem_cons_of_mem _ (List.mem_append_right _ h)
theorem fX7_tells_101 : km_f wsX7_tells RX7 101 7 40 := ⟨RX7, TX7, 42, rfl, by decide, iX7_tells_X7, by decide +kernel⟩
theorem fX7_tells_147 : km_f wsX7_tells RX7 147 7 20 := ⟨RX7, TX7, 42, rfl, by decide, iX7_tells_X7, by decide +kernel⟩
theorem fX7_tells_150 : km_f wsX7_tells RX7 150 7 21 := ⟨RX7, TX7, 42, rfl, by decide, iX7_tells_X7, by decide +kernel⟩
theorem pX7_tells_209 : km_p wsX7_tells RX7 209 7 41 .boolean false := ⟨RX7, TX7, 42, rfl, by decide, iX7_tells_X7, by decide +kernel, ⟨tyX7, tyX7_ok⟩, nmX7, by decide +kernel, rfl, fun h => by cases h⟩
abbrev rmX7_proved : Room := { frames := 5, cells := 0, slots := 0, locals := 133 }
theorem iX7_proved_X7 : ∀ w ∈ wsX70, w ∈ wsX7_proved := fun _ h => List.mem_cons_of_mem _ (List.mem_append_right _ h)
theorem fX7_proved_107 : km_f wsX7_proved RX7 107 7 1 := ⟨RX7, TX7, 42, rfl, by decide, iX7_proved_X7, by decide +kernel⟩
theorem pX7_proved_147 : km_p wsX7_proved RX7 147 7 20 .int false := ⟨RX7, TX7, 42, rfl, by decide, iX7_proved_X7, by decide +kernel, ⟨tyX7, tyX7_ok⟩, nmX7, by decide +kernel, rfl, fun h => by cases h⟩
theorem fX7_proved_147 : km_f wsX7_proved RX7 147 7 20 := ⟨RX7, TX7, 42, rfl, by decide, iX7_proved_X7, by decide +kernel⟩
theorem pX7_proved_150 : km_p wsX7_proved RX7 150 7 21 .int false := ⟨RX7, TX7, 42, rfl, by decide, iX7_proved_X7, by decide +kernel, ⟨tyX7, tyX7_ok⟩, nmX7, by decide +kernel, rfl, fun h => by cases h⟩
theorem fX7_proved_150 : km_f wsX7_proved RX7 150 7 21 := ⟨RX7, TX7, 42, rfl, by decide, iX7_proved_X7, by decide +kernel⟩
theorem vX7_proved_212 : km_cV wsX7_proved RX7 212 7 yX7_walks wsX7_walks 4 3 := ⟨gX7_proved_X7_walks, ⟨_, _, _, rfl⟩, ⟨by decide +kernel, by decide +kernel, by decide +kernel⟩, TX7, 42, rfl⟩
theorem vX7_proved_215 : km_cV wsX7_proved RX7 215 7 yX7_tells wsX7_tells 4 3 := ⟨gX7_proved_X7_tells, ⟨_, _, _, rfl⟩, ⟨by decide +kernel, by decide +kernel, by decide +kernel⟩, TX7, 42, rfl⟩
abbrev rmX7_prove : Room := { frames := 6, cells := 0, slots := 0, locals := 159 }
theorem iX7_prove_X7 : ∀ w ∈ wsX70, w ∈ wsX7_prove := fun _ h => List.mem_cons_of_mem _ (List.mem_append_right _ h)
theorem pX7_prove_209 : km_p wsX7_prove RX7 209 7 41 .boolean false := ⟨RX7, TX7, 42, rfl, by decide, iX7_prove_X7, by decide +kernel, ⟨tyX7, tyX7_ok⟩, nmX7, by decide +kernel, rfl, fun h => by cases h⟩
theorem fX7_prove_183 : km_f wsX7_prove RX7 183 7 10 := ⟨RX7, TX7, 42, rfl, by decide, iX7_prove_X7, by decide +kernel⟩
theorem pX7_prove_139 : km_p wsX7_prove RX7 139 7 19 .boolean false := ⟨RX7, TX7, 42, rfl, by decide, iX7_prove_X7, by decide +kernel, ⟨tyX7, tyX7_ok⟩, nmX7, by decide +kernel, rfl, fun h => by cases h⟩
theorem vX7_prove_217 : km_cV wsX7_prove RX7 217 7 yX7_proved wsX7_proved 7 2 := ⟨gX7_prove_X7_proved, ⟨_, _, _, rfl⟩, ⟨by decide +kernel, by decide +kernel, by decide +kernel⟩, TX7, 42, rfl⟩
abbrev rmX7_why : Room := { frames := 1, cells := 0, slots := 0, locals := 22 }
theorem vX7_why_110 : km_cS wsX7_why RX7 110 yX7_in wsX7_in 3 3 := ⟨gX7_why_X7_in, ⟨_, _, _, rfl⟩, ⟨by decide +kernel, by decide +kernel, by decide +kernel⟩⟩
theorem iX7_why_X7 : ∀ w ∈ wsX70, w ∈ wsX7_why := fun _ h => List.mem_cons_of_mem _ (List.mem_append_right _ h)
theorem fX7_why_209 : km_f wsX7_why RX7 209 7 41 := ⟨RX7, TX7, 42, rfl, by decide, iX7_why_X7, by decide +kernel⟩
theorem fX7_why_101 : km_f wsX7_why RX7 101 7 40 := ⟨RX7, TX7, 42, rfl, by decide, iX7_why_X7, by decide +kernel⟩
abbrev rmX7_count : Room := { frames := 1, cells := 0, slots := 0, locals := 22 }
theorem vX7_count_110 : km_cS wsX7_count RX7 110 yX7_in wsX7_in 3 3 := ⟨gX7_count_X7_in, ⟨_, _, _, rfl⟩, ⟨by decide +kernel, by decide +kernel, by decide +kernel⟩⟩
theorem iX7_count_X7 : ∀ w ∈ wsX70, w ∈ wsX7_count := fun _ h => List.mem_cons_of_mem _ (List.mem_append_right _ h)
theorem fX7_count_28 : km_f wsX7_count RX7 28 7 8 := ⟨RX7, TX7, 42, rfl, by decide, iX7_count_X7, by decide +kernel⟩
theorem fX7_count_31 : km_f wsX7_count RX7 31 7 9 := ⟨RX7, TX7, 42, rfl, by decide, iX7_count_X7, by decide +kernel⟩
theorem fX7_count_7 : km_f wsX7_count RX7 7 7 2 := ⟨RX7, TX7, 42, rfl, by decide, iX7_count_X7, by decide +kernel⟩
theorem fX7_count_183 : km_f wsX7_count RX7 183 7 10 := ⟨RX7, TX7, 42, rfl, by decide, iX7_count_X7, by decide +kernel⟩
theorem fX7_count_104 : km_f wsX7_count RX7 104 7 0 := ⟨RX7, TX7, 42, rfl, by decide, iX7_count_X7, by decide +kernel⟩
abbrev rmL_cell : Room := { frames := 0, cells := 0, slots := 0, locals := 0 }
