abbrev rmX6_method : Room := { frames := 1, cells := 0, slots := 0, locals := 22 }
theorem vX6_method_83 : km_cS wsX6_method RX6 83 yX6_within wsX6_within 3 3 := ⟨gX6_method_X6_within, ⟨_, _, _, rfl⟩, ⟨by decide +kernel, by decide +kernel, by decide +kernel⟩⟩
theorem vX6_method_87 : km_cV wsX6_method RX6 87 6 yX6_buildOf wsX6_buildOf 2 1 := ⟨gX6_method_X6_buildOf, ⟨_, _, _, rfl⟩, ⟨by decide +kernel, by decide +kernel, by decide +kernel⟩, TX6, 17, rfl⟩
theorem iX6_method_X0 : ∀ w ∈ wsX00, w ∈ wsX6_method := fun _ h => List.mem_cons_of_mem _ (List.mem_append_left _ (List.mem_append_right _ h))
theorem fX6_method_91 : km_f wsX6_method RX6 91 0 0 := ⟨RX0, TX0, 6, rfl, by decide, iX6_method_X0, by decide +kernel⟩
theorem vX6_method_94 : km_cV wsX6_method RX6 94 0 yX0_addMethod wsX0_addMethod 1 0 := ⟨gX6_method_X0_addMethod, ⟨_, _, _, rfl⟩, ⟨by decide +kernel, by decide +kernel, by decide +kernel⟩, TX0, 6, rfl⟩
abbrev rmX6_op : Room := { frames := 3, cells := 0, slots := 0, locals := 65 }
theorem vX6_op_98 : km_cV wsX6_op RX6 98 6 yX6_isMethod wsX6_isMethod 3 2 := ⟨gX6_op_X6_isMethod, ⟨_, _, _, rfl⟩, ⟨by decide +kernel, by decide +kernel, by decide +kernel⟩, TX6, 17, rfl⟩
theorem vX6_op_83 : km_cS wsX6_op RX6 83 yX6_within wsX6_within 3 3 := ⟨gX6_op_X6_within, ⟨_, _, _, rfl⟩, ⟨by decide +kernel, by decide +kernel, by decide +kernel⟩⟩
theorem vX6_op_102 : km_cV wsX6_op RX6 102 6 yX6_fits wsX6_fits 4 3 := ⟨gX6_op_X6_fits, ⟨_, _, _, rfl⟩, ⟨by decide +kernel, by decide +kernel, by decide +kernel⟩, TX6, 17, rfl⟩
theorem vX6_op_87 : km_cV wsX6_op RX6 87 6 yX6_buildOf wsX6_buildOf 2 1 := ⟨gX6_op_X6_buildOf, ⟨_, _, _, rfl⟩, ⟨by decide +kernel, by decide +kernel, by decide +kernel⟩, TX6, 17, rfl⟩
theorem iX6_op_X0 : ∀ w ∈ wsX00, w ∈ wsX6_op := fun _ h => List.mem_cons_of_mem _ (List.mem_append_left _ (List.mem_append_right _ h))
theorem fX6_op_105 : km_f wsX6_op RX6 105 0 1 := ⟨RX0, TX0, 6, rfl, by decide, iX6_op_X0, by decide +kernel⟩
theorem vX6_op_109 : km_cV wsX6_op RX6 109 0 yX0_addOp wsX0_addOp 7 5 := ⟨gX6_op_X0_addOp, ⟨_, _, _, rfl⟩, ⟨by decide +kernel, by decide +kernel, by decide +kernel⟩, TX0, 6, rfl⟩
abbrev rmX6_clear : Room := { frames := 2, cells := 0, slots := 0, locals := 44 }
theorem vX6_clear_98 : km_cV wsX6_clear RX6 98 6 yX6_isMethod wsX6_isMethod 3 2 := ⟨gX6_clear_X6_isMethod, ⟨_, _, _, rfl⟩, ⟨by decide +kernel, by decide +kernel, by decide +kernel⟩, TX6, 17, rfl⟩
theorem vX6_clear_87 : km_cV wsX6_clear RX6 87 6 yX6_buildOf wsX6_buildOf 2 1 := ⟨gX6_clear_X6_buildOf, ⟨_, _, _, rfl⟩, ⟨by decide +kernel, by decide +kernel, by decide +kernel⟩, TX6, 17, rfl⟩
theorem vX6_clear_113 : km_cV wsX6_clear RX6 113 0 yX0_removeOps wsX0_removeOps 3 1 := ⟨gX6_clear_X0_removeOps, ⟨_, _, _, rfl⟩, ⟨by decide +kernel, by decide +kernel, by decide +kernel⟩, TX0, 6, rfl⟩
abbrev rmX6_run : Room := { frames := 6, cells := 0, slots := 0, locals := 143 }
theorem vX6_run_98 : km_cV wsX6_run RX6 98 6 yX6_isMethod wsX6_isMethod 3 2 := ⟨gX6_run_X6_isMethod, ⟨_, _, _, rfl⟩, ⟨by decide +kernel, by decide +kernel, by decide +kernel⟩, TX6, 17, rfl⟩
theorem iX6_run_X6 : ∀ w ∈ wsX60, w ∈ wsX6_run := fun _ h => List.mem_cons_of_mem _ (List.mem_append_left _ (List.mem_append_left _ (List.mem_append_left _ (List.mem_append_right _ h))))
theorem fX6_run_59 : km_f wsX6_run RX6 59 6 1 := ⟨RX6, TX6, 17, rfl, by decide, iX6_run_X6, by decide +kernel⟩
theorem vX6_run_83 : km_cS wsX6_run RX6 83 yX6_within wsX6_within 3 3 := ⟨gX6_run_X6_within, ⟨_, _, _, rfl⟩, ⟨by decide +kernel, by decide +kernel, by decide +kernel⟩⟩
theorem fX6_run_67 : km_f wsX6_run RX6 67 6 8 := ⟨RX6, TX6, 17, rfl, by decide, iX6_run_X6, by decide +kernel⟩
theorem vX6_run_87 : km_cV wsX6_run RX6 87 6 yX6_buildOf wsX6_buildOf 2 1 := ⟨gX6_run_X6_buildOf, ⟨_, _, _, rfl⟩, ⟨by decide +kernel, by decide +kernel, by decide +kernel⟩, TX6, 17, rfl⟩
theorem vX6_run_117 : km_cV wsX6_run RX6 117 1 yX1_turnTo wsX1_turnTo 2 1 := ⟨gX6_run_X1_turnTo, ⟨_, _, _, rfl⟩, ⟨by decide +kernel, by decide +kernel, by decide +kernel⟩, TX1, 9, rfl⟩
theorem vX6_run_121 : km_cV wsX6_run RX6 121 1 yX1_go wsX1_go 5 3 := ⟨gX6_run_X1_go, ⟨_, _, _, rfl⟩, ⟨by decide +kernel, by decide +kernel, by decide +kernel⟩, TX1, 9, rfl⟩
theorem iX6_run_X1 : ∀ w ∈ wsX10, w ∈ wsX6_run := fun _ h => List.mem_cons_of_mem _ (List.mem_append_left _ (List.mem_append_left _ (List.mem_append_right _ h)))
theorem fX6_run_125 : km_f wsX6_run RX6 125 1 0 := ⟨RX1, TX1, 9, rfl, by decide, iX6_run_X1, by decide +kernel⟩
theorem iX6_run_X5 : ∀ w ∈ wsX50, w ∈ wsX6_run := fun _ h => List.mem_cons_of_mem _ (List.mem_append_left _ (List.mem_append_right _ h))
theorem fX6_run_129 : km_f wsX6_run RX6 129 5 0 := ⟨RX5, TX5, 13, rfl, by decide, iX6_run_X5, by decide +kernel⟩
abbrev rmX6_ran : Room := { frames := 0, cells := 0, slots := 0, locals := 0 }
theorem iX6_ran_X6 : ∀ w ∈ wsX60, w ∈ wsX6_ran := fun _ h => List.mem_cons_of_mem _ (List.mem_append_left _ (List.mem_append_left _ (List.mem_append_right _ h)))
theorem fX6_ran_67 : km_f wsX6_ran RX6 67 6 8 := ⟨RX6, TX6, 17, rfl, by decide, iX6_ran_X6, by decide +kernel⟩
theorem iX6_ran_X1 : ∀ w ∈ wsX10, w ∈ wsX6_ran := fun _ h => List.mem_cons_of_mem _ (List.mem_append_left _ (List.mem_append_right _ h))
theorem fX6_ran_125 : km_f wsX6_ran RX6 125 1 0 := ⟨RX1, TX1, 9, rfl, by decide, iX6_ran_X1, by decide +kernel⟩
theorem iX6_ran_X5 : ∀ w ∈ wsX50, w ∈ wsX6_ran := fun _ h => List.mem_cons_of_mem _ (List.mem_append_right _ h)
theorem fX6_ran_134 : km_f wsX6_ran RX6 134 5 2 := ⟨RX5, TX5, 13, rfl, by decide, iX6_ran_X5, by decide +kernel⟩
theorem fX6_ran_137 : km_f wsX6_ran RX6 137 5 1 := ⟨RX5, TX5, 13, rfl, by decide, iX6_ran_X5, by decide +kernel⟩
theorem fX6_ran_140 : km_f wsX6_ran RX6 140 5 3 := ⟨RX5, TX5, 13, rfl, by decide, iX6_ran_X5, by decide +kernel⟩
theorem fX6_ran_143 : km_f wsX6_ran RX6 143 5 5 := ⟨RX5, TX5, 13, rfl, by decide, iX6_ran_X5, by decide +kernel⟩
theorem fX6_ran_146 : km_f wsX6_ran RX6 146 5 4 := ⟨RX5, TX5, 13, rfl, by decide, iX6_ran_X5, by decide +kernel⟩
abbrev rmX6_told : Room := { frames := 1, cells := 0, slots := 0, locals := 22 }
theorem vX6_told_83 : km_cS wsX6_told RX6 83 yX6_within wsX6_within 3 3 := ⟨gX6_told_X6_within, ⟨_, _, _, rfl⟩, ⟨by decide +kernel, by decide +kernel, by decide +kernel⟩⟩
theorem iX6_told_X6 : ∀ w ∈ wsX60, w ∈ wsX6_told := fun _ h => List.mem_cons_of_mem _ (List.mem_append_left _ (List.mem_append_left _ (List.mem_append_right _ h)))
theorem fX6_told_67 : km_f wsX6_told RX6 67 6 8 := ⟨RX6, TX6, 17, rfl, by decide, iX6_told_X6, by decide +kernel⟩
theorem iX6_told_X1 : ∀ w ∈ wsX10, w ∈ wsX6_told := fun _ h => List.mem_cons_of_mem _ (List.mem_append_left _ (List.mem_append_right _ h))
theorem fX6_told_125 : km_f wsX6_told RX6 125 1 0 := ⟨RX1, TX1, 9, rfl, by decide, iX6_told_X1, by decide +kernel⟩
theorem iX6_told_X5 : ∀ w ∈ wsX50, w ∈ wsX6_told := fun _ h => List.mem_cons_of_mem _ (List.mem_append_right _ h)
theorem fX6_told_143 : km_f wsX6_told RX6 143 5 5 := ⟨RX5, TX5, 13, rfl, by decide, iX6_told_X5, by decide +kernel⟩
theorem fX6_told_149 : km_f wsX6_told RX6 149 5 6 := ⟨RX5, TX5, 13, rfl, by decide, iX6_told_X5, by decide +kernel⟩
theorem fX6_told_152 : km_f wsX6_told RX6 152 5 7 := ⟨RX5, TX5, 13, rfl, by decide, iX6_told_X5, by decide +kernel⟩
abbrev rmX6_rename : Room := { frames := 2, cells := 0, slots := 0, locals := 45 }
theorem vX6_rename_155 : km_cS wsX6_rename RX6 155 yX6_isPort wsX6_isPort 1 1 := ⟨gX6_rename_X6_isPort, ⟨_, _, _, rfl⟩, ⟨by decide +kernel, by decide +kernel, by decide +kernel⟩⟩
theorem iX6_rename_X6 : ∀ w ∈ wsX60, w ∈ wsX6_rename := fun _ h => List.mem_cons_of_mem _ (List.mem_append_left _ (List.mem_append_right _ h))
theorem fX6_rename_22 : km_f wsX6_rename RX6 22 6 4 := ⟨RX6, TX6, 17, rfl, by decide, iX6_rename_X6, by decide +kernel⟩
theorem vX6_rename_159 : km_cV wsX6_rename RX6 159 3 yX3_swapIn wsX3_swapIn 4 2 := ⟨gX6_rename_X3_swapIn, ⟨_, _, _, rfl⟩, ⟨by decide +kernel, by decide +kernel, by decide +kernel⟩, TX3, 3, rfl⟩
abbrev rmX6_group : Room := { frames := 2, cells := 0, slots := 0, locals := 42 }
theorem vX6_group_155 : km_cS wsX6_group RX6 155 yX6_isPort wsX6_isPort 1 1 := ⟨gX6_group_X6_isPort, ⟨_, _, _, rfl⟩, ⟨by decide +kernel, by decide +kernel, by decide +kernel⟩⟩
theorem vX6_group_83 : km_cS wsX6_group RX6 83 yX6_within wsX6_within 3 3 := ⟨gX6_group_X6_within, ⟨_, _, _, rfl⟩, ⟨by decide +kernel, by decide +kernel, by decide +kernel⟩⟩
theorem iX6_group_X6 : ∀ w ∈ wsX60, w ∈ wsX6_group := fun _ h => List.mem_cons_of_mem _ (List.mem_append_left _ (List.mem_append_right _ h))
theorem fX6_group_22 : km_f wsX6_group RX6 22 6 4 := ⟨RX6, TX6, 17, rfl, by decide, iX6_group_X6, by decide +kernel⟩
theorem iX6_group_X3 : ∀ w ∈ wsX30, w ∈ wsX6_group := fun _ h => List.mem_cons_of_mem _ (List.mem_append_right _ h)
theorem fX6_group_163 : km_f wsX6_group RX6 163 3 1 := ⟨RX3, TX3, 3, rfl, by decide, iX6_group_X3, by decide +kernel⟩
abbrev rmX6_hold : Room := { frames := 8, cells := 0, slots := 0, locals := 192 }
theorem vX6_hold_166 : km_cV wsX6_hold RX6 166 6 yX6_isPair wsX6_isPair 3 2 := ⟨gX6_hold_X6_isPair, ⟨_, _, _, rfl⟩, ⟨by decide +kernel, by decide +kernel, by decide +kernel⟩, TX6, 17, rfl⟩
theorem vX6_hold_169 : km_cV wsX6_hold RX6 169 6 yX6_held wsX6_held 6 2 := ⟨gX6_hold_X6_held, ⟨_, _, _, rfl⟩, ⟨by decide +kernel, by decide +kernel, by decide +kernel⟩, TX6, 17, rfl⟩
theorem iX6_hold_X6 : ∀ w ∈ wsX60, w ∈ wsX6_hold := fun _ h => List.mem_cons_of_mem _ (List.mem_append_left _ (List.mem_append_left _ (List.mem_append_left _ (List.mem_append_left _ (List.mem_append_right _ h)))))
theorem fX6_hold_43 : km_f wsX6_hold RX6 43 6 13 := ⟨RX6, TX6, 17, rfl, by decide, iX6_hold_X6, by decide +kernel⟩
theorem pX6_hold_50 : km_p wsX6_hold RX6 50 6 15 .int false := ⟨RX6, TX6, 17, rfl, by decide, iX6_hold_X6, by decide +kernel, ⟨tyX6, tyX6_ok⟩, nmX6, by decide +kernel, rfl, fun h => by cases h⟩
theorem fX6_hold_47 : km_f wsX6_hold RX6 47 6 14 := ⟨RX6, TX6, 17, rfl, by decide, iX6_hold_X6, by decide +kernel⟩
theorem pX6_hold_53 : km_p wsX6_hold RX6 53 6 16 .int false := ⟨RX6, TX6, 17, rfl, by decide, iX6_hold_X6, by decide +kernel, ⟨tyX6, tyX6_ok⟩, nmX6, by decide +kernel, rfl, fun h => by cases h⟩
abbrev rmX6_first : Room := { frames := 0, cells := 0, slots := 0, locals := 0 }
theorem iX6_first_X6 : ∀ w ∈ wsX60, w ∈ wsX6_first := fun _ h => List.mem_cons_of_mem _ (List.mem_append_right _ h)
theorem fX6_first_50 : km_f wsX6_first RX6 50 6 15 := ⟨RX6, TX6, 17, rfl, by decide, iX6_first_X6, by decide +kernel⟩
theorem fX6_first_53 : km_f wsX6_first RX6 53 6 16 := ⟨RX6, TX6, 17, rfl, by decide, iX6_first_X6, by decide +kernel⟩
abbrev rmX6_match : Room := { frames := 8, cells := 0, slots := 0, locals := 192 }
theorem iX6_match_X6 : ∀ w ∈ wsX60, w ∈ wsX6_match := fun _ h => List.mem_cons_of_mem _ (List.mem_append_left _ (List.mem_append_left _ (List.mem_append_left _ (List.mem_append_left _ (List.mem_append_right _ h)))))
theorem fX6_match_10 : km_f wsX6_match RX6 10 6 2 := ⟨RX6, TX6, 17, rfl, by decide, iX6_match_X6, by decide +kernel⟩
theorem vX6_match_172 : km_cV wsX6_match RX6 172 0 yX0_has wsX0_has 2 1 := ⟨gX6_match_X0_has, ⟨_, _, _, rfl⟩, ⟨by decide +kernel, by decide +kernel, by decide +kernel⟩, TX0, 6, rfl⟩
theorem fX6_match_16 : km_f wsX6_match RX6 16 6 3 := ⟨RX6, TX6, 17, rfl, by decide, iX6_match_X6, by decide +kernel⟩
theorem iX6_match_X0 : ∀ w ∈ wsX00, w ∈ wsX6_match := fun _ h => List.mem_cons_of_mem _ (List.mem_append_left _ (List.mem_append_left _ (List.mem_append_left _ (List.mem_append_right _ h))))
theorem fX6_match_91 : km_f wsX6_match RX6 91 0 0 := ⟨RX0, TX0, 6, rfl, by decide, iX6_match_X0, by decide +kernel⟩
theorem vX6_match_169 : km_cV wsX6_match RX6 169 6 yX6_held wsX6_held 6 2 := ⟨gX6_match_X6_held, ⟨_, _, _, rfl⟩, ⟨by decide +kernel, by decide +kernel, by decide +kernel⟩, TX6, 17, rfl⟩
abbrev rmX6_find : Room := { frames := 7, cells := 0, slots := 0, locals := 167 }
theorem vX6_find_166 : km_cV wsX6_find RX6 166 6 yX6_isPair wsX6_isPair 3 2 := ⟨gX6_find_X6_isPair, ⟨_, _, _, rfl⟩, ⟨by decide +kernel, by decide +kernel, by decide +kernel⟩, TX6, 17, rfl⟩
theorem iX6_find_X6 : ∀ w ∈ wsX60, w ∈ wsX6_find := fun _ h => List.mem_cons_of_mem _ (List.mem_append_left _ (List.mem_append_left _ (List.mem_append_left _ (List.mem_append_left _ (List.mem_append_right _ h)))))
theorem fX6_find_26 : km_f wsX6_find RX6 26 6 5 := ⟨RX6, TX6, 17, rfl, by decide, iX6_find_X6, by decide +kernel⟩
theorem fX6_find_22 : km_f wsX6_find RX6 22 6 4 := ⟨RX6, TX6, 17, rfl, by decide, iX6_find_X6, by decide +kernel⟩
theorem vX6_find_175 : km_cV wsX6_find RX6 175 3 yX3_takeGroups wsX3_takeGroups 2 1 := ⟨gX6_find_X3_takeGroups, ⟨_, _, _, rfl⟩, ⟨by decide +kernel, by decide +kernel, by decide +kernel⟩, TX3, 3, rfl⟩
theorem lX6_find_179 : Jvm.Cond.constant RX6 179 16777215 ∈ wsX6_find := by decide +kernel
theorem fX6_find_59 : km_f wsX6_find RX6 59 6 1 := ⟨RX6, TX6, 17, rfl, by decide, iX6_find_X6, by decide +kernel⟩
theorem vX6_find_180 : km_cV wsX6_find RX6 180 6 yX6_runBoth wsX6_runBoth 5 4 := ⟨gX6_find_X6_runBoth, ⟨_, _, _, rfl⟩, ⟨by decide +kernel, by decide +kernel, by decide +kernel⟩, TX6, 17, rfl⟩
theorem vX6_find_184 : km_cV wsX6_find RX6 184 6 yX6_stillAlike wsX6_stillAlike 5 2 := ⟨gX6_find_X6_stillAlike, ⟨_, _, _, rfl⟩, ⟨by decide +kernel, by decide +kernel, by decide +kernel⟩, TX6, 17, rfl⟩
theorem sX6_find_188 : Cond.fieldLink RX6 188 "EqualMethods" "RENAMINGS" "[I" ∈ wsX6_find := by decide +kernel
theorem vX6_find_191 : km_cS wsX6_find RX6 191 yJ6_numberOfTrailingZeros_0f7a4 wsJ6_numberOfTrailingZeros_0f7a4 2 1 := ⟨gX6_find_J6_numberOfTrailingZeros_0f7a4, ⟨_, _, _, rfl⟩, ⟨by decide +kernel, by decide +kernel, by decide +kernel⟩⟩
abbrev rmX6_assume : Room := { frames := 2, cells := 0, slots := 0, locals := 43 }
theorem vX6_assume_166 : km_cV wsX6_assume RX6 166 6 yX6_isPair wsX6_isPair 3 2 := ⟨gX6_assume_X6_isPair, ⟨_, _, _, rfl⟩, ⟨by decide +kernel, by decide +kernel, by decide +kernel⟩, TX6, 17, rfl⟩
theorem iX6_assume_X6 : ∀ w ∈ wsX60, w ∈ wsX6_assume := fun _ h => List.mem_cons_of_mem _ (List.mem_append_left _ (List.mem_append_left _ (List.mem_append_right _ h)))
theorem fX6_assume_32 : km_f wsX6_assume RX6 32 6 6 := ⟨RX6, TX6, 17, rfl, by decide, iX6_assume_X6, by decide +kernel⟩
theorem vX6_assume_196 : km_cV wsX6_assume RX6 196 2 yX2_has wsX2_has 4 2 := ⟨gX6_assume_X2_has, ⟨_, _, _, rfl⟩, ⟨by decide +kernel, by decide +kernel, by decide +kernel⟩, TX2, 3, rfl⟩
theorem iX6_assume_X2 : ∀ w ∈ wsX20, w ∈ wsX6_assume := fun _ h => List.mem_cons_of_mem _ (List.mem_append_left _ (List.mem_append_right _ h))
theorem fX6_assume_198 : km_f wsX6_assume RX6 198 2 0 := ⟨RX2, TX2, 3, rfl, by decide, iX6_assume_X2, by decide +kernel⟩
theorem vX6_assume_201 : km_cV wsX6_assume RX6 201 2 yX2_add wsX2_add 3 2 := ⟨gX6_assume_X2_add, ⟨_, _, _, rfl⟩, ⟨by decide +kernel, by decide +kernel, by decide +kernel⟩, TX2, 3, rfl⟩
abbrev rmX6_drop : Room := { frames := 0, cells := 0, slots := 0, locals := 0 }
theorem iX6_drop_X6 : ∀ w ∈ wsX60, w ∈ wsX6_drop := fun _ h => List.mem_cons_of_mem _ (List.mem_append_left _ (List.mem_append_right _ h))
theorem fX6_drop_32 : km_f wsX6_drop RX6 32 6 6 := ⟨RX6, TX6, 17, rfl, by decide, iX6_drop_X6, by decide +kernel⟩
theorem iX6_drop_X2 : ∀ w ∈ wsX20, w ∈ wsX6_drop := fun _ h => List.mem_cons_of_mem _ (List.mem_append_right _ h)
theorem fX6_drop_198 : km_f wsX6_drop RX6 198 2 0 := ⟨RX2, TX2, 3, rfl, by decide, iX6_drop_X2, by decide +kernel⟩
theorem pX6_drop_198 : km_p wsX6_drop RX6 198 2 0 .int false := ⟨RX2, TX2, 3, rfl, by decide, iX6_drop_X2, by decide +kernel, ⟨tyX2, tyX2_ok⟩, nmX2, by decide +kernel, rfl, fun h => by cases h⟩
abbrev rmX6_prove : Room := { frames := 7, cells := 0, slots := 0, locals := 170 }
theorem iX6_prove_X6 : ∀ w ∈ wsX60, w ∈ wsX6_prove := fun _ h => List.mem_cons_of_mem _ (List.mem_append_left _ (List.mem_append_left _ (List.mem_append_left _ (List.mem_append_left _ (List.mem_append_left _ (List.mem_append_left _ (List.mem_append_right _ h)))))))
theorem fX6_prove_39 : km_f wsX6_prove RX6 39 6 7 := ⟨RX6, TX6, 17, rfl, by decide, iX6_prove_X6, by decide +kernel⟩
theorem fX6_prove_32 : km_f wsX6_prove RX6 32 6 6 := ⟨RX6, TX6, 17, rfl, by decide, iX6_prove_X6, by decide +kernel⟩
theorem iX6_prove_X2 : ∀ w ∈ wsX20, w ∈ wsX6_prove := fun _ h => List.mem_cons_of_mem _ (List.mem_append_left _ (List.mem_append_left _ (List.mem_append_left _ (List.mem_append_left _ (List.mem_append_left _ (List.mem_append_right _ h))))))
theorem fX6_prove_198 : km_f wsX6_prove RX6 198 2 0 := ⟨RX2, TX2, 3, rfl, by decide, iX6_prove_X2, by decide +kernel⟩
theorem vX6_prove_204 : km_cV wsX6_prove RX6 204 4 yX4_begin wsX4_begin 2 1 := ⟨gX6_prove_X4_begin, ⟨_, _, _, rfl⟩, ⟨by decide +kernel, by decide +kernel, by decide +kernel⟩, TX4, 2, rfl⟩
theorem fX6_prove_59 : km_f wsX6_prove RX6 59 6 1 := ⟨RX6, TX6, 17, rfl, by decide, iX6_prove_X6, by decide +kernel⟩
theorem iX6_prove_X4 : ∀ w ∈ wsX40, w ∈ wsX6_prove := fun _ h => List.mem_cons_of_mem _ (List.mem_append_left _ (List.mem_append_left _ (List.mem_append_left _ (List.mem_append_left _ (List.mem_append_right _ h)))))
theorem fX6_prove_208 : km_f wsX6_prove RX6 208 4 0 := ⟨RX4, TX4, 2, rfl, by decide, iX6_prove_X4, by decide +kernel⟩
theorem vX6_prove_211 : km_cV wsX6_prove RX6 211 6 yX6_proveInputs wsX6_proveInputs 8 3 := ⟨gX6_prove_X6_proveInputs, ⟨_, _, _, rfl⟩, ⟨by decide +kernel, by decide +kernel, by decide +kernel⟩, TX6, 17, rfl⟩
abbrev rmX6_why : Room := { frames := 1, cells := 0, slots := 0, locals := 22 }
theorem vX6_why_83 : km_cS wsX6_why RX6 83 yX6_within wsX6_within 3 3 := ⟨gX6_why_X6_within, ⟨_, _, _, rfl⟩, ⟨by decide +kernel, by decide +kernel, by decide +kernel⟩⟩
theorem iX6_why_X6 : ∀ w ∈ wsX60, w ∈ wsX6_why := fun _ h => List.mem_cons_of_mem _ (List.mem_append_left _ (List.mem_append_right _ h))
theorem fX6_why_39 : km_f wsX6_why RX6 39 6 7 := ⟨RX6, TX6, 17, rfl, by decide, iX6_why_X6, by decide +kernel⟩
theorem iX6_why_X4 : ∀ w ∈ wsX40, w ∈ wsX6_why := fun _ h => List.mem_cons_of_mem _ (List.mem_append_right _ h)
theorem fX6_why_214 : km_f wsX6_why RX6 214 4 1 := ⟨RX4, TX4, 2, rfl, by decide, iX6_why_X4, by decide +kernel⟩
abbrev rmX6_count : Room := { frames := 0, cells := 0, slots := 0, locals := 0 }
theorem iX6_count_X6 : ∀ w ∈ wsX60, w ∈ wsX6_count := fun _ h => List.mem_cons_of_mem _ (List.mem_append_left _ (List.mem_append_left _ (List.mem_append_left _ (List.mem_append_right _ h))))
theorem fX6_count_10 : km_f wsX6_count RX6 10 6 2 := ⟨RX6, TX6, 17, rfl, by decide, iX6_count_X6, by decide +kernel⟩
theorem iX6_count_X0 : ∀ w ∈ wsX00, w ∈ wsX6_count := fun _ h => List.mem_cons_of_mem _ (List.mem_append_left _ (List.mem_append_left _ (List.mem_append_right _ h)))
theorem fX6_count_91 : km_f wsX6_count RX6 91 0 0 := ⟨RX0, TX0, 6, rfl, by decide, iX6_count_X0, by decide +kernel⟩
theorem fX6_count_16 : km_f wsX6_count RX6 16 6 3 := ⟨RX6, TX6, 17, rfl, by decide, iX6_count_X6, by decide +kernel⟩
theorem fX6_count_32 : km_f wsX6_count RX6 32 6 6 := ⟨RX6, TX6, 17, rfl, by decide, iX6_count_X6, by decide +kernel⟩
theorem iX6_count_X2 : ∀ w ∈ wsX20, w ∈ wsX6_count := fun _ h => List.mem_cons_of_mem _ (List.mem_append_left _ (List.mem_append_right _ h))
theorem fX6_count_198 : km_f wsX6_count RX6 198 2 0 := ⟨RX2, TX2, 3, rfl, by decide, iX6_count_X2, by decide +kernel⟩
theorem fX6_count_56 : km_f wsX6_count RX6 56 6 0 := ⟨RX6, TX6, 17, rfl, by decide, iX6_count_X6, by decide +kernel⟩
theorem fX6_count_22 : km_f wsX6_count RX6 22 6 4 := ⟨RX6, TX6, 17, rfl, by decide, iX6_count_X6, by decide +kernel⟩
theorem iX6_count_X3 : ∀ w ∈ wsX30, w ∈ wsX6_count := fun _ h => List.mem_cons_of_mem _ (List.mem_append_right _ h)
theorem fX6_count_217 : km_f wsX6_count RX6 217 3 0 := ⟨RX3, TX3, 3, rfl, by decide, iX6_count_X3, by decide +kernel⟩
theorem fX6_count_163 : km_f wsX6_count RX6 163 3 1 := ⟨RX3, TX3, 3, rfl, by decide, iX6_count_X3, by decide +kernel⟩
abbrev rmX6_within : Room := { frames := 0, cells := 0, slots := 0, locals := 0 }
abbrev rmX6_buildOf : Room := { frames := 0, cells := 0, slots := 0, locals := 0 }
theorem iX6_buildOf_X6 : ∀ w ∈ wsX60, w ∈ wsX6_buildOf := fun _ h => List.mem_cons_of_mem _ (List.mem_append_right _ h)
theorem fX6_buildOf_10 : km_f wsX6_buildOf RX6 10 6 2 := ⟨RX6, TX6, 17, rfl, by decide, iX6_buildOf_X6, by decide +kernel⟩
theorem fX6_buildOf_16 : km_f wsX6_buildOf RX6 16 6 3 := ⟨RX6, TX6, 17, rfl, by decide, iX6_buildOf_X6, by decide +kernel⟩
abbrev rmX6_isMethod : Room := { frames := 1, cells := 0, slots := 0, locals := 22 }
theorem vX6_isMethod_83 : km_cS wsX6_isMethod RX6 83 yX6_within wsX6_within 3 3 := ⟨gX6_isMethod_X6_within, ⟨_, _, _, rfl⟩, ⟨by decide +kernel, by decide +kernel, by decide +kernel⟩⟩
theorem vX6_isMethod_87 : km_cV wsX6_isMethod RX6 87 6 yX6_buildOf wsX6_buildOf 2 1 := ⟨gX6_isMethod_X6_buildOf, ⟨_, _, _, rfl⟩, ⟨by decide +kernel, by decide +kernel, by decide +kernel⟩, TX6, 17, rfl⟩
theorem vX6_isMethod_172 : km_cV wsX6_isMethod RX6 172 0 yX0_has wsX0_has 2 1 := ⟨gX6_isMethod_X0_has, ⟨_, _, _, rfl⟩, ⟨by decide +kernel, by decide +kernel, by decide +kernel⟩, TX0, 6, rfl⟩
abbrev rmX6_isPort : Room := { frames := 1, cells := 0, slots := 0, locals := 22 }
theorem vX6_isPort_83 : km_cS wsX6_isPort RX6 83 yX6_within wsX6_within 3 3 := ⟨gX6_isPort_X6_within, ⟨_, _, _, rfl⟩, ⟨by decide +kernel, by decide +kernel, by decide +kernel⟩⟩
abbrev rmX6_isPair : Room := { frames := 1, cells := 0, slots := 0, locals := 21 }
theorem iX6_isPair_X6 : ∀ w ∈ wsX60, w ∈ wsX6_isPair := fun _ h => List.mem_cons_of_mem _ (List.mem_append_left _ (List.mem_append_right _ h))
theorem fX6_isPair_10 : km_f wsX6_isPair RX6 10 6 2 := ⟨RX6, TX6, 17, rfl, by decide, iX6_isPair_X6, by decide +kernel⟩
theorem vX6_isPair_172 : km_cV wsX6_isPair RX6 172 0 yX0_has wsX0_has 2 1 := ⟨gX6_isPair_X0_has, ⟨_, _, _, rfl⟩, ⟨by decide +kernel, by decide +kernel, by decide +kernel⟩, TX0, 6, rfl⟩
theorem fX6_isPair_16 : km_f wsX6_isPair RX6 16 6 3 := ⟨RX6, TX6, 17, rfl, by decide, iX6_isPair_X6, by decide +kernel⟩
abbrev rmX6_fits : Room := { frames := 2, cells := 0, slots := 0, locals := 42 }
theorem sX6_fits_220 : Cond.fieldLink RX6 220 "EqualMethods" "OPERANDS" "[I" ∈ wsX6_fits := by decide +kernel
theorem vX6_fits_83 : km_cS wsX6_fits RX6 83 yX6_within wsX6_within 3 3 := ⟨gX6_fits_X6_within, ⟨_, _, _, rfl⟩, ⟨by decide +kernel, by decide +kernel, by decide +kernel⟩⟩
theorem iX6_fits_X6 : ∀ w ∈ wsX60, w ∈ wsX6_fits := fun _ h => List.mem_cons_of_mem _ (List.mem_append_right _ h)
theorem fX6_fits_59 : km_f wsX6_fits RX6 59 6 1 := ⟨RX6, TX6, 17, rfl, by decide, iX6_fits_X6, by decide +kernel⟩
theorem vX6_fits_155 : km_cS wsX6_fits RX6 155 yX6_isPort wsX6_isPort 1 1 := ⟨gX6_fits_X6_isPort, ⟨_, _, _, rfl⟩, ⟨by decide +kernel, by decide +kernel, by decide +kernel⟩⟩
abbrev rmX6_runBoth : Room := { frames := 6, cells := 0, slots := 0, locals := 143 }
theorem iX6_runBoth_X6 : ∀ w ∈ wsX60, w ∈ wsX6_runBoth := fun _ h => List.mem_cons_of_mem _ (List.mem_append_left _ (List.mem_append_left _ (List.mem_append_left _ (List.mem_append_right _ h))))
theorem fX6_runBoth_71 : km_f wsX6_runBoth RX6 71 6 9 := ⟨RX6, TX6, 17, rfl, by decide, iX6_runBoth_X6, by decide +kernel⟩
theorem vX6_runBoth_121 : km_cV wsX6_runBoth RX6 121 1 yX1_go wsX1_go 5 3 := ⟨gX6_runBoth_X1_go, ⟨_, _, _, rfl⟩, ⟨by decide +kernel, by decide +kernel, by decide +kernel⟩, TX1, 9, rfl⟩
theorem fX6_runBoth_74 : km_f wsX6_runBoth RX6 74 6 10 := ⟨RX6, TX6, 17, rfl, by decide, iX6_runBoth_X6, by decide +kernel⟩
theorem iX6_runBoth_X1 : ∀ w ∈ wsX10, w ∈ wsX6_runBoth := fun _ h => List.mem_cons_of_mem _ (List.mem_append_left _ (List.mem_append_left _ (List.mem_append_right _ h)))
theorem fX6_runBoth_125 : km_f wsX6_runBoth RX6 125 1 0 := ⟨RX1, TX1, 9, rfl, by decide, iX6_runBoth_X1, by decide +kernel⟩
theorem iX6_runBoth_X5 : ∀ w ∈ wsX50, w ∈ wsX6_runBoth := fun _ h => List.mem_cons_of_mem _ (List.mem_append_left _ (List.mem_append_right _ h))
theorem fX6_runBoth_129 : km_f wsX6_runBoth RX6 129 5 0 := ⟨RX5, TX5, 13, rfl, by decide, iX6_runBoth_X5, by decide +kernel⟩
abbrev rmX6_held : Room := { frames := 7, cells := 0, slots := 0, locals := 167 }
theorem iX6_held_X6 : ∀ w ∈ wsX60, w ∈ wsX6_held := fun _ h => List.mem_cons_of_mem _ (List.mem_append_left _ (List.mem_append_left _ (List.mem_append_left _ (List.mem_append_left _ (List.mem_append_right _ h)))))
theorem fX6_held_59 : km_f wsX6_held RX6 59 6 1 := ⟨RX6, TX6, 17, rfl, by decide, iX6_held_X6, by decide +kernel⟩
theorem vX6_held_180 : km_cV wsX6_held RX6 180 6 yX6_runBoth wsX6_runBoth 5 4 := ⟨gX6_held_X6_runBoth, ⟨_, _, _, rfl⟩, ⟨by decide +kernel, by decide +kernel, by decide +kernel⟩, TX6, 17, rfl⟩
theorem fX6_held_22 : km_f wsX6_held RX6 22 6 4 := ⟨RX6, TX6, 17, rfl, by decide, iX6_held_X6, by decide +kernel⟩
theorem vX6_held_223 : km_cV wsX6_held RX6 223 6 yX6_runsAlike wsX6_runsAlike 4 1 := ⟨gX6_held_X6_runsAlike, ⟨_, _, _, rfl⟩, ⟨by decide +kernel, by decide +kernel, by decide +kernel⟩, TX6, 17, rfl⟩
theorem pX6_held_43 : km_p wsX6_held RX6 43 6 13 .int false := ⟨RX6, TX6, 17, rfl, by decide, iX6_held_X6, by decide +kernel, ⟨tyX6, tyX6_ok⟩, nmX6, by decide +kernel, rfl, fun h => by cases h⟩
theorem pX6_held_47 : km_p wsX6_held RX6 47 6 14 .int false := ⟨RX6, TX6, 17, rfl, by decide, iX6_held_X6, by decide +kernel, ⟨tyX6, tyX6_ok⟩, nmX6, by decide +kernel, rfl, fun h => by cases h⟩
abbrev rmX6_runsAlike : Room := { frames := 3, cells := 0, slots := 0, locals := 78 }
theorem iX6_runsAlike_X6 : ∀ w ∈ wsX60, w ∈ wsX6_runsAlike := fun _ h => List.mem_cons_of_mem _ (List.mem_append_left _ (List.mem_append_left _ (List.mem_append_left _ (List.mem_append_right _ h))))
theorem fX6_runsAlike_71 : km_f wsX6_runsAlike RX6 71 6 9 := ⟨RX6, TX6, 17, rfl, by decide, iX6_runsAlike_X6, by decide +kernel⟩
theorem iX6_runsAlike_X1 : ∀ w ∈ wsX10, w ∈ wsX6_runsAlike := fun _ h => List.mem_cons_of_mem _ (List.mem_append_left _ (List.mem_append_left _ (List.mem_append_right _ h)))
theorem fX6_runsAlike_125 : km_f wsX6_runsAlike RX6 125 1 0 := ⟨RX1, TX1, 9, rfl, by decide, iX6_runsAlike_X1, by decide +kernel⟩
theorem fX6_runsAlike_74 : km_f wsX6_runsAlike RX6 74 6 10 := ⟨RX6, TX6, 17, rfl, by decide, iX6_runsAlike_X6, by decide +kernel⟩
theorem vX6_runsAlike_227 : km_cV wsX6_runsAlike RX6 227 5 yX5_endsLike wsX5_endsLike 2 1 := ⟨gX6_runsAlike_X5_endsLike, ⟨_, _, _, rfl⟩, ⟨by decide +kernel, by decide +kernel, by decide +kernel⟩, TX5, 13, rfl⟩
theorem iX6_runsAlike_X5 : ∀ w ∈ wsX50, w ∈ wsX6_runsAlike := fun _ h => List.mem_cons_of_mem _ (List.mem_append_left _ (List.mem_append_right _ h))
theorem fX6_runsAlike_143 : km_f wsX6_runsAlike RX6 143 5 5 := ⟨RX5, TX5, 13, rfl, by decide, iX6_runsAlike_X5, by decide +kernel⟩
theorem vX6_runsAlike_231 : km_cV wsX6_runsAlike RX6 231 3 yX3_alike wsX3_alike 6 4 := ⟨gX6_runsAlike_X3_alike, ⟨_, _, _, rfl⟩, ⟨by decide +kernel, by decide +kernel, by decide +kernel⟩, TX3, 3, rfl⟩
abbrev rmX6_stillAlike : Room := { frames := 4, cells := 0, slots := 0, locals := 101 }
theorem sX6_stillAlike_188 : Cond.fieldLink RX6 188 "EqualMethods" "RENAMINGS" "[I" ∈ wsX6_stillAlike := by decide +kernel
theorem iX6_stillAlike_X6 : ∀ w ∈ wsX60, w ∈ wsX6_stillAlike := fun _ h => List.mem_cons_of_mem _ (List.mem_append_left _ (List.mem_append_left _ (List.mem_append_left _ (List.mem_append_right _ h))))
theorem fX6_stillAlike_26 : km_f wsX6_stillAlike RX6 26 6 5 := ⟨RX6, TX6, 17, rfl, by decide, iX6_stillAlike_X6, by decide +kernel⟩
theorem vX6_stillAlike_235 : km_cV wsX6_stillAlike RX6 235 3 yX3_takeNames wsX3_takeNames 2 1 := ⟨gX6_stillAlike_X3_takeNames, ⟨_, _, _, rfl⟩, ⟨by decide +kernel, by decide +kernel, by decide +kernel⟩, TX3, 3, rfl⟩
theorem vX6_stillAlike_223 : km_cV wsX6_stillAlike RX6 223 6 yX6_runsAlike wsX6_runsAlike 4 1 := ⟨gX6_stillAlike_X6_runsAlike, ⟨_, _, _, rfl⟩, ⟨by decide +kernel, by decide +kernel, by decide +kernel⟩, TX6, 17, rfl⟩
abbrev rmX6_proveInputs : Room := { frames := 6, cells := 0, slots := 0, locals := 143 }
theorem iX6_proveInputs_X6 : ∀ w ∈ wsX60, w ∈ wsX6_proveInputs := fun _ h => List.mem_cons_of_mem _ (List.mem_append_left _ (List.mem_append_left _ (List.mem_append_left _ (List.mem_append_left _ (List.mem_append_left _ (List.mem_append_left _ (List.mem_append_right _ h)))))))
theorem fX6_proveInputs_59 : km_f wsX6_proveInputs RX6 59 6 1 := ⟨RX6, TX6, 17, rfl, by decide, iX6_proveInputs_X6, by decide +kernel⟩
theorem fX6_proveInputs_77 : km_f wsX6_proveInputs RX6 77 6 11 := ⟨RX6, TX6, 17, rfl, by decide, iX6_proveInputs_X6, by decide +kernel⟩
theorem vX6_proveInputs_238 : km_cV wsX6_proveInputs RX6 238 1 yX1_takeAnswers wsX1_takeAnswers 3 2 := ⟨gX6_proveInputs_X1_takeAnswers, ⟨_, _, _, rfl⟩, ⟨by decide +kernel, by decide +kernel, by decide +kernel⟩, TX1, 9, rfl⟩
theorem fX6_proveInputs_80 : km_f wsX6_proveInputs RX6 80 6 12 := ⟨RX6, TX6, 17, rfl, by decide, iX6_proveInputs_X6, by decide +kernel⟩
theorem fX6_proveInputs_32 : km_f wsX6_proveInputs RX6 32 6 6 := ⟨RX6, TX6, 17, rfl, by decide, iX6_proveInputs_X6, by decide +kernel⟩
theorem iX6_proveInputs_X2 : ∀ w ∈ wsX20, w ∈ wsX6_proveInputs := fun _ h => List.mem_cons_of_mem _ (List.mem_append_left _ (List.mem_append_left _ (List.mem_append_left _ (List.mem_append_left _ (List.mem_append_left _ (List.mem_append_right _ h))))))
theorem fX6_proveInputs_242 : km_f wsX6_proveInputs RX6 242 2 1 := ⟨RX2, TX2, 3, rfl, by decide, iX6_proveInputs_X2, by decide +kernel⟩
theorem vX6_proveInputs_121 : km_cV wsX6_proveInputs RX6 121 1 yX1_go wsX1_go 5 3 := ⟨gX6_proveInputs_X1_go, ⟨_, _, _, rfl⟩, ⟨by decide +kernel, by decide +kernel, by decide +kernel⟩, TX1, 9, rfl⟩
theorem fX6_proveInputs_245 : km_f wsX6_proveInputs RX6 245 2 2 := ⟨RX2, TX2, 3, rfl, by decide, iX6_proveInputs_X2, by decide +kernel⟩
theorem vX6_proveInputs_248 : km_cV wsX6_proveInputs RX6 248 6 yX6_walksAnswer wsX6_walksAnswer 3 0 := ⟨gX6_proveInputs_X6_walksAnswer, ⟨_, _, _, rfl⟩, ⟨by decide +kernel, by decide +kernel, by decide +kernel⟩, TX6, 17, rfl⟩
theorem fX6_proveInputs_39 : km_f wsX6_proveInputs RX6 39 6 7 := ⟨RX6, TX6, 17, rfl, by decide, iX6_proveInputs_X6, by decide +kernel⟩
theorem vX6_proveInputs_251 : km_cV wsX6_proveInputs RX6 251 4 yX4_yieldsTo wsX4_yieldsTo 2 1 := ⟨gX6_proveInputs_X4_yieldsTo, ⟨_, _, _, rfl⟩, ⟨by decide +kernel, by decide +kernel, by decide +kernel⟩, TX4, 2, rfl⟩
theorem vX6_proveInputs_254 : km_cV wsX6_proveInputs RX6 254 4 yX4_keep wsX4_keep 7 6 := ⟨gX6_proveInputs_X4_keep, ⟨_, _, _, rfl⟩, ⟨by decide +kernel, by decide +kernel, by decide +kernel⟩, TX4, 2, rfl⟩
theorem iX6_proveInputs_X1 : ∀ w ∈ wsX10, w ∈ wsX6_proveInputs := fun _ h => List.mem_cons_of_mem _ (List.mem_append_left _ (List.mem_append_left _ (List.mem_append_left _ (List.mem_append_left _ (List.mem_append_right _ h)))))
theorem fX6_proveInputs_125 : km_f wsX6_proveInputs RX6 125 1 0 := ⟨RX1, TX1, 9, rfl, by decide, iX6_proveInputs_X1, by decide +kernel⟩
theorem iX6_proveInputs_X5 : ∀ w ∈ wsX50, w ∈ wsX6_proveInputs := fun _ h => List.mem_cons_of_mem _ (List.mem_append_left _ (List.mem_append_left _ (List.mem_append_left _ (List.mem_append_right _ h))))
theorem fX6_proveInputs_258 : km_f wsX6_proveInputs RX6 258 5 8 := ⟨RX5, TX5, 13, rfl, by decide, iX6_proveInputs_X5, by decide +kernel⟩
theorem xX6_proveInputs_261 : Cond.methodLink RX6 261 Lib.Math.max.name ∈ wsX6_proveInputs ∧ Cond.static Lib.Math.max.name ∈ wsX6_proveInputs ∧ Cond.initialized "java/lang/Math" ∈ wsX6_proveInputs ∧ Cond.code Lib.Math.max.name Lib.Math.max.code 2 (some .int) ∈ wsX6_proveInputs := ⟨by decide +kernel, by decide +kernel, by decide +kernel, by decide +kernel⟩
abbrev rmX6_walksAnswer : Room := { frames := 4, cells := 0, slots := 0, locals := 103 }
theorem iX6_walksAnswer_X6 : ∀ w ∈ wsX60, w ∈ wsX6_walksAnswer := fun _ h => List.mem_cons_of_mem _ (List.mem_append_left _ (List.mem_append_left _ (List.mem_append_left _ (List.mem_append_left _ (List.mem_append_right _ h)))))
theorem fX6_walksAnswer_77 : km_f wsX6_walksAnswer RX6 77 6 11 := ⟨RX6, TX6, 17, rfl, by decide, iX6_walksAnswer_X6, by decide +kernel⟩
theorem iX6_walksAnswer_X1 : ∀ w ∈ wsX10, w ∈ wsX6_walksAnswer := fun _ h => List.mem_cons_of_mem _ (List.mem_append_left _ (List.mem_append_left _ (List.mem_append_left _ (List.mem_append_right _ h))))
theorem fX6_walksAnswer_125 : km_f wsX6_walksAnswer RX6 125 1 0 := ⟨RX1, TX1, 9, rfl, by decide, iX6_walksAnswer_X1, by decide +kernel⟩
theorem fX6_walksAnswer_80 : km_f wsX6_walksAnswer RX6 80 6 12 := ⟨RX6, TX6, 17, rfl, by decide, iX6_walksAnswer_X6, by decide +kernel⟩
theorem iX6_walksAnswer_X5 : ∀ w ∈ wsX50, w ∈ wsX6_walksAnswer := fun _ h => List.mem_cons_of_mem _ (List.mem_append_left _ (List.mem_append_left _ (List.mem_append_right _ h)))
theorem fX6_walksAnswer_129 : km_f wsX6_walksAnswer RX6 129 5 0 := ⟨RX5, TX5, 13, rfl, by decide, iX6_walksAnswer_X5, by decide +kernel⟩
theorem vX6_walksAnswer_227 : km_cV wsX6_walksAnswer RX6 227 5 yX5_endsLike wsX5_endsLike 2 1 := ⟨gX6_walksAnswer_X5_endsLike, ⟨_, _, _, rfl⟩, ⟨by decide +kernel, by decide +kernel, by decide +kernel⟩, TX5, 13, rfl⟩
theorem vX6_walksAnswer_266 : km_cV wsX6_walksAnswer RX6 266 6 yX6_callingsAlike wsX6_callingsAlike 6 2 := ⟨gX6_walksAnswer_X6_callingsAlike, ⟨_, _, _, rfl⟩, ⟨by decide +kernel, by decide +kernel, by decide +kernel⟩, TX6, 17, rfl⟩
abbrev rmX6_callingsAlike : Room := { frames := 3, cells := 0, slots := 0, locals := 78 }
theorem iX6_callingsAlike_X5 : ∀ w ∈ wsX50, w ∈ wsX6_callingsAlike := fun _ h => List.mem_cons_of_mem _ (List.mem_append_left _ (List.mem_append_left _ (List.mem_append_left _ (List.mem_append_right _ h))))
theorem fX6_callingsAlike_258 : km_f wsX6_callingsAlike RX6 258 5 8 := ⟨RX5, TX5, 13, rfl, by decide, iX6_callingsAlike_X5, by decide +kernel⟩
theorem fX6_callingsAlike_270 : km_f wsX6_callingsAlike RX6 270 5 12 := ⟨RX5, TX5, 13, rfl, by decide, iX6_callingsAlike_X5, by decide +kernel⟩
theorem vX6_callingsAlike_273 : km_cV wsX6_callingsAlike RX6 273 5 yX5_sameCalling wsX5_sameCalling 3 2 := ⟨gX6_callingsAlike_X5_sameCalling, ⟨_, _, _, rfl⟩, ⟨by decide +kernel, by decide +kernel, by decide +kernel⟩, TX5, 13, rfl⟩
theorem iX6_callingsAlike_X6 : ∀ w ∈ wsX60, w ∈ wsX6_callingsAlike := fun _ h => List.mem_cons_of_mem _ (List.mem_append_left _ (List.mem_append_left _ (List.mem_append_right _ h)))
theorem fX6_callingsAlike_32 : km_f wsX6_callingsAlike RX6 32 6 6 := ⟨RX6, TX6, 17, rfl, by decide, iX6_callingsAlike_X6, by decide +kernel⟩
theorem fX6_callingsAlike_277 : km_f wsX6_callingsAlike RX6 277 5 9 := ⟨RX5, TX5, 13, rfl, by decide, iX6_callingsAlike_X5, by decide +kernel⟩
theorem vX6_callingsAlike_196 : km_cV wsX6_callingsAlike RX6 196 2 yX2_has wsX2_has 4 2 := ⟨gX6_callingsAlike_X2_has, ⟨_, _, _, rfl⟩, ⟨by decide +kernel, by decide +kernel, by decide +kernel⟩, TX2, 3, rfl⟩
theorem fX6_callingsAlike_22 : km_f wsX6_callingsAlike RX6 22 6 4 := ⟨RX6, TX6, 17, rfl, by decide, iX6_callingsAlike_X6, by decide +kernel⟩
theorem vX6_callingsAlike_231 : km_cV wsX6_callingsAlike RX6 231 3 yX3_alike wsX3_alike 6 4 := ⟨gX6_callingsAlike_X3_alike, ⟨_, _, _, rfl⟩, ⟨by decide +kernel, by decide +kernel, by decide +kernel⟩, TX3, 3, rfl⟩
theorem fX6_callingsAlike_143 : km_f wsX6_callingsAlike RX6 143 5 5 := ⟨RX5, TX5, 13, rfl, by decide, iX6_callingsAlike_X5, by decide +kernel⟩
