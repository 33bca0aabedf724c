abbrev rmX0_init : Room := { frames := 1, cells := 5, slots := 582, locals := 15 }
theorem aX0_init : Cond.arrayClass .int ∈ wsX0_init := by decide +kernel
theorem oX0_init : Cond.methodLink RX0 3 objectInit ∈ wsX0_init ∧ Cond.instanceMethod objectInit ∈ wsX0_init ∧ Cond.code objectInit ⟨#[0xb1]⟩ 1 none ∈ wsX0_init := ⟨by decide +kernel, by decide +kernel, by decide +kernel⟩
theorem iX0_init_X0 : ∀ w ∈ wsX00, w ∈ wsX0_init := fun _ h => List.mem_cons_of_mem _ (List.mem_append_right _ h)
theorem pX0_init_9 : km_p wsX0_init RX0 9 0 0 .int false := ⟨RX0, TX0, 6, rfl, by decide, iX0_init_X0, by decide +kernel, ⟨tyX0, tyX0_ok⟩, nmX0, by decide +kernel, rfl, fun h => by cases h⟩
theorem pX0_init_15 : km_p wsX0_init RX0 15 0 1 (.array .int) true := ⟨RX0, TX0, 6, rfl, by decide, iX0_init_X0, by decide +kernel, ⟨tyX0, tyX0_ok⟩, nmX0, by decide +kernel, rfl, fun _ => rfl⟩
theorem pX0_init_19 : km_p wsX0_init RX0 19 0 2 (.array .int) true := ⟨RX0, TX0, 6, rfl, by decide, iX0_init_X0, by decide +kernel, ⟨tyX0, tyX0_ok⟩, nmX0, by decide +kernel, rfl, fun _ => rfl⟩
theorem pX0_init_22 : km_p wsX0_init RX0 22 0 3 (.array .int) true := ⟨RX0, TX0, 6, rfl, by decide, iX0_init_X0, by decide +kernel, ⟨tyX0, tyX0_ok⟩, nmX0, by decide +kernel, rfl, fun _ => rfl⟩
theorem pX0_init_25 : km_p wsX0_init RX0 25 0 4 (.array .int) true := ⟨RX0, TX0, 6, rfl, by decide, iX0_init_X0, by decide +kernel, ⟨tyX0, tyX0_ok⟩, nmX0, by decide +kernel, rfl, fun _ => rfl⟩
theorem pX0_init_28 : km_p wsX0_init RX0 28 0 5 (.array .int) true := ⟨RX0, TX0, 6, rfl, by decide, iX0_init_X0, by decide +kernel, ⟨tyX0, tyX0_ok⟩, nmX0, by decide +kernel, rfl, fun _ => rfl⟩
abbrev rmX2_init : Room := { frames := 1, cells := 2, slots := 12, locals := 15 }
theorem aX2_init : Cond.arrayClass .int ∈ wsX2_init := by decide +kernel
theorem oX2_init : Cond.methodLink RX2 3 objectInit ∈ wsX2_init ∧ Cond.instanceMethod objectInit ∈ wsX2_init ∧ Cond.code objectInit ⟨#[0xb1]⟩ 1 none ∈ wsX2_init := ⟨by decide +kernel, by decide +kernel, by decide +kernel⟩
theorem iX2_init_X2 : ∀ w ∈ wsX20, w ∈ wsX2_init := fun _ h => List.mem_cons_of_mem _ (List.mem_append_right _ h)
theorem pX2_init_9 : km_p wsX2_init RX2 9 2 0 .int false := ⟨RX2, TX2, 3, rfl, by decide, iX2_init_X2, by decide +kernel, ⟨tyX2, tyX2_ok⟩, nmX2, by decide +kernel, rfl, fun h => by cases h⟩
theorem pX2_init_15 : km_p wsX2_init RX2 15 2 1 (.array .int) true := ⟨RX2, TX2, 3, rfl, by decide, iX2_init_X2, by decide +kernel, ⟨tyX2, tyX2_ok⟩, nmX2, by decide +kernel, rfl, fun _ => rfl⟩
theorem pX2_init_19 : km_p wsX2_init RX2 19 2 2 (.array .int) true := ⟨RX2, TX2, 3, rfl, by decide, iX2_init_X2, by decide +kernel, ⟨tyX2, tyX2_ok⟩, nmX2, by decide +kernel, rfl, fun _ => rfl⟩
abbrev rmX3_init : Room := { frames := 1, cells := 3, slots := 12, locals := 15 }
theorem aX3_init : Cond.arrayClass .int ∈ wsX3_init := by decide +kernel
theorem oX3_init : Cond.methodLink RX3 3 objectInit ∈ wsX3_init ∧ Cond.instanceMethod objectInit ∈ wsX3_init ∧ Cond.code objectInit ⟨#[0xb1]⟩ 1 none ∈ wsX3_init := ⟨by decide +kernel, by decide +kernel, by decide +kernel⟩
theorem iX3_init_X3 : ∀ w ∈ wsX30, w ∈ wsX3_init := fun _ h => List.mem_cons_of_mem _ (List.mem_append_right _ h)
theorem pX3_init_9 : km_p wsX3_init RX3 9 3 0 (.array .int) true := ⟨RX3, TX3, 3, rfl, by decide, iX3_init_X3, by decide +kernel, ⟨tyX3, tyX3_ok⟩, nmX3, by decide +kernel, rfl, fun _ => rfl⟩
theorem pX3_init_15 : km_p wsX3_init RX3 15 3 1 (.array .int) true := ⟨RX3, TX3, 3, rfl, by decide, iX3_init_X3, by decide +kernel, ⟨tyX3, tyX3_ok⟩, nmX3, by decide +kernel, rfl, fun _ => rfl⟩
theorem pX3_init_18 : km_p wsX3_init RX3 18 3 2 (.array .int) true := ⟨RX3, TX3, 3, rfl, by decide, iX3_init_X3, by decide +kernel, ⟨tyX3, tyX3_ok⟩, nmX3, by decide +kernel, rfl, fun _ => rfl⟩
abbrev rmX4_init : Room := { frames := 1, cells := 1, slots := 5, locals := 15 }
theorem aX4_init : Cond.arrayClass .int ∈ wsX4_init := by decide +kernel
theorem oX4_init : Cond.methodLink RX4 3 objectInit ∈ wsX4_init ∧ Cond.instanceMethod objectInit ∈ wsX4_init ∧ Cond.code objectInit ⟨#[0xb1]⟩ 1 none ∈ wsX4_init := ⟨by decide +kernel, by decide +kernel, by decide +kernel⟩
theorem iX4_init_X4 : ∀ w ∈ wsX40, w ∈ wsX4_init := fun _ h => List.mem_cons_of_mem _ (List.mem_append_right _ h)
theorem pX4_init_9 : km_p wsX4_init RX4 9 4 0 .int false := ⟨RX4, TX4, 2, rfl, by decide, iX4_init_X4, by decide +kernel, ⟨tyX4, tyX4_ok⟩, nmX4, by decide +kernel, rfl, fun h => by cases h⟩
theorem pX4_init_15 : km_p wsX4_init RX4 15 4 1 (.array .int) true := ⟨RX4, TX4, 2, rfl, by decide, iX4_init_X4, by decide +kernel, ⟨tyX4, tyX4_ok⟩, nmX4, by decide +kernel, rfl, fun _ => rfl⟩
abbrev rmX5_init : Room := { frames := 1, cells := 6, slots := 88, locals := 15 }
theorem aX5_init : Cond.arrayClass .int ∈ wsX5_init := by decide +kernel
theorem oX5_init : Cond.methodLink RX5 3 objectInit ∈ wsX5_init ∧ Cond.instanceMethod objectInit ∈ wsX5_init ∧ Cond.code objectInit ⟨#[0xb1]⟩ 1 none ∈ wsX5_init := ⟨by decide +kernel, by decide +kernel, by decide +kernel⟩
theorem iX5_init_X5 : ∀ w ∈ wsX50, w ∈ wsX5_init := fun _ h => List.mem_cons_of_mem _ (List.mem_append_right _ h)
theorem pX5_init_9 : km_p wsX5_init RX5 9 5 0 .int false := ⟨RX5, TX5, 13, rfl, by decide, iX5_init_X5, by decide +kernel, ⟨tyX5, tyX5_ok⟩, nmX5, by decide +kernel, rfl, fun h => by cases h⟩
theorem pX5_init_15 : km_p wsX5_init RX5 15 5 1 .int false := ⟨RX5, TX5, 13, rfl, by decide, iX5_init_X5, by decide +kernel, ⟨tyX5, tyX5_ok⟩, nmX5, by decide +kernel, rfl, fun h => by cases h⟩
theorem pX5_init_18 : km_p wsX5_init RX5 18 5 2 .int false := ⟨RX5, TX5, 13, rfl, by decide, iX5_init_X5, by decide +kernel, ⟨tyX5, tyX5_ok⟩, nmX5, by decide +kernel, rfl, fun h => by cases h⟩
theorem pX5_init_21 : km_p wsX5_init RX5 21 5 3 .int false := ⟨RX5, TX5, 13, rfl, by decide, iX5_init_X5, by decide +kernel, ⟨tyX5, tyX5_ok⟩, nmX5, by decide +kernel, rfl, fun h => by cases h⟩
theorem pX5_init_24 : km_p wsX5_init RX5 24 5 4 .int false := ⟨RX5, TX5, 13, rfl, by decide, iX5_init_X5, by decide +kernel, ⟨tyX5, tyX5_ok⟩, nmX5, by decide +kernel, rfl, fun h => by cases h⟩
theorem pX5_init_27 : km_p wsX5_init RX5 27 5 5 .int false := ⟨RX5, TX5, 13, rfl, by decide, iX5_init_X5, by decide +kernel, ⟨tyX5, tyX5_ok⟩, nmX5, by decide +kernel, rfl, fun h => by cases h⟩
theorem pX5_init_30 : km_p wsX5_init RX5 30 5 6 (.array .int) true := ⟨RX5, TX5, 13, rfl, by decide, iX5_init_X5, by decide +kernel, ⟨tyX5, tyX5_ok⟩, nmX5, by decide +kernel, rfl, fun _ => rfl⟩
theorem pX5_init_34 : km_p wsX5_init RX5 34 5 7 (.array .int) true := ⟨RX5, TX5, 13, rfl, by decide, iX5_init_X5, by decide +kernel, ⟨tyX5, tyX5_ok⟩, nmX5, by decide +kernel, rfl, fun _ => rfl⟩
theorem pX5_init_37 : km_p wsX5_init RX5 37 5 8 .int false := ⟨RX5, TX5, 13, rfl, by decide, iX5_init_X5, by decide +kernel, ⟨tyX5, tyX5_ok⟩, nmX5, by decide +kernel, rfl, fun h => by cases h⟩
theorem pX5_init_40 : km_p wsX5_init RX5 40 5 9 (.array .int) true := ⟨RX5, TX5, 13, rfl, by decide, iX5_init_X5, by decide +kernel, ⟨tyX5, tyX5_ok⟩, nmX5, by decide +kernel, rfl, fun _ => rfl⟩
theorem pX5_init_43 : km_p wsX5_init RX5 43 5 10 (.array .int) true := ⟨RX5, TX5, 13, rfl, by decide, iX5_init_X5, by decide +kernel, ⟨tyX5, tyX5_ok⟩, nmX5, by decide +kernel, rfl, fun _ => rfl⟩
theorem pX5_init_46 : km_p wsX5_init RX5 46 5 11 (.array .int) true := ⟨RX5, TX5, 13, rfl, by decide, iX5_init_X5, by decide +kernel, ⟨tyX5, tyX5_ok⟩, nmX5, by decide +kernel, rfl, fun _ => rfl⟩
theorem pX5_init_49 : km_p wsX5_init RX5 49 5 12 (.array .int) true := ⟨RX5, TX5, 13, rfl, by decide, iX5_init_X5, by decide +kernel, ⟨tyX5, tyX5_ok⟩, nmX5, by decide +kernel, rfl, fun _ => rfl⟩
abbrev rmX1_init : Room := { frames := 2, cells := 11, slots := 167, locals := 35 }
theorem aX1_init : Cond.arrayClass .int ∈ wsX1_init := by decide +kernel
theorem oX1_init : Cond.methodLink RX1 3 objectInit ∈ wsX1_init ∧ Cond.instanceMethod objectInit ∈ wsX1_init ∧ Cond.code objectInit ⟨#[0xb1]⟩ 1 none ∈ wsX1_init := ⟨by decide +kernel, by decide +kernel, by decide +kernel⟩
theorem iX1_init_X5 : ∀ w ∈ wsX50, w ∈ wsX1_init := fun _ h => List.mem_cons_of_mem _ (List.mem_append_left _ (List.mem_append_right _ h))
theorem nX1_init_9 : km_n wsX1_init RX1 9 5 13 := ⟨RX5, TX5, tyX5, rfl, iX1_init_X5, by decide +kernel, by decide +kernel, by decide +kernel, tyX5_ok, by decide +kernel⟩
theorem vX1_init_11 : km_cI wsX1_init RX1 11 yX5_init wsX5_init 1 0 := ⟨gX1_init_X5_init_n11, ⟨_, _, rfl⟩, ⟨by decide +kernel, by decide +kernel, by decide +kernel⟩, by decide +kernel, by decide +kernel, rfl, Or.inr (by decide)⟩
theorem iX1_init_X1 : ∀ w ∈ wsX10, w ∈ wsX1_init := fun _ h => List.mem_cons_of_mem _ (List.mem_append_right _ h)
theorem pX1_init_12 : km_p wsX1_init RX1 12 1 0 (.object "EqualMethods$Trace") true := ⟨RX1, TX1, 9, rfl, by decide, iX1_init_X1, by decide +kernel, ⟨tyX1, tyX1_ok⟩, nmX1, by decide +kernel, rfl, fun _ => rfl⟩
theorem pX1_init_18 : km_p wsX1_init RX1 18 1 2 (.array .int) true := ⟨RX1, TX1, 9, rfl, by decide, iX1_init_X1, by decide +kernel, ⟨tyX1, tyX1_ok⟩, nmX1, by decide +kernel, rfl, fun _ => rfl⟩
theorem pX1_init_22 : km_p wsX1_init RX1 22 1 3 (.array .int) true := ⟨RX1, TX1, 9, rfl, by decide, iX1_init_X1, by decide +kernel, ⟨tyX1, tyX1_ok⟩, nmX1, by decide +kernel, rfl, fun _ => rfl⟩
theorem pX1_init_25 : km_p wsX1_init RX1 25 1 4 (.array .int) true := ⟨RX1, TX1, 9, rfl, by decide, iX1_init_X1, by decide +kernel, ⟨tyX1, tyX1_ok⟩, nmX1, by decide +kernel, rfl, fun _ => rfl⟩
theorem pX1_init_28 : km_p wsX1_init RX1 28 1 5 (.array .int) true := ⟨RX1, TX1, 9, rfl, by decide, iX1_init_X1, by decide +kernel, ⟨tyX1, tyX1_ok⟩, nmX1, by decide +kernel, rfl, fun _ => rfl⟩
theorem pX1_init_31 : km_p wsX1_init RX1 31 1 8 .int false := ⟨RX1, TX1, 9, rfl, by decide, iX1_init_X1, by decide +kernel, ⟨tyX1, tyX1_ok⟩, nmX1, by decide +kernel, rfl, fun h => by cases h⟩
theorem pX1_init_35 : km_p wsX1_init RX1 35 1 7 (.object "EqualMethods$Build") false := ⟨RX1, TX1, 9, rfl, by decide, iX1_init_X1, by decide +kernel, ⟨tyX1, tyX1_ok⟩, nmX1, by decide +kernel, rfl, fun h => by cases h⟩
theorem pX1_init_39 : km_p wsX1_init RX1 39 1 1 .int true := ⟨RX1, TX1, 9, rfl, by decide, iX1_init_X1, by decide +kernel, ⟨tyX1, tyX1_ok⟩, nmX1, by decide +kernel, rfl, fun _ => rfl⟩
theorem pX1_init_42 : km_p wsX1_init RX1 42 1 6 .boolean true := ⟨RX1, TX1, 9, rfl, by decide, iX1_init_X1, by decide +kernel, ⟨tyX1, tyX1_ok⟩, nmX1, by decide +kernel, rfl, fun _ => rfl⟩
abbrev rmX6_init : Room := { frames := 3, cells := 85, slots := 2108, locals := 58 }
theorem oX6_init : Cond.methodLink RX6 1 objectInit ∈ wsX6_init ∧ Cond.instanceMethod objectInit ∈ wsX6_init ∧ Cond.code objectInit ⟨#[0xb1]⟩ 1 none ∈ wsX6_init := ⟨by decide +kernel, by decide +kernel, by decide +kernel⟩
theorem iX6_init_X0 : ∀ w ∈ wsX00, w ∈ wsX6_init := fun _ h => List.mem_cons_of_mem _ (List.mem_append_left _ (List.mem_append_left _ (List.mem_append_left _ (List.mem_append_left _ (List.mem_append_left _ (List.mem_append_left _ (List.mem_append_right _ h)))))))
theorem nX6_init_7 : km_n wsX6_init RX6 7 0 6 := ⟨RX0, TX0, tyX0, rfl, iX6_init_X0, by decide +kernel, by decide +kernel, by decide +kernel, tyX0_ok, by decide +kernel⟩
theorem vX6_init_9 : km_cI wsX6_init RX6 9 yX0_init wsX0_init 1 0 := ⟨gX6_init_X0_init_n9, ⟨_, _, rfl⟩, ⟨by decide +kernel, by decide +kernel, by decide +kernel⟩, by decide +kernel, by decide +kernel, rfl, Or.inr (by decide)⟩
theorem iX6_init_X6 : ∀ w ∈ wsX60, w ∈ wsX6_init := fun _ h => List.mem_cons_of_mem _ (List.mem_append_left _ (List.mem_append_left _ (List.mem_append_left _ (List.mem_append_left _ (List.mem_append_left _ (List.mem_append_right _ h))))))
theorem pX6_init_10 : km_p wsX6_init RX6 10 6 2 (.object "EqualMethods$Build") true := ⟨RX6, TX6, 17, rfl, by decide, iX6_init_X6, by decide +kernel, ⟨tyX6, tyX6_ok⟩, nmX6, by decide +kernel, rfl, fun _ => rfl⟩
theorem pX6_init_16 : km_p wsX6_init RX6 16 6 3 (.object "EqualMethods$Build") true := ⟨RX6, TX6, 17, rfl, by decide, iX6_init_X6, by decide +kernel, ⟨tyX6, tyX6_ok⟩, nmX6, by decide +kernel, rfl, fun _ => rfl⟩
theorem iX6_init_X3 : ∀ w ∈ wsX30, w ∈ wsX6_init := fun _ h => List.mem_cons_of_mem _ (List.mem_append_left _ (List.mem_append_left _ (List.mem_append_left _ (List.mem_append_left _ (List.mem_append_right _ h)))))
theorem nX6_init_19 : km_n wsX6_init RX6 19 3 3 := ⟨RX3, TX3, tyX3, rfl, iX6_init_X3, by decide +kernel, by decide +kernel, by decide +kernel, tyX3_ok, by decide +kernel⟩
theorem vX6_init_21 : km_cI wsX6_init RX6 21 yX3_init wsX3_init 1 0 := ⟨gX6_init_X3_init_n21, ⟨_, _, rfl⟩, ⟨by decide +kernel, by decide +kernel, by decide +kernel⟩, by decide +kernel, by decide +kernel, rfl, Or.inr (by decide)⟩
theorem pX6_init_22 : km_p wsX6_init RX6 22 6 4 (.object "EqualMethods$Ports") true := ⟨RX6, TX6, 17, rfl, by decide, iX6_init_X6, by decide +kernel, ⟨tyX6, tyX6_ok⟩, nmX6, by decide +kernel, rfl, fun _ => rfl⟩
theorem pX6_init_26 : km_p wsX6_init RX6 26 6 5 (.object "EqualMethods$Ports") true := ⟨RX6, TX6, 17, rfl, by decide, iX6_init_X6, by decide +kernel, ⟨tyX6, tyX6_ok⟩, nmX6, by decide +kernel, rfl, fun _ => rfl⟩
theorem iX6_init_X2 : ∀ w ∈ wsX20, w ∈ wsX6_init := fun _ h => List.mem_cons_of_mem _ (List.mem_append_left _ (List.mem_append_left _ (List.mem_append_left _ (List.mem_append_right _ h))))
theorem nX6_init_29 : km_n wsX6_init RX6 29 2 3 := ⟨RX2, TX2, tyX2, rfl, iX6_init_X2, by decide +kernel, by decide +kernel, by decide +kernel, tyX2_ok, by decide +kernel⟩
theorem vX6_init_31 : km_cI wsX6_init RX6 31 yX2_init wsX2_init 1 0 := ⟨gX6_init_X2_init_n31, ⟨_, _, rfl⟩, ⟨by decide +kernel, by decide +kernel, by decide +kernel⟩, by decide +kernel, by decide +kernel, rfl, Or.inr (by decide)⟩
theorem pX6_init_32 : km_p wsX6_init RX6 32 6 6 (.object "EqualMethods$Pairs") true := ⟨RX6, TX6, 17, rfl, by decide, iX6_init_X6, by decide +kernel, ⟨tyX6, tyX6_ok⟩, nmX6, by decide +kernel, rfl, fun _ => rfl⟩
theorem iX6_init_X4 : ∀ w ∈ wsX40, w ∈ wsX6_init := fun _ h => List.mem_cons_of_mem _ (List.mem_append_left _ (List.mem_append_left _ (List.mem_append_right _ h)))
theorem nX6_init_36 : km_n wsX6_init RX6 36 4 2 := ⟨RX4, TX4, tyX4, rfl, iX6_init_X4, by decide +kernel, by decide +kernel, by decide +kernel, tyX4_ok, by decide +kernel⟩
theorem vX6_init_38 : km_cI wsX6_init RX6 38 yX4_init wsX4_init 1 0 := ⟨gX6_init_X4_init_n38, ⟨_, _, rfl⟩, ⟨by decide +kernel, by decide +kernel, by decide +kernel⟩, by decide +kernel, by decide +kernel, rfl, Or.inr (by decide)⟩
theorem pX6_init_39 : km_p wsX6_init RX6 39 6 7 (.object "EqualMethods$Proof") true := ⟨RX6, TX6, 17, rfl, by decide, iX6_init_X6, by decide +kernel, ⟨tyX6, tyX6_ok⟩, nmX6, by decide +kernel, rfl, fun _ => rfl⟩
theorem pX6_init_43 : km_p wsX6_init RX6 43 6 13 .int false := ⟨RX6, TX6, 17, rfl, by decide, iX6_init_X6, by decide +kernel, ⟨tyX6, tyX6_ok⟩, nmX6, by decide +kernel, rfl, fun h => by cases h⟩
theorem pX6_init_47 : km_p wsX6_init RX6 47 6 14 .int false := ⟨RX6, TX6, 17, rfl, by decide, iX6_init_X6, by decide +kernel, ⟨tyX6, tyX6_ok⟩, nmX6, by decide +kernel, rfl, fun h => by cases h⟩
theorem pX6_init_50 : km_p wsX6_init RX6 50 6 15 .int false := ⟨RX6, TX6, 17, rfl, by decide, iX6_init_X6, by decide +kernel, ⟨tyX6, tyX6_ok⟩, nmX6, by decide +kernel, rfl, fun h => by cases h⟩
theorem pX6_init_53 : km_p wsX6_init RX6 53 6 16 .int false := ⟨RX6, TX6, 17, rfl, by decide, iX6_init_X6, by decide +kernel, ⟨tyX6, tyX6_ok⟩, nmX6, by decide +kernel, rfl, fun h => by cases h⟩
theorem pX6_init_56 : km_p wsX6_init RX6 56 6 0 .int true := ⟨RX6, TX6, 17, rfl, by decide, iX6_init_X6, by decide +kernel, ⟨tyX6, tyX6_ok⟩, nmX6, by decide +kernel, rfl, fun _ => rfl⟩
theorem fX6_init_56 : km_f wsX6_init RX6 56 6 0 := ⟨RX6, TX6, 17, rfl, by decide, iX6_init_X6, by decide +kernel⟩
theorem pX6_init_59 : km_p wsX6_init RX6 59 6 1 .int true := ⟨RX6, TX6, 17, rfl, by decide, iX6_init_X6, by decide +kernel, ⟨tyX6, tyX6_ok⟩, nmX6, by decide +kernel, rfl, fun _ => rfl⟩
theorem iX6_init_X1 : ∀ w ∈ wsX10, w ∈ wsX6_init := fun _ h => List.mem_cons_of_mem _ (List.mem_append_left _ (List.mem_append_right _ h))
theorem nX6_init_62 : km_n wsX6_init RX6 62 1 9 := ⟨RX1, TX1, tyX1, rfl, iX6_init_X1, by decide +kernel, by decide +kernel, by decide +kernel, tyX1_ok, by decide +kernel⟩
theorem fX6_init_10 : km_f wsX6_init RX6 10 6 2 := ⟨RX6, TX6, 17, rfl, by decide, iX6_init_X6, by decide +kernel⟩
theorem fX6_init_59 : km_f wsX6_init RX6 59 6 1 := ⟨RX6, TX6, 17, rfl, by decide, iX6_init_X6, by decide +kernel⟩
theorem vX6_init_64 : km_cI wsX6_init RX6 64 yX1_init wsX1_init 4 3 := ⟨gX6_init_X1_init, ⟨_, _, rfl⟩, ⟨by decide +kernel, by decide +kernel, by decide +kernel⟩, by decide +kernel, by decide +kernel, rfl, Or.inl (by decide +kernel)⟩
theorem pX6_init_67 : km_p wsX6_init RX6 67 6 8 (.object "EqualMethods$Machine") true := ⟨RX6, TX6, 17, rfl, by decide, iX6_init_X6, by decide +kernel, ⟨tyX6, tyX6_ok⟩, nmX6, by decide +kernel, rfl, fun _ => rfl⟩
theorem pX6_init_71 : km_p wsX6_init RX6 71 6 9 (.object "EqualMethods$Machine") true := ⟨RX6, TX6, 17, rfl, by decide, iX6_init_X6, by decide +kernel, ⟨tyX6, tyX6_ok⟩, nmX6, by decide +kernel, rfl, fun _ => rfl⟩
theorem fX6_init_16 : km_f wsX6_init RX6 16 6 3 := ⟨RX6, TX6, 17, rfl, by decide, iX6_init_X6, by decide +kernel⟩
theorem pX6_init_74 : km_p wsX6_init RX6 74 6 10 (.object "EqualMethods$Machine") true := ⟨RX6, TX6, 17, rfl, by decide, iX6_init_X6, by decide +kernel, ⟨tyX6, tyX6_ok⟩, nmX6, by decide +kernel, rfl, fun _ => rfl⟩
theorem pX6_init_77 : km_p wsX6_init RX6 77 6 11 (.object "EqualMethods$Machine") true := ⟨RX6, TX6, 17, rfl, by decide, iX6_init_X6, by decide +kernel, ⟨tyX6, tyX6_ok⟩, nmX6, by decide +kernel, rfl, fun _ => rfl⟩
theorem pX6_init_80 : km_p wsX6_init RX6 80 6 12 (.object "EqualMethods$Machine") true := ⟨RX6, TX6, 17, rfl, by decide, iX6_init_X6, by decide +kernel, ⟨tyX6, tyX6_ok⟩, nmX6, by decide +kernel, rfl, fun _ => rfl⟩
abbrev rmX7_init : Room := { frames := 1, cells := 29, slots := 1666, locals := 15 }
theorem aX7_init : Cond.arrayClass .int ∈ wsX7_init := by decide +kernel
theorem oX7_init : Cond.methodLink RX7 1 objectInit ∈ wsX7_init ∧ Cond.instanceMethod objectInit ∈ wsX7_init ∧ Cond.code objectInit ⟨#[0xb1]⟩ 1 none ∈ wsX7_init := ⟨by decide +kernel, by decide +kernel, by decide +kernel⟩
theorem iX7_init_X7 : ∀ w ∈ wsX70, w ∈ wsX7_init := fun _ h => List.mem_cons_of_mem _ (List.mem_append_right _ h)
theorem pX7_init_7 : km_p wsX7_init RX7 7 7 2 (.array .int) true := ⟨RX7, TX7, 42, rfl, by decide, iX7_init_X7, by decide +kernel, ⟨tyX7, tyX7_ok⟩, nmX7, by decide +kernel, rfl, fun _ => rfl⟩
theorem pX7_init_13 : km_p wsX7_init RX7 13 7 3 (.array .int) true := ⟨RX7, TX7, 42, rfl, by decide, iX7_init_X7, by decide +kernel, ⟨tyX7, tyX7_ok⟩, nmX7, by decide +kernel, rfl, fun _ => rfl⟩
theorem pX7_init_16 : km_p wsX7_init RX7 16 7 4 (.array .int) true := ⟨RX7, TX7, 42, rfl, by decide, iX7_init_X7, by decide +kernel, ⟨tyX7, tyX7_ok⟩, nmX7, by decide +kernel, rfl, fun _ => rfl⟩
theorem pX7_init_19 : km_p wsX7_init RX7 19 7 5 (.array .int) true := ⟨RX7, TX7, 42, rfl, by decide, iX7_init_X7, by decide +kernel, ⟨tyX7, tyX7_ok⟩, nmX7, by decide +kernel, rfl, fun _ => rfl⟩
theorem pX7_init_22 : km_p wsX7_init RX7 22 7 6 (.array .int) true := ⟨RX7, TX7, 42, rfl, by decide, iX7_init_X7, by decide +kernel, ⟨tyX7, tyX7_ok⟩, nmX7, by decide +kernel, rfl, fun _ => rfl⟩
theorem pX7_init_25 : km_p wsX7_init RX7 25 7 7 (.array .int) true := ⟨RX7, TX7, 42, rfl, by decide, iX7_init_X7, by decide +kernel, ⟨tyX7, tyX7_ok⟩, nmX7, by decide +kernel, rfl, fun _ => rfl⟩
theorem pX7_init_28 : km_p wsX7_init RX7 28 7 8 (.array .int) true := ⟨RX7, TX7, 42, rfl, by decide, iX7_init_X7, by decide +kernel, ⟨tyX7, tyX7_ok⟩, nmX7, by decide +kernel, rfl, fun _ => rfl⟩
theorem pX7_init_31 : km_p wsX7_init RX7 31 7 9 (.array .int) true := ⟨RX7, TX7, 42, rfl, by decide, iX7_init_X7, by decide +kernel, ⟨tyX7, tyX7_ok⟩, nmX7, by decide +kernel, rfl, fun _ => rfl⟩
theorem pX7_init_34 : km_p wsX7_init RX7 34 7 11 (.array .int) true := ⟨RX7, TX7, 42, rfl, by decide, iX7_init_X7, by decide +kernel, ⟨tyX7, tyX7_ok⟩, nmX7, by decide +kernel, rfl, fun _ => rfl⟩
theorem pX7_init_37 : km_p wsX7_init RX7 37 7 12 (.array .int) true := ⟨RX7, TX7, 42, rfl, by decide, iX7_init_X7, by decide +kernel, ⟨tyX7, tyX7_ok⟩, nmX7, by decide +kernel, rfl, fun _ => rfl⟩
theorem pX7_init_40 : km_p wsX7_init RX7 40 7 14 (.array .int) true := ⟨RX7, TX7, 42, rfl, by decide, iX7_init_X7, by decide +kernel, ⟨tyX7, tyX7_ok⟩, nmX7, by decide +kernel, rfl, fun _ => rfl⟩
theorem pX7_init_43 : km_p wsX7_init RX7 43 7 15 (.array .int) true := ⟨RX7, TX7, 42, rfl, by decide, iX7_init_X7, by decide +kernel, ⟨tyX7, tyX7_ok⟩, nmX7, by decide +kernel, rfl, fun _ => rfl⟩
theorem pX7_init_46 : km_p wsX7_init RX7 46 7 16 (.array .int) true := ⟨RX7, TX7, 42, rfl, by decide, iX7_init_X7, by decide +kernel, ⟨tyX7, tyX7_ok⟩, nmX7, by decide +kernel, rfl, fun _ => rfl⟩
theorem pX7_init_49 : km_p wsX7_init RX7 49 7 17 (.array .int) true := ⟨RX7, TX7, 42, rfl, by decide, iX7_init_X7, by decide +kernel, ⟨tyX7, tyX7_ok⟩, nmX7, by decide +kernel, rfl, fun _ => rfl⟩
theorem pX7_init_52 : km_p wsX7_init RX7 52 7 22 (.array .int) true := ⟨RX7, TX7, 42, rfl, by decide, iX7_init_X7, by decide +kernel, ⟨tyX7, tyX7_ok⟩, nmX7, by decide +kernel, rfl, fun _ => rfl⟩
theorem pX7_init_55 : km_p wsX7_init RX7 55 7 23 (.array .int) true := ⟨RX7, TX7, 42, rfl, by decide, iX7_init_X7, by decide +kernel, ⟨tyX7, tyX7_ok⟩, nmX7, by decide +kernel, rfl, fun _ => rfl⟩
theorem pX7_init_58 : km_p wsX7_init RX7 58 7 24 (.array .int) true := ⟨RX7, TX7, 42, rfl, by decide, iX7_init_X7, by decide +kernel, ⟨tyX7, tyX7_ok⟩, nmX7, by decide +kernel, rfl, fun _ => rfl⟩
theorem pX7_init_61 : km_p wsX7_init RX7 61 7 25 (.array .int) true := ⟨RX7, TX7, 42, rfl, by decide, iX7_init_X7, by decide +kernel, ⟨tyX7, tyX7_ok⟩, nmX7, by decide +kernel, rfl, fun _ => rfl⟩
theorem pX7_init_64 : km_p wsX7_init RX7 64 7 26 (.array .int) true := ⟨RX7, TX7, 42, rfl, by decide, iX7_init_X7, by decide +kernel, ⟨tyX7, tyX7_ok⟩, nmX7, by decide +kernel, rfl, fun _ => rfl⟩
theorem pX7_init_67 : km_p wsX7_init RX7 67 7 27 (.array .int) true := ⟨RX7, TX7, 42, rfl, by decide, iX7_init_X7, by decide +kernel, ⟨tyX7, tyX7_ok⟩, nmX7, by decide +kernel, rfl, fun _ => rfl⟩
theorem pX7_init_70 : km_p wsX7_init RX7 70 7 28 (.array .int) true := ⟨RX7, TX7, 42, rfl, by decide, iX7_init_X7, by decide +kernel, ⟨tyX7, tyX7_ok⟩, nmX7, by decide +kernel, rfl, fun _ => rfl⟩
theorem pX7_init_73 : km_p wsX7_init RX7 73 7 29 (.array .int) true := ⟨RX7, TX7, 42, rfl, by decide, iX7_init_X7, by decide +kernel, ⟨tyX7, tyX7_ok⟩, nmX7, by decide +kernel, rfl, fun _ => rfl⟩
theorem pX7_init_76 : km_p wsX7_init RX7 76 7 30 (.array .int) true := ⟨RX7, TX7, 42, rfl, by decide, iX7_init_X7, by decide +kernel, ⟨tyX7, tyX7_ok⟩, nmX7, by decide +kernel, rfl, fun _ => rfl⟩
theorem pX7_init_79 : km_p wsX7_init RX7 79 7 31 (.array .int) true := ⟨RX7, TX7, 42, rfl, by decide, iX7_init_X7, by decide +kernel, ⟨tyX7, tyX7_ok⟩, nmX7, by decide +kernel, rfl, fun _ => rfl⟩
theorem pX7_init_82 : km_p wsX7_init RX7 82 7 32 (.array .int) true := ⟨RX7, TX7, 42, rfl, by decide, iX7_init_X7, by decide +kernel, ⟨tyX7, tyX7_ok⟩, nmX7, by decide +kernel, rfl, fun _ => rfl⟩
theorem pX7_init_85 : km_p wsX7_init RX7 85 7 33 (.array .int) true := ⟨RX7, TX7, 42, rfl, by decide, iX7_init_X7, by decide +kernel, ⟨tyX7, tyX7_ok⟩, nmX7, by decide +kernel, rfl, fun _ => rfl⟩
theorem pX7_init_88 : km_p wsX7_init RX7 88 7 34 (.array .int) true := ⟨RX7, TX7, 42, rfl, by decide, iX7_init_X7, by decide +kernel, ⟨tyX7, tyX7_ok⟩, nmX7, by decide +kernel, rfl, fun _ => rfl⟩
theorem pX7_init_91 : km_p wsX7_init RX7 91 7 37 .int false := ⟨RX7, TX7, 42, rfl, by decide, iX7_init_X7, by decide +kernel, ⟨tyX7, tyX7_ok⟩, nmX7, by decide +kernel, rfl, fun h => by cases h⟩
theorem pX7_init_95 : km_p wsX7_init RX7 95 7 38 .int false := ⟨RX7, TX7, 42, rfl, by decide, iX7_init_X7, by decide +kernel, ⟨tyX7, tyX7_ok⟩, nmX7, by decide +kernel, rfl, fun h => by cases h⟩
theorem pX7_init_98 : km_p wsX7_init RX7 98 7 39 (.array .int) true := ⟨RX7, TX7, 42, rfl, by decide, iX7_init_X7, by decide +kernel, ⟨tyX7, tyX7_ok⟩, nmX7, by decide +kernel, rfl, fun _ => rfl⟩
theorem pX7_init_101 : km_p wsX7_init RX7 101 7 40 (.array .int) true := ⟨RX7, TX7, 42, rfl, by decide, iX7_init_X7, by decide +kernel, ⟨tyX7, tyX7_ok⟩, nmX7, by decide +kernel, rfl, fun _ => rfl⟩
theorem pX7_init_104 : km_p wsX7_init RX7 104 7 0 .int true := ⟨RX7, TX7, 42, rfl, by decide, iX7_init_X7, by decide +kernel, ⟨tyX7, tyX7_ok⟩, nmX7, by decide +kernel, rfl, fun _ => rfl⟩
theorem fX7_init_104 : km_f wsX7_init RX7 104 7 0 := ⟨RX7, TX7, 42, rfl, by decide, iX7_init_X7, by decide +kernel⟩
theorem pX7_init_107 : km_p wsX7_init RX7 107 7 1 .int true := ⟨RX7, TX7, 42, rfl, by decide, iX7_init_X7, by decide +kernel, ⟨tyX7, tyX7_ok⟩, nmX7, by decide +kernel, rfl, fun _ => rfl⟩
theorem fX7_init_28 : km_f wsX7_init RX7 28 7 8 := ⟨RX7, TX7, 42, rfl, by decide, iX7_init_X7, by decide +kernel⟩
