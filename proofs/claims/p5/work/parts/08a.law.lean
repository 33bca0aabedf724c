theorem vL_law_9 : km_cS wsL_law RL 9 yL_cell wsL_cell 2 2 := ⟨gL_law_L_cell, ⟨_, _, _, rfl⟩, ⟨by decide +kernel, by decide +kernel, by decide +kernel⟩⟩
theorem vL_law_21 : km_cV wsL_law RL 21 6 yX6_method wsX6_method 3 1 := ⟨gL_law_X6_method, ⟨_, _, _, rfl⟩, ⟨by decide +kernel, by decide +kernel, by decide +kernel⟩, TX6, 17, rfl⟩
theorem vL_law_25 : km_cV wsL_law RL 25 7 yX7_method wsX7_method 3 1 := ⟨gL_law_X7_method, ⟨_, _, _, rfl⟩, ⟨by decide +kernel, by decide +kernel, by decide +kernel⟩, TX7, 42, rfl⟩
theorem vL_law_26 : km_cV wsL_law RL 26 6 yX6_op wsX6_op 8 6 := ⟨gL_law_X6_op, ⟨_, _, _, rfl⟩, ⟨by decide +kernel, by decide +kernel, by decide +kernel⟩, TX6, 17, rfl⟩
theorem vL_law_30 : km_cV wsL_law RL 30 7 yX7_op wsX7_op 9 6 := ⟨gL_law_X7_op, ⟨_, _, _, rfl⟩, ⟨by decide +kernel, by decide +kernel, by decide +kernel⟩, TX7, 42, rfl⟩
theorem vL_law_31 : km_cV wsL_law RL 31 6 yX6_clear wsX6_clear 3 2 := ⟨gL_law_X6_clear, ⟨_, _, _, rfl⟩, ⟨by decide +kernel, by decide +kernel, by decide +kernel⟩, TX6, 17, rfl⟩
theorem vL_law_35 : km_cV wsL_law RL 35 7 yX7_clear wsX7_clear 4 2 := ⟨gL_law_X7_clear, ⟨_, _, _, rfl⟩, ⟨by decide +kernel, by decide +kernel, by decide +kernel⟩, TX7, 42, rfl⟩
theorem vL_law_36 : km_cV wsL_law RL 36 6 yX6_run wsX6_run 5 4 := ⟨gL_law_X6_run, ⟨_, _, _, rfl⟩, ⟨by decide +kernel, by decide +kernel, by decide +kernel⟩, TX6, 17, rfl⟩
theorem vL_law_40 : km_cV wsL_law RL 40 7 yX7_run wsX7_run 5 4 := ⟨gL_law_X7_run, ⟨_, _, _, rfl⟩, ⟨by decide +kernel, by decide +kernel, by decide +kernel⟩, TX7, 42, rfl⟩
theorem vL_law_41 : km_cV wsL_law RL 41 6 yX6_ran wsX6_ran 3 1 := ⟨gL_law_X6_ran, ⟨_, _, _, rfl⟩, ⟨by decide +kernel, by decide +kernel, by decide +kernel⟩, TX6, 17, rfl⟩
theorem vL_law_44 : km_cV wsL_law RL 44 7 yX7_ran wsX7_ran 2 1 := ⟨gL_law_X7_ran, ⟨_, _, _, rfl⟩, ⟨by decide +kernel, by decide +kernel, by decide +kernel⟩, TX7, 42, rfl⟩
theorem vL_law_45 : km_cV wsL_law RL 45 6 yX6_told wsX6_told 4 2 := ⟨gL_law_X6_told, ⟨_, _, _, rfl⟩, ⟨by decide +kernel, by decide +kernel, by decide +kernel⟩, TX6, 17, rfl⟩
theorem vL_law_48 : km_cV wsL_law RL 48 7 yX7_told wsX7_told 3 2 := ⟨gL_law_X7_told, ⟨_, _, _, rfl⟩, ⟨by decide +kernel, by decide +kernel, by decide +kernel⟩, TX7, 42, rfl⟩
theorem vL_law_49 : km_cV wsL_law RL 49 6 yX6_rename wsX6_rename 3 2 := ⟨gL_law_X6_rename, ⟨_, _, _, rfl⟩, ⟨by decide +kernel, by decide +kernel, by decide +kernel⟩, TX6, 17, rfl⟩
theorem vL_law_52 : km_cV wsL_law RL 52 7 yX7_rename wsX7_rename 5 2 := ⟨gL_law_X7_rename, ⟨_, _, _, rfl⟩, ⟨by decide +kernel, by decide +kernel, by decide +kernel⟩, TX7, 42, rfl⟩
theorem vL_law_53 : km_cV wsL_law RL 53 6 yX6_group wsX6_group 4 2 := ⟨gL_law_X6_group, ⟨_, _, _, rfl⟩, ⟨by decide +kernel, by decide +kernel, by decide +kernel⟩, TX6, 17, rfl⟩
theorem vL_law_56 : km_cV wsL_law RL 56 7 yX7_group wsX7_group 4 2 := ⟨gL_law_X7_group, ⟨_, _, _, rfl⟩, ⟨by decide +kernel, by decide +kernel, by decide +kernel⟩, TX7, 42, rfl⟩
theorem vL_law_57 : km_cV wsL_law RL 57 6 yX6_hold wsX6_hold 4 2 := ⟨gL_law_X6_hold, ⟨_, _, _, rfl⟩, ⟨by decide +kernel, by decide +kernel, by decide +kernel⟩, TX6, 17, rfl⟩
theorem vL_law_60 : km_cV wsL_law RL 60 7 yX7_hold wsX7_hold 4 2 := ⟨gL_law_X7_hold, ⟨_, _, _, rfl⟩, ⟨by decide +kernel, by decide +kernel, by decide +kernel⟩, TX7, 42, rfl⟩
theorem vL_law_61 : km_cV wsL_law RL 61 6 yX6_first wsX6_first 2 1 := ⟨gL_law_X6_first, ⟨_, _, _, rfl⟩, ⟨by decide +kernel, by decide +kernel, by decide +kernel⟩, TX6, 17, rfl⟩
theorem vL_law_64 : km_cV wsL_law RL 64 7 yX7_first wsX7_first 2 1 := ⟨gL_law_X7_first, ⟨_, _, _, rfl⟩, ⟨by decide +kernel, by decide +kernel, by decide +kernel⟩, TX7, 42, rfl⟩
theorem vL_law_65 : km_cV wsL_law RL 65 6 yX6_match wsX6_match 3 1 := ⟨gL_law_X6_match, ⟨_, _, _, rfl⟩, ⟨by decide +kernel, by decide +kernel, by decide +kernel⟩, TX6, 17, rfl⟩
theorem vL_law_68 : km_cV wsL_law RL 68 7 yX7_match wsX7_match 3 1 := ⟨gL_law_X7_match, ⟨_, _, _, rfl⟩, ⟨by decide +kernel, by decide +kernel, by decide +kernel⟩, TX7, 42, rfl⟩
theorem vL_law_69 : km_cV wsL_law RL 69 6 yX6_find wsX6_find 6 2 := ⟨gL_law_X6_find, ⟨_, _, _, rfl⟩, ⟨by decide +kernel, by decide +kernel, by decide +kernel⟩, TX6, 17, rfl⟩
theorem vL_law_72 : km_cV wsL_law RL 72 7 yX7_find wsX7_find 5 2 := ⟨gL_law_X7_find, ⟨_, _, _, rfl⟩, ⟨by decide +kernel, by decide +kernel, by decide +kernel⟩, TX7, 42, rfl⟩
theorem vL_law_73 : km_cV wsL_law RL 73 6 yX6_assume wsX6_assume 3 2 := ⟨gL_law_X6_assume, ⟨_, _, _, rfl⟩, ⟨by decide +kernel, by decide +kernel, by decide +kernel⟩, TX6, 17, rfl⟩
theorem vL_law_76 : km_cV wsL_law RL 76 7 yX7_assume wsX7_assume 3 2 := ⟨gL_law_X7_assume, ⟨_, _, _, rfl⟩, ⟨by decide +kernel, by decide +kernel, by decide +kernel⟩, TX7, 42, rfl⟩
theorem vL_law_77 : km_cV wsL_law RL 77 6 yX6_drop wsX6_drop 2 0 := ⟨gL_law_X6_drop, ⟨_, _, _, rfl⟩, ⟨by decide +kernel, by decide +kernel, by decide +kernel⟩, TX6, 17, rfl⟩
theorem vL_law_81 : km_cV wsL_law RL 81 7 yX7_drop wsX7_drop 2 0 := ⟨gL_law_X7_drop, ⟨_, _, _, rfl⟩, ⟨by decide +kernel, by decide +kernel, by decide +kernel⟩, TX7, 42, rfl⟩
theorem vL_law_82 : km_cV wsL_law RL 82 6 yX6_prove wsX6_prove 4 0 := ⟨gL_law_X6_prove, ⟨_, _, _, rfl⟩, ⟨by decide +kernel, by decide +kernel, by decide +kernel⟩, TX6, 17, rfl⟩
theorem vL_law_85 : km_cV wsL_law RL 85 7 yX7_prove wsX7_prove 3 0 := ⟨gL_law_X7_prove, ⟨_, _, _, rfl⟩, ⟨by decide +kernel, by decide +kernel, by decide +kernel⟩, TX7, 42, rfl⟩
theorem vL_law_86 : km_cV wsL_law RL 86 6 yX6_why wsX6_why 2 1 := ⟨gL_law_X6_why, ⟨_, _, _, rfl⟩, ⟨by decide +kernel, by decide +kernel, by decide +kernel⟩, TX6, 17, rfl⟩
theorem vL_law_89 : km_cV wsL_law RL 89 7 yX7_why wsX7_why 2 1 := ⟨gL_law_X7_why, ⟨_, _, _, rfl⟩, ⟨by decide +kernel, by decide +kernel, by decide +kernel⟩, TX7, 42, rfl⟩
theorem vL_law_90 : km_cV wsL_law RL 90 6 yX6_count wsX6_count 2 1 := ⟨gL_law_X6_count, ⟨_, _, _, rfl⟩, ⟨by decide +kernel, by decide +kernel, by decide +kernel⟩, TX6, 17, rfl⟩
theorem vL_law_93 : km_cV wsL_law RL 93 7 yX7_count wsX7_count 2 1 := ⟨gL_law_X7_count, ⟨_, _, _, rfl⟩, ⟨by decide +kernel, by decide +kernel, by decide +kernel⟩, TX7, 42, rfl⟩
theorem nL_law_7 : km_n wsL_law RL 7 6 17 := ⟨RX6, TX6, tyX6, rfl, inlX6, by decide +kernel, by decide +kernel, by decide +kernel, tyX6_ok, by decide +kernel⟩
theorem nL_law_18 : km_n wsL_law RL 18 7 42 := ⟨RX7, TX7, tyX7, rfl, inlX7, by decide +kernel, by decide +kernel, by decide +kernel, tyX7_ok, by decide +kernel⟩
theorem vL_law_15 : km_cI wsL_law RL 15 yX6_init wsX6_init 2 1 := ⟨gL_law_X6_init, ⟨_, _, rfl⟩, ⟨by decide +kernel, by decide +kernel, by decide +kernel⟩, by decide +kernel, by decide +kernel, rfl, Or.inl (by decide +kernel)⟩
theorem vL_law_20 : km_cI wsL_law RL 20 yX7_init wsX7_init 3 1 := ⟨gL_law_X7_init, ⟨_, _, rfl⟩, ⟨by decide +kernel, by decide +kernel, by decide +kernel⟩, by decide +kernel, by decide +kernel, rfl, Or.inl (by decide +kernel)⟩
def L_cell_w (E : km_E) (x1 : Int32) (mi : km_I) (K : Int32 → km_I → Prop) : Prop := (((Int32.ofNat (E.2.2.1 2)) ≤ x1 → K 0 mi) ∧ (¬ (Int32.ofNat (E.2.2.1 2)) ≤ x1 → vp_in x1 (E.2.2.1 2) ∧ K (E.2.2.2.1 2 (Int32.toNatClampNeg x1)) mi))
set_option maxHeartbeats 4000000 in
set_option maxRecDepth 100000 in
theorem L_cell_c {E : km_E} {l : Launch} {mr : km_R} {sh : km_S} {x1 : Int32} {mi : km_I} {K : Int32 → km_I → Prop} (h : L_cell_w E x1 mi K) : km_Ci E l yL_cell wsL_cell rmL_cell [.retAddr 2, .int x1] sh mi mr K := by
  refine km_start (cc := cL_cell) (maxL := 2) (ret := (some .int)) (by decide) rfl (Nat.le_of_ble_eq_true rfl) ?_
  intro X hl hX hF _
  subst hl

  have h : (((Int32.ofNat (E.2.2.1 2)) ≤ x1 → K 0 mi) ∧ (¬ (Int32.ofNat (E.2.2.1 2)) ≤ x1 → vp_in x1 (E.2.2.1 2) ∧ K (E.2.2.2.1 2 (Int32.toNatClampNeg x1)) mi)) := h
  refine km_iload_n hX dL_cell_0 rfl ?_
  refine km_aload_n hX dL_cell_1 rfl rfl ?_
  refine km_alenx hX (by decide) rfl dL_cell_2 ?_
  refine km_icmp_ge (tgt := 12) hX dL_cell_3 (by decide) (fun c => ?_) (fun c => ?_)
  · have h := h.1 c
    refine km_iconst (v := 0) hX dL_cell_12 (by decide) ?_
    exact km_iret hX hF rfl dL_cell_13 ⟨rfl, rfl, _, rfl, h⟩ (Nat.le_refl _) (Nat.le_refl _)
  · have h := h.2 c
    refine km_aload_n hX dL_cell_6 rfl rfl ?_
    refine km_iload_n hX dL_cell_7 rfl ?_
    obtain ⟨hc, h⟩ := h
    refine km_ialdx hX (by decide) hc dL_cell_8 ?_
    refine km_goto (tgt := 13) hX dL_cell_9 (by decide) ?_
    exact km_iret hX hF rfl dL_cell_13 ⟨rfl, rfl, _, rfl, h⟩ (Nat.le_refl _) (Nat.le_refl _)
