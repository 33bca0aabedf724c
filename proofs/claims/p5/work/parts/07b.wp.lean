def X3_takeGroups_w (o o1 : Nat) (mi : km_I) (K : km_I → Prop) : Prop := ∀ m11 : km_I, (m11 = fun q j => if q = o + 2 ∧ j < 4 then mi (o1 + 2) j else mi q j) → K m11
theorem wX3_takeGroups : Cond.methodLink RX3 25 arraycopyName ∈ wsX3_takeGroups ∧ Cond.native arraycopyName ∈ wsX3_takeGroups ∧ Cond.static arraycopyName ∈ wsX3_takeGroups ∧ Cond.initialized "java/lang/System" ∈ wsX3_takeGroups := ⟨by decide +kernel, by decide +kernel, by decide +kernel, by decide +kernel⟩
set_option maxHeartbeats 4000000 in
set_option maxRecDepth 100000 in
theorem X3_takeGroups_c {E : km_E} {l : Launch} {mr : km_R} (hmr : km_MR mr) {o o1 : Nat} (ho : km_isO o) (ho1 : km_isO o1) {mi : km_I} {K : km_I → Prop} (h : X3_takeGroups_w o o1 mi K) : km_Cv E l yX3_takeGroups wsX3_takeGroups rmX3_takeGroups [.ref o, .ref o1] SH mi mr K := by
  refine km_start (cc := cX3_takeGroups) (maxL := 2) (ret := none) (by decide) rfl (Nat.le_of_ble_eq_true rfl) ?_
  intro X hl hX hF _
  subst hl
  obtain ⟨so0, so1, so2, so3, mo1, mo2, mo3⟩ := km_fO hmr ho
  obtain ⟨sp0, sp1, sp2, sp3, mp1, mp2, mp3⟩ := km_fO hmr ho1
  refine km_aload_n hX dX3_takeGroups_0 rfl rfl ?_
  refine km_getr (q := o1 + 2) hX fX3_takeGroups_15 (by assumption) rfl dX3_takeGroups_1 (by assumption) ?_
  refine km_iconst (v := 0) hX dX3_takeGroups_4 (by decide) ?_
  refine km_aload_n hX dX3_takeGroups_5 rfl rfl ?_
  refine km_getr (q := o + 2) hX fX3_takeGroups_15 (by assumption) rfl dX3_takeGroups_6 (by assumption) ?_
  refine km_iconst (v := 0) hX dX3_takeGroups_9 (by decide) ?_
  refine km_iconst (v := 4) hX dX3_takeGroups_10 (by decide) ?_
  refine km_copy (N := 4) hX dX3_takeGroups_11 wX3_takeGroups.1 wX3_takeGroups.2.1 wX3_takeGroups.2.2.1 wX3_takeGroups.2.2.2 (by assumption) (by assumption) (by decide) (by decide) (by decide) (by decide) (by decide) (by decide) (fun m11 e11 => ?_)
  exact km_vret hX hF rfl dX3_takeGroups_14 ⟨rfl, rfl, rfl, h m11 e11⟩ (Nat.le_refl _) (Nat.le_refl _)
def X3_name_w (o : Nat) (x1 : Int32) (x2 : Int32) (mi : km_I) (K : km_I → Prop) : Prop := vp_in x1 4 ∧ (∀ m6, m6 = km_u mi (o + 1) (Int32.toNatClampNeg x1) x2 → vp_in x2 4 ∧ (∀ m13, m13 = km_u m6 (o + 3) (Int32.toNatClampNeg x2) x1 → K m13))
set_option maxHeartbeats 4000000 in
set_option maxRecDepth 100000 in
theorem X3_name_c {E : km_E} {l : Launch} {mr : km_R} (kqmr : km_MR mr) {o : Nat} {x1 : Int32} {x2 : Int32} (kqo : km_isO o) {mi : km_I} {K : km_I → Prop} (h : X3_name_w o x1 x2 mi K) : km_Cv E l yX3_name wsX3_name rmX3_name [.ref o, .int x1, .int x2] SH mi mr K := by
  refine km_start (cc := cX3_name) (maxL := 3) (ret := none) (by decide) rfl (Nat.le_of_ble_eq_true rfl) ?_
  intro X hl hX hF _
  subst hl
  obtain ⟨so0, so1, so2, so3, mo1, mo2, mo3⟩ := km_fO kqmr kqo
  have h : vp_in x1 4 ∧ (∀ m6, m6 = km_u mi (o + 1) (Int32.toNatClampNeg x1) x2 → vp_in x2 4 ∧ (∀ m13, m13 = km_u m6 (o + 3) (Int32.toNatClampNeg x2) x1 → K m13)) := h
  refine km_aload_n hX dX3_name_0 rfl rfl ?_
  refine km_getr (q := (o + 1)) hX fX3_name_9 (by assumption) rfl dX3_name_1 (by assumption) ?_
  refine km_iload_n hX dX3_name_4 rfl ?_
  refine km_iload_n hX dX3_name_5 rfl ?_
  obtain ⟨hc, h⟩ := h
  refine km_iastN hX (by assumption) hc dX3_name_6 (fun m6 e6 => ?_)
  have h := h m6 e6
  refine km_aload_n hX dX3_name_7 rfl rfl ?_
  refine km_getr (q := (o + 3)) hX fX3_name_18 (by assumption) rfl dX3_name_8 (by assumption) ?_
  refine km_iload_n hX dX3_name_11 rfl ?_
  refine km_iload_n hX dX3_name_12 rfl ?_
  obtain ⟨hc, h⟩ := h
  refine km_iastN hX (by assumption) hc dX3_name_13 (fun m13 e13 => ?_)
  have h := h m13 e13
  exact km_vret hX hF rfl dX3_name_14 ⟨rfl, rfl, rfl, h⟩ (Nat.le_refl _) (Nat.le_refl _)
def X3_swapIn_w (o : Nat) (x1 : Int32) (x2 : Int32) (mi : km_I) (K : Int32 → km_I → Prop) : Prop := vp_in x1 4 ∧ vp_in x2 4 ∧ X3_name_w o (mi (o + 3) (Int32.toNatClampNeg x2)) (mi (o + 1) (Int32.toNatClampNeg x1)) mi (fun m15 => X3_name_w o x1 x2 m15 (fun m21 => K (mi (o + 1) (Int32.toNatClampNeg x1)) m21))
set_option maxHeartbeats 4000000 in
set_option maxRecDepth 100000 in
theorem X3_swapIn_c {E : km_E} {l : Launch} {mr : km_R} (kqmr : km_MR mr) {o : Nat} {x1 : Int32} {x2 : Int32} (kqo : km_isO o) {mi : km_I} {K : Int32 → km_I → Prop} (h : X3_swapIn_w o x1 x2 mi K) : km_Ci E l yX3_swapIn wsX3_swapIn rmX3_swapIn [.ref o, .int x1, .int x2] SH mi mr K := by
  refine km_start (cc := cX3_swapIn) (maxL := 4) (ret := (some .int)) (by decide) rfl (Nat.le_of_ble_eq_true rfl) ?_
  intro X hl hX hF _
  subst hl
  obtain ⟨so0, so1, so2, so3, mo1, mo2, mo3⟩ := km_fO kqmr kqo
  have h : vp_in x1 4 ∧ vp_in x2 4 ∧ X3_name_w o (mi (o + 3) (Int32.toNatClampNeg x2)) (mi (o + 1) (Int32.toNatClampNeg x1)) mi (fun m15 => X3_name_w o x1 x2 m15 (fun m21 => K (mi (o + 1) (Int32.toNatClampNeg x1)) m21)) := h
  refine km_aload_n hX dX3_swapIn_0 rfl rfl ?_
  refine km_getr (q := (o + 1)) hX fX3_swapIn_9 (by assumption) rfl dX3_swapIn_1 (by assumption) ?_
  refine km_iload_n hX dX3_swapIn_4 rfl ?_
  obtain ⟨hc, h⟩ := h
  refine km_iald hX (by assumption) hc dX3_swapIn_5 ?_
  refine km_istore_n hX dX3_swapIn_6 (by decide) ?_
  refine km_aload_n hX dX3_swapIn_7 rfl rfl ?_
  refine km_aload_n hX dX3_swapIn_8 rfl rfl ?_
  refine km_getr (q := (o + 3)) hX fX3_swapIn_18 (by assumption) rfl dX3_swapIn_9 (by assumption) ?_
  refine km_iload_n hX dX3_swapIn_12 rfl ?_
  obtain ⟨hc, h⟩ := h
  refine km_iald hX (by assumption) hc dX3_swapIn_13 ?_
  refine km_iload_n hX dX3_swapIn_14 rfl ?_
  refine km_callVv hX dX3_swapIn_15 vX3_swapIn_21 (X3_name_c kqmr kqo h) (by decide) (by assumption) rfl rfl (Nat.le_of_ble_eq_true rfl) (fun m15 h => ?_)
  refine km_aload_n hX dX3_swapIn_18 rfl rfl ?_
  refine km_iload_n hX dX3_swapIn_19 rfl ?_
  refine km_iload_n hX dX3_swapIn_20 rfl ?_
  refine km_callVv hX dX3_swapIn_21 vX3_swapIn_21 (X3_name_c kqmr kqo h) (by decide) (by assumption) rfl rfl (Nat.le_of_ble_eq_true rfl) (fun m21 h => ?_)
  refine km_iload_n hX dX3_swapIn_24 rfl ?_
  exact km_iret hX hF rfl dX3_swapIn_25 ⟨rfl, rfl, _, rfl, h⟩ (Nat.le_refl _) (Nat.le_refl _)
def X3_nextIn_b3 (o : Nat) (x1 : Int32) (q2 : Nat) (x3 : Int32) (x4 : Int32) (n : Nat) (y1 : Int32) (y3 : Int32) (y4 : Int32) (y5 : Int32) (mi : km_I) (K : Int32 → km_I → Prop) : Prop := match n with
  | 0 => False
  | n + 1 => ((y4 ≤ y5 → K y4 mi) ∧ (¬ y4 ≤ y5 → vp_in y5 40 ∧ vp_in (mi (q2 + 1) (Int32.toNatClampNeg y5)) 4 ∧ vp_in (mi (o + 3) (Int32.toNatClampNeg (mi (q2 + 1) (Int32.toNatClampNeg y5)))) 4 ∧ ((¬ (mi (o + 2) (Int32.toNatClampNeg (mi (o + 3) (Int32.toNatClampNeg (mi (q2 + 1) (Int32.toNatClampNeg y5)))))) = y1 → X3_nextIn_b3 o x1 q2 x3 x4 n y1 y3 y4 (y5 + 1) mi K) ∧ ((mi (o + 2) (Int32.toNatClampNeg (mi (o + 3) (Int32.toNatClampNeg (mi (q2 + 1) (Int32.toNatClampNeg y5)))))) = y1 → K y5 mi))))
set_option maxHeartbeats 4000000 in
set_option maxRecDepth 100000 in
theorem X3_nextIn_b3_t {E : km_E} {X : km_X} {mr : km_R} {K : Int32 → km_I → Prop} {o : Nat} {x1 : Int32} {q2 : Nat} {x3 : Int32} {x4 : Int32} (hX : km_ok E X rmX3_nextIn cX3_nextIn 6 wsX3_nextIn RX3) (hF : km_fin E X (some .int) 0 0 (fun r sh' mi' mr' => sh' = SH ∧ mr' = mr ∧ ∃ i, r = some (.int i) ∧ K i mi')) (kqmr : km_MR mr) (kqo : km_isO o) (kqq2 : km_isT q2) : ∀ (n : Nat) (y1 : Int32) (y3 : Int32) (y4 : Int32) (y5 : Int32) (mi : km_I), X3_nextIn_b3 o x1 q2 x3 x4 n y1 y3 y4 y5 mi K → km_G E X 6 SH mi mr 0 0 3 [(0, .ref o), (1, .int y1), (2, .ref q2), (3, .int y3), (4, .int y4), (5, .int y5)] [] := by
  obtain ⟨so0, so1, so2, so3, mo1, mo2, mo3⟩ := km_fO kqmr kqo
  obtain ⟨sq20, sq21, sq22, sq23, sq24, sq25, sq26, mq21, mq22, mq23, mq24, mq25, mq26⟩ := km_fT kqmr kqq2
  intro n
  induction n with
  | zero => intro y1 y3 y4 y5 mi h; exact h.elim
  | succ n ih =>
    intro y1 y3 y4 y5 mi h
    have h : ((y4 ≤ y5 → K y4 mi) ∧ (¬ y4 ≤ y5 → vp_in y5 40 ∧ vp_in (mi (q2 + 1) (Int32.toNatClampNeg y5)) 4 ∧ vp_in (mi (o + 3) (Int32.toNatClampNeg (mi (q2 + 1) (Int32.toNatClampNeg y5)))) 4 ∧ ((¬ (mi (o + 2) (Int32.toNatClampNeg (mi (o + 3) (Int32.toNatClampNeg (mi (q2 + 1) (Int32.toNatClampNeg y5)))))) = y1 → X3_nextIn_b3 o x1 q2 x3 x4 n y1 y3 y4 (y5 + 1) mi K) ∧ ((mi (o + 2) (Int32.toNatClampNeg (mi (o + 3) (Int32.toNatClampNeg (mi (q2 + 1) (Int32.toNatClampNeg y5)))))) = y1 → K y5 mi)))) := h
    refine km_iload hX dX3_nextIn_3 rfl ?_
    refine km_iload hX dX3_nextIn_5 rfl ?_
    refine km_icmp_ge (tgt := 40) hX dX3_nextIn_7 (by decide) (fun c => ?_) (fun c => ?_)
    · have h := h.1 c
      refine km_iload hX dX3_nextIn_40 rfl ?_
      exact km_iret hX hF rfl dX3_nextIn_42 ⟨rfl, rfl, _, rfl, h⟩ (Nat.le_refl _) (Nat.le_refl _)
    · have h := h.2 c
      refine km_aload_n hX dX3_nextIn_10 rfl rfl ?_
      refine km_getr (q := (o + 2)) hX fX3_nextIn_15 (by assumption) rfl dX3_nextIn_11 (by assumption) ?_
      refine km_aload_n hX dX3_nextIn_14 rfl rfl ?_
      refine km_getr (q := (o + 3)) hX fX3_nextIn_18 (by assumption) rfl dX3_nextIn_15 (by assumption) ?_
      refine km_aload_n hX dX3_nextIn_18 rfl rfl ?_
      refine km_getr (q := (q2 + 1)) hX fX3_nextIn_35 (by assumption) rfl dX3_nextIn_19 (by assumption) ?_
      refine km_iload hX dX3_nextIn_22 rfl ?_
      obtain ⟨hc, h⟩ := h
      refine km_iald hX (by assumption) hc dX3_nextIn_24 ?_
      obtain ⟨hc, h⟩ := h
      refine km_iald hX (by assumption) hc dX3_nextIn_25 ?_
      obtain ⟨hc, h⟩ := h
      refine km_iald hX (by assumption) hc dX3_nextIn_26 ?_
      refine km_iload_n hX dX3_nextIn_27 rfl ?_
      refine km_icmp_ne (tgt := 34) hX dX3_nextIn_28 (by decide) (fun c => ?_) (fun c => ?_)
      · have h := h.1 c
        refine km_iinc (v := 1) hX dX3_nextIn_34 (by decide) rfl (by decide) ?_
        refine km_goto (tgt := 3) hX dX3_nextIn_37 (by decide) ?_
        refine km_ren (ls' := [(0, .ref o), (1, .int y1), (2, .ref q2), (3, .int y3), (4, .int y4), (5, .int (y5 + 1))]) [0, 1, 2, 3, 4, 5] rfl ?_
        exact ih _ _ _ _ _ h
      · have h := h.2 c
        refine km_iload hX dX3_nextIn_31 rfl ?_
        exact km_iret hX hF rfl dX3_nextIn_33 ⟨rfl, rfl, _, rfl, h⟩ (Nat.le_refl _) (Nat.le_refl _)
def X3_nextIn_w (o : Nat) (x1 : Int32) (q2 : Nat) (x3 : Int32) (x4 : Int32) (mi : km_I) (K : Int32 → km_I → Prop) : Prop := ∃ k, X3_nextIn_b3 o x1 q2 x3 x4 k x1 x3 x4 x3 mi K
set_option maxHeartbeats 4000000 in
set_option maxRecDepth 100000 in
theorem X3_nextIn_c {E : km_E} {l : Launch} {mr : km_R} (kqmr : km_MR mr) {o : Nat} {x1 : Int32} {q2 : Nat} {x3 : Int32} {x4 : Int32} (kqo : km_isO o) (kqq2 : km_isT q2) {mi : km_I} {K : Int32 → km_I → Prop} (h : X3_nextIn_w o x1 q2 x3 x4 mi K) : km_Ci E l yX3_nextIn wsX3_nextIn rmX3_nextIn [.ref o, .int x1, .ref q2, .int x3, .int x4] SH mi mr K := by
  refine km_start (cc := cX3_nextIn) (maxL := 6) (ret := (some .int)) (by decide) rfl (Nat.le_of_ble_eq_true rfl) ?_
  intro X hl hX hF _
  subst hl
  obtain ⟨so0, so1, so2, so3, mo1, mo2, mo3⟩ := km_fO kqmr kqo
  obtain ⟨sq20, sq21, sq22, sq23, sq24, sq25, sq26, mq21, mq22, mq23, mq24, mq25, mq26⟩ := km_fT kqmr kqq2
  have h : ∃ k, X3_nextIn_b3 o x1 q2 x3 x4 k x1 x3 x4 x3 mi K := h
  refine km_iload_n hX dX3_nextIn_0 rfl ?_
  refine km_istore hX dX3_nextIn_1 (by decide) ?_
  obtain ⟨n9, h⟩ := h
  refine km_ren (ls' := [(0, .ref o), (1, .int x1), (2, .ref q2), (3, .int x3), (4, .int x4), (5, .int x3)]) [0, 1, 2, 3, 4, 5] rfl ?_
  exact X3_nextIn_b3_t hX hF kqmr kqo kqq2 n9 _ _ _ _ _ h
def X3_alikeIn_b93 (o : Nat) (x1 : Int32) (q2 : Nat) (q3 : Nat) (x4 : Int32) (x5 : Int32) (Z8 : Int32 → Int32 → Int32 → Int32 → Int32 → km_I → Prop) (y1 : Int32) (y4 : Int32) (y5 : Int32) (y6 : Int32) (y7 : Int32) (y8 : Int32) (mi : km_I) (K : Int32 → km_I → Prop) : Prop := Z8 y1 y4 y5 y6 (y7 + 1) mi
set_option maxHeartbeats 4000000 in
set_option maxRecDepth 100000 in
theorem X3_alikeIn_b93_t {E : km_E} {X : km_X} {mr : km_R} {K : Int32 → km_I → Prop} {o : Nat} {x1 : Int32} {q2 : Nat} {q3 : Nat} {x4 : Int32} {x5 : Int32} {Z8 : Int32 → Int32 → Int32 → Int32 → Int32 → km_I → Prop} (hX : km_ok E X rmX3_alikeIn cX3_alikeIn 9 wsX3_alikeIn RX3) (hF : km_fin E X (some .boolean) 0 0 (fun r sh' mi' mr' => sh' = SH ∧ mr' = mr ∧ ∃ i, r = some (.int i) ∧ K i mi')) (kqmr : km_MR mr) (kqo : km_isO o) (kqq2 : km_isT q2) (kqq3 : km_isT q3) (hZ8 : ∀ (y1 : Int32) (y4 : Int32) (y5 : Int32) (y6 : Int32) (y7 : Int32) (m : km_I), Z8 y1 y4 y5 y6 y7 m → km_G E X 9 SH m mr 0 0 8 [(0, .ref o), (1, .int y1), (2, .ref q2), (3, .ref q3), (4, .int y4), (5, .int y5), (6, .int y6), (7, .int y7)] []) : ∀ (y1 : Int32) (y4 : Int32) (y5 : Int32) (y6 : Int32) (y7 : Int32) (y8 : Int32) (mi : km_I), X3_alikeIn_b93 o x1 q2 q3 x4 x5 Z8 y1 y4 y5 y6 y7 y8 mi K → km_G E X 9 SH mi mr 0 0 93 [(0, .ref o), (1, .int y1), (2, .ref q2), (3, .ref q3), (4, .int y4), (5, .int y5), (6, .int y6), (7, .int y7), (8, .int y8)] [] := by
  obtain ⟨so0, so1, so2, so3, mo1, mo2, mo3⟩ := km_fO kqmr kqo
  obtain ⟨sq20, sq21, sq22, sq23, sq24, sq25, sq26, mq21, mq22, mq23, mq24, mq25, mq26⟩ := km_fT kqmr kqq2
  obtain ⟨sq30, sq31, sq32, sq33, sq34, sq35, sq36, mq31, mq32, mq33, mq34, mq35, mq36⟩ := km_fT kqmr kqq3
  intro y1 y4 y5 y6 y7 y8 mi h
  have h : Z8 y1 y4 y5 y6 (y7 + 1) mi := h
  refine km_iinc (v := 1) hX dX3_alikeIn_93 (by decide) rfl (by decide) ?_
  refine km_goto (tgt := 8) hX dX3_alikeIn_96 (by decide) ?_
  refine km_ren (ls' := [(0, .ref o), (1, .int y1), (2, .ref q2), (3, .ref q3), (4, .int y4), (5, .int y5), (6, .int y6), (7, .int (y7 + 1))]) [0, 1, 2, 3, 4, 5, 6, 7] rfl ?_
  exact hZ8 _ _ _ _ _ _ h
def X3_alikeIn_b8 (o : Nat) (x1 : Int32) (q2 : Nat) (q3 : Nat) (x4 : Int32) (x5 : Int32) (n : Nat) (y1 : Int32) (y4 : Int32) (y5 : Int32) (y6 : Int32) (y7 : Int32) (mi : km_I) (K : Int32 → km_I → Prop) : Prop := match n with
  | 0 => False
  | n + 1 => ((y5 ≤ y7 → X3_nextIn_w o y1 q3 y6 y5 mi (fun r106 m106 => ((¬ r106 = y5 → K 0 m106) ∧ (r106 = y5 → K 1 m106)))) ∧ (¬ y5 ≤ y7 → vp_in y7 40 ∧ vp_in (mi (q2 + 1) (Int32.toNatClampNeg y7)) 4 ∧ ((¬ (mi (o + 2) (Int32.toNatClampNeg (mi (q2 + 1) (Int32.toNatClampNeg y7)))) = y1 → X3_alikeIn_b93 o x1 q2 q3 x4 x5 (fun v0 v1 v2 v3 v4 m => X3_alikeIn_b8 o x1 q2 q3 x4 x5 n v0 v1 v2 v3 v4 m K) y1 y4 y5 y6 y7 (mi (q2 + 1) (Int32.toNatClampNeg y7)) mi K) ∧ ((mi (o + 2) (Int32.toNatClampNeg (mi (q2 + 1) (Int32.toNatClampNeg y7)))) = y1 → X3_nextIn_w o y1 q3 y6 y5 mi (fun r42 m42 => ((r42 = y5 → K 0 m42) ∧ (¬ r42 = y5 → vp_in r42 40 ∧ vp_in (m42 (q3 + 1) (Int32.toNatClampNeg r42)) 4 ∧ ((¬ (m42 (o + 3) (Int32.toNatClampNeg (m42 (q3 + 1) (Int32.toNatClampNeg r42)))) = (mi (q2 + 1) (Int32.toNatClampNeg y7)) → K 0 m42) ∧ ((m42 (o + 3) (Int32.toNatClampNeg (m42 (q3 + 1) (Int32.toNatClampNeg r42)))) = (mi (q2 + 1) (Int32.toNatClampNeg y7)) → vp_in r42 40 ∧ vp_in y7 40 ∧ (((m42 (q3 + 2) (Int32.toNatClampNeg r42)) = (m42 (q2 + 2) (Int32.toNatClampNeg y7)) → X3_alikeIn_b93 o x1 q2 q3 x4 x5 (fun v0 v1 v2 v3 v4 m => X3_alikeIn_b8 o x1 q2 q3 x4 x5 n v0 v1 v2 v3 v4 m K) y1 y4 y5 (r42 + 1) y7 (mi (q2 + 1) (Int32.toNatClampNeg y7)) m42 K) ∧ (¬ (m42 (q3 + 2) (Int32.toNatClampNeg r42)) = (m42 (q2 + 2) (Int32.toNatClampNeg y7)) → K 0 m42)))))))))))
set_option maxHeartbeats 4000000 in
set_option maxRecDepth 100000 in
theorem X3_alikeIn_b8_t {E : km_E} {X : km_X} {mr : km_R} {K : Int32 → km_I → Prop} {o : Nat} {x1 : Int32} {q2 : Nat} {q3 : Nat} {x4 : Int32} {x5 : Int32} (hX : km_ok E X rmX3_alikeIn cX3_alikeIn 9 wsX3_alikeIn RX3) (hF : km_fin E X (some .boolean) 0 0 (fun r sh' mi' mr' => sh' = SH ∧ mr' = mr ∧ ∃ i, r = some (.int i) ∧ K i mi')) (kqmr : km_MR mr) (kqo : km_isO o) (kqq2 : km_isT q2) (kqq3 : km_isT q3) : ∀ (n : Nat) (y1 : Int32) (y4 : Int32) (y5 : Int32) (y6 : Int32) (y7 : Int32) (mi : km_I), X3_alikeIn_b8 o x1 q2 q3 x4 x5 n y1 y4 y5 y6 y7 mi K → km_G E X 9 SH mi mr 0 0 8 [(0, .ref o), (1, .int y1), (2, .ref q2), (3, .ref q3), (4, .int y4), (5, .int y5), (6, .int y6), (7, .int y7)] [] := by
  obtain ⟨so0, so1, so2, so3, mo1, mo2, mo3⟩ := km_fO kqmr kqo
  obtain ⟨sq20, sq21, sq22, sq23, sq24, sq25, sq26, mq21, mq22, mq23, mq24, mq25, mq26⟩ := km_fT kqmr kqq2
  obtain ⟨sq30, sq31, sq32, sq33, sq34, sq35, sq36, mq31, mq32, mq33, mq34, mq35, mq36⟩ := km_fT kqmr kqq3
  intro n
  induction n with
  | zero => intro y1 y4 y5 y6 y7 mi h; exact h.elim
  | succ n ih =>
    intro y1 y4 y5 y6 y7 mi h
    have h : ((y5 ≤ y7 → X3_nextIn_w o y1 q3 y6 y5 mi (fun r106 m106 => ((¬ r106 = y5 → K 0 m106) ∧ (r106 = y5 → K 1 m106)))) ∧ (¬ y5 ≤ y7 → vp_in y7 40 ∧ vp_in (mi (q2 + 1) (Int32.toNatClampNeg y7)) 4 ∧ ((¬ (mi (o + 2) (Int32.toNatClampNeg (mi (q2 + 1) (Int32.toNatClampNeg y7)))) = y1 → X3_alikeIn_b93 o x1 q2 q3 x4 x5 (fun v0 v1 v2 v3 v4 m => X3_alikeIn_b8 o x1 q2 q3 x4 x5 n v0 v1 v2 v3 v4 m K) y1 y4 y5 y6 y7 (mi (q2 + 1) (Int32.toNatClampNeg y7)) mi K) ∧ ((mi (o + 2) (Int32.toNatClampNeg (mi (q2 + 1) (Int32.toNatClampNeg y7)))) = y1 → X3_nextIn_w o y1 q3 y6 y5 mi (fun r42 m42 => ((r42 = y5 → K 0 m42) ∧ (¬ r42 = y5 → vp_in r42 40 ∧ vp_in (m42 (q3 + 1) (Int32.toNatClampNeg r42)) 4 ∧ ((¬ (m42 (o + 3) (Int32.toNatClampNeg (m42 (q3 + 1) (Int32.toNatClampNeg r42)))) = (mi (q2 + 1) (Int32.toNatClampNeg y7)) → K 0 m42) ∧ ((m42 (o + 3) (Int32.toNatClampNeg (m42 (q3 + 1) (Int32.toNatClampNeg r42)))) = (mi (q2 + 1) (Int32.toNatClampNeg y7)) → vp_in r42 40 ∧ vp_in y7 40 ∧ (((m42 (q3 + 2) (Int32.toNatClampNeg r42)) = (m42 (q2 + 2) (Int32.toNatClampNeg y7)) → X3_alikeIn_b93 o x1 q2 q3 x4 x5 (fun v0 v1 v2 v3 v4 m => X3_alikeIn_b8 o x1 q2 q3 x4 x5 n v0 v1 v2 v3 v4 m K) y1 y4 y5 (r42 + 1) y7 (mi (q2 + 1) (Int32.toNatClampNeg y7)) m42 K) ∧ (¬ (m42 (q3 + 2) (Int32.toNatClampNeg r42)) = (m42 (q2 + 2) (Int32.toNatClampNeg y7)) → K 0 m42))))))))))) := h
    refine km_iload hX dX3_alikeIn_8 rfl ?_
    refine km_iload hX dX3_alikeIn_10 rfl ?_
    refine km_icmp_ge (tgt := 99) hX dX3_alikeIn_12 (by decide) (fun c => ?_) (fun c => ?_)
    · have h := h.1 c
      refine km_aload_n hX dX3_alikeIn_99 rfl rfl ?_
      refine km_iload_n hX dX3_alikeIn_100 rfl ?_
      refine km_aload_n hX dX3_alikeIn_101 rfl rfl ?_
      refine km_iload hX dX3_alikeIn_102 rfl ?_
      refine km_iload hX dX3_alikeIn_104 rfl ?_
      refine km_callVi hX dX3_alikeIn_106 vX3_alikeIn_40 (X3_nextIn_c kqmr kqo kqq3 h) (by decide) (by assumption) rfl rfl (Nat.le_of_ble_eq_true rfl) (fun r106 m106 h => ?_)
      refine km_iload hX dX3_alikeIn_109 rfl ?_
      refine km_icmp_ne (tgt := 118) hX dX3_alikeIn_111 (by decide) (fun c => ?_) (fun c => ?_)
      · have h := h.1 c
        refine km_iconst (v := 0) hX dX3_alikeIn_118 (by decide) ?_
        exact km_zret hX hF rfl dX3_alikeIn_119 (Or.inl rfl) ⟨rfl, rfl, _, rfl, h⟩ (Nat.le_refl _) (Nat.le_refl _)
      · have h := h.2 c
        refine km_iconst (v := 1) hX dX3_alikeIn_114 (by decide) ?_
        refine km_goto (tgt := 119) hX dX3_alikeIn_115 (by decide) ?_
        exact km_zret hX hF rfl dX3_alikeIn_119 (Or.inr rfl) ⟨rfl, rfl, _, rfl, h⟩ (Nat.le_refl _) (Nat.le_refl _)
    · have h := h.2 c
      refine km_aload_n hX dX3_alikeIn_15 rfl rfl ?_
      refine km_getr (q := (q2 + 1)) hX fX3_alikeIn_35 (by assumption) rfl dX3_alikeIn_16 (by assumption) ?_
      refine km_iload hX dX3_alikeIn_19 rfl ?_
      obtain ⟨hc, h⟩ := h
      refine km_iald hX (by assumption) hc dX3_alikeIn_21 ?_
      refine km_istore hX dX3_alikeIn_22 (by decide) ?_
      refine km_aload_n hX dX3_alikeIn_24 rfl rfl ?_
      refine km_getr (q := (o + 2)) hX fX3_alikeIn_15 (by assumption) rfl dX3_alikeIn_25 (by assumption) ?_
      refine km_iload hX dX3_alikeIn_28 rfl ?_
      obtain ⟨hc, h⟩ := h
      refine km_iald hX (by assumption) hc dX3_alikeIn_30 ?_
      refine km_iload_n hX dX3_alikeIn_31 rfl ?_
      refine km_icmp_ne (tgt := 93) hX dX3_alikeIn_32 (by decide) (fun c => ?_) (fun c => ?_)
      · have h := h.1 c
        refine km_ren (ls' := [(0, .ref o), (1, .int y1), (2, .ref q2), (3, .ref q3), (4, .int y4), (5, .int y5), (6, .int y6), (7, .int y7), (8, .int (mi (q2 + 1) (Int32.toNatClampNeg y7)))]) [0, 1, 2, 3, 4, 5, 6, 7, 8] rfl ?_
        exact X3_alikeIn_b93_t hX hF kqmr kqo kqq2 kqq3 (fun v0 v1 v2 v3 v4 m hh => ih v0 v1 v2 v3 v4 m hh) _ _ _ _ _ _ _ h
      · have h := h.2 c
        refine km_aload_n hX dX3_alikeIn_35 rfl rfl ?_
        refine km_iload_n hX dX3_alikeIn_36 rfl ?_
        refine km_aload_n hX dX3_alikeIn_37 rfl rfl ?_
        refine km_iload hX dX3_alikeIn_38 rfl ?_
        refine km_iload hX dX3_alikeIn_40 rfl ?_
        refine km_callVi hX dX3_alikeIn_42 vX3_alikeIn_40 (X3_nextIn_c kqmr kqo kqq3 h) (by decide) (by assumption) rfl rfl (Nat.le_of_ble_eq_true rfl) (fun r42 m42 h => ?_)
        refine km_istore hX dX3_alikeIn_45 (by decide) ?_
        refine km_iload hX dX3_alikeIn_47 rfl ?_
        refine km_iload hX dX3_alikeIn_49 rfl ?_
        refine km_icmp_eq (tgt := 88) hX dX3_alikeIn_51 (by decide) (fun c => ?_) (fun c => ?_)
        · have h := h.1 c
          refine km_iconst (v := 0) hX dX3_alikeIn_88 (by decide) ?_
          exact km_zret hX hF rfl dX3_alikeIn_89 (Or.inl rfl) ⟨rfl, rfl, _, rfl, h⟩ (Nat.le_refl _) (Nat.le_refl _)
        · have h := h.2 c
          refine km_aload_n hX dX3_alikeIn_54 rfl rfl ?_
          refine km_getr (q := (o + 3)) hX fX3_alikeIn_18 (by assumption) rfl dX3_alikeIn_55 (by assumption) ?_
          refine km_aload_n hX dX3_alikeIn_58 rfl rfl ?_
          refine km_getr (q := (q3 + 1)) hX fX3_alikeIn_35 (by assumption) rfl dX3_alikeIn_59 (by assumption) ?_
          refine km_iload hX dX3_alikeIn_62 rfl ?_
          obtain ⟨hc, h⟩ := h
          refine km_iald hX (by assumption) hc dX3_alikeIn_64 ?_
          obtain ⟨hc, h⟩ := h
          refine km_iald hX (by assumption) hc dX3_alikeIn_65 ?_
          refine km_iload hX dX3_alikeIn_66 rfl ?_
          refine km_icmp_ne (tgt := 88) hX dX3_alikeIn_68 (by decide) (fun c => ?_) (fun c => ?_)
          · have h := h.1 c
            refine km_iconst (v := 0) hX dX3_alikeIn_88 (by decide) ?_
            exact km_zret hX hF rfl dX3_alikeIn_89 (Or.inl rfl) ⟨rfl, rfl, _, rfl, h⟩ (Nat.le_refl _) (Nat.le_refl _)
          · have h := h.2 c
            refine km_aload_n hX dX3_alikeIn_71 rfl rfl ?_
            refine km_getr (q := (q3 + 2)) hX fX3_alikeIn_44 (by assumption) rfl dX3_alikeIn_72 (by assumption) ?_
            refine km_iload hX dX3_alikeIn_75 rfl ?_
            obtain ⟨hc, h⟩ := h
            refine km_iald hX (by assumption) hc dX3_alikeIn_77 ?_
            refine km_aload_n hX dX3_alikeIn_78 rfl rfl ?_
            refine km_getr (q := (q2 + 2)) hX fX3_alikeIn_44 (by assumption) rfl dX3_alikeIn_79 (by assumption) ?_
            refine km_iload hX dX3_alikeIn_82 rfl ?_
            obtain ⟨hc, h⟩ := h
            refine km_iald hX (by assumption) hc dX3_alikeIn_84 ?_
            refine km_icmp_eq (tgt := 90) hX dX3_alikeIn_85 (by decide) (fun c => ?_) (fun c => ?_)
            · have h := h.1 c
              refine km_iinc (v := 1) hX dX3_alikeIn_90 (by decide) rfl (by decide) ?_
              refine km_ren (ls' := [(0, .ref o), (1, .int y1), (2, .ref q2), (3, .ref q3), (4, .int y4), (5, .int y5), (6, .int (r42 + 1)), (7, .int y7), (8, .int (mi (q2 + 1) (Int32.toNatClampNeg y7)))]) [0, 1, 2, 3, 4, 5, 6, 7, 8] rfl ?_
              exact X3_alikeIn_b93_t hX hF kqmr kqo kqq2 kqq3 (fun v0 v1 v2 v3 v4 m hh => ih v0 v1 v2 v3 v4 m hh) _ _ _ _ _ _ _ h
            · have h := h.2 c
              refine km_iconst (v := 0) hX dX3_alikeIn_88 (by decide) ?_
              exact km_zret hX hF rfl dX3_alikeIn_89 (Or.inl rfl) ⟨rfl, rfl, _, rfl, h⟩ (Nat.le_refl _) (Nat.le_refl _)
def X3_alikeIn_w (o : Nat) (x1 : Int32) (q2 : Nat) (q3 : Nat) (x4 : Int32) (x5 : Int32) (mi : km_I) (K : Int32 → km_I → Prop) : Prop := ∃ k, X3_alikeIn_b8 o x1 q2 q3 x4 x5 k x1 x4 x5 x4 x4 mi K
set_option maxHeartbeats 4000000 in
set_option maxRecDepth 100000 in
theorem X3_alikeIn_c {E : km_E} {l : Launch} {mr : km_R} (kqmr : km_MR mr) {o : Nat} {x1 : Int32} {q2 : Nat} {q3 : Nat} {x4 : Int32} {x5 : Int32} (kqo : km_isO o) (kqq2 : km_isT q2) (kqq3 : km_isT q3) {mi : km_I} {K : Int32 → km_I → Prop} (h : X3_alikeIn_w o x1 q2 q3 x4 x5 mi K) : km_Ci E l yX3_alikeIn wsX3_alikeIn rmX3_alikeIn [.ref o, .int x1, .ref q2, .ref q3, .int x4, .int x5] SH mi mr K := by
  refine km_start (cc := cX3_alikeIn) (maxL := 9) (ret := (some .boolean)) (by decide) rfl (Nat.le_of_ble_eq_true rfl) ?_
  intro X hl hX hF _
  subst hl
  obtain ⟨so0, so1, so2, so3, mo1, mo2, mo3⟩ := km_fO kqmr kqo
  obtain ⟨sq20, sq21, sq22, sq23, sq24, sq25, sq26, mq21, mq22, mq23, mq24, mq25, mq26⟩ := km_fT kqmr kqq2
  obtain ⟨sq30, sq31, sq32, sq33, sq34, sq35, sq36, mq31, mq32, mq33, mq34, mq35, mq36⟩ := km_fT kqmr kqq3
  have h : ∃ k, X3_alikeIn_b8 o x1 q2 q3 x4 x5 k x1 x4 x5 x4 x4 mi K := h
  refine km_iload hX dX3_alikeIn_0 rfl ?_
  refine km_istore hX dX3_alikeIn_2 (by decide) ?_
  refine km_iload hX dX3_alikeIn_4 rfl ?_
  refine km_istore hX dX3_alikeIn_6 (by decide) ?_
  obtain ⟨n9, h⟩ := h
  refine km_ren (ls' := [(0, .ref o), (1, .int x1), (2, .ref q2), (3, .ref q3), (4, .int x4), (5, .int x5), (6, .int x4), (7, .int x4)]) [0, 1, 2, 3, 4, 5, 6, 7] rfl ?_
  exact X3_alikeIn_b8_t hX hF kqmr kqo kqq2 kqq3 n9 _ _ _ _ _ _ h
def X3_alike_b3 (o : Nat) (q1 : Nat) (q2 : Nat) (x3 : Int32) (x4 : Int32) (n : Nat) (y3 : Int32) (y4 : Int32) (y5 : Int32) (mi : km_I) (K : Int32 → km_I → Prop) : Prop := match n with
  | 0 => False
  | n + 1 => ((4 ≤ y5 → K 1 mi) ∧ (¬ 4 ≤ y5 → X3_alikeIn_w o y5 q1 q2 y3 y4 mi (fun r17 m17 => ((¬ r17 = 0 → X3_alike_b3 o q1 q2 x3 x4 n y3 y4 (y5 + 1) m17 K) ∧ (r17 = 0 → K 0 m17)))))
set_option maxHeartbeats 4000000 in
set_option maxRecDepth 100000 in
theorem X3_alike_b3_t {E : km_E} {X : km_X} {mr : km_R} {K : Int32 → km_I → Prop} {o : Nat} {q1 : Nat} {q2 : Nat} {x3 : Int32} {x4 : Int32} (hX : km_ok E X rmX3_alike cX3_alike 6 wsX3_alike RX3) (hF : km_fin E X (some .boolean) 0 0 (fun r sh' mi' mr' => sh' = SH ∧ mr' = mr ∧ ∃ i, r = some (.int i) ∧ K i mi')) (kqmr : km_MR mr) (kqo : km_isO o) (kqq1 : km_isT q1) (kqq2 : km_isT q2) : ∀ (n : Nat) (y3 : Int32) (y4 : Int32) (y5 : Int32) (mi : km_I), X3_alike_b3 o q1 q2 x3 x4 n y3 y4 y5 mi K → km_G E X 6 SH mi mr 0 0 3 [(0, .ref o), (1, .ref q1), (2, .ref q2), (3, .int y3), (4, .int y4), (5, .int y5)] [] := by
  obtain ⟨so0, so1, so2, so3, mo1, mo2, mo3⟩ := km_fO kqmr kqo
  obtain ⟨sq10, sq11, sq12, sq13, sq14, sq15, sq16, mq11, mq12, mq13, mq14, mq15, mq16⟩ := km_fT kqmr kqq1
  obtain ⟨sq20, sq21, sq22, sq23, sq24, sq25, sq26, mq21, mq22, mq23, mq24, mq25, mq26⟩ := km_fT kqmr kqq2
  intro n
  induction n with
  | zero => intro y3 y4 y5 mi h; exact h.elim
  | succ n ih =>
    intro y3 y4 y5 mi h
    have h : ((4 ≤ y5 → K 1 mi) ∧ (¬ 4 ≤ y5 → X3_alikeIn_w o y5 q1 q2 y3 y4 mi (fun r17 m17 => ((¬ r17 = 0 → X3_alike_b3 o q1 q2 x3 x4 n y3 y4 (y5 + 1) m17 K) ∧ (r17 = 0 → K 0 m17))))) := h
    refine km_iload hX dX3_alike_3 rfl ?_
    refine km_iconst (v := 4) hX dX3_alike_5 (by decide) ?_
    refine km_icmp_ge (tgt := 31) hX dX3_alike_6 (by decide) (fun c => ?_) (fun c => ?_)
    · have h := h.1 c
      refine km_iconst (v := 1) hX dX3_alike_31 (by decide) ?_
      exact km_zret hX hF rfl dX3_alike_32 (Or.inr rfl) ⟨rfl, rfl, _, rfl, h⟩ (Nat.le_refl _) (Nat.le_refl _)
    · have h := h.2 c
      refine km_aload_n hX dX3_alike_9 rfl rfl ?_
      refine km_iload hX dX3_alike_10 rfl ?_
      refine km_aload_n hX dX3_alike_12 rfl rfl ?_
      refine km_aload_n hX dX3_alike_13 rfl rfl ?_
      refine km_iload_n hX dX3_alike_14 rfl ?_
      refine km_iload hX dX3_alike_15 rfl ?_
      refine km_callVi hX dX3_alike_17 vX3_alike_31 (X3_alikeIn_c kqmr kqo kqq1 kqq2 h) (by decide) (by assumption) rfl rfl (Nat.le_of_ble_eq_true rfl) (fun r17 m17 h => ?_)
      refine km_if_ne (tgt := 25) hX dX3_alike_20 (by decide) (fun c => ?_) (fun c => ?_)
      · have h := h.1 c
        refine km_iinc (v := 1) hX dX3_alike_25 (by decide) rfl (by decide) ?_
        refine km_goto (tgt := 3) hX dX3_alike_28 (by decide) ?_
        refine km_ren (ls' := [(0, .ref o), (1, .ref q1), (2, .ref q2), (3, .int y3), (4, .int y4), (5, .int (y5 + 1))]) [0, 1, 2, 3, 4, 5] rfl ?_
        exact ih _ _ _ _ h
      · have h := h.2 c
        refine km_iconst (v := 0) hX dX3_alike_23 (by decide) ?_
        exact km_zret hX hF rfl dX3_alike_24 (Or.inl rfl) ⟨rfl, rfl, _, rfl, h⟩ (Nat.le_refl _) (Nat.le_refl _)
def X3_alike_w (o : Nat) (q1 : Nat) (q2 : Nat) (x3 : Int32) (x4 : Int32) (mi : km_I) (K : Int32 → km_I → Prop) : Prop := ∃ k, X3_alike_b3 o q1 q2 x3 x4 k x3 x4 0 mi K
set_option maxHeartbeats 4000000 in
set_option maxRecDepth 100000 in
theorem X3_alike_c {E : km_E} {l : Launch} {mr : km_R} (kqmr : km_MR mr) {o : Nat} {q1 : Nat} {q2 : Nat} {x3 : Int32} {x4 : Int32} (kqo : km_isO o) (kqq1 : km_isT q1) (kqq2 : km_isT q2) {mi : km_I} {K : Int32 → km_I → Prop} (h : X3_alike_w o q1 q2 x3 x4 mi K) : km_Ci E l yX3_alike wsX3_alike rmX3_alike [.ref o, .ref q1, .ref q2, .int x3, .int x4] SH mi mr K := by
  refine km_start (cc := cX3_alike) (maxL := 6) (ret := (some .boolean)) (by decide) rfl (Nat.le_of_ble_eq_true rfl) ?_
  intro X hl hX hF _
  subst hl
  obtain ⟨so0, so1, so2, so3, mo1, mo2, mo3⟩ := km_fO kqmr kqo
  obtain ⟨sq10, sq11, sq12, sq13, sq14, sq15, sq16, mq11, mq12, mq13, mq14, mq15, mq16⟩ := km_fT kqmr kqq1
  obtain ⟨sq20, sq21, sq22, sq23, sq24, sq25, sq26, mq21, mq22, mq23, mq24, mq25, mq26⟩ := km_fT kqmr kqq2
  have h : ∃ k, X3_alike_b3 o q1 q2 x3 x4 k x3 x4 0 mi K := h
  refine km_iconst (v := 0) hX dX3_alike_0 (by decide) ?_
  refine km_istore hX dX3_alike_1 (by decide) ?_
  obtain ⟨n9, h⟩ := h
  refine km_ren (ls' := [(0, .ref o), (1, .ref q1), (2, .ref q2), (3, .int x3), (4, .int x4), (5, .int 0)]) [0, 1, 2, 3, 4, 5] rfl ?_
  exact X3_alike_b3_t hX hF kqmr kqo kqq1 kqq2 n9 _ _ _ _ h
def X3_takeNames_w (o : Nat) (x1 : Int32) (mi : km_I) (K : km_I → Prop) : Prop := X3_name_w o 0 (x1 / 1000) mi (fun m7 => X3_name_w o 1 ((x1 / 100) - (x1 / 100) / 10 * 10) m7 (fun m19 => X3_name_w o 2 ((x1 / 10) - (x1 / 10) / 10 * 10) m19 (fun m31 => X3_name_w o 3 (x1 - x1 / 10 * 10) m31 (fun m40 => K m40))))
set_option maxHeartbeats 4000000 in
set_option maxRecDepth 100000 in
theorem X3_takeNames_c {E : km_E} {l : Launch} {mr : km_R} (kqmr : km_MR mr) {o : Nat} {x1 : Int32} (kqo : km_isO o) {mi : km_I} {K : km_I → Prop} (h : X3_takeNames_w o x1 mi K) : km_Cv E l yX3_takeNames wsX3_takeNames rmX3_takeNames [.ref o, .int x1] SH mi mr K := by
  refine km_start (cc := cX3_takeNames) (maxL := 2) (ret := none) (by decide) rfl (Nat.le_of_ble_eq_true rfl) ?_
  intro X hl hX hF _
  subst hl
  obtain ⟨so0, so1, so2, so3, mo1, mo2, mo3⟩ := km_fO kqmr kqo
  have h : X3_name_w o 0 (x1 / 1000) mi (fun m7 => X3_name_w o 1 ((x1 / 100) - (x1 / 100) / 10 * 10) m7 (fun m19 => X3_name_w o 2 ((x1 / 10) - (x1 / 10) / 10 * 10) m19 (fun m31 => X3_name_w o 3 (x1 - x1 / 10 * 10) m31 (fun m40 => K m40)))) := h
  refine km_aload_n hX dX3_takeNames_0 rfl rfl ?_
  refine km_iconst (v := 0) hX dX3_takeNames_1 (by decide) ?_
  refine km_iload_n hX dX3_takeNames_2 rfl ?_
  refine km_sipush (v := 1000) hX dX3_takeNames_3 (by decide) ?_
  refine km_idiv hX (by decide) dX3_takeNames_6 ?_
  refine km_callVv hX dX3_takeNames_7 vX3_takeNames_21 (X3_name_c kqmr kqo h) (by decide) (by assumption) rfl rfl (Nat.le_of_ble_eq_true rfl) (fun m7 h => ?_)
  refine km_aload_n hX dX3_takeNames_10 rfl rfl ?_
  refine km_iconst (v := 1) hX dX3_takeNames_11 (by decide) ?_
  refine km_iload_n hX dX3_takeNames_12 rfl ?_
  refine km_bipush (v := 100) hX dX3_takeNames_13 (by decide) ?_
  refine km_idiv hX (by decide) dX3_takeNames_15 ?_
  refine km_bipush (v := 10) hX dX3_takeNames_16 (by decide) ?_
  refine km_irem hX (by decide) dX3_takeNames_18 ?_
  refine km_callVv hX dX3_takeNames_19 vX3_takeNames_21 (X3_name_c kqmr kqo h) (by decide) (by assumption) rfl rfl (Nat.le_of_ble_eq_true rfl) (fun m19 h => ?_)
  refine km_aload_n hX dX3_takeNames_22 rfl rfl ?_
  refine km_iconst (v := 2) hX dX3_takeNames_23 (by decide) ?_
  refine km_iload_n hX dX3_takeNames_24 rfl ?_
  refine km_bipush (v := 10) hX dX3_takeNames_25 (by decide) ?_
  refine km_idiv hX (by decide) dX3_takeNames_27 ?_
  refine km_bipush (v := 10) hX dX3_takeNames_28 (by decide) ?_
  refine km_irem hX (by decide) dX3_takeNames_30 ?_
  refine km_callVv hX dX3_takeNames_31 vX3_takeNames_21 (X3_name_c kqmr kqo h) (by decide) (by assumption) rfl rfl (Nat.le_of_ble_eq_true rfl) (fun m31 h => ?_)
  refine km_aload_n hX dX3_takeNames_34 rfl rfl ?_
  refine km_iconst (v := 3) hX dX3_takeNames_35 (by decide) ?_
  refine km_iload_n hX dX3_takeNames_36 rfl ?_
  refine km_bipush (v := 10) hX dX3_takeNames_37 (by decide) ?_
  refine km_irem hX (by decide) dX3_takeNames_39 ?_
  refine km_callVv hX dX3_takeNames_40 vX3_takeNames_21 (X3_name_c kqmr kqo h) (by decide) (by assumption) rfl rfl (Nat.le_of_ble_eq_true rfl) (fun m40 h => ?_)
  exact km_vret hX hF rfl dX3_takeNames_43 ⟨rfl, rfl, rfl, h⟩ (Nat.le_refl _) (Nat.le_refl _)
