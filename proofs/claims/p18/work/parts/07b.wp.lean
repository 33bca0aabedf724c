def X3_takeGroups_w (o o1 : Nat) (mi : km_I) (K : km_I → Prop) : Prop := ∀ m11 : km_I, (m11 = fun q j => if q = o + 2 ∧ j < 4 then mi (o1 + 2) j else mi q j) → K m11
theorem wX3_takeGroups : Cond.methodLink RX3 25 arraycopyName ∈ wsX3_takeGroups ∧ Cond.native arraycopyName ∈ wsX3_takeGroups ∧ Cond.static arraycopyName ∈ wsX3_takeGroups ∧ Cond.initialized "java/lang/System" ∈ wsX3_takeGroups := ⟨by decide +kernel, by decide +kernel, by decide +kernel, by decide +kernel⟩
set_option maxHeartbeats 4000000 in
set_option maxRecDepth 100000 in
theorem X3_takeGroups_c {E : km_E} {l : Launch} {mr : km_R} (hmr : km_MR mr) {o o1 : Nat} (ho : km_isO o) (ho1 : km_isO o1) {mi : km_I} {K : km_I → Prop} (h : X3_takeGroups_w o o1 mi K) : km_Cv E l yX3_takeGroups wsX3_takeGroups rmX3_takeGroups [.ref o, .ref o1] SH mi mr K := by
  refine km_start (cc := cX3_takeGroups) (maxL := 2) (ret := none) (by decide) rfl (Nat.le_of_ble_eq_true rfl) ?_
  intro X hl hX hF _
  subst hl
  obtain ⟨so0, so1, so2, so3, mo1, mo2, mo3⟩ := km_fO hmr ho
  obtain ⟨sp0, sp1, sp2, sp3, mp1, mp2, mp3⟩ := km_fO hmr ho1
  refine km_aload_n hX dX3_takeGroups_0 rfl rfl ?_
  refine km_getr (q := o1 + 2) hX fX3_takeGroups_15 (by assumption) rfl dX3_takeGroups_1 (by assumption) ?_
  refine km_iconst (v := 0) hX dX3_takeGroups_4 (by decide) ?_
  refine km_aload_n hX dX3_takeGroups_5 rfl rfl ?_
  refine km_getr (q := o + 2) hX fX3_takeGroups_15 (by assumption) rfl dX3_takeGroups_6 (by assumption) ?_
  refine km_iconst (v := 0) hX dX3_takeGroups_9 (by decide) ?_
  refine km_iconst (v := 4) hX dX3_takeGroups_10 (by decide) ?_
  refine km_copy (N := 4) hX dX3_takeGroups_11 wX3_takeGroups.1 wX3_takeGroups.2.1 wX3_takeGroups.2.2.1 wX3_takeGroups.2.2.2 (by assumption) (by assumption) (by decide) (by decide) (by decide) (by decide) (by decide) (by decide) (fun m11 e11 => ?_)
  exact km_vret hX hF rfl dX3_takeGroups_14 ⟨rfl, rfl, rfl, h m11 e11⟩ (Nat.le_refl _) (Nat.le_refl _)
def X3_name_w (o : Nat) (x1 : Int32) (x2 : Int32) (mi : km_I) (K : km_I → Prop) : Prop := vp_in x1 4 ∧ (∀ m6, m6 = km_u mi (o + 1) (Int32.toNatClampNeg x1) x2 → vp_in x2 4 ∧ (∀ m13, m13 = km_u m6 (o + 3) (Int32.toNatClampNeg x2) x1 → K m13))
set_option maxHeartbeats 4000000 in
set_option maxRecDepth 100000 in
theorem X3_name_c {E : km_E} {l : Launch} {mr : km_R} (kqmr : km_MR mr) {o : Nat} {x1 : Int32} {x2 : Int32} (kqo : km_isO o) {mi : km_I} {K : km_I → Prop} (h : X3_name_w o x1 x2 mi K) : km_Cv E l yX3_name wsX3_name rmX3_name [.ref o, .int x1, .int x2] SH mi mr K := by
  refine km_start (cc := cX3_name) (maxL := 3) (ret := none) (by decide) rfl (Nat.le_of_ble_eq_true rfl) ?_
  intro X hl hX hF _
  subst hl
  obtain ⟨so0, so1, so2, so3, mo1, mo2, mo3⟩ := km_fO kqmr kqo
  have h : vp_in x1 4 ∧ (∀ m6, m6 = km_u mi (o + 1) (Int32.toNatClampNeg x1) x2 → vp_in x2 4 ∧ (∀ m13, m13 = km_u m6 (o + 3) (Int32.toNatClampNeg x2) x1 → K m13)) := h
  refine km_aload_n hX dX3_name_0 rfl rfl ?_
  refine km_getr (q := (o + 1)) hX fX3_name_9 (by assumption) rfl dX3_name_1 (by assumption) ?_
  refine km_iload_n hX dX3_name_4 rfl ?_
  refine km_iload_n hX dX3_name_5 rfl ?_
  obtain ⟨hc, h⟩ := h
  refine km_iastN hX (by assumption) hc dX3_name_6 (fun m6 e6 => ?_)
  have h := h m6 e6
  refine km_aload_n hX dX3_name_7 rfl rfl ?_
  refine km_getr (q := (o + 3)) hX fX3_name_18 (by assumption) rfl dX3_name_8 (by assumption) ?_
  refine km_iload_n hX dX3_name_11 rfl ?_
  refine km_iload_n hX dX3_name_12 rfl ?_
  obtain ⟨hc, h⟩ := h
  refine km_iastN hX (by assumption) hc dX3_name_13 (fun m13 e13 => ?_)
  have h := h m13 e13
  exact km_vret hX hF rfl dX3_name_14 ⟨rfl, rfl, rfl, h⟩ (Nat.le_refl _) (Nat.le_refl _)
def X3_swapIn_w (o : Nat) (x1 : Int32) (x2 : Int32) (mi : km_I) (K : Int32 → km_I → Prop) : Prop := vp_in x1 4 ∧ vp_in x2 4 ∧ X3_name_w o (mi (o + 3) (Int32.toNatClampNeg x2)) (mi (o + 1) (Int32.toNatClampNeg x1)) mi (fun m15 => X3_name_w o x1 x2 m15 (fun m21 => K (mi (o + 1) (Int32.toNatClampNeg x1)) m21))
set_option maxHeartbeats 4000000 in
set_option maxRecDepth 100000 in
theorem X3_swapIn_c {E : km_E} {l : Launch} {mr : km_R} (kqmr : km_MR mr) {o : Nat} {x1 : Int32} {x2 : Int32} (kqo : km_isO o) {mi : km_I} {K : Int32 → km_I → Prop} (h : X3_swapIn_w o x1 x2 mi K) : km_Ci E l yX3_swapIn wsX3_swapIn rmX3_swapIn [.ref o, .int x1, .int x2] SH mi mr K := by
  refine km_start (cc := cX3_swapIn) (maxL := 4) (ret := (some .int)) (by decide) rfl (Nat.le_of_ble_eq_true rfl) ?_
  intro X hl hX hF _
  subst hl
  obtain ⟨so0, so1, so2, so3, mo1, mo2, mo3⟩ := km_fO kqmr kqo
  have h : vp_in x1 4 ∧ vp_in x2 4 ∧ X3_name_w o (mi (o + 3) (Int32.toNatClampNeg x2)) (mi (o + 1) (Int32.toNatClampNeg x1)) mi (fun m15 => X3_name_w o x1 x2 m15 (fun m21 => K (mi (o + 1) (Int32.toNatClampNeg x1)) m21)) := h
  refine km_aload_n hX dX3_swapIn_0 rfl rfl ?_
  refine km_getr (q := (o + 1)) hX fX3_swapIn_9 (by assumption) rfl dX3_swapIn_1 (by assumption) ?_
  refine km_iload_n hX dX3_swapIn_4 rfl ?_
  obtain ⟨hc, h⟩ := h
  refine km_iald hX (by assumption) hc dX3_swapIn_5 ?_
  refine km_istore_n hX dX3_swapIn_6 (by decide) ?_
  refine km_aload_n hX dX3_swapIn_7 rfl rfl ?_
  refine km_aload_n hX dX3_swapIn_8 rfl rfl ?_
  refine km_getr (q := (o + 3)) hX fX3_swapIn_18 (by assumption) rfl dX3_swapIn_9 (by assumption) ?_
  refine km_iload_n hX dX3_swapIn_12 rfl ?_
  obtain ⟨hc, h⟩ := h
  refine km_iald hX (by assumption) hc dX3_swapIn_13 ?_
  refine km_iload_n hX dX3_swapIn_14 rfl ?_
  refine km_callVv hX dX3_swapIn_15 vX3_swapIn_21 (X3_name_c kqmr kqo h) (by decide) (by assumption) rfl rfl (Nat.le_of_ble_eq_true rfl) (fun m15 h => ?_)
  refine km_aload_n hX dX3_swapIn_18 rfl rfl ?_
  refine km_iload_n hX dX3_swapIn_19 rfl ?_
  refine km_iload_n hX dX3_swapIn_20 rfl ?_
  refine km_callVv hX dX3_swapIn_21 vX3_swapIn_21 (X3_name_c kqmr kqo h) (by decide) (by assumption) rfl rfl (Nat.le_of_ble_eq_true rfl) (fun m21 h => ?_)
  refine km_iload_n hX dX3_swapIn_24 rfl ?_
  exact km_iret hX hF rfl dX3_swapIn_25 ⟨rfl, rfl, _, rfl, h⟩ (Nat.le_refl _) (Nat.le_refl _)
def X3_nextIn_b3 (o : Nat) (x1 : Int32) (q2 : Nat) (x3 : Int32) (x4 : Int32) (n : Nat) (y1 : Int32) (y3 : Int32) (y4 : Int32) (y5 : Int32) (mi : km_I) (K : Int32 → km_I → Prop) : Prop := match n with
  | 0 => False
  | n + 1 => ((y4 ≤ y5 → K y4 mi) ∧ (¬ y4 ≤ y5 → vp_in y5 40 ∧ vp_in (mi (q2 + 1) (Int32.toNatClampNeg y5)) 4 ∧ vp_in (mi (o + 3) (Int32.toNatClampNeg (mi (q2 + 1) (Int32.toNatClampNeg y5)))) 4 ∧ ((¬ (mi (o + 2) (Int32.toNatClampNeg (mi (o + 3) (Int32.toNatClampNeg (mi (q2 + 1) (Int32.toNatClampNeg y5)))))) = y1 → X3_nextIn_b3 o x1 q2 x3 x4 n y1 y3 y4 (y5 + 1) mi K) ∧ ((mi (o + 2) (Int32.toNatClampNeg (mi (o + 3) (Int32.toNatClampNeg (mi (q2 + 1) (Int32.toNatClampNeg y5)))))) = y1 → K y5 mi))))
set_option maxHeartbeats 4000000 in
set_option maxRecDepth 100000 in
theorem X3_nextIn_b3_t {E : km_E} {X : km_X} {mr : km_R} {K : Int32 → km_I → Prop} {o : Nat} {x1 : Int32} {q2 : Nat} {x3 : Int32} {x4 : Int32} (hX : km_ok E X rmX3_nextIn cX3_nextIn 6 wsX3_nextIn RX3) (hF : km_fin E X (some .int) 0 0 (fun r sh' mi' mr' => sh' = SH ∧ mr' = mr ∧ ∃ i, r = some (.int i) ∧ K i mi')) (kqmr : km_MR mr) (kqo : km_isO o) (kqq2 : km_isT q2) : ∀ (n : Nat) (y1 : Int32) (y3 : Int32) (y4 : Int32) (y5 : Int32) (mi : km_I), X3_nextIn_b3 o x1 q2 x3 x4 n y1 y3 y4 y5 mi K → km_G E X 6 SH mi mr 0 0 3 [(0, .ref o), (1, .int y1), (2, .ref q2), (3, .int y3), (4, .int y4), (5, .int y5)] [] := by
  obtain ⟨so0, so1, so2, so3, mo1, mo2, mo3⟩ := km_fO kqmr kqo
  obtain ⟨sq20, sq21, sq22, sq23, sq24, sq25, sq26, mq21, mq22, mq23, mq24, mq25, mq26⟩ := km_fT kqmr kqq2
  intro n
  induction n with
  | zero => intro y1 y3 y4 y5 mi h; exact h.elim
  | succ n ih =>
    intro y1 y3 y4 y5 mi h
    have h : ((y4 ≤ y5 → K y4 mi) ∧ (¬ y4 ≤ y5 → vp_in y5 40 ∧ vp_in (mi (q2 + 1) (Int32.toNatClampNeg y5)) 4 ∧ vp_in (mi (o + 3) (Int32.toNatClampNeg (mi (q2 + 1) (Int32.toNatClampNeg y5)))) 4 ∧ ((¬ (mi (o + 2) (Int32.toNatClampNeg (mi (o + 3) (Int32.toNatClampNeg (mi (q2 + 1) (Int32.toNatClampNeg y5)))))) = y1 → X3_nextIn_b3 o x1 q2 x3 x4 n y1 y3 y4 (y5 + 1) mi K) ∧ ((mi (o + 2) (Int32.toNatClampNeg (mi (o + 3) (Int32.toNatClampNeg (mi (q2 + 1) (Int32.toNatClampNeg y5)))))) = y1 → K y5 mi)))) := h
    refine km_iload hX dX3_nextIn_3 rfl ?_
    refine km_iload hX dX3_nextIn_5 rfl ?_
    refine km_icmp_ge (tgt := 40) hX dX3_nextIn_7 (by decide) (fun c => ?_) (fun c => ?_)
    · have h := h.1 c
      refine km_iload hX dX3_nextIn_40 rfl ?_
      exact km_iret hX hF rfl dX3_nextIn_42 ⟨rfl, rfl, _, rfl, h⟩ (Nat.le_refl _) (Nat.le_refl _)
    · have h := h.2 c
      refine km_aload_n hX dX3_nextIn_10 rfl rfl ?_
      refine km_getr (q := (o + 2)) hX fX3_nextIn_15 (by assumption) rfl dX3_nextIn_11 (by assumption) ?_
      refine km_aload_n hX dX3_nextIn_14 rfl rfl ?_
      refine km_getr (q := (o + 3)) hX fX3_nextIn_18 (by assumption) rfl dX3_nextIn_15 (by assumption) ?_
      refine km_aload_n hX dX3_nextIn_18 rfl rfl ?_
      refine km_getr (q := (q2 + 1)) hX fX3_nextIn_35 (by assumption) rfl dX3_nextIn_19 (by assumption) ?_
      refine km_iload hX dX3_nextIn_22 rfl ?_
      obtain ⟨hc, h⟩ := h
      refine km_iald hX (by assumption) hc dX3_nextIn_24 ?_
      obtain ⟨hc, h⟩ := h
      refine km_iald hX (by assumption) hc dX3_nextIn_25 ?_
      obtain ⟨hc, h⟩ := h
      refine km_iald hX (by assumption) hc dX3_nextIn_26 ?_
      refine km_iload_n hX dX3_nextIn_27 rfl ?_
      refine km_icmp_ne (tgt := 34) hX dX3_nextIn_28 (by decide) (fun c => ?_) (fun c => ?_)
      · have h := h.1 c
        refine km_iinc (v := 1) hX dX3_nextIn_34 (by decide) rfl (by decide) ?_
        refine km_goto (tgt := 3) hX dX3_nextIn_37 (by decide) ?_
        refine km_ren (ls' := [(0, .ref o), (1, .int y1), (2, .ref q2), (3, .int y3), (4, .int y4), (5, .int (y5 + 1))]) [0, 1, 2, 3, 4, 5] rfl ?_
        exact ih _ _ _ _ _ h
      · have h := h.2 c
        refine km_iload hX dX3_nextIn_31 rfl ?_
        exact km_iret hX hF rfl dX3_nextIn_33 ⟨rfl, rfl, _, rfl, h⟩ (Nat.le_refl _) (Nat.le_refl _)
def X3_nextIn_w (o : Nat) (x1 : Int32) (q2 : Nat) (x3 : Int32) (x4 : Int32) (mi : km_I) (K : Int32 → km_I → Prop) : Prop := ∃ k, X3_nextIn_b3 o x1 q2 x3 x4 k x1 x3 x4 x3 mi K
set_option maxHeartbeats 4000000 in
set_option maxRecDepth 100000 in
theorem X3_nextIn_c {E : km_E} {l : Launch} {mr : km_R} (kqmr : km_MR mr) {o : Nat} {x1 : Int32} {q2 : Nat} {x3 : Int32} {x4 : Int32} (kqo : km_isO o) (kqq2 : km_isT q2) {mi : km_I} {K : Int32 → km_I → Prop} (h : X3_nextIn_w o x1 q2 x3 x4 mi K) : km_Ci E l yX3_nextIn wsX3_nextIn rmX3_nextIn [.ref o, .int x1, .ref q2, .int x3, .int x4] SH mi mr K := by
  refine km_start (cc := cX3_nextIn) (maxL := 6) (ret := (some .int)) (by decide) rfl (Nat.le_of_ble_eq_true rfl) ?_
  intro X hl hX hF _
  subst hl
  obtain ⟨so0, so1, so2, so3, mo1, mo2, mo3⟩ := km_fO kqmr kqo
  obtain ⟨sq20, sq21, sq22, sq23, sq24, sq25, sq26, mq21, mq22, mq23, mq24, mq25, mq26⟩ := km_fT kqmr kqq2
  have h : ∃ k, X3_nextIn_b3 o x1 q2 x3 x4 k x1 x3 x4 x3 mi K := h
  refine km_iload_n hX dX3_nextIn_0 rfl ?_
  refine km_istore hX dX3_nextIn_1 (by decide) ?_
  obtain ⟨n9, h⟩ := h
  refine km_ren (ls' := [(0, .ref o), (1, .int x1), (2, .ref q2), (3, .int x3), (4, .int x4), (5, .int x3)]) [0, 1, 2, 3, 4, 5] rfl ?_
  exact X3_nextIn_b3_t hX hF kqmr kqo kqq2 n9 _ _ _ _ _ h
def X3_alikeIn_b104 (o : Nat) (x1 : Int32) (q2 : Nat) (x3 : Int32) (q4 : Nat) (x5 : Int32) (x6 : Int32) (Z14 : Int32 → Int32 → Int32 → Int32 → Int32 → Int32 → Int32 → km_I → Prop) (y1 : Int32) (y3 : Int32) (y5 : Int32) (y6 : Int32) (y7 : Int32) (y8 : Int32) (y9 : Int32) (y10 : Int32) (mi : km_I) (K : Int32 → km_I → Prop) : Prop := Z14 y1 y3 y5 y6 y7 y8 (y9 + 1) mi
set_option maxHeartbeats 4000000 in
set_option maxRecDepth 100000 in
theorem X3_alikeIn_b104_t {E : km_E} {X : km_X} {mr : km_R} {K : Int32 → km_I → Prop} {o : Nat} {x1 : Int32} {q2 : Nat} {x3 : Int32} {q4 : Nat} {x5 : Int32} {x6 : Int32} {Z14 : Int32 → Int32 → Int32 → Int32 → Int32 → Int32 → Int32 → km_I → Prop} (hX : km_ok E X rmX3_alikeIn cX3_alikeIn 11 wsX3_alikeIn RX3) (hF : km_fin E X (some .boolean) 0 0 (fun r sh' mi' mr' => sh' = SH ∧ mr' = mr ∧ ∃ i, r = some (.int i) ∧ K i mi')) (kqmr : km_MR mr) (kqo : km_isO o) (kqq2 : km_isT q2) (kqq4 : km_isT q4) (hZ14 : ∀ (y1 : Int32) (y3 : Int32) (y5 : Int32) (y6 : Int32) (y7 : Int32) (y8 : Int32) (y9 : Int32) (m : km_I), Z14 y1 y3 y5 y6 y7 y8 y9 m → km_G E X 11 SH m mr 0 0 14 [(0, .ref o), (1, .int y1), (2, .ref q2), (3, .int y3), (4, .ref q4), (5, .int y5), (6, .int y6), (7, .int y7), (8, .int y8), (9, .int y9)] []) : ∀ (y1 : Int32) (y3 : Int32) (y5 : Int32) (y6 : Int32) (y7 : Int32) (y8 : Int32) (y9 : Int32) (y10 : Int32) (mi : km_I), X3_alikeIn_b104 o x1 q2 x3 q4 x5 x6 Z14 y1 y3 y5 y6 y7 y8 y9 y10 mi K → km_G E X 11 SH mi mr 0 0 104 [(0, .ref o), (1, .int y1), (2, .ref q2), (3, .int y3), (4, .ref q4), (5, .int y5), (6, .int y6), (7, .int y7), (8, .int y8), (9, .int y9), (10, .int y10)] [] := by
  obtain ⟨so0, so1, so2, so3, mo1, mo2, mo3⟩ := km_fO kqmr kqo
  obtain ⟨sq20, sq21, sq22, sq23, sq24, sq25, sq26, mq21, mq22, mq23, mq24, mq25, mq26⟩ := km_fT kqmr kqq2
  obtain ⟨sq40, sq41, sq42, sq43, sq44, sq45, sq46, mq41, mq42, mq43, mq44, mq45, mq46⟩ := km_fT kqmr kqq4
  intro y1 y3 y5 y6 y7 y8 y9 y10 mi h
  have h : Z14 y1 y3 y5 y6 y7 y8 (y9 + 1) mi := h
  refine km_iinc (v := 1) hX dX3_alikeIn_104 (by decide) rfl (by decide) ?_
  refine km_goto (tgt := 14) hX dX3_alikeIn_107 (by decide) ?_
  refine km_ren (ls' := [(0, .ref o), (1, .int y1), (2, .ref q2), (3, .int y3), (4, .ref q4), (5, .int y5), (6, .int y6), (7, .int y7), (8, .int y8), (9, .int (y9 + 1))]) [0, 1, 2, 3, 4, 5, 6, 7, 8, 9] rfl ?_
  exact hZ14 _ _ _ _ _ _ _ _ h
def X3_alikeIn_b14 (o : Nat) (x1 : Int32) (q2 : Nat) (x3 : Int32) (q4 : Nat) (x5 : Int32) (x6 : Int32) (n : Nat) (y1 : Int32) (y3 : Int32) (y5 : Int32) (y6 : Int32) (y7 : Int32) (y8 : Int32) (y9 : Int32) (mi : km_I) (K : Int32 → km_I → Prop) : Prop := match n with
  | 0 => False
  | n + 1 => (((y3 + y6) ≤ y9 → X3_nextIn_w o y1 q4 y7 y8 mi (fun r118 m118 => ((¬ r118 = y8 → K 0 m118) ∧ (r118 = y8 → K 1 m118)))) ∧ (¬ (y3 + y6) ≤ y9 → vp_in y9 40 ∧ vp_in (mi (q2 + 1) (Int32.toNatClampNeg y9)) 4 ∧ ((¬ (mi (o + 2) (Int32.toNatClampNeg (mi (q2 + 1) (Int32.toNatClampNeg y9)))) = y1 → X3_alikeIn_b104 o x1 q2 x3 q4 x5 x6 (fun v0 v1 v2 v3 v4 v5 v6 m => X3_alikeIn_b14 o x1 q2 x3 q4 x5 x6 n v0 v1 v2 v3 v4 v5 v6 m K) y1 y3 y5 y6 y7 y8 y9 (mi (q2 + 1) (Int32.toNatClampNeg y9)) mi K) ∧ ((mi (o + 2) (Int32.toNatClampNeg (mi (q2 + 1) (Int32.toNatClampNeg y9)))) = y1 → X3_nextIn_w o y1 q4 y7 y8 mi (fun r51 m51 => ((r51 = y8 → K 0 m51) ∧ (¬ r51 = y8 → vp_in r51 40 ∧ vp_in (m51 (q4 + 1) (Int32.toNatClampNeg r51)) 4 ∧ ((¬ (m51 (o + 3) (Int32.toNatClampNeg (m51 (q4 + 1) (Int32.toNatClampNeg r51)))) = (mi (q2 + 1) (Int32.toNatClampNeg y9)) → K 0 m51) ∧ ((m51 (o + 3) (Int32.toNatClampNeg (m51 (q4 + 1) (Int32.toNatClampNeg r51)))) = (mi (q2 + 1) (Int32.toNatClampNeg y9)) → vp_in r51 40 ∧ vp_in y9 40 ∧ (((m51 (q4 + 2) (Int32.toNatClampNeg r51)) = (m51 (q2 + 2) (Int32.toNatClampNeg y9)) → X3_alikeIn_b104 o x1 q2 x3 q4 x5 x6 (fun v0 v1 v2 v3 v4 v5 v6 m => X3_alikeIn_b14 o x1 q2 x3 q4 x5 x6 n v0 v1 v2 v3 v4 v5 v6 m K) y1 y3 y5 y6 (r51 + 1) y8 y9 (mi (q2 + 1) (Int32.toNatClampNeg y9)) m51 K) ∧ (¬ (m51 (q4 + 2) (Int32.toNatClampNeg r51)) = (m51 (q2 + 2) (Int32.toNatClampNeg y9)) → K 0 m51)))))))))))
set_option maxHeartbeats 4000000 in
set_option maxRecDepth 100000 in
theorem X3_alikeIn_b14_t {E : km_E} {X : km_X} {mr : km_R} {K : Int32 → km_I → Prop} {o : Nat} {x1 : Int32} {q2 : Nat} {x3 : Int32} {q4 : Nat} {x5 : Int32} {x6 : Int32} (hX : km_ok E X rmX3_alikeIn cX3_alikeIn 11 wsX3_alikeIn RX3) (hF : km_fin E X (some .boolean) 0 0 (fun r sh' mi' mr' => sh' = SH ∧ mr' = mr ∧ ∃ i, r = some (.int i) ∧ K i mi')) (kqmr : km_MR mr) (kqo : km_isO o) (kqq2 : km_isT q2) (kqq4 : km_isT q4) : ∀ (n : Nat) (y1 : Int32) (y3 : Int32) (y5 : Int32) (y6 : Int32) (y7 : Int32) (y8 : Int32) (y9 : Int32) (mi : km_I), X3_alikeIn_b14 o x1 q2 x3 q4 x5 x6 n y1 y3 y5 y6 y7 y8 y9 mi K → km_G E X 11 SH mi mr 0 0 14 [(0, .ref o), (1, .int y1), (2, .ref q2), (3, .int y3), (4, .ref q4), (5, .int y5), (6, .int y6), (7, .int y7), (8, .int y8), (9, .int y9)] [] := by
  obtain ⟨so0, so1, so2, so3, mo1, mo2, mo3⟩ := km_fO kqmr kqo
  obtain ⟨sq20, sq21, sq22, sq23, sq24, sq25, sq26, mq21, mq22, mq23, mq24, mq25, mq26⟩ := km_fT kqmr kqq2
  obtain ⟨sq40, sq41, sq42, sq43, sq44, sq45, sq46, mq41, mq42, mq43, mq44, mq45, mq46⟩ := km_fT kqmr kqq4
  intro n
  induction n with
  | zero => intro y1 y3 y5 y6 y7 y8 y9 mi h; exact h.elim
  | succ n ih =>
    intro y1 y3 y5 y6 y7 y8 y9 mi h
    have h : (((y3 + y6) ≤ y9 → X3_nextIn_w o y1 q4 y7 y8 mi (fun r118 m118 => ((¬ r118 = y8 → K 0 m118) ∧ (r118 = y8 → K 1 m118)))) ∧ (¬ (y3 + y6) ≤ y9 → vp_in y9 40 ∧ vp_in (mi (q2 + 1) (Int32.toNatClampNeg y9)) 4 ∧ ((¬ (mi (o + 2) (Int32.toNatClampNeg (mi (q2 + 1) (Int32.toNatClampNeg y9)))) = y1 → X3_alikeIn_b104 o x1 q2 x3 q4 x5 x6 (fun v0 v1 v2 v3 v4 v5 v6 m => X3_alikeIn_b14 o x1 q2 x3 q4 x5 x6 n v0 v1 v2 v3 v4 v5 v6 m K) y1 y3 y5 y6 y7 y8 y9 (mi (q2 + 1) (Int32.toNatClampNeg y9)) mi K) ∧ ((mi (o + 2) (Int32.toNatClampNeg (mi (q2 + 1) (Int32.toNatClampNeg y9)))) = y1 → X3_nextIn_w o y1 q4 y7 y8 mi (fun r51 m51 => ((r51 = y8 → K 0 m51) ∧ (¬ r51 = y8 → vp_in r51 40 ∧ vp_in (m51 (q4 + 1) (Int32.toNatClampNeg r51)) 4 ∧ ((¬ (m51 (o + 3) (Int32.toNatClampNeg (m51 (q4 + 1) (Int32.toNatClampNeg r51)))) = (mi (q2 + 1) (Int32.toNatClampNeg y9)) → K 0 m51) ∧ ((m51 (o + 3) (Int32.toNatClampNeg (m51 (q4 + 1) (Int32.toNatClampNeg r51)))) = (mi (q2 + 1) (Int32.toNatClampNeg y9)) → vp_in r51 40 ∧ vp_in y9 40 ∧ (((m51 (q4 + 2) (Int32.toNatClampNeg r51)) = (m51 (q2 + 2) (Int32.toNatClampNeg y9)) → X3_alikeIn_b104 o x1 q2 x3 q4 x5 x6 (fun v0 v1 v2 v3 v4 v5 v6 m => X3_alikeIn_b14 o x1 q2 x3 q4 x5 x6 n v0 v1 v2 v3 v4 v5 v6 m K) y1 y3 y5 y6 (r51 + 1) y8 y9 (mi (q2 + 1) (Int32.toNatClampNeg y9)) m51 K) ∧ (¬ (m51 (q4 + 2) (Int32.toNatClampNeg r51)) = (m51 (q2 + 2) (Int32.toNatClampNeg y9)) → K 0 m51))))))))))) := h
    refine km_iload hX dX3_alikeIn_14 rfl ?_
    refine km_iload_n hX dX3_alikeIn_16 rfl ?_
    refine km_iload hX dX3_alikeIn_17 rfl ?_
    refine km_iadd hX dX3_alikeIn_19 ?_
    refine km_icmp_ge (tgt := 110) hX dX3_alikeIn_20 (by decide) (fun c => ?_) (fun c => ?_)
    · have h := h.1 c
      refine km_aload_n hX dX3_alikeIn_110 rfl rfl ?_
      refine km_iload_n hX dX3_alikeIn_111 rfl ?_
      refine km_aload hX dX3_alikeIn_112 rfl rfl ?_
      refine km_iload hX dX3_alikeIn_114 rfl ?_
      refine km_iload hX dX3_alikeIn_116 rfl ?_
      refine km_callVi hX dX3_alikeIn_118 vX3_alikeIn_40 (X3_nextIn_c kqmr kqo kqq4 h) (by decide) (by assumption) rfl rfl (Nat.le_of_ble_eq_true rfl) (fun r118 m118 h => ?_)
      refine km_iload hX dX3_alikeIn_121 rfl ?_
      refine km_icmp_ne (tgt := 130) hX dX3_alikeIn_123 (by decide) (fun c => ?_) (fun c => ?_)
      · have h := h.1 c
        refine km_iconst (v := 0) hX dX3_alikeIn_130 (by decide) ?_
        exact km_zret hX hF rfl dX3_alikeIn_131 (Or.inl rfl) ⟨rfl, rfl, _, rfl, h⟩ (Nat.le_refl _) (Nat.le_refl _)
      · have h := h.2 c
        refine km_iconst (v := 1) hX dX3_alikeIn_126 (by decide) ?_
        refine km_goto (tgt := 131) hX dX3_alikeIn_127 (by decide) ?_
        exact km_zret hX hF rfl dX3_alikeIn_131 (Or.inr rfl) ⟨rfl, rfl, _, rfl, h⟩ (Nat.le_refl _) (Nat.le_refl _)
    · have h := h.2 c
      refine km_aload_n hX dX3_alikeIn_23 rfl rfl ?_
      refine km_getr (q := (q2 + 1)) hX fX3_alikeIn_35 (by assumption) rfl dX3_alikeIn_24 (by assumption) ?_
      refine km_iload hX dX3_alikeIn_27 rfl ?_
      obtain ⟨hc, h⟩ := h
      refine km_iald hX (by assumption) hc dX3_alikeIn_29 ?_
      refine km_istore hX dX3_alikeIn_30 (by decide) ?_
      refine km_aload_n hX dX3_alikeIn_32 rfl rfl ?_
      refine km_getr (q := (o + 2)) hX fX3_alikeIn_15 (by assumption) rfl dX3_alikeIn_33 (by assumption) ?_
      refine km_iload hX dX3_alikeIn_36 rfl ?_
      obtain ⟨hc, h⟩ := h
      refine km_iald hX (by assumption) hc dX3_alikeIn_38 ?_
      refine km_iload_n hX dX3_alikeIn_39 rfl ?_
      refine km_icmp_ne (tgt := 104) hX dX3_alikeIn_40 (by decide) (fun c => ?_) (fun c => ?_)
      · have h := h.1 c
        refine km_ren (ls' := [(0, .ref o), (1, .int y1), (2, .ref q2), (3, .int y3), (4, .ref q4), (5, .int y5), (6, .int y6), (7, .int y7), (8, .int y8), (9, .int y9), (10, .int (mi (q2 + 1) (Int32.toNatClampNeg y9)))]) [0, 1, 2, 3, 4, 5, 6, 7, 8, 9, 10] rfl ?_
        exact X3_alikeIn_b104_t hX hF kqmr kqo kqq2 kqq4 (fun v0 v1 v2 v3 v4 v5 v6 m hh => ih v0 v1 v2 v3 v4 v5 v6 m hh) _ _ _ _ _ _ _ _ _ h
      · have h := h.2 c
        refine km_aload_n hX dX3_alikeIn_43 rfl rfl ?_
        refine km_iload_n hX dX3_alikeIn_44 rfl ?_
        refine km_aload hX dX3_alikeIn_45 rfl rfl ?_
        refine km_iload hX dX3_alikeIn_47 rfl ?_
        refine km_iload hX dX3_alikeIn_49 rfl ?_
        refine km_callVi hX dX3_alikeIn_51 vX3_alikeIn_40 (X3_nextIn_c kqmr kqo kqq4 h) (by decide) (by assumption) rfl rfl (Nat.le_of_ble_eq_true rfl) (fun r51 m51 h => ?_)
        refine km_istore hX dX3_alikeIn_54 (by decide) ?_
        refine km_iload hX dX3_alikeIn_56 rfl ?_
        refine km_iload hX dX3_alikeIn_58 rfl ?_
        refine km_icmp_eq (tgt := 99) hX dX3_alikeIn_60 (by decide) (fun c => ?_) (fun c => ?_)
        · have h := h.1 c
          refine km_iconst (v := 0) hX dX3_alikeIn_99 (by decide) ?_
          exact km_zret hX hF rfl dX3_alikeIn_100 (Or.inl rfl) ⟨rfl, rfl, _, rfl, h⟩ (Nat.le_refl _) (Nat.le_refl _)
        · have h := h.2 c
          refine km_aload_n hX dX3_alikeIn_63 rfl rfl ?_
          refine km_getr (q := (o + 3)) hX fX3_alikeIn_18 (by assumption) rfl dX3_alikeIn_64 (by assumption) ?_
          refine km_aload hX dX3_alikeIn_67 rfl rfl ?_
          refine km_getr (q := (q4 + 1)) hX fX3_alikeIn_35 (by assumption) rfl dX3_alikeIn_69 (by assumption) ?_
          refine km_iload hX dX3_alikeIn_72 rfl ?_
          obtain ⟨hc, h⟩ := h
          refine km_iald hX (by assumption) hc dX3_alikeIn_74 ?_
          obtain ⟨hc, h⟩ := h
          refine km_iald hX (by assumption) hc dX3_alikeIn_75 ?_
          refine km_iload hX dX3_alikeIn_76 rfl ?_
          refine km_icmp_ne (tgt := 99) hX dX3_alikeIn_78 (by decide) (fun c => ?_) (fun c => ?_)
          · have h := h.1 c
            refine km_iconst (v := 0) hX dX3_alikeIn_99 (by decide) ?_
            exact km_zret hX hF rfl dX3_alikeIn_100 (Or.inl rfl) ⟨rfl, rfl, _, rfl, h⟩ (Nat.le_refl _) (Nat.le_refl _)
          · have h := h.2 c
            refine km_aload hX dX3_alikeIn_81 rfl rfl ?_
            refine km_getr (q := (q4 + 2)) hX fX3_alikeIn_44 (by assumption) rfl dX3_alikeIn_83 (by assumption) ?_
            refine km_iload hX dX3_alikeIn_86 rfl ?_
            obtain ⟨hc, h⟩ := h
            refine km_iald hX (by assumption) hc dX3_alikeIn_88 ?_
            refine km_aload_n hX dX3_alikeIn_89 rfl rfl ?_
            refine km_getr (q := (q2 + 2)) hX fX3_alikeIn_44 (by assumption) rfl dX3_alikeIn_90 (by assumption) ?_
            refine km_iload hX dX3_alikeIn_93 rfl ?_
            obtain ⟨hc, h⟩ := h
            refine km_iald hX (by assumption) hc dX3_alikeIn_95 ?_
            refine km_icmp_eq (tgt := 101) hX dX3_alikeIn_96 (by decide) (fun c => ?_) (fun c => ?_)
            · have h := h.1 c
              refine km_iinc (v := 1) hX dX3_alikeIn_101 (by decide) rfl (by decide) ?_
              refine km_ren (ls' := [(0, .ref o), (1, .int y1), (2, .ref q2), (3, .int y3), (4, .ref q4), (5, .int y5), (6, .int y6), (7, .int (r51 + 1)), (8, .int y8), (9, .int y9), (10, .int (mi (q2 + 1) (Int32.toNatClampNeg y9)))]) [0, 1, 2, 3, 4, 5, 6, 7, 8, 9, 10] rfl ?_
              exact X3_alikeIn_b104_t hX hF kqmr kqo kqq2 kqq4 (fun v0 v1 v2 v3 v4 v5 v6 m hh => ih v0 v1 v2 v3 v4 v5 v6 m hh) _ _ _ _ _ _ _ _ _ h
            · have h := h.2 c
              refine km_iconst (v := 0) hX dX3_alikeIn_99 (by decide) ?_
              exact km_zret hX hF rfl dX3_alikeIn_100 (Or.inl rfl) ⟨rfl, rfl, _, rfl, h⟩ (Nat.le_refl _) (Nat.le_refl _)
def X3_alikeIn_w (o : Nat) (x1 : Int32) (q2 : Nat) (x3 : Int32) (q4 : Nat) (x5 : Int32) (x6 : Int32) (mi : km_I) (K : Int32 → km_I → Prop) : Prop := ∃ k, X3_alikeIn_b14 o x1 q2 x3 q4 x5 x6 k x1 x3 x5 x6 x5 (x5 + x6) x3 mi K
set_option maxHeartbeats 4000000 in
set_option maxRecDepth 100000 in
theorem X3_alikeIn_c {E : km_E} {l : Launch} {mr : km_R} (kqmr : km_MR mr) {o : Nat} {x1 : Int32} {q2 : Nat} {x3 : Int32} {q4 : Nat} {x5 : Int32} {x6 : Int32} (kqo : km_isO o) (kqq2 : km_isT q2) (kqq4 : km_isT q4) {mi : km_I} {K : Int32 → km_I → Prop} (h : X3_alikeIn_w o x1 q2 x3 q4 x5 x6 mi K) : km_Ci E l yX3_alikeIn wsX3_alikeIn rmX3_alikeIn [.ref o, .int x1, .ref q2, .int x3, .ref q4, .int x5, .int x6] SH mi mr K := by
  refine km_start (cc := cX3_alikeIn) (maxL := 11) (ret := (some .boolean)) (by decide) rfl (Nat.le_of_ble_eq_true rfl) ?_
  intro X hl hX hF _
  subst hl
  obtain ⟨so0, so1, so2, so3, mo1, mo2, mo3⟩ := km_fO kqmr kqo
  obtain ⟨sq20, sq21, sq22, sq23, sq24, sq25, sq26, mq21, mq22, mq23, mq24, mq25, mq26⟩ := km_fT kqmr kqq2
  obtain ⟨sq40, sq41, sq42, sq43, sq44, sq45, sq46, mq41, mq42, mq43, mq44, mq45, mq46⟩ := km_fT kqmr kqq4
  have h : ∃ k, X3_alikeIn_b14 o x1 q2 x3 q4 x5 x6 k x1 x3 x5 x6 x5 (x5 + x6) x3 mi K := h
  refine km_iload hX dX3_alikeIn_0 rfl ?_
  refine km_istore hX dX3_alikeIn_2 (by decide) ?_
  refine km_iload hX dX3_alikeIn_4 rfl ?_
  refine km_iload hX dX3_alikeIn_6 rfl ?_
  refine km_iadd hX dX3_alikeIn_8 ?_
  refine km_istore hX dX3_alikeIn_9 (by decide) ?_
  refine km_iload_n hX dX3_alikeIn_11 rfl ?_
  refine km_istore hX dX3_alikeIn_12 (by decide) ?_
  obtain ⟨n9, h⟩ := h
  refine km_ren (ls' := [(0, .ref o), (1, .int x1), (2, .ref q2), (3, .int x3), (4, .ref q4), (5, .int x5), (6, .int x6), (7, .int x5), (8, .int (x5 + x6)), (9, .int x3)]) [0, 1, 2, 3, 4, 5, 6, 7, 8, 9] rfl ?_
  exact X3_alikeIn_b14_t hX hF kqmr kqo kqq2 kqq4 n9 _ _ _ _ _ _ _ _ h
def X3_alike_b16 (o : Nat) (q1 : Nat) (x2 : Int32) (x3 : Int32) (q4 : Nat) (x5 : Int32) (x6 : Int32) (n : Nat) (y2 : Int32) (y3 : Int32) (y5 : Int32) (y6 : Int32) (y7 : Int32) (mi : km_I) (K : Int32 → km_I → Prop) : Prop := match n with
  | 0 => False
  | n + 1 => ((4 ≤ y7 → K 1 mi) ∧ (¬ 4 ≤ y7 → X3_alikeIn_w o y7 q1 y2 q4 y5 (y3 - y2) mi (fun r34 m34 => ((¬ r34 = 0 → X3_alike_b16 o q1 x2 x3 q4 x5 x6 n y2 y3 y5 y6 (y7 + 1) m34 K) ∧ (r34 = 0 → K 0 m34)))))
set_option maxHeartbeats 4000000 in
set_option maxRecDepth 100000 in
theorem X3_alike_b16_t {E : km_E} {X : km_X} {mr : km_R} {K : Int32 → km_I → Prop} {o : Nat} {q1 : Nat} {x2 : Int32} {x3 : Int32} {q4 : Nat} {x5 : Int32} {x6 : Int32} (hX : km_ok E X rmX3_alike cX3_alike 8 wsX3_alike RX3) (hF : km_fin E X (some .boolean) 0 0 (fun r sh' mi' mr' => sh' = SH ∧ mr' = mr ∧ ∃ i, r = some (.int i) ∧ K i mi')) (kqmr : km_MR mr) (kqo : km_isO o) (kqq1 : km_isT q1) (kqq4 : km_isT q4) : ∀ (n : Nat) (y2 : Int32) (y3 : Int32) (y5 : Int32) (y6 : Int32) (y7 : Int32) (mi : km_I), X3_alike_b16 o q1 x2 x3 q4 x5 x6 n y2 y3 y5 y6 y7 mi K → km_G E X 8 SH mi mr 0 0 16 [(0, .ref o), (1, .ref q1), (2, .int y2), (3, .int y3), (4, .ref q4), (5, .int y5), (6, .int y6), (7, .int y7)] [] := by
  obtain ⟨so0, so1, so2, so3, mo1, mo2, mo3⟩ := km_fO kqmr kqo
  obtain ⟨sq10, sq11, sq12, sq13, sq14, sq15, sq16, mq11, mq12, mq13, mq14, mq15, mq16⟩ := km_fT kqmr kqq1
  obtain ⟨sq40, sq41, sq42, sq43, sq44, sq45, sq46, mq41, mq42, mq43, mq44, mq45, mq46⟩ := km_fT kqmr kqq4
  intro n
  induction n with
  | zero => intro y2 y3 y5 y6 y7 mi h; exact h.elim
  | succ n ih =>
    intro y2 y3 y5 y6 y7 mi h
    have h : ((4 ≤ y7 → K 1 mi) ∧ (¬ 4 ≤ y7 → X3_alikeIn_w o y7 q1 y2 q4 y5 (y3 - y2) mi (fun r34 m34 => ((¬ r34 = 0 → X3_alike_b16 o q1 x2 x3 q4 x5 x6 n y2 y3 y5 y6 (y7 + 1) m34 K) ∧ (r34 = 0 → K 0 m34))))) := h
    refine km_iload hX dX3_alike_16 rfl ?_
    refine km_iconst (v := 4) hX dX3_alike_18 (by decide) ?_
    refine km_icmp_ge (tgt := 48) hX dX3_alike_19 (by decide) (fun c => ?_) (fun c => ?_)
    · have h := h.1 c
      refine km_iconst (v := 1) hX dX3_alike_48 (by decide) ?_
      exact km_zret hX hF rfl dX3_alike_49 (Or.inr rfl) ⟨rfl, rfl, _, rfl, h⟩ (Nat.le_refl _) (Nat.le_refl _)
    · have h := h.2 c
      refine km_aload_n hX dX3_alike_22 rfl rfl ?_
      refine km_iload hX dX3_alike_23 rfl ?_
      refine km_aload_n hX dX3_alike_25 rfl rfl ?_
      refine km_iload_n hX dX3_alike_26 rfl ?_
      refine km_aload hX dX3_alike_27 rfl rfl ?_
      refine km_iload hX dX3_alike_29 rfl ?_
      refine km_iload_n hX dX3_alike_31 rfl ?_
      refine km_iload_n hX dX3_alike_32 rfl ?_
      refine km_isub hX dX3_alike_33 ?_
      refine km_callVi hX dX3_alike_34 vX3_alike_31 (X3_alikeIn_c kqmr kqo kqq1 kqq4 h) (by decide) (by assumption) rfl rfl (Nat.le_of_ble_eq_true rfl) (fun r34 m34 h => ?_)
      refine km_if_ne (tgt := 42) hX dX3_alike_37 (by decide) (fun c => ?_) (fun c => ?_)
      · have h := h.1 c
        refine km_iinc (v := 1) hX dX3_alike_42 (by decide) rfl (by decide) ?_
        refine km_goto (tgt := 16) hX dX3_alike_45 (by decide) ?_
        refine km_ren (ls' := [(0, .ref o), (1, .ref q1), (2, .int y2), (3, .int y3), (4, .ref q4), (5, .int y5), (6, .int y6), (7, .int (y7 + 1))]) [0, 1, 2, 3, 4, 5, 6, 7] rfl ?_
        exact ih _ _ _ _ _ _ h
      · have h := h.2 c
        refine km_iconst (v := 0) hX dX3_alike_40 (by decide) ?_
        exact km_zret hX hF rfl dX3_alike_41 (Or.inl rfl) ⟨rfl, rfl, _, rfl, h⟩ (Nat.le_refl _) (Nat.le_refl _)
def X3_alike_w (o : Nat) (q1 : Nat) (x2 : Int32) (x3 : Int32) (q4 : Nat) (x5 : Int32) (x6 : Int32) (mi : km_I) (K : Int32 → km_I → Prop) : Prop := (((x3 - x2) = (x6 - x5) → ∃ k, X3_alike_b16 o q1 x2 x3 q4 x5 x6 k x2 x3 x5 x6 0 mi K) ∧ (¬ (x3 - x2) = (x6 - x5) → K 0 mi))
set_option maxHeartbeats 4000000 in
set_option maxRecDepth 100000 in
theorem X3_alike_c {E : km_E} {l : Launch} {mr : km_R} (kqmr : km_MR mr) {o : Nat} {q1 : Nat} {x2 : Int32} {x3 : Int32} {q4 : Nat} {x5 : Int32} {x6 : Int32} (kqo : km_isO o) (kqq1 : km_isT q1) (kqq4 : km_isT q4) {mi : km_I} {K : Int32 → km_I → Prop} (h : X3_alike_w o q1 x2 x3 q4 x5 x6 mi K) : km_Ci E l yX3_alike wsX3_alike rmX3_alike [.ref o, .ref q1, .int x2, .int x3, .ref q4, .int x5, .int x6] SH mi mr K := by
  refine km_start (cc := cX3_alike) (maxL := 8) (ret := (some .boolean)) (by decide) rfl (Nat.le_of_ble_eq_true rfl) ?_
  intro X hl hX hF _
  subst hl
  obtain ⟨so0, so1, so2, so3, mo1, mo2, mo3⟩ := km_fO kqmr kqo
  obtain ⟨sq10, sq11, sq12, sq13, sq14, sq15, sq16, mq11, mq12, mq13, mq14, mq15, mq16⟩ := km_fT kqmr kqq1
  obtain ⟨sq40, sq41, sq42, sq43, sq44, sq45, sq46, mq41, mq42, mq43, mq44, mq45, mq46⟩ := km_fT kqmr kqq4
  have h : (((x3 - x2) = (x6 - x5) → ∃ k, X3_alike_b16 o q1 x2 x3 q4 x5 x6 k x2 x3 x5 x6 0 mi K) ∧ (¬ (x3 - x2) = (x6 - x5) → K 0 mi)) := h
  refine km_iload_n hX dX3_alike_0 rfl ?_
  refine km_iload_n hX dX3_alike_1 rfl ?_
  refine km_isub hX dX3_alike_2 ?_
  refine km_iload hX dX3_alike_3 rfl ?_
  refine km_iload hX dX3_alike_5 rfl ?_
  refine km_isub hX dX3_alike_7 ?_
  refine km_icmp_eq (tgt := 13) hX dX3_alike_8 (by decide) (fun c => ?_) (fun c => ?_)
  · have h := h.1 c
    refine km_iconst (v := 0) hX dX3_alike_13 (by decide) ?_
    refine km_istore hX dX3_alike_14 (by decide) ?_
    obtain ⟨n9, h⟩ := h
    refine km_ren (ls' := [(0, .ref o), (1, .ref q1), (2, .int x2), (3, .int x3), (4, .ref q4), (5, .int x5), (6, .int x6), (7, .int 0)]) [0, 1, 2, 3, 4, 5, 6, 7] rfl ?_
    exact X3_alike_b16_t hX hF kqmr kqo kqq1 kqq4 n9 _ _ _ _ _ _ h
  · have h := h.2 c
    refine km_iconst (v := 0) hX dX3_alike_11 (by decide) ?_
    exact km_zret hX hF rfl dX3_alike_12 (Or.inl rfl) ⟨rfl, rfl, _, rfl, h⟩ (Nat.le_refl _) (Nat.le_refl _)
def X3_takeNames_w (o : Nat) (x1 : Int32) (mi : km_I) (K : km_I → Prop) : Prop := X3_name_w o 0 (x1 / 1000) mi (fun m7 => X3_name_w o 1 ((x1 / 100) - (x1 / 100) / 10 * 10) m7 (fun m19 => X3_name_w o 2 ((x1 / 10) - (x1 / 10) / 10 * 10) m19 (fun m31 => X3_name_w o 3 (x1 - x1 / 10 * 10) m31 (fun m40 => K m40))))
set_option maxHeartbeats 4000000 in
set_option maxRecDepth 100000 in
theorem X3_takeNames_c {E : km_E} {l : Launch} {mr : km_R} (kqmr : km_MR mr) {o : Nat} {x1 : Int32} (kqo : km_isO o) {mi : km_I} {K : km_I → Prop} (h : X3_takeNames_w o x1 mi K) : km_Cv E l yX3_takeNames wsX3_takeNames rmX3_takeNames [.ref o, .int x1] SH mi mr K := by
  refine km_start (cc := cX3_takeNames) (maxL := 2) (ret := none) (by decide) rfl (Nat.le_of_ble_eq_true rfl) ?_
  intro X hl hX hF _
  subst hl
  obtain ⟨so0, so1, so2, so3, mo1, mo2, mo3⟩ := km_fO kqmr kqo
  have h : X3_name_w o 0 (x1 / 1000) mi (fun m7 => X3_name_w o 1 ((x1 / 100) - (x1 / 100) / 10 * 10) m7 (fun m19 => X3_name_w o 2 ((x1 / 10) - (x1 / 10) / 10 * 10) m19 (fun m31 => X3_name_w o 3 (x1 - x1 / 10 * 10) m31 (fun m40 => K m40)))) := h
  refine km_aload_n hX dX3_takeNames_0 rfl rfl ?_
  refine km_iconst (v := 0) hX dX3_takeNames_1 (by decide) ?_
  refine km_iload_n hX dX3_takeNames_2 rfl ?_
  refine km_sipush (v := 1000) hX dX3_takeNames_3 (by decide) ?_
  refine km_idiv hX (by decide) dX3_takeNames_6 ?_
  refine km_callVv hX dX3_takeNames_7 vX3_takeNames_21 (X3_name_c kqmr kqo h) (by decide) (by assumption) rfl rfl (Nat.le_of_ble_eq_true rfl) (fun m7 h => ?_)
  refine km_aload_n hX dX3_takeNames_10 rfl rfl ?_
  refine km_iconst (v := 1) hX dX3_takeNames_11 (by decide) ?_
  refine km_iload_n hX dX3_takeNames_12 rfl ?_
  refine km_bipush (v := 100) hX dX3_takeNames_13 (by decide) ?_
  refine km_idiv hX (by decide) dX3_takeNames_15 ?_
  refine km_bipush (v := 10) hX dX3_takeNames_16 (by decide) ?_
  refine km_irem hX (by decide) dX3_takeNames_18 ?_
  refine km_callVv hX dX3_takeNames_19 vX3_takeNames_21 (X3_name_c kqmr kqo h) (by decide) (by assumption) rfl rfl (Nat.le_of_ble_eq_true rfl) (fun m19 h => ?_)
  refine km_aload_n hX dX3_takeNames_22 rfl rfl ?_
  refine km_iconst (v := 2) hX dX3_takeNames_23 (by decide) ?_
  refine km_iload_n hX dX3_takeNames_24 rfl ?_
  refine km_bipush (v := 10) hX dX3_takeNames_25 (by decide) ?_
  refine km_idiv hX (by decide) dX3_takeNames_27 ?_
  refine km_bipush (v := 10) hX dX3_takeNames_28 (by decide) ?_
  refine km_irem hX (by decide) dX3_takeNames_30 ?_
  refine km_callVv hX dX3_takeNames_31 vX3_takeNames_21 (X3_name_c kqmr kqo h) (by decide) (by assumption) rfl rfl (Nat.le_of_ble_eq_true rfl) (fun m31 h => ?_)
  refine km_aload_n hX dX3_takeNames_34 rfl rfl ?_
  refine km_iconst (v := 3) hX dX3_takeNames_35 (by decide) ?_
  refine km_iload_n hX dX3_takeNames_36 rfl ?_
  refine km_bipush (v := 10) hX dX3_takeNames_37 (by decide) ?_
  refine km_irem hX (by decide) dX3_takeNames_39 ?_
  refine km_callVv hX dX3_takeNames_40 vX3_takeNames_21 (X3_name_c kqmr kqo h) (by decide) (by assumption) rfl rfl (Nat.le_of_ble_eq_true rfl) (fun m40 h => ?_)
  exact km_vret hX hF rfl dX3_takeNames_43 ⟨rfl, rfl, rfl, h⟩ (Nat.le_refl _) (Nat.le_refl _)
