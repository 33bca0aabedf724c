def X0_addMethod_w (b : Nat) (mi : km_I) (K : Int32 → km_I → Prop) : Prop := (∀ m8, m8 = km_u mi b 0 ((mi b 0) + 1) → K (mi b 0) m8)
set_option maxHeartbeats 4000000 in
set_option maxRecDepth 100000 in
theorem X0_addMethod_c {E : km_E} {l : Launch} {mr : km_R} (kqmr : km_MR mr) {b : Nat} (kqb : km_isB b) {mi : km_I} {K : Int32 → km_I → Prop} (h : X0_addMethod_w b mi K) : km_Ci E l yX0_addMethod wsX0_addMethod rmX0_addMethod [.ref b] SH mi mr K := by
  refine km_start (cc := cX0_addMethod) (maxL := 1) (ret := (some .int)) (by decide) rfl (Nat.le_of_ble_eq_true rfl) ?_
  intro X hl hX hF _
  subst hl
  obtain ⟨sb0, sb1, sb2, sb3, sb4, sb5⟩ := km_shB kqb
  obtain ⟨mb1, mb2, mb3, mb4, mb5⟩ := km_mrB kqmr kqb
  have h : (∀ m8, m8 = km_u mi b 0 ((mi b 0) + 1) → K (mi b 0) m8) := h
  refine km_aload_n hX dX0_addMethod_0 rfl rfl ?_
  refine km_dup hX dX0_addMethod_1 ?_
  refine km_geti hX fX0_addMethod_9 (by assumption) rfl dX0_addMethod_2 ?_
  refine km_dup_x1 hX dX0_addMethod_5 ?_
  refine km_iconst (v := 1) hX dX0_addMethod_6 (by decide) ?_
  refine km_iadd hX dX0_addMethod_7 ?_
  refine km_putiN hX pX0_addMethod_9 (by assumption) rfl dX0_addMethod_8 (fun m8 e8 => ?_)
  have h := h m8 e8
  exact km_iret hX hF rfl dX0_addMethod_11 ⟨rfl, rfl, _, rfl, h⟩ (Nat.le_refl _) (Nat.le_refl _)
def X0_placeOf_w (b : Nat) (x1 : Int32) (x2 : Int32) (mi : km_I) (K : Int32 → km_I → Prop) : Prop := K ((x1 * 24) + x2) mi
set_option maxHeartbeats 4000000 in
set_option maxRecDepth 100000 in
theorem X0_placeOf_c {E : km_E} {l : Launch} {mr : km_R} (kqmr : km_MR mr) {b : Nat} {x1 : Int32} {x2 : Int32} (kqb : km_isB b) {mi : km_I} {K : Int32 → km_I → Prop} (h : X0_placeOf_w b x1 x2 mi K) : km_Ci E l yX0_placeOf wsX0_placeOf rmX0_placeOf [.ref b, .int x1, .int x2] SH mi mr K := by
  refine km_start (cc := cX0_placeOf) (maxL := 3) (ret := (some .int)) (by decide) rfl (Nat.le_of_ble_eq_true rfl) ?_
  intro X hl hX hF _
  subst hl
  obtain ⟨sb0, sb1, sb2, sb3, sb4, sb5⟩ := km_shB kqb
  obtain ⟨mb1, mb2, mb3, mb4, mb5⟩ := km_mrB kqmr kqb
  have h : K ((x1 * 24) + x2) mi := h
  refine km_iload_n hX dX0_placeOf_0 rfl ?_
  refine km_bipush (v := 24) hX dX0_placeOf_1 (by decide) ?_
  refine km_imul hX dX0_placeOf_3 ?_
  refine km_iload_n hX dX0_placeOf_4 rfl ?_
  refine km_iadd hX dX0_placeOf_5 ?_
  exact km_iret hX hF rfl dX0_placeOf_6 ⟨rfl, rfl, _, rfl, h⟩ (Nat.le_refl _) (Nat.le_refl _)
def X0_addOp_w (b : Nat) (x1 : Int32) (x2 : Int32) (x3 : Int32) (x4 : Int32) (x5 : Int32) (mi : km_I) (K : Int32 → km_I → Prop) : Prop := vp_in x1 6 ∧ X0_placeOf_w b x1 (mi (b + 1) (Int32.toNatClampNeg x1)) mi (fun r8 m8 => vp_in r8 144 ∧ (∀ m20, m20 = km_u m8 (b + 2) (Int32.toNatClampNeg r8) x2 → vp_in r8 144 ∧ (∀ m28, m28 = km_u m20 (b + 3) (Int32.toNatClampNeg r8) x3 → vp_in r8 144 ∧ (∀ m37, m37 = km_u m28 (b + 4) (Int32.toNatClampNeg r8) x4 → vp_in r8 144 ∧ (∀ m46, m46 = km_u m37 (b + 5) (Int32.toNatClampNeg r8) x5 → vp_in x1 6 ∧ vp_in x1 6 ∧ (∀ m57, m57 = km_u m46 (b + 1) (Int32.toNatClampNeg x1) ((m46 (b + 1) (Int32.toNatClampNeg x1)) + 1) → K (m46 (b + 1) (Int32.toNatClampNeg x1)) m57))))))
set_option maxHeartbeats 4000000 in
set_option maxRecDepth 100000 in
theorem X0_addOp_c {E : km_E} {l : Launch} {mr : km_R} (kqmr : km_MR mr) {b : Nat} {x1 : Int32} {x2 : Int32} {x3 : Int32} {x4 : Int32} {x5 : Int32} (kqb : km_isB b) {mi : km_I} {K : Int32 → km_I → Prop} (h : X0_addOp_w b x1 x2 x3 x4 x5 mi K) : km_Ci E l yX0_addOp wsX0_addOp rmX0_addOp [.ref b, .int x1, .int x2, .int x3, .int x4, .int x5] SH mi mr K := by
  refine km_start (cc := cX0_addOp) (maxL := 7) (ret := (some .int)) (by decide) rfl (Nat.le_of_ble_eq_true rfl) ?_
  intro X hl hX hF _
  subst hl
  obtain ⟨sb0, sb1, sb2, sb3, sb4, sb5⟩ := km_shB kqb
  obtain ⟨mb1, mb2, mb3, mb4, mb5⟩ := km_mrB kqmr kqb
  have h : vp_in x1 6 ∧ X0_placeOf_w b x1 (mi (b + 1) (Int32.toNatClampNeg x1)) mi (fun r8 m8 => vp_in r8 144 ∧ (∀ m20, m20 = km_u m8 (b + 2) (Int32.toNatClampNeg r8) x2 → vp_in r8 144 ∧ (∀ m28, m28 = km_u m20 (b + 3) (Int32.toNatClampNeg r8) x3 → vp_in r8 144 ∧ (∀ m37, m37 = km_u m28 (b + 4) (Int32.toNatClampNeg r8) x4 → vp_in r8 144 ∧ (∀ m46, m46 = km_u m37 (b + 5) (Int32.toNatClampNeg r8) x5 → vp_in x1 6 ∧ vp_in x1 6 ∧ (∀ m57, m57 = km_u m46 (b + 1) (Int32.toNatClampNeg x1) ((m46 (b + 1) (Int32.toNatClampNeg x1)) + 1) → K (m46 (b + 1) (Int32.toNatClampNeg x1)) m57)))))) := h
  refine km_aload_n hX dX0_addOp_0 rfl rfl ?_
  refine km_iload_n hX dX0_addOp_1 rfl ?_
  refine km_aload_n hX dX0_addOp_2 rfl rfl ?_
  refine km_getr (q := (b + 1)) hX fX0_addOp_15 (by assumption) rfl dX0_addOp_3 (by assumption) ?_
  refine km_iload_n hX dX0_addOp_6 rfl ?_
  obtain ⟨hc, h⟩ := h
  refine km_iald hX (by assumption) hc dX0_addOp_7 ?_
  refine km_callVi hX dX0_addOp_8 vX0_addOp_31 (X0_placeOf_c kqmr kqb h) (by decide) (by assumption) rfl rfl (Nat.le_of_ble_eq_true rfl) (fun r8 m8 h => ?_)
  refine km_istore hX dX0_addOp_11 (by decide) ?_
  refine km_aload_n hX dX0_addOp_13 rfl rfl ?_
  refine km_getr (q := (b + 2)) hX fX0_addOp_19 (by assumption) rfl dX0_addOp_14 (by assumption) ?_
  refine km_iload hX dX0_addOp_17 rfl ?_
  refine km_iload_n hX dX0_addOp_19 rfl ?_
  obtain ⟨hc, h⟩ := h
  refine km_iastN hX (by assumption) hc dX0_addOp_20 (fun m20 e20 => ?_)
  have h := h m20 e20
  refine km_aload_n hX dX0_addOp_21 rfl rfl ?_
  refine km_getr (q := (b + 3)) hX fX0_addOp_22 (by assumption) rfl dX0_addOp_22 (by assumption) ?_
  refine km_iload hX dX0_addOp_25 rfl ?_
  refine km_iload_n hX dX0_addOp_27 rfl ?_
  obtain ⟨hc, h⟩ := h
  refine km_iastN hX (by assumption) hc dX0_addOp_28 (fun m28 e28 => ?_)
  have h := h m28 e28
  refine km_aload_n hX dX0_addOp_29 rfl rfl ?_
  refine km_getr (q := (b + 4)) hX fX0_addOp_25 (by assumption) rfl dX0_addOp_30 (by assumption) ?_
  refine km_iload hX dX0_addOp_33 rfl ?_
  refine km_iload hX dX0_addOp_35 rfl ?_
  obtain ⟨hc, h⟩ := h
  refine km_iastN hX (by assumption) hc dX0_addOp_37 (fun m37 e37 => ?_)
  have h := h m37 e37
  refine km_aload_n hX dX0_addOp_38 rfl rfl ?_
  refine km_getr (q := (b + 5)) hX fX0_addOp_28 (by assumption) rfl dX0_addOp_39 (by assumption) ?_
  refine km_iload hX dX0_addOp_42 rfl ?_
  refine km_iload hX dX0_addOp_44 rfl ?_
  obtain ⟨hc, h⟩ := h
  refine km_iastN hX (by assumption) hc dX0_addOp_46 (fun m46 e46 => ?_)
  have h := h m46 e46
  refine km_aload_n hX dX0_addOp_47 rfl rfl ?_
  refine km_getr (q := (b + 1)) hX fX0_addOp_15 (by assumption) rfl dX0_addOp_48 (by assumption) ?_
  refine km_iload_n hX dX0_addOp_51 rfl ?_
  refine km_dup2 hX dX0_addOp_52 ?_
  obtain ⟨hc, h⟩ := h
  refine km_iald hX (by assumption) hc dX0_addOp_53 ?_
  refine km_dup_x2 hX dX0_addOp_54 ?_
  refine km_iconst (v := 1) hX dX0_addOp_55 (by decide) ?_
  refine km_iadd hX dX0_addOp_56 ?_
  obtain ⟨hc, h⟩ := h
  refine km_iastN hX (by assumption) hc dX0_addOp_57 (fun m57 e57 => ?_)
  have h := h m57 e57
  exact km_iret hX hF rfl dX0_addOp_58 ⟨rfl, rfl, _, rfl, h⟩ (Nat.le_refl _) (Nat.le_refl _)
def X0_has_w (b : Nat) (x1 : Int32) (mi : km_I) (K : Int32 → km_I → Prop) : Prop := ((x1 < 0 → K 0 mi) ∧ (¬ x1 < 0 → (((mi b 0) ≤ x1 → K 0 mi) ∧ (¬ (mi b 0) ≤ x1 → K 1 mi))))
set_option maxHeartbeats 4000000 in
set_option maxRecDepth 100000 in
theorem X0_has_c {E : km_E} {l : Launch} {mr : km_R} (kqmr : km_MR mr) {b : Nat} {x1 : Int32} (kqb : km_isB b) {mi : km_I} {K : Int32 → km_I → Prop} (h : X0_has_w b x1 mi K) : km_Ci E l yX0_has wsX0_has rmX0_has [.ref b, .int x1] SH mi mr K := by
  refine km_start (cc := cX0_has) (maxL := 2) (ret := (some .boolean)) (by decide) rfl (Nat.le_of_ble_eq_true rfl) ?_
  intro X hl hX hF _
  subst hl
  obtain ⟨sb0, sb1, sb2, sb3, sb4, sb5⟩ := km_shB kqb
  obtain ⟨mb1, mb2, mb3, mb4, mb5⟩ := km_mrB kqmr kqb
  have h : ((x1 < 0 → K 0 mi) ∧ (¬ x1 < 0 → (((mi b 0) ≤ x1 → K 0 mi) ∧ (¬ (mi b 0) ≤ x1 → K 1 mi)))) := h
  refine km_iload_n hX dX0_has_0 rfl ?_
  refine km_if_lt (tgt := 16) hX dX0_has_1 (by decide) (fun c => ?_) (fun c => ?_)
  · have h := h.1 c
    refine km_iconst (v := 0) hX dX0_has_16 (by decide) ?_
    exact km_zret hX hF rfl dX0_has_17 (Or.inl rfl) ⟨rfl, rfl, _, rfl, h⟩ (Nat.le_refl _) (Nat.le_refl _)
  · have h := h.2 c
    refine km_iload_n hX dX0_has_4 rfl ?_
    refine km_aload_n hX dX0_has_5 rfl rfl ?_
    refine km_geti hX fX0_has_9 (by assumption) rfl dX0_has_6 ?_
    refine km_icmp_ge (tgt := 16) hX dX0_has_9 (by decide) (fun c => ?_) (fun c => ?_)
    · have h := h.1 c
      refine km_iconst (v := 0) hX dX0_has_16 (by decide) ?_
      exact km_zret hX hF rfl dX0_has_17 (Or.inl rfl) ⟨rfl, rfl, _, rfl, h⟩ (Nat.le_refl _) (Nat.le_refl _)
    · have h := h.2 c
      refine km_iconst (v := 1) hX dX0_has_12 (by decide) ?_
      refine km_goto (tgt := 17) hX dX0_has_13 (by decide) ?_
      exact km_zret hX hF rfl dX0_has_17 (Or.inr rfl) ⟨rfl, rfl, _, rfl, h⟩ (Nat.le_refl _) (Nat.le_refl _)
def X0_removeOps_w (b : Nat) (x1 : Int32) (mi : km_I) (K : Int32 → km_I → Prop) : Prop := vp_in x1 6 ∧ vp_in x1 6 ∧ (∀ m13, m13 = km_u mi (b + 1) (Int32.toNatClampNeg x1) 0 → K (mi (b + 1) (Int32.toNatClampNeg x1)) m13)
set_option maxHeartbeats 4000000 in
set_option maxRecDepth 100000 in
theorem X0_removeOps_c {E : km_E} {l : Launch} {mr : km_R} (kqmr : km_MR mr) {b : Nat} {x1 : Int32} (kqb : km_isB b) {mi : km_I} {K : Int32 → km_I → Prop} (h : X0_removeOps_w b x1 mi K) : km_Ci E l yX0_removeOps wsX0_removeOps rmX0_removeOps [.ref b, .int x1] SH mi mr K := by
  refine km_start (cc := cX0_removeOps) (maxL := 3) (ret := (some .int)) (by decide) rfl (Nat.le_of_ble_eq_true rfl) ?_
  intro X hl hX hF _
  subst hl
  obtain ⟨sb0, sb1, sb2, sb3, sb4, sb5⟩ := km_shB kqb
  obtain ⟨mb1, mb2, mb3, mb4, mb5⟩ := km_mrB kqmr kqb
  have h : vp_in x1 6 ∧ vp_in x1 6 ∧ (∀ m13, m13 = km_u mi (b + 1) (Int32.toNatClampNeg x1) 0 → K (mi (b + 1) (Int32.toNatClampNeg x1)) m13) := h
  refine km_aload_n hX dX0_removeOps_0 rfl rfl ?_
  refine km_getr (q := (b + 1)) hX fX0_removeOps_15 (by assumption) rfl dX0_removeOps_1 (by assumption) ?_
  refine km_iload_n hX dX0_removeOps_4 rfl ?_
  obtain ⟨hc, h⟩ := h
  refine km_iald hX (by assumption) hc dX0_removeOps_5 ?_
  refine km_istore_n hX dX0_removeOps_6 (by decide) ?_
  refine km_aload_n hX dX0_removeOps_7 rfl rfl ?_
  refine km_getr (q := (b + 1)) hX fX0_removeOps_15 (by assumption) rfl dX0_removeOps_8 (by assumption) ?_
  refine km_iload_n hX dX0_removeOps_11 rfl ?_
  refine km_iconst (v := 0) hX dX0_removeOps_12 (by decide) ?_
  obtain ⟨hc, h⟩ := h
  refine km_iastN hX (by assumption) hc dX0_removeOps_13 (fun m13 e13 => ?_)
  have h := h m13 e13
  refine km_iload_n hX dX0_removeOps_14 rfl ?_
  exact km_iret hX hF rfl dX0_removeOps_15 ⟨rfl, rfl, _, rfl, h⟩ (Nat.le_refl _) (Nat.le_refl _)
def X5_finish_w (q : Nat) (x1 : Int32) (x2 : Int32) (x3 : Int32) (mi : km_I) (K : km_I → Prop) : Prop := (∀ m2, m2 = km_u mi q 0 x1 → (∀ m7, m7 = km_u m2 q 1 x2 → (∀ m12, m12 = km_u m7 q 2 x3 → K m12)))
set_option maxHeartbeats 4000000 in
set_option maxRecDepth 100000 in
theorem X5_finish_c {E : km_E} {l : Launch} {mr : km_R} (kqmr : km_MR mr) {q : Nat} {x1 : Int32} {x2 : Int32} {x3 : Int32} (kqq : km_isT q) {mi : km_I} {K : km_I → Prop} (h : X5_finish_w q x1 x2 x3 mi K) : km_Cv E l yX5_finish wsX5_finish rmX5_finish [.ref q, .int x1, .int x2, .int x3] SH mi mr K := by
  refine km_start (cc := cX5_finish) (maxL := 4) (ret := none) (by decide) rfl (Nat.le_of_ble_eq_true rfl) ?_
  intro X hl hX hF _
  subst hl
  obtain ⟨sq0, sq1, sq2, sq3, sq4, sq5, sq6, mq1, mq2, mq3, mq4, mq5, mq6⟩ := km_fT kqmr kqq
  have h : (∀ m2, m2 = km_u mi q 0 x1 → (∀ m7, m7 = km_u m2 q 1 x2 → (∀ m12, m12 = km_u m7 q 2 x3 → K m12))) := h
  refine km_aload_n hX dX5_finish_0 rfl rfl ?_
  refine km_iload_n hX dX5_finish_1 rfl ?_
  refine km_putiN hX pX5_finish_9 (by assumption) rfl dX5_finish_2 (fun m2 e2 => ?_)
  have h := h m2 e2
  refine km_aload_n hX dX5_finish_5 rfl rfl ?_
  refine km_iload_n hX dX5_finish_6 rfl ?_
  refine km_putiN hX pX5_finish_15 (by assumption) rfl dX5_finish_7 (fun m7 e7 => ?_)
  have h := h m7 e7
  refine km_aload_n hX dX5_finish_10 rfl rfl ?_
  refine km_iload_n hX dX5_finish_11 rfl ?_
  refine km_putiN hX pX5_finish_18 (by assumption) rfl dX5_finish_12 (fun m12 e12 => ?_)
  have h := h m12 e12
  exact km_vret hX hF rfl dX5_finish_15 ⟨rfl, rfl, rfl, h⟩ (Nat.le_refl _) (Nat.le_refl _)
def X5_addCalling_w (q : Nat) (x1 : Int32) (x2 : Int32) (x3 : Int32) (mi : km_I) (K : km_I → Prop) : Prop := vp_in (mi q 8) 2 ∧ (∀ m9, m9 = km_u mi (q + 3) (Int32.toNatClampNeg (mi q 8)) x1 → vp_in (m9 q 8) 2 ∧ (∀ m19, m19 = km_u m9 (q + 4) (Int32.toNatClampNeg (m9 q 8)) x2 → vp_in (m19 q 8) 2 ∧ (∀ m29, m29 = km_u m19 (q + 5) (Int32.toNatClampNeg (m19 q 8)) x3 → vp_in (m29 q 8) 2 ∧ (∀ m42, m42 = km_u m29 (q + 6) (Int32.toNatClampNeg (m29 q 8)) (m29 q 5) → (∀ m50, m50 = km_u m42 q 8 ((m42 q 8) + 1) → K m50)))))
set_option maxHeartbeats 4000000 in
set_option maxRecDepth 100000 in
theorem X5_addCalling_c {E : km_E} {l : Launch} {mr : km_R} (kqmr : km_MR mr) {q : Nat} {x1 : Int32} {x2 : Int32} {x3 : Int32} (kqq : km_isT q) {mi : km_I} {K : km_I → Prop} (h : X5_addCalling_w q x1 x2 x3 mi K) : km_Cv E l yX5_addCalling wsX5_addCalling rmX5_addCalling [.ref q, .int x1, .int x2, .int x3] SH mi mr K := by
  refine km_start (cc := cX5_addCalling) (maxL := 4) (ret := none) (by decide) rfl (Nat.le_of_ble_eq_true rfl) ?_
  intro X hl hX hF _
  subst hl
  obtain ⟨sq0, sq1, sq2, sq3, sq4, sq5, sq6, mq1, mq2, mq3, mq4, mq5, mq6⟩ := km_fT kqmr kqq
  have h : vp_in (mi q 8) 2 ∧ (∀ m9, m9 = km_u mi (q + 3) (Int32.toNatClampNeg (mi q 8)) x1 → vp_in (m9 q 8) 2 ∧ (∀ m19, m19 = km_u m9 (q + 4) (Int32.toNatClampNeg (m9 q 8)) x2 → vp_in (m19 q 8) 2 ∧ (∀ m29, m29 = km_u m19 (q + 5) (Int32.toNatClampNeg (m19 q 8)) x3 → vp_in (m29 q 8) 2 ∧ (∀ m42, m42 = km_u m29 (q + 6) (Int32.toNatClampNeg (m29 q 8)) (m29 q 5) → (∀ m50, m50 = km_u m42 q 8 ((m42 q 8) + 1) → K m50))))) := h
  refine km_aload_n hX dX5_addCalling_0 rfl rfl ?_
  refine km_getr (q := (q + 3)) hX fX5_addCalling_40 (by assumption) rfl dX5_addCalling_1 (by assumption) ?_
  refine km_aload_n hX dX5_addCalling_4 rfl rfl ?_
  refine km_geti hX fX5_addCalling_37 (by assumption) rfl dX5_addCalling_5 ?_
  refine km_iload_n hX dX5_addCalling_8 rfl ?_
  obtain ⟨hc, h⟩ := h
  refine km_iastN hX (by assumption) hc dX5_addCalling_9 (fun m9 e9 => ?_)
  have h := h m9 e9
  refine km_aload_n hX dX5_addCalling_10 rfl rfl ?_
  refine km_getr (q := (q + 4)) hX fX5_addCalling_43 (by assumption) rfl dX5_addCalling_11 (by assumption) ?_
  refine km_aload_n hX dX5_addCalling_14 rfl rfl ?_
  refine km_geti hX fX5_addCalling_37 (by assumption) rfl dX5_addCalling_15 ?_
  refine km_iload_n hX dX5_addCalling_18 rfl ?_
  obtain ⟨hc, h⟩ := h
  refine km_iastN hX (by assumption) hc dX5_addCalling_19 (fun m19 e19 => ?_)
  have h := h m19 e19
  refine km_aload_n hX dX5_addCalling_20 rfl rfl ?_
  refine km_getr (q := (q + 5)) hX fX5_addCalling_46 (by assumption) rfl dX5_addCalling_21 (by assumption) ?_
  refine km_aload_n hX dX5_addCalling_24 rfl rfl ?_
  refine km_geti hX fX5_addCalling_37 (by assumption) rfl dX5_addCalling_25 ?_
  refine km_iload_n hX dX5_addCalling_28 rfl ?_
  obtain ⟨hc, h⟩ := h
  refine km_iastN hX (by assumption) hc dX5_addCalling_29 (fun m29 e29 => ?_)
  have h := h m29 e29
  refine km_aload_n hX dX5_addCalling_30 rfl rfl ?_
  refine km_getr (q := (q + 6)) hX fX5_addCalling_49 (by assumption) rfl dX5_addCalling_31 (by assumption) ?_
  refine km_aload_n hX dX5_addCalling_34 rfl rfl ?_
  refine km_geti hX fX5_addCalling_37 (by assumption) rfl dX5_addCalling_35 ?_
  refine km_aload_n hX dX5_addCalling_38 rfl rfl ?_
  refine km_geti hX fX5_addCalling_27 (by assumption) rfl dX5_addCalling_39 ?_
  obtain ⟨hc, h⟩ := h
  refine km_iastN hX (by assumption) hc dX5_addCalling_42 (fun m42 e42 => ?_)
  have h := h m42 e42
  refine km_aload_n hX dX5_addCalling_43 rfl rfl ?_
  refine km_dup hX dX5_addCalling_44 ?_
  refine km_geti hX fX5_addCalling_37 (by assumption) rfl dX5_addCalling_45 ?_
  refine km_iconst (v := 1) hX dX5_addCalling_48 (by decide) ?_
  refine km_iadd hX dX5_addCalling_49 ?_
  refine km_putiN hX pX5_addCalling_37 (by assumption) rfl dX5_addCalling_50 (fun m50 e50 => ?_)
  have h := h m50 e50
  exact km_vret hX hF rfl dX5_addCalling_53 ⟨rfl, rfl, rfl, h⟩ (Nat.le_refl _) (Nat.le_refl _)
def X5_addTell_w (q : Nat) (x1 : Int32) (x2 : Int32) (mi : km_I) (K : km_I → Prop) : Prop := vp_in (mi q 5) 40 ∧ (∀ m9, m9 = km_u mi (q + 1) (Int32.toNatClampNeg (mi q 5)) x1 → vp_in (m9 q 5) 40 ∧ (∀ m19, m19 = km_u m9 (q + 2) (Int32.toNatClampNeg (m9 q 5)) x2 → (∀ m27, m27 = km_u m19 q 5 ((m19 q 5) + 1) → K m27)))
set_option maxHeartbeats 4000000 in
set_option maxRecDepth 100000 in
theorem X5_addTell_c {E : km_E} {l : Launch} {mr : km_R} (kqmr : km_MR mr) {q : Nat} {x1 : Int32} {x2 : Int32} (kqq : km_isT q) {mi : km_I} {K : km_I → Prop} (h : X5_addTell_w q x1 x2 mi K) : km_Cv E l yX5_addTell wsX5_addTell rmX5_addTell [.ref q, .int x1, .int x2] SH mi mr K := by
  refine km_start (cc := cX5_addTell) (maxL := 3) (ret := none) (by decide) rfl (Nat.le_of_ble_eq_true rfl) ?_
  intro X hl hX hF _
  subst hl
  obtain ⟨sq0, sq1, sq2, sq3, sq4, sq5, sq6, mq1, mq2, mq3, mq4, mq5, mq6⟩ := km_fT kqmr kqq
  have h : vp_in (mi q 5) 40 ∧ (∀ m9, m9 = km_u mi (q + 1) (Int32.toNatClampNeg (mi q 5)) x1 → vp_in (m9 q 5) 40 ∧ (∀ m19, m19 = km_u m9 (q + 2) (Int32.toNatClampNeg (m9 q 5)) x2 → (∀ m27, m27 = km_u m19 q 5 ((m19 q 5) + 1) → K m27))) := h
  refine km_aload_n hX dX5_addTell_0 rfl rfl ?_
  refine km_getr (q := (q + 1)) hX fX5_addTell_30 (by assumption) rfl dX5_addTell_1 (by assumption) ?_
  refine km_aload_n hX dX5_addTell_4 rfl rfl ?_
  refine km_geti hX fX5_addTell_27 (by assumption) rfl dX5_addTell_5 ?_
  refine km_iload_n hX dX5_addTell_8 rfl ?_
  obtain ⟨hc, h⟩ := h
  refine km_iastN hX (by assumption) hc dX5_addTell_9 (fun m9 e9 => ?_)
  have h := h m9 e9
  refine km_aload_n hX dX5_addTell_10 rfl rfl ?_
  refine km_getr (q := (q + 2)) hX fX5_addTell_34 (by assumption) rfl dX5_addTell_11 (by assumption) ?_
  refine km_aload_n hX dX5_addTell_14 rfl rfl ?_
  refine km_geti hX fX5_addTell_27 (by assumption) rfl dX5_addTell_15 ?_
  refine km_iload_n hX dX5_addTell_18 rfl ?_
  obtain ⟨hc, h⟩ := h
  refine km_iastN hX (by assumption) hc dX5_addTell_19 (fun m19 e19 => ?_)
  have h := h m19 e19
  refine km_aload_n hX dX5_addTell_20 rfl rfl ?_
  refine km_dup hX dX5_addTell_21 ?_
  refine km_geti hX fX5_addTell_27 (by assumption) rfl dX5_addTell_22 ?_
  refine km_iconst (v := 1) hX dX5_addTell_25 (by decide) ?_
  refine km_iadd hX dX5_addTell_26 ?_
  refine km_putiN hX pX5_addTell_27 (by assumption) rfl dX5_addTell_27 (fun m27 e27 => ?_)
  have h := h m27 e27
  exact km_vret hX hF rfl dX5_addTell_30 ⟨rfl, rfl, rfl, h⟩ (Nat.le_refl _) (Nat.le_refl _)
def X5_forget_w (q : Nat) (mi : km_I) (K : km_I → Prop) : Prop := X5_finish_w q 2 0 0 mi (fun m4 => (∀ m9, m9 = km_u m4 q 3 0 → (∀ m14, m14 = km_u m9 q 4 0 → (∀ m19, m19 = km_u m14 q 5 0 → (∀ m24, m24 = km_u m19 q 8 0 → K m24)))))
set_option maxHeartbeats 4000000 in
set_option maxRecDepth 100000 in
theorem X5_forget_c {E : km_E} {l : Launch} {mr : km_R} (kqmr : km_MR mr) {q : Nat} (kqq : km_isT q) {mi : km_I} {K : km_I → Prop} (h : X5_forget_w q mi K) : km_Cv E l yX5_forget wsX5_forget rmX5_forget [.ref q] SH mi mr K := by
  refine km_start (cc := cX5_forget) (maxL := 1) (ret := none) (by decide) rfl (Nat.le_of_ble_eq_true rfl) ?_
  intro X hl hX hF _
  subst hl
  obtain ⟨sq0, sq1, sq2, sq3, sq4, sq5, sq6, mq1, mq2, mq3, mq4, mq5, mq6⟩ := km_fT kqmr kqq
  have h : X5_finish_w q 2 0 0 mi (fun m4 => (∀ m9, m9 = km_u m4 q 3 0 → (∀ m14, m14 = km_u m9 q 4 0 → (∀ m19, m19 = km_u m14 q 5 0 → (∀ m24, m24 = km_u m19 q 8 0 → K m24))))) := h
  refine km_aload_n hX dX5_forget_0 rfl rfl ?_
  refine km_iconst (v := 2) hX dX5_forget_1 (by decide) ?_
  refine km_iconst (v := 0) hX dX5_forget_2 (by decide) ?_
  refine km_iconst (v := 0) hX dX5_forget_3 (by decide) ?_
  refine km_callVv hX dX5_forget_4 vX5_forget_52 (X5_finish_c kqmr kqq h) (by decide) (by assumption) rfl rfl (Nat.le_of_ble_eq_true rfl) (fun m4 h => ?_)
  refine km_aload_n hX dX5_forget_7 rfl rfl ?_
  refine km_iconst (v := 0) hX dX5_forget_8 (by decide) ?_
  refine km_putiN hX pX5_forget_21 (by assumption) rfl dX5_forget_9 (fun m9 e9 => ?_)
  have h := h m9 e9
  refine km_aload_n hX dX5_forget_12 rfl rfl ?_
  refine km_iconst (v := 0) hX dX5_forget_13 (by decide) ?_
  refine km_putiN hX pX5_forget_24 (by assumption) rfl dX5_forget_14 (fun m14 e14 => ?_)
  have h := h m14 e14
  refine km_aload_n hX dX5_forget_17 rfl rfl ?_
  refine km_iconst (v := 0) hX dX5_forget_18 (by decide) ?_
  refine km_putiN hX pX5_forget_27 (by assumption) rfl dX5_forget_19 (fun m19 e19 => ?_)
  have h := h m19 e19
  refine km_aload_n hX dX5_forget_22 rfl rfl ?_
  refine km_iconst (v := 0) hX dX5_forget_23 (by decide) ?_
  refine km_putiN hX pX5_forget_37 (by assumption) rfl dX5_forget_24 (fun m24 e24 => ?_)
  have h := h m24 e24
  exact km_vret hX hF rfl dX5_forget_27 ⟨rfl, rfl, rfl, h⟩ (Nat.le_refl _) (Nat.le_refl _)
def X5_endsLike_w (q : Nat) (q1 : Nat) (mi : km_I) (K : Int32 → km_I → Prop) : Prop := ((¬ (mi q 1) = (mi q1 1) → K 0 mi) ∧ ((mi q 1) = (mi q1 1) → ((¬ (mi q 2) = (mi q1 2) → K 0 mi) ∧ ((mi q 2) = (mi q1 2) → K 1 mi))))
set_option maxHeartbeats 4000000 in
set_option maxRecDepth 100000 in
theorem X5_endsLike_c {E : km_E} {l : Launch} {mr : km_R} (kqmr : km_MR mr) {q : Nat} {q1 : Nat} (kqq : km_isT q) (kqq1 : km_isT q1) {mi : km_I} {K : Int32 → km_I → Prop} (h : X5_endsLike_w q q1 mi K) : km_Ci E l yX5_endsLike wsX5_endsLike rmX5_endsLike [.ref q, .ref q1] SH mi mr K := by
  refine km_start (cc := cX5_endsLike) (maxL := 2) (ret := (some .boolean)) (by decide) rfl (Nat.le_of_ble_eq_true rfl) ?_
  intro X hl hX hF _
  subst hl
  obtain ⟨sq0, sq1, sq2, sq3, sq4, sq5, sq6, mq1, mq2, mq3, mq4, mq5, mq6⟩ := km_fT kqmr kqq
  obtain ⟨sq10, sq11, sq12, sq13, sq14, sq15, sq16, mq11, mq12, mq13, mq14, mq15, mq16⟩ := km_fT kqmr kqq1
  have h : ((¬ (mi q 1) = (mi q1 1) → K 0 mi) ∧ ((mi q 1) = (mi q1 1) → ((¬ (mi q 2) = (mi q1 2) → K 0 mi) ∧ ((mi q 2) = (mi q1 2) → K 1 mi)))) := h
  refine km_aload_n hX dX5_endsLike_0 rfl rfl ?_
  refine km_geti hX fX5_endsLike_15 (by assumption) rfl dX5_endsLike_1 ?_
  refine km_aload_n hX dX5_endsLike_4 rfl rfl ?_
  refine km_geti hX fX5_endsLike_15 (by assumption) rfl dX5_endsLike_5 ?_
  refine km_icmp_ne (tgt := 26) hX dX5_endsLike_8 (by decide) (fun c => ?_) (fun c => ?_)
  · have h := h.1 c
    refine km_iconst (v := 0) hX dX5_endsLike_26 (by decide) ?_
    exact km_zret hX hF rfl dX5_endsLike_27 (Or.inl rfl) ⟨rfl, rfl, _, rfl, h⟩ (Nat.le_refl _) (Nat.le_refl _)
  · have h := h.2 c
    refine km_aload_n hX dX5_endsLike_11 rfl rfl ?_
    refine km_geti hX fX5_endsLike_18 (by assumption) rfl dX5_endsLike_12 ?_
    refine km_aload_n hX dX5_endsLike_15 rfl rfl ?_
    refine km_geti hX fX5_endsLike_18 (by assumption) rfl dX5_endsLike_16 ?_
    refine km_icmp_ne (tgt := 26) hX dX5_endsLike_19 (by decide) (fun c => ?_) (fun c => ?_)
    · have h := h.1 c
      refine km_iconst (v := 0) hX dX5_endsLike_26 (by decide) ?_
      exact km_zret hX hF rfl dX5_endsLike_27 (Or.inl rfl) ⟨rfl, rfl, _, rfl, h⟩ (Nat.le_refl _) (Nat.le_refl _)
    · have h := h.2 c
      refine km_iconst (v := 1) hX dX5_endsLike_22 (by decide) ?_
      refine km_goto (tgt := 27) hX dX5_endsLike_23 (by decide) ?_
      exact km_zret hX hF rfl dX5_endsLike_27 (Or.inr rfl) ⟨rfl, rfl, _, rfl, h⟩ (Nat.le_refl _) (Nat.le_refl _)
def J6_numberOfTrailingZeros_0f7a4_b74 (x0 : Int32) (y0 : Int32) (y1 : Int32) (mi : km_I) (K : Int32 → km_I → Prop) : Prop := K (y1 + ((Int32.toUInt32 y0) >>> ((Int32.toUInt32 1) &&& Int32.toUInt32 31)).toInt32) mi
set_option maxHeartbeats 4000000 in
set_option maxRecDepth 100000 in
theorem J6_numberOfTrailingZeros_0f7a4_b74_t {E : km_E} {X : km_X} {mr : km_R} {K : Int32 → km_I → Prop} {x0 : Int32} (hX : km_ok E X rmJ6_numberOfTrailingZeros_0f7a4 cJ6_numberOfTrailingZeros_0f7a4 2 wsJ6_numberOfTrailingZeros_0f7a4 RJ6) (hF : km_fin E X (some .int) 0 0 (fun r sh' mi' mr' => sh' = SH ∧ mr' = mr ∧ ∃ i, r = some (.int i) ∧ K i mi')) (kqmr : km_MR mr) : ∀ (y0 : Int32) (y1 : Int32) (mi : km_I), J6_numberOfTrailingZeros_0f7a4_b74 x0 y0 y1 mi K → km_G E X 2 SH mi mr 0 0 74 [(0, .int y0), (1, .int y1)] [] := by
  intro y0 y1 mi h
  have h : K (y1 + ((Int32.toUInt32 y0) >>> ((Int32.toUInt32 1) &&& Int32.toUInt32 31)).toInt32) mi := h
  refine km_iload_n hX dJ6_numberOfTrailingZeros_0f7a4_74 rfl ?_
  refine km_iload_n hX dJ6_numberOfTrailingZeros_0f7a4_75 rfl ?_
  refine km_iconst (v := 1) hX dJ6_numberOfTrailingZeros_0f7a4_76 (by decide) ?_
  refine km_iushr hX rfl dJ6_numberOfTrailingZeros_0f7a4_77 ?_
  refine km_iadd hX dJ6_numberOfTrailingZeros_0f7a4_78 ?_
  exact km_iret hX hF rfl dJ6_numberOfTrailingZeros_0f7a4_79 ⟨rfl, rfl, _, rfl, h⟩ (Nat.le_refl _) (Nat.le_refl _)
def J6_numberOfTrailingZeros_0f7a4_b62 (x0 : Int32) (y0 : Int32) (y1 : Int32) (mi : km_I) (K : Int32 → km_I → Prop) : Prop := ((y0 ≤ 4 → J6_numberOfTrailingZeros_0f7a4_b74 x0 y0 y1 mi K) ∧ (¬ y0 ≤ 4 → J6_numberOfTrailingZeros_0f7a4_b74 x0 (((Int32.toUInt32 y0) >>> ((Int32.toUInt32 2) &&& Int32.toUInt32 31)).toInt32) (y1 + 2) mi K))
set_option maxHeartbeats 4000000 in
set_option maxRecDepth 100000 in
theorem J6_numberOfTrailingZeros_0f7a4_b62_t {E : km_E} {X : km_X} {mr : km_R} {K : Int32 → km_I → Prop} {x0 : Int32} (hX : km_ok E X rmJ6_numberOfTrailingZeros_0f7a4 cJ6_numberOfTrailingZeros_0f7a4 2 wsJ6_numberOfTrailingZeros_0f7a4 RJ6) (hF : km_fin E X (some .int) 0 0 (fun r sh' mi' mr' => sh' = SH ∧ mr' = mr ∧ ∃ i, r = some (.int i) ∧ K i mi')) (kqmr : km_MR mr) : ∀ (y0 : Int32) (y1 : Int32) (mi : km_I), J6_numberOfTrailingZeros_0f7a4_b62 x0 y0 y1 mi K → km_G E X 2 SH mi mr 0 0 62 [(0, .int y0), (1, .int y1)] [] := by
  intro y0 y1 mi h
  have h : ((y0 ≤ 4 → J6_numberOfTrailingZeros_0f7a4_b74 x0 y0 y1 mi K) ∧ (¬ y0 ≤ 4 → J6_numberOfTrailingZeros_0f7a4_b74 x0 (((Int32.toUInt32 y0) >>> ((Int32.toUInt32 2) &&& Int32.toUInt32 31)).toInt32) (y1 + 2) mi K)) := h
  refine km_iload_n hX dJ6_numberOfTrailingZeros_0f7a4_62 rfl ?_
  refine km_iconst (v := 4) hX dJ6_numberOfTrailingZeros_0f7a4_63 (by decide) ?_
  refine km_icmp_le (tgt := 74) hX dJ6_numberOfTrailingZeros_0f7a4_64 (by decide) (fun c => ?_) (fun c => ?_)
  · have h := h.1 c
    refine km_ren (ls' := [(0, .int y0), (1, .int y1)]) [0, 1] rfl ?_
    exact J6_numberOfTrailingZeros_0f7a4_b74_t hX hF kqmr _ _ _ h
  · have h := h.2 c
    refine km_iinc (v := 2) hX dJ6_numberOfTrailingZeros_0f7a4_67 (by decide) rfl (by decide) ?_
    refine km_iload_n hX dJ6_numberOfTrailingZeros_0f7a4_70 rfl ?_
    refine km_iconst (v := 2) hX dJ6_numberOfTrailingZeros_0f7a4_71 (by decide) ?_
    refine km_iushr hX rfl dJ6_numberOfTrailingZeros_0f7a4_72 ?_
    refine km_istore_n hX dJ6_numberOfTrailingZeros_0f7a4_73 (by decide) ?_
    refine km_ren (ls' := [(0, .int ((Int32.toUInt32 y0) >>> ((Int32.toUInt32 2) &&& Int32.toUInt32 31)).toInt32), (1, .int (y1 + 2))]) [0, 1] rfl ?_
    exact J6_numberOfTrailingZeros_0f7a4_b74_t hX hF kqmr _ _ _ h
def J6_numberOfTrailingZeros_0f7a4_b49 (x0 : Int32) (y0 : Int32) (y1 : Int32) (mi : km_I) (K : Int32 → km_I → Prop) : Prop := ((y0 ≤ 16 → J6_numberOfTrailingZeros_0f7a4_b62 x0 y0 y1 mi K) ∧ (¬ y0 ≤ 16 → J6_numberOfTrailingZeros_0f7a4_b62 x0 (((Int32.toUInt32 y0) >>> ((Int32.toUInt32 4) &&& Int32.toUInt32 31)).toInt32) (y1 + 4) mi K))
set_option maxHeartbeats 4000000 in
set_option maxRecDepth 100000 in
theorem J6_numberOfTrailingZeros_0f7a4_b49_t {E : km_E} {X : km_X} {mr : km_R} {K : Int32 → km_I → Prop} {x0 : Int32} (hX : km_ok E X rmJ6_numberOfTrailingZeros_0f7a4 cJ6_numberOfTrailingZeros_0f7a4 2 wsJ6_numberOfTrailingZeros_0f7a4 RJ6) (hF : km_fin E X (some .int) 0 0 (fun r sh' mi' mr' => sh' = SH ∧ mr' = mr ∧ ∃ i, r = some (.int i) ∧ K i mi')) (kqmr : km_MR mr) : ∀ (y0 : Int32) (y1 : Int32) (mi : km_I), J6_numberOfTrailingZeros_0f7a4_b49 x0 y0 y1 mi K → km_G E X 2 SH mi mr 0 0 49 [(0, .int y0), (1, .int y1)] [] := by
  intro y0 y1 mi h
  have h : ((y0 ≤ 16 → J6_numberOfTrailingZeros_0f7a4_b62 x0 y0 y1 mi K) ∧ (¬ y0 ≤ 16 → J6_numberOfTrailingZeros_0f7a4_b62 x0 (((Int32.toUInt32 y0) >>> ((Int32.toUInt32 4) &&& Int32.toUInt32 31)).toInt32) (y1 + 4) mi K)) := h
  refine km_iload_n hX dJ6_numberOfTrailingZeros_0f7a4_49 rfl ?_
  refine km_bipush (v := 16) hX dJ6_numberOfTrailingZeros_0f7a4_50 (by decide) ?_
  refine km_icmp_le (tgt := 62) hX dJ6_numberOfTrailingZeros_0f7a4_52 (by decide) (fun c => ?_) (fun c => ?_)
  · have h := h.1 c
    refine km_ren (ls' := [(0, .int y0), (1, .int y1)]) [0, 1] rfl ?_
    exact J6_numberOfTrailingZeros_0f7a4_b62_t hX hF kqmr _ _ _ h
  · have h := h.2 c
    refine km_iinc (v := 4) hX dJ6_numberOfTrailingZeros_0f7a4_55 (by decide) rfl (by decide) ?_
    refine km_iload_n hX dJ6_numberOfTrailingZeros_0f7a4_58 rfl ?_
    refine km_iconst (v := 4) hX dJ6_numberOfTrailingZeros_0f7a4_59 (by decide) ?_
    refine km_iushr hX rfl dJ6_numberOfTrailingZeros_0f7a4_60 ?_
    refine km_istore_n hX dJ6_numberOfTrailingZeros_0f7a4_61 (by decide) ?_
    refine km_ren (ls' := [(0, .int ((Int32.toUInt32 y0) >>> ((Int32.toUInt32 4) &&& Int32.toUInt32 31)).toInt32), (1, .int (y1 + 4))]) [0, 1] rfl ?_
    exact J6_numberOfTrailingZeros_0f7a4_b62_t hX hF kqmr _ _ _ h
def J6_numberOfTrailingZeros_0f7a4_b34 (x0 : Int32) (y0 : Int32) (y1 : Int32) (mi : km_I) (K : Int32 → km_I → Prop) : Prop := ((y0 ≤ 256 → J6_numberOfTrailingZeros_0f7a4_b49 x0 y0 y1 mi K) ∧ (¬ y0 ≤ 256 → J6_numberOfTrailingZeros_0f7a4_b49 x0 (((Int32.toUInt32 y0) >>> ((Int32.toUInt32 8) &&& Int32.toUInt32 31)).toInt32) (y1 + 8) mi K))
set_option maxHeartbeats 4000000 in
set_option maxRecDepth 100000 in
theorem J6_numberOfTrailingZeros_0f7a4_b34_t {E : km_E} {X : km_X} {mr : km_R} {K : Int32 → km_I → Prop} {x0 : Int32} (hX : km_ok E X rmJ6_numberOfTrailingZeros_0f7a4 cJ6_numberOfTrailingZeros_0f7a4 2 wsJ6_numberOfTrailingZeros_0f7a4 RJ6) (hF : km_fin E X (some .int) 0 0 (fun r sh' mi' mr' => sh' = SH ∧ mr' = mr ∧ ∃ i, r = some (.int i) ∧ K i mi')) (kqmr : km_MR mr) : ∀ (y0 : Int32) (y1 : Int32) (mi : km_I), J6_numberOfTrailingZeros_0f7a4_b34 x0 y0 y1 mi K → km_G E X 2 SH mi mr 0 0 34 [(0, .int y0), (1, .int y1)] [] := by
  intro y0 y1 mi h
  have h : ((y0 ≤ 256 → J6_numberOfTrailingZeros_0f7a4_b49 x0 y0 y1 mi K) ∧ (¬ y0 ≤ 256 → J6_numberOfTrailingZeros_0f7a4_b49 x0 (((Int32.toUInt32 y0) >>> ((Int32.toUInt32 8) &&& Int32.toUInt32 31)).toInt32) (y1 + 8) mi K)) := h
  refine km_iload_n hX dJ6_numberOfTrailingZeros_0f7a4_34 rfl ?_
  refine km_sipush (v := 256) hX dJ6_numberOfTrailingZeros_0f7a4_35 (by decide) ?_
  refine km_icmp_le (tgt := 49) hX dJ6_numberOfTrailingZeros_0f7a4_38 (by decide) (fun c => ?_) (fun c => ?_)
  · have h := h.1 c
    refine km_ren (ls' := [(0, .int y0), (1, .int y1)]) [0, 1] rfl ?_
    exact J6_numberOfTrailingZeros_0f7a4_b49_t hX hF kqmr _ _ _ h
  · have h := h.2 c
    refine km_iinc (v := 8) hX dJ6_numberOfTrailingZeros_0f7a4_41 (by decide) rfl (by decide) ?_
    refine km_iload_n hX dJ6_numberOfTrailingZeros_0f7a4_44 rfl ?_
    refine km_bipush (v := 8) hX dJ6_numberOfTrailingZeros_0f7a4_45 (by decide) ?_
    refine km_iushr hX rfl dJ6_numberOfTrailingZeros_0f7a4_47 ?_
    refine km_istore_n hX dJ6_numberOfTrailingZeros_0f7a4_48 (by decide) ?_
    refine km_ren (ls' := [(0, .int ((Int32.toUInt32 y0) >>> ((Int32.toUInt32 8) &&& Int32.toUInt32 31)).toInt32), (1, .int (y1 + 8))]) [0, 1] rfl ?_
    exact J6_numberOfTrailingZeros_0f7a4_b49_t hX hF kqmr _ _ _ h
def J6_numberOfTrailingZeros_0f7a4_w (x0 : Int32) (mi : km_I) (K : Int32 → km_I → Prop) : Prop := ((0 < ((x0 ^^^ (-1)) &&& (x0 - 1)) → ((((x0 ^^^ (-1)) &&& (x0 - 1)) ≤ 65536 → J6_numberOfTrailingZeros_0f7a4_b34 x0 ((x0 ^^^ (-1)) &&& (x0 - 1)) 1 mi K) ∧ (¬ ((x0 ^^^ (-1)) &&& (x0 - 1)) ≤ 65536 → J6_numberOfTrailingZeros_0f7a4_b34 x0 (((Int32.toUInt32 ((x0 ^^^ (-1)) &&& (x0 - 1))) >>> ((Int32.toUInt32 16) &&& Int32.toUInt32 31)).toInt32) (1 + 16) mi K))) ∧ (¬ 0 < ((x0 ^^^ (-1)) &&& (x0 - 1)) → K (((x0 ^^^ (-1)) &&& (x0 - 1)) &&& 32) mi))
set_option maxHeartbeats 4000000 in
set_option maxRecDepth 100000 in
theorem J6_numberOfTrailingZeros_0f7a4_c {E : km_E} {l : Launch} {mr : km_R} (kqmr : km_MR mr) {x0 : Int32} {mi : km_I} {K : Int32 → km_I → Prop} (h : J6_numberOfTrailingZeros_0f7a4_w x0 mi K) : km_Ci E l yJ6_numberOfTrailingZeros_0f7a4 wsJ6_numberOfTrailingZeros_0f7a4 rmJ6_numberOfTrailingZeros_0f7a4 [.int x0] SH mi mr K := by
  refine km_start (cc := cJ6_numberOfTrailingZeros_0f7a4) (maxL := 2) (ret := (some .int)) (by decide) rfl (Nat.le_of_ble_eq_true rfl) ?_
  intro X hl hX hF _
  subst hl

  have h : ((0 < ((x0 ^^^ (-1)) &&& (x0 - 1)) → ((((x0 ^^^ (-1)) &&& (x0 - 1)) ≤ 65536 → J6_numberOfTrailingZeros_0f7a4_b34 x0 ((x0 ^^^ (-1)) &&& (x0 - 1)) 1 mi K) ∧ (¬ ((x0 ^^^ (-1)) &&& (x0 - 1)) ≤ 65536 → J6_numberOfTrailingZeros_0f7a4_b34 x0 (((Int32.toUInt32 ((x0 ^^^ (-1)) &&& (x0 - 1))) >>> ((Int32.toUInt32 16) &&& Int32.toUInt32 31)).toInt32) (1 + 16) mi K))) ∧ (¬ 0 < ((x0 ^^^ (-1)) &&& (x0 - 1)) → K (((x0 ^^^ (-1)) &&& (x0 - 1)) &&& 32) mi)) := h
  refine km_iload_n hX dJ6_numberOfTrailingZeros_0f7a4_0 rfl ?_
  refine km_iconst (v := -1) hX dJ6_numberOfTrailingZeros_0f7a4_1 (by decide) ?_
  refine km_ixor hX dJ6_numberOfTrailingZeros_0f7a4_2 ?_
  refine km_iload_n hX dJ6_numberOfTrailingZeros_0f7a4_3 rfl ?_
  refine km_iconst (v := 1) hX dJ6_numberOfTrailingZeros_0f7a4_4 (by decide) ?_
  refine km_isub hX dJ6_numberOfTrailingZeros_0f7a4_5 ?_
  refine km_iand hX dJ6_numberOfTrailingZeros_0f7a4_6 ?_
  refine km_istore_n hX dJ6_numberOfTrailingZeros_0f7a4_7 (by decide) ?_
  refine km_iload_n hX dJ6_numberOfTrailingZeros_0f7a4_8 rfl ?_
  refine km_if_gt (tgt := 17) hX dJ6_numberOfTrailingZeros_0f7a4_9 (by decide) (fun c => ?_) (fun c => ?_)
  · have h := h.1 c
    refine km_iconst (v := 1) hX dJ6_numberOfTrailingZeros_0f7a4_17 (by decide) ?_
    refine km_istore_n hX dJ6_numberOfTrailingZeros_0f7a4_18 (by decide) ?_
    refine km_iload_n hX dJ6_numberOfTrailingZeros_0f7a4_19 rfl ?_
    refine km_ldc_w hX dJ6_numberOfTrailingZeros_0f7a4_20 lJ6_numberOfTrailingZeros_0f7a4 ?_
    refine km_icmp_le (tgt := 34) hX dJ6_numberOfTrailingZeros_0f7a4_23 (by decide) (fun c => ?_) (fun c => ?_)
    · have h := h.1 c
      refine km_ren (ls' := [(0, .int ((x0 ^^^ (-1)) &&& (x0 - 1))), (1, .int 1)]) [0, 1] rfl ?_
      exact J6_numberOfTrailingZeros_0f7a4_b34_t hX hF kqmr _ _ _ h
    · have h := h.2 c
      refine km_iinc (v := 16) hX dJ6_numberOfTrailingZeros_0f7a4_26 (by decide) rfl (by decide) ?_
      refine km_iload_n hX dJ6_numberOfTrailingZeros_0f7a4_29 rfl ?_
      refine km_bipush (v := 16) hX dJ6_numberOfTrailingZeros_0f7a4_30 (by decide) ?_
      refine km_iushr hX rfl dJ6_numberOfTrailingZeros_0f7a4_32 ?_
      refine km_istore_n hX dJ6_numberOfTrailingZeros_0f7a4_33 (by decide) ?_
      refine km_ren (ls' := [(0, .int ((Int32.toUInt32 ((x0 ^^^ (-1)) &&& (x0 - 1))) >>> ((Int32.toUInt32 16) &&& Int32.toUInt32 31)).toInt32), (1, .int (1 + 16))]) [0, 1] rfl ?_
      exact J6_numberOfTrailingZeros_0f7a4_b34_t hX hF kqmr _ _ _ h
  · have h := h.2 c
    refine km_iload_n hX dJ6_numberOfTrailingZeros_0f7a4_12 rfl ?_
    refine km_bipush (v := 32) hX dJ6_numberOfTrailingZeros_0f7a4_13 (by decide) ?_
    refine km_iand hX dJ6_numberOfTrailingZeros_0f7a4_15 ?_
    exact km_iret hX hF rfl dJ6_numberOfTrailingZeros_0f7a4_16 ⟨rfl, rfl, _, rfl, h⟩ (Nat.le_refl _) (Nat.le_refl _)
def X2_add_w (x1 : Int32) (x2 : Int32) (mi : km_I) (K : Int32 → km_I → Prop) : Prop := vp_in (mi 21 0) 6 ∧ (∀ m9, m9 = km_u mi 22 (Int32.toNatClampNeg (mi 21 0)) x1 → vp_in (m9 21 0) 6 ∧ (∀ m19, m19 = km_u m9 23 (Int32.toNatClampNeg (m9 21 0)) x2 → (∀ m28, m28 = km_u m19 21 0 ((m19 21 0) + 1) → K (m19 21 0) m28)))
set_option maxHeartbeats 4000000 in
set_option maxRecDepth 100000 in
theorem X2_add_c {E : km_E} {l : Launch} {mr : km_R} (kqmr : km_MR mr) {x1 : Int32} {x2 : Int32} {mi : km_I} {K : Int32 → km_I → Prop} (h : X2_add_w x1 x2 mi K) : km_Ci E l yX2_add wsX2_add rmX2_add [.ref 21, .int x1, .int x2] SH mi mr K := by
  refine km_start (cc := cX2_add) (maxL := 3) (ret := (some .int)) (by decide) rfl (Nat.le_of_ble_eq_true rfl) ?_
  intro X hl hX hF _
  subst hl

  have h : vp_in (mi 21 0) 6 ∧ (∀ m9, m9 = km_u mi 22 (Int32.toNatClampNeg (mi 21 0)) x1 → vp_in (m9 21 0) 6 ∧ (∀ m19, m19 = km_u m9 23 (Int32.toNatClampNeg (m9 21 0)) x2 → (∀ m28, m28 = km_u m19 21 0 ((m19 21 0) + 1) → K (m19 21 0) m28))) := h
  refine km_aload_n hX dX2_add_0 rfl rfl ?_
  refine km_getr (q := 22) hX fX2_add_15 shp_21 rfl dX2_add_1 (mrp_21_1 kqmr) ?_
  refine km_aload_n hX dX2_add_4 rfl rfl ?_
  refine km_geti hX fX2_add_9 shp_21 rfl dX2_add_5 ?_
  refine km_iload_n hX dX2_add_8 rfl ?_
  obtain ⟨hc, h⟩ := h
  refine km_iastN hX shp_22 hc dX2_add_9 (fun m9 e9 => ?_)
  have h := h m9 e9
  refine km_aload_n hX dX2_add_10 rfl rfl ?_
  refine km_getr (q := 23) hX fX2_add_19 shp_21 rfl dX2_add_11 (mrp_21_2 kqmr) ?_
  refine km_aload_n hX dX2_add_14 rfl rfl ?_
  refine km_geti hX fX2_add_9 shp_21 rfl dX2_add_15 ?_
  refine km_iload_n hX dX2_add_18 rfl ?_
  obtain ⟨hc, h⟩ := h
  refine km_iastN hX shp_23 hc dX2_add_19 (fun m19 e19 => ?_)
  have h := h m19 e19
  refine km_aload_n hX dX2_add_20 rfl rfl ?_
  refine km_dup hX dX2_add_21 ?_
  refine km_geti hX fX2_add_9 shp_21 rfl dX2_add_22 ?_
  refine km_dup_x1 hX dX2_add_25 ?_
  refine km_iconst (v := 1) hX dX2_add_26 (by decide) ?_
  refine km_iadd hX dX2_add_27 ?_
  refine km_putiN hX pX2_add_9 shp_21 rfl dX2_add_28 (fun m28 e28 => ?_)
  have h := h m28 e28
  exact km_iret hX hF rfl dX2_add_31 ⟨rfl, rfl, _, rfl, h⟩ (Nat.le_refl _) (Nat.le_refl _)
def X2_has_b32 (x1 : Int32) (x2 : Int32) (Z2 : Int32 → Int32 → Int32 → km_I → Prop) (y1 : Int32) (y2 : Int32) (y3 : Int32) (mi : km_I) (K : Int32 → km_I → Prop) : Prop := Z2 y1 y2 (y3 + 1) mi
set_option maxHeartbeats 4000000 in
set_option maxRecDepth 100000 in
theorem X2_has_b32_t {E : km_E} {X : km_X} {mr : km_R} {K : Int32 → km_I → Prop} {x1 : Int32} {x2 : Int32} {Z2 : Int32 → Int32 → Int32 → km_I → Prop} (hX : km_ok E X rmX2_has cX2_has 4 wsX2_has RX2) (hF : km_fin E X (some .boolean) 0 0 (fun r sh' mi' mr' => sh' = SH ∧ mr' = mr ∧ ∃ i, r = some (.int i) ∧ K i mi')) (kqmr : km_MR mr) (hZ2 : ∀ (y1 : Int32) (y2 : Int32) (y3 : Int32) (m : km_I), Z2 y1 y2 y3 m → km_G E X 4 SH m mr 0 0 2 [(0, .ref 21), (1, .int y1), (2, .int y2), (3, .int y3)] []) : ∀ (y1 : Int32) (y2 : Int32) (y3 : Int32) (mi : km_I), X2_has_b32 x1 x2 Z2 y1 y2 y3 mi K → km_G E X 4 SH mi mr 0 0 32 [(0, .ref 21), (1, .int y1), (2, .int y2), (3, .int y3)] [] := by
  intro y1 y2 y3 mi h
  have h : Z2 y1 y2 (y3 + 1) mi := h
  refine km_iinc (v := 1) hX dX2_has_32 (by decide) rfl (by decide) ?_
  refine km_goto (tgt := 2) hX dX2_has_35 (by decide) ?_
  refine km_ren (ls' := [(0, .ref 21), (1, .int y1), (2, .int y2), (3, .int (y3 + 1))]) [0, 1, 2, 3] rfl ?_
  exact hZ2 _ _ _ _ h
def X2_has_b2 (x1 : Int32) (x2 : Int32) (n : Nat) (y1 : Int32) (y2 : Int32) (y3 : Int32) (mi : km_I) (K : Int32 → km_I → Prop) : Prop := match n with
  | 0 => False
  | n + 1 => (((mi 21 0) ≤ y3 → K 0 mi) ∧ (¬ (mi 21 0) ≤ y3 → vp_in y3 6 ∧ ((¬ (mi 22 (Int32.toNatClampNeg y3)) = y1 → X2_has_b32 x1 x2 (fun v0 v1 v2 m => X2_has_b2 x1 x2 n v0 v1 v2 m K) y1 y2 y3 mi K) ∧ ((mi 22 (Int32.toNatClampNeg y3)) = y1 → vp_in y3 6 ∧ ((¬ (mi 23 (Int32.toNatClampNeg y3)) = y2 → X2_has_b32 x1 x2 (fun v0 v1 v2 m => X2_has_b2 x1 x2 n v0 v1 v2 m K) y1 y2 y3 mi K) ∧ ((mi 23 (Int32.toNatClampNeg y3)) = y2 → K 1 mi))))))
set_option maxHeartbeats 4000000 in
set_option maxRecDepth 100000 in
theorem X2_has_b2_t {E : km_E} {X : km_X} {mr : km_R} {K : Int32 → km_I → Prop} {x1 : Int32} {x2 : Int32} (hX : km_ok E X rmX2_has cX2_has 4 wsX2_has RX2) (hF : km_fin E X (some .boolean) 0 0 (fun r sh' mi' mr' => sh' = SH ∧ mr' = mr ∧ ∃ i, r = some (.int i) ∧ K i mi')) (kqmr : km_MR mr) : ∀ (n : Nat) (y1 : Int32) (y2 : Int32) (y3 : Int32) (mi : km_I), X2_has_b2 x1 x2 n y1 y2 y3 mi K → km_G E X 4 SH mi mr 0 0 2 [(0, .ref 21), (1, .int y1), (2, .int y2), (3, .int y3)] [] := by
  intro n
  induction n with
  | zero => intro y1 y2 y3 mi h; exact h.elim
  | succ n ih =>
    intro y1 y2 y3 mi h
    have h : (((mi 21 0) ≤ y3 → K 0 mi) ∧ (¬ (mi 21 0) ≤ y3 → vp_in y3 6 ∧ ((¬ (mi 22 (Int32.toNatClampNeg y3)) = y1 → X2_has_b32 x1 x2 (fun v0 v1 v2 m => X2_has_b2 x1 x2 n v0 v1 v2 m K) y1 y2 y3 mi K) ∧ ((mi 22 (Int32.toNatClampNeg y3)) = y1 → vp_in y3 6 ∧ ((¬ (mi 23 (Int32.toNatClampNeg y3)) = y2 → X2_has_b32 x1 x2 (fun v0 v1 v2 m => X2_has_b2 x1 x2 n v0 v1 v2 m K) y1 y2 y3 mi K) ∧ ((mi 23 (Int32.toNatClampNeg y3)) = y2 → K 1 mi)))))) := h
    refine km_iload_n hX dX2_has_2 rfl ?_
    refine km_aload_n hX dX2_has_3 rfl rfl ?_
    refine km_geti hX fX2_has_9 shp_21 rfl dX2_has_4 ?_
    refine km_icmp_ge (tgt := 38) hX dX2_has_7 (by decide) (fun c => ?_) (fun c => ?_)
    · have h := h.1 c
      refine km_iconst (v := 0) hX dX2_has_38 (by decide) ?_
      exact km_zret hX hF rfl dX2_has_39 (Or.inl rfl) ⟨rfl, rfl, _, rfl, h⟩ (Nat.le_refl _) (Nat.le_refl _)
    · have h := h.2 c
      refine km_aload_n hX dX2_has_10 rfl rfl ?_
      refine km_getr (q := 22) hX fX2_has_15 shp_21 rfl dX2_has_11 (mrp_21_1 kqmr) ?_
      refine km_iload_n hX dX2_has_14 rfl ?_
      obtain ⟨hc, h⟩ := h
      refine km_iald hX shp_22 hc dX2_has_15 ?_
      refine km_iload_n hX dX2_has_16 rfl ?_
      refine km_icmp_ne (tgt := 32) hX dX2_has_17 (by decide) (fun c => ?_) (fun c => ?_)
      · have h := h.1 c
        refine km_ren (ls' := [(0, .ref 21), (1, .int y1), (2, .int y2), (3, .int y3)]) [0, 1, 2, 3] rfl ?_
        exact X2_has_b32_t hX hF kqmr (fun v0 v1 v2 m hh => ih v0 v1 v2 m hh) _ _ _ _ h
      · have h := h.2 c
        refine km_aload_n hX dX2_has_20 rfl rfl ?_
        refine km_getr (q := 23) hX fX2_has_19 shp_21 rfl dX2_has_21 (mrp_21_2 kqmr) ?_
        refine km_iload_n hX dX2_has_24 rfl ?_
        obtain ⟨hc, h⟩ := h
        refine km_iald hX shp_23 hc dX2_has_25 ?_
        refine km_iload_n hX dX2_has_26 rfl ?_
        refine km_icmp_ne (tgt := 32) hX dX2_has_27 (by decide) (fun c => ?_) (fun c => ?_)
        · have h := h.1 c
          refine km_ren (ls' := [(0, .ref 21), (1, .int y1), (2, .int y2), (3, .int y3)]) [0, 1, 2, 3] rfl ?_
          exact X2_has_b32_t hX hF kqmr (fun v0 v1 v2 m hh => ih v0 v1 v2 m hh) _ _ _ _ h
        · have h := h.2 c
          refine km_iconst (v := 1) hX dX2_has_30 (by decide) ?_
          exact km_zret hX hF rfl dX2_has_31 (Or.inr rfl) ⟨rfl, rfl, _, rfl, h⟩ (Nat.le_refl _) (Nat.le_refl _)
def X2_has_w (x1 : Int32) (x2 : Int32) (mi : km_I) (K : Int32 → km_I → Prop) : Prop := ∃ k, X2_has_b2 x1 x2 k x1 x2 0 mi K
set_option maxHeartbeats 4000000 in
set_option maxRecDepth 100000 in
theorem X2_has_c {E : km_E} {l : Launch} {mr : km_R} (kqmr : km_MR mr) {x1 : Int32} {x2 : Int32} {mi : km_I} {K : Int32 → km_I → Prop} (h : X2_has_w x1 x2 mi K) : km_Ci E l yX2_has wsX2_has rmX2_has [.ref 21, .int x1, .int x2] SH mi mr K := by
  refine km_start (cc := cX2_has) (maxL := 4) (ret := (some .boolean)) (by decide) rfl (Nat.le_of_ble_eq_true rfl) ?_
  intro X hl hX hF _
  subst hl

  have h : ∃ k, X2_has_b2 x1 x2 k x1 x2 0 mi K := h
  refine km_iconst (v := 0) hX dX2_has_0 (by decide) ?_
  refine km_istore_n hX dX2_has_1 (by decide) ?_
  obtain ⟨n9, h⟩ := h
  refine km_ren (ls' := [(0, .ref 21), (1, .int x1), (2, .int x2), (3, .int 0)]) [0, 1, 2, 3] rfl ?_
  exact X2_has_b2_t hX hF kqmr n9 _ _ _ _ h
def X4_keep_w (x1 : Int32) (x2 : Int32) (x3 : Int32) (x4 : Int32) (x5 : Int32) (x6 : Int32) (mi : km_I) (K : km_I → Prop) : Prop := (∀ m2, m2 = km_u mi 24 0 x1 → vp_in 0 5 ∧ (∀ m11, m11 = km_u m2 25 (Int32.toNatClampNeg 0) x2 → vp_in 1 5 ∧ (∀ m18, m18 = km_u m11 25 (Int32.toNatClampNeg 1) x3 → vp_in 2 5 ∧ (∀ m26, m26 = km_u m18 25 (Int32.toNatClampNeg 2) x4 → vp_in 3 5 ∧ (∀ m34, m34 = km_u m26 25 (Int32.toNatClampNeg 3) x5 → vp_in 4 5 ∧ (∀ m42, m42 = km_u m34 25 (Int32.toNatClampNeg 4) x6 → K m42))))))
set_option maxHeartbeats 4000000 in
set_option maxRecDepth 100000 in
theorem X4_keep_c {E : km_E} {l : Launch} {mr : km_R} (kqmr : km_MR mr) {x1 : Int32} {x2 : Int32} {x3 : Int32} {x4 : Int32} {x5 : Int32} {x6 : Int32} {mi : km_I} {K : km_I → Prop} (h : X4_keep_w x1 x2 x3 x4 x5 x6 mi K) : km_Cv E l yX4_keep wsX4_keep rmX4_keep [.ref 24, .int x1, .int x2, .int x3, .int x4, .int x5, .int x6] SH mi mr K := by
  refine km_start (cc := cX4_keep) (maxL := 7) (ret := none) (by decide) rfl (Nat.le_of_ble_eq_true rfl) ?_
  intro X hl hX hF _
  subst hl

  have h : (∀ m2, m2 = km_u mi 24 0 x1 → vp_in 0 5 ∧ (∀ m11, m11 = km_u m2 25 (Int32.toNatClampNeg 0) x2 → vp_in 1 5 ∧ (∀ m18, m18 = km_u m11 25 (Int32.toNatClampNeg 1) x3 → vp_in 2 5 ∧ (∀ m26, m26 = km_u m18 25 (Int32.toNatClampNeg 2) x4 → vp_in 3 5 ∧ (∀ m34, m34 = km_u m26 25 (Int32.toNatClampNeg 3) x5 → vp_in 4 5 ∧ (∀ m42, m42 = km_u m34 25 (Int32.toNatClampNeg 4) x6 → K m42)))))) := h
  refine km_aload_n hX dX4_keep_0 rfl rfl ?_
  refine km_iload_n hX dX4_keep_1 rfl ?_
  refine km_putiN hX pX4_keep_9 shp_24 rfl dX4_keep_2 (fun m2 e2 => ?_)
  have h := h m2 e2
  refine km_aload_n hX dX4_keep_5 rfl rfl ?_
  refine km_getr (q := 25) hX fX4_keep_15 shp_24 rfl dX4_keep_6 (mrp_24_1 kqmr) ?_
  refine km_iconst (v := 0) hX dX4_keep_9 (by decide) ?_
  refine km_iload_n hX dX4_keep_10 rfl ?_
  obtain ⟨hc, h⟩ := h
  refine km_iastN hX shp_25 hc dX4_keep_11 (fun m11 e11 => ?_)
  have h := h m11 e11
  refine km_aload_n hX dX4_keep_12 rfl rfl ?_
  refine km_getr (q := 25) hX fX4_keep_15 shp_24 rfl dX4_keep_13 (mrp_24_1 kqmr) ?_
  refine km_iconst (v := 1) hX dX4_keep_16 (by decide) ?_
  refine km_iload_n hX dX4_keep_17 rfl ?_
  obtain ⟨hc, h⟩ := h
  refine km_iastN hX shp_25 hc dX4_keep_18 (fun m18 e18 => ?_)
  have h := h m18 e18
  refine km_aload_n hX dX4_keep_19 rfl rfl ?_
  refine km_getr (q := 25) hX fX4_keep_15 shp_24 rfl dX4_keep_20 (mrp_24_1 kqmr) ?_
  refine km_iconst (v := 2) hX dX4_keep_23 (by decide) ?_
  refine km_iload hX dX4_keep_24 rfl ?_
  obtain ⟨hc, h⟩ := h
  refine km_iastN hX shp_25 hc dX4_keep_26 (fun m26 e26 => ?_)
  have h := h m26 e26
  refine km_aload_n hX dX4_keep_27 rfl rfl ?_
  refine km_getr (q := 25) hX fX4_keep_15 shp_24 rfl dX4_keep_28 (mrp_24_1 kqmr) ?_
  refine km_iconst (v := 3) hX dX4_keep_31 (by decide) ?_
  refine km_iload hX dX4_keep_32 rfl ?_
  obtain ⟨hc, h⟩ := h
  refine km_iastN hX shp_25 hc dX4_keep_34 (fun m34 e34 => ?_)
  have h := h m34 e34
  refine km_aload_n hX dX4_keep_35 rfl rfl ?_
  refine km_getr (q := 25) hX fX4_keep_15 shp_24 rfl dX4_keep_36 (mrp_24_1 kqmr) ?_
  refine km_iconst (v := 4) hX dX4_keep_39 (by decide) ?_
  refine km_iload hX dX4_keep_40 rfl ?_
  obtain ⟨hc, h⟩ := h
  refine km_iastN hX shp_25 hc dX4_keep_42 (fun m42 e42 => ?_)
  have h := h m42 e42
  exact km_vret hX hF rfl dX4_keep_43 ⟨rfl, rfl, rfl, h⟩ (Nat.le_refl _) (Nat.le_refl _)
def X4_begin_b10 (x1 : Int32) (y1 : Int32) (z0 : Int32) (mi : km_I) (K : km_I → Prop) : Prop := X4_keep_w z0 (-1) (-1) (-1) (-1) (-1) mi (fun m15 => K m15)
set_option maxHeartbeats 4000000 in
set_option maxRecDepth 100000 in
theorem X4_begin_b10_t {E : km_E} {X : km_X} {mr : km_R} {K : km_I → Prop} {x1 : Int32} (hX : km_ok E X rmX4_begin cX4_begin 2 wsX4_begin RX4) (hF : km_fin E X none 0 0 (fun r sh' mi' mr' => sh' = SH ∧ mr' = mr ∧ r = none ∧ K mi')) (kqmr : km_MR mr) : ∀ (y1 : Int32) (z0 : Int32) (mi : km_I), X4_begin_b10 x1 y1 z0 mi K → km_G E X 2 SH mi mr 0 0 10 [(0, .ref 24), (1, .int y1)] [.int z0, .ref 24] := by
  intro y1 z0 mi h
  have h : X4_keep_w z0 (-1) (-1) (-1) (-1) (-1) mi (fun m15 => K m15) := h
  refine km_iconst (v := -1) hX dX4_begin_10 (by decide) ?_
  refine km_iconst (v := -1) hX dX4_begin_11 (by decide) ?_
  refine km_iconst (v := -1) hX dX4_begin_12 (by decide) ?_
  refine km_iconst (v := -1) hX dX4_begin_13 (by decide) ?_
  refine km_iconst (v := -1) hX dX4_begin_14 (by decide) ?_
  refine km_callVv hX dX4_begin_15 vX4_begin_19 (X4_keep_c kqmr h) (by decide) shp_24 rfl rfl (Nat.le_of_ble_eq_true rfl) (fun m15 h => ?_)
  exact km_vret hX hF rfl dX4_begin_18 ⟨rfl, rfl, rfl, h⟩ (Nat.le_refl _) (Nat.le_refl _)
def X4_begin_w (x1 : Int32) (mi : km_I) (K : km_I → Prop) : Prop := ((¬ x1 = 0 → X4_begin_b10 x1 x1 1 mi K) ∧ (x1 = 0 → X4_begin_b10 x1 x1 (-1) mi K))
set_option maxHeartbeats 4000000 in
set_option maxRecDepth 100000 in
theorem X4_begin_c {E : km_E} {l : Launch} {mr : km_R} (kqmr : km_MR mr) {x1 : Int32} {mi : km_I} {K : km_I → Prop} (h : X4_begin_w x1 mi K) : km_Cv E l yX4_begin wsX4_begin rmX4_begin [.ref 24, .int x1] SH mi mr K := by
  refine km_start (cc := cX4_begin) (maxL := 2) (ret := none) (by decide) rfl (Nat.le_of_ble_eq_true rfl) ?_
  intro X hl hX hF _
  subst hl

  have h : ((¬ x1 = 0 → X4_begin_b10 x1 x1 1 mi K) ∧ (x1 = 0 → X4_begin_b10 x1 x1 (-1) mi K)) := h
  refine km_aload_n hX dX4_begin_0 rfl rfl ?_
  refine km_iload_n hX dX4_begin_1 rfl ?_
  refine km_if_ne (tgt := 9) hX dX4_begin_2 (by decide) (fun c => ?_) (fun c => ?_)
  · have h := h.1 c
    refine km_iconst (v := 1) hX dX4_begin_9 (by decide) ?_
    refine km_ren (ls' := [(0, .ref 24), (1, .int x1)]) [0, 1] rfl ?_
    exact X4_begin_b10_t hX hF kqmr _ _ _ h
  · have h := h.2 c
    refine km_iconst (v := -1) hX dX4_begin_5 (by decide) ?_
    refine km_goto (tgt := 10) hX dX4_begin_6 (by decide) ?_
    refine km_ren (ls' := [(0, .ref 24), (1, .int x1)]) [0, 1] rfl ?_
    exact X4_begin_b10_t hX hF kqmr _ _ _ h
def X4_yieldsTo_b17 (x1 : Int32) (y1 : Int32) (mi : km_I) (K : Int32 → km_I → Prop) : Prop := K 1 mi
set_option maxHeartbeats 4000000 in
set_option maxRecDepth 100000 in
theorem X4_yieldsTo_b17_t {E : km_E} {X : km_X} {mr : km_R} {K : Int32 → km_I → Prop} {x1 : Int32} (hX : km_ok E X rmX4_yieldsTo cX4_yieldsTo 2 wsX4_yieldsTo RX4) (hF : km_fin E X (some .boolean) 0 0 (fun r sh' mi' mr' => sh' = SH ∧ mr' = mr ∧ ∃ i, r = some (.int i) ∧ K i mi')) (kqmr : km_MR mr) : ∀ (y1 : Int32) (mi : km_I), X4_yieldsTo_b17 x1 y1 mi K → km_G E X 2 SH mi mr 0 0 17 [(0, .ref 24), (1, .int y1)] [] := by
  intro y1 mi h
  have h : K 1 mi := h
  refine km_iconst (v := 1) hX dX4_yieldsTo_17 (by decide) ?_
  refine km_goto (tgt := 22) hX dX4_yieldsTo_18 (by decide) ?_
  exact km_zret hX hF rfl dX4_yieldsTo_22 (Or.inr rfl) ⟨rfl, rfl, _, rfl, h⟩ (Nat.le_refl _) (Nat.le_refl _)
def X4_yieldsTo_w (x1 : Int32) (mi : km_I) (K : Int32 → km_I → Prop) : Prop := ((x1 = 0 → X4_yieldsTo_b17 x1 x1 mi K) ∧ (¬ x1 = 0 → ((¬ x1 = 2 → K 0 mi) ∧ (x1 = 2 → ((¬ (mi 24 0) = 1 → K 0 mi) ∧ ((mi 24 0) = 1 → X4_yieldsTo_b17 x1 x1 mi K))))))
set_option maxHeartbeats 4000000 in
set_option maxRecDepth 100000 in
theorem X4_yieldsTo_c {E : km_E} {l : Launch} {mr : km_R} (kqmr : km_MR mr) {x1 : Int32} {mi : km_I} {K : Int32 → km_I → Prop} (h : X4_yieldsTo_w x1 mi K) : km_Ci E l yX4_yieldsTo wsX4_yieldsTo rmX4_yieldsTo [.ref 24, .int x1] SH mi mr K := by
  refine km_start (cc := cX4_yieldsTo) (maxL := 2) (ret := (some .boolean)) (by decide) rfl (Nat.le_of_ble_eq_true rfl) ?_
  intro X hl hX hF _
  subst hl

  have h : ((x1 = 0 → X4_yieldsTo_b17 x1 x1 mi K) ∧ (¬ x1 = 0 → ((¬ x1 = 2 → K 0 mi) ∧ (x1 = 2 → ((¬ (mi 24 0) = 1 → K 0 mi) ∧ ((mi 24 0) = 1 → X4_yieldsTo_b17 x1 x1 mi K)))))) := h
  refine km_iload_n hX dX4_yieldsTo_0 rfl ?_
  refine km_if_eq (tgt := 17) hX dX4_yieldsTo_1 (by decide) (fun c => ?_) (fun c => ?_)
  · have h := h.1 c
    refine km_ren (ls' := [(0, .ref 24), (1, .int x1)]) [0, 1] rfl ?_
    exact X4_yieldsTo_b17_t hX hF kqmr _ _ h
  · have h := h.2 c
    refine km_iload_n hX dX4_yieldsTo_4 rfl ?_
    refine km_iconst (v := 2) hX dX4_yieldsTo_5 (by decide) ?_
    refine km_icmp_ne (tgt := 21) hX dX4_yieldsTo_6 (by decide) (fun c => ?_) (fun c => ?_)
    · have h := h.1 c
      refine km_iconst (v := 0) hX dX4_yieldsTo_21 (by decide) ?_
      exact km_zret hX hF rfl dX4_yieldsTo_22 (Or.inl rfl) ⟨rfl, rfl, _, rfl, h⟩ (Nat.le_refl _) (Nat.le_refl _)
    · have h := h.2 c
      refine km_aload_n hX dX4_yieldsTo_9 rfl rfl ?_
      refine km_geti hX fX4_yieldsTo_9 shp_24 rfl dX4_yieldsTo_10 ?_
      refine km_iconst (v := 1) hX dX4_yieldsTo_13 (by decide) ?_
      refine km_icmp_ne (tgt := 21) hX dX4_yieldsTo_14 (by decide) (fun c => ?_) (fun c => ?_)
      · have h := h.1 c
        refine km_iconst (v := 0) hX dX4_yieldsTo_21 (by decide) ?_
        exact km_zret hX hF rfl dX4_yieldsTo_22 (Or.inl rfl) ⟨rfl, rfl, _, rfl, h⟩ (Nat.le_refl _) (Nat.le_refl _)
      · have h := h.2 c
        refine km_ren (ls' := [(0, .ref 24), (1, .int x1)]) [0, 1] rfl ?_
        exact X4_yieldsTo_b17_t hX hF kqmr _ _ h
def X5_sameCalling_w (q : Nat) (q1 : Nat) (x2 : Int32) (mi : km_I) (K : Int32 → km_I → Prop) : Prop := vp_in x2 2 ∧ vp_in x2 2 ∧ ((¬ (mi (q + 4) (Int32.toNatClampNeg x2)) = (mi (q1 + 4) (Int32.toNatClampNeg x2)) → K 0 mi) ∧ ((mi (q + 4) (Int32.toNatClampNeg x2)) = (mi (q1 + 4) (Int32.toNatClampNeg x2)) → vp_in x2 2 ∧ vp_in x2 2 ∧ ((¬ (mi (q + 5) (Int32.toNatClampNeg x2)) = (mi (q1 + 5) (Int32.toNatClampNeg x2)) → K 0 mi) ∧ ((mi (q + 5) (Int32.toNatClampNeg x2)) = (mi (q1 + 5) (Int32.toNatClampNeg x2)) → vp_in x2 2 ∧ vp_in x2 2 ∧ ((¬ (mi (q + 6) (Int32.toNatClampNeg x2)) = (mi (q1 + 6) (Int32.toNatClampNeg x2)) → K 0 mi) ∧ ((mi (q + 6) (Int32.toNatClampNeg x2)) = (mi (q1 + 6) (Int32.toNatClampNeg x2)) → K 1 mi))))))
set_option maxHeartbeats 4000000 in
set_option maxRecDepth 100000 in
theorem X5_sameCalling_c {E : km_E} {l : Launch} {mr : km_R} (kqmr : km_MR mr) {q : Nat} {q1 : Nat} {x2 : Int32} (kqq : km_isT q) (kqq1 : km_isT q1) {mi : km_I} {K : Int32 → km_I → Prop} (h : X5_sameCalling_w q q1 x2 mi K) : km_Ci E l yX5_sameCalling wsX5_sameCalling rmX5_sameCalling [.ref q, .ref q1, .int x2] SH mi mr K := by
  refine km_start (cc := cX5_sameCalling) (maxL := 3) (ret := (some .boolean)) (by decide) rfl (Nat.le_of_ble_eq_true rfl) ?_
  intro X hl hX hF _
  subst hl
  obtain ⟨sq0, sq1, sq2, sq3, sq4, sq5, sq6, mq1, mq2, mq3, mq4, mq5, mq6⟩ := km_fT kqmr kqq
  obtain ⟨sq10, sq11, sq12, sq13, sq14, sq15, sq16, mq11, mq12, mq13, mq14, mq15, mq16⟩ := km_fT kqmr kqq1
  have h : vp_in x2 2 ∧ vp_in x2 2 ∧ ((¬ (mi (q + 4) (Int32.toNatClampNeg x2)) = (mi (q1 + 4) (Int32.toNatClampNeg x2)) → K 0 mi) ∧ ((mi (q + 4) (Int32.toNatClampNeg x2)) = (mi (q1 + 4) (Int32.toNatClampNeg x2)) → vp_in x2 2 ∧ vp_in x2 2 ∧ ((¬ (mi (q + 5) (Int32.toNatClampNeg x2)) = (mi (q1 + 5) (Int32.toNatClampNeg x2)) → K 0 mi) ∧ ((mi (q + 5) (Int32.toNatClampNeg x2)) = (mi (q1 + 5) (Int32.toNatClampNeg x2)) → vp_in x2 2 ∧ vp_in x2 2 ∧ ((¬ (mi (q + 6) (Int32.toNatClampNeg x2)) = (mi (q1 + 6) (Int32.toNatClampNeg x2)) → K 0 mi) ∧ ((mi (q + 6) (Int32.toNatClampNeg x2)) = (mi (q1 + 6) (Int32.toNatClampNeg x2)) → K 1 mi)))))) := h
  refine km_aload_n hX dX5_sameCalling_0 rfl rfl ?_
  refine km_getr (q := (q + 4)) hX fX5_sameCalling_43 (by assumption) rfl dX5_sameCalling_1 (by assumption) ?_
  refine km_iload_n hX dX5_sameCalling_4 rfl ?_
  obtain ⟨hc, h⟩ := h
  refine km_iald hX (by assumption) hc dX5_sameCalling_5 ?_
  refine km_aload_n hX dX5_sameCalling_6 rfl rfl ?_
  refine km_getr (q := (q1 + 4)) hX fX5_sameCalling_43 (by assumption) rfl dX5_sameCalling_7 (by assumption) ?_
  refine km_iload_n hX dX5_sameCalling_10 rfl ?_
  obtain ⟨hc, h⟩ := h
  refine km_iald hX (by assumption) hc dX5_sameCalling_11 ?_
  refine km_icmp_ne (tgt := 49) hX dX5_sameCalling_12 (by decide) (fun c => ?_) (fun c => ?_)
  · have h := h.1 c
    refine km_iconst (v := 0) hX dX5_sameCalling_49 (by decide) ?_
    exact km_zret hX hF rfl dX5_sameCalling_50 (Or.inl rfl) ⟨rfl, rfl, _, rfl, h⟩ (Nat.le_refl _) (Nat.le_refl _)
  · have h := h.2 c
    refine km_aload_n hX dX5_sameCalling_15 rfl rfl ?_
    refine km_getr (q := (q + 5)) hX fX5_sameCalling_46 (by assumption) rfl dX5_sameCalling_16 (by assumption) ?_
    refine km_iload_n hX dX5_sameCalling_19 rfl ?_
    obtain ⟨hc, h⟩ := h
    refine km_iald hX (by assumption) hc dX5_sameCalling_20 ?_
    refine km_aload_n hX dX5_sameCalling_21 rfl rfl ?_
    refine km_getr (q := (q1 + 5)) hX fX5_sameCalling_46 (by assumption) rfl dX5_sameCalling_22 (by assumption) ?_
    refine km_iload_n hX dX5_sameCalling_25 rfl ?_
    obtain ⟨hc, h⟩ := h
    refine km_iald hX (by assumption) hc dX5_sameCalling_26 ?_
    refine km_icmp_ne (tgt := 49) hX dX5_sameCalling_27 (by decide) (fun c => ?_) (fun c => ?_)
    · have h := h.1 c
      refine km_iconst (v := 0) hX dX5_sameCalling_49 (by decide) ?_
      exact km_zret hX hF rfl dX5_sameCalling_50 (Or.inl rfl) ⟨rfl, rfl, _, rfl, h⟩ (Nat.le_refl _) (Nat.le_refl _)
    · have h := h.2 c
      refine km_aload_n hX dX5_sameCalling_30 rfl rfl ?_
      refine km_getr (q := (q + 6)) hX fX5_sameCalling_49 (by assumption) rfl dX5_sameCalling_31 (by assumption) ?_
      refine km_iload_n hX dX5_sameCalling_34 rfl ?_
      obtain ⟨hc, h⟩ := h
      refine km_iald hX (by assumption) hc dX5_sameCalling_35 ?_
      refine km_aload_n hX dX5_sameCalling_36 rfl rfl ?_
      refine km_getr (q := (q1 + 6)) hX fX5_sameCalling_49 (by assumption) rfl dX5_sameCalling_37 (by assumption) ?_
      refine km_iload_n hX dX5_sameCalling_40 rfl ?_
      obtain ⟨hc, h⟩ := h
      refine km_iald hX (by assumption) hc dX5_sameCalling_41 ?_
      refine km_icmp_ne (tgt := 49) hX dX5_sameCalling_42 (by decide) (fun c => ?_) (fun c => ?_)
      · have h := h.1 c
        refine km_iconst (v := 0) hX dX5_sameCalling_49 (by decide) ?_
        exact km_zret hX hF rfl dX5_sameCalling_50 (Or.inl rfl) ⟨rfl, rfl, _, rfl, h⟩ (Nat.le_refl _) (Nat.le_refl _)
      · have h := h.2 c
        refine km_iconst (v := 1) hX dX5_sameCalling_45 (by decide) ?_
        refine km_goto (tgt := 50) hX dX5_sameCalling_46 (by decide) ?_
        exact km_zret hX hF rfl dX5_sameCalling_50 (Or.inr rfl) ⟨rfl, rfl, _, rfl, h⟩ (Nat.le_refl _) (Nat.le_refl _)
