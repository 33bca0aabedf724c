def X6_buildOf_w (x1 : Int32) (mi : km_I) (K : Nat → km_I → Prop) : Prop := ((¬ x1 = 0 → K 7 mi) ∧ (x1 = 0 → K 1 mi))
set_option maxHeartbeats 4000000 in
set_option maxRecDepth 100000 in
theorem X6_buildOf_c {E : km_E} {l : Launch} {mr : km_R} (kqmr : km_MR mr) {x1 : Int32} {mi : km_I} {K : Nat → km_I → Prop} (h : X6_buildOf_w x1 mi K) : km_Cr E l yX6_buildOf wsX6_buildOf rmX6_buildOf [.ref 0, .int x1] SH mi mr K := by
  refine km_start (cc := cX6_buildOf) (maxL := 2) (ret := (some (.object "EqualMethods$Build"))) (by decide) rfl (Nat.le_of_ble_eq_true rfl) ?_
  intro X hl hX hF _
  subst hl

  have h : ((¬ x1 = 0 → K 7 mi) ∧ (x1 = 0 → K 1 mi)) := h
  refine km_iload_n hX dX6_buildOf_0 rfl ?_
  refine km_if_ne (tgt := 11) hX dX6_buildOf_1 (by decide) (fun c => ?_) (fun c => ?_)
  · have h := h.1 c
    refine km_aload_n hX dX6_buildOf_11 rfl rfl ?_
    refine km_getr (q := 7) hX fX6_buildOf_16 shp_0 rfl dX6_buildOf_12 (mrp_0_3 kqmr) ?_
    exact km_aret hX hF rfl dX6_buildOf_15 ⟨rfl, rfl, _, rfl, h⟩ (Nat.le_refl _) (Nat.le_refl _)
  · have h := h.2 c
    refine km_aload_n hX dX6_buildOf_4 rfl rfl ?_
    refine km_getr (q := 1) hX fX6_buildOf_10 shp_0 rfl dX6_buildOf_5 (mrp_0_2 kqmr) ?_
    refine km_goto (tgt := 15) hX dX6_buildOf_8 (by decide) ?_
    exact km_aret hX hF rfl dX6_buildOf_15 ⟨rfl, rfl, _, rfl, h⟩ (Nat.le_refl _) (Nat.le_refl _)
def X6_within_w (x0 : Int32) (x1 : Int32) (x2 : Int32) (mi : km_I) (K : Int32 → km_I → Prop) : Prop := ((x0 < x1 → K 0 mi) ∧ (¬ x0 < x1 → ((x2 < x0 → K 0 mi) ∧ (¬ x2 < x0 → K 1 mi))))
set_option maxHeartbeats 4000000 in
set_option maxRecDepth 100000 in
theorem X6_within_c {E : km_E} {l : Launch} {mr : km_R} (kqmr : km_MR mr) {x0 : Int32} {x1 : Int32} {x2 : Int32} {mi : km_I} {K : Int32 → km_I → Prop} (h : X6_within_w x0 x1 x2 mi K) : km_Ci E l yX6_within wsX6_within rmX6_within [.int x0, .int x1, .int x2] SH mi mr K := by
  refine km_start (cc := cX6_within) (maxL := 3) (ret := (some .boolean)) (by decide) rfl (Nat.le_of_ble_eq_true rfl) ?_
  intro X hl hX hF _
  subst hl

  have h : ((x0 < x1 → K 0 mi) ∧ (¬ x0 < x1 → ((x2 < x0 → K 0 mi) ∧ (¬ x2 < x0 → K 1 mi)))) := h
  refine km_iload_n hX dX6_within_0 rfl ?_
  refine km_iload_n hX dX6_within_1 rfl ?_
  refine km_icmp_lt (tgt := 14) hX dX6_within_2 (by decide) (fun c => ?_) (fun c => ?_)
  · have h := h.1 c
    refine km_iconst (v := 0) hX dX6_within_14 (by decide) ?_
    exact km_zret hX hF rfl dX6_within_15 (Or.inl rfl) ⟨rfl, rfl, _, rfl, h⟩ (Nat.le_refl _) (Nat.le_refl _)
  · have h := h.2 c
    refine km_iload_n hX dX6_within_5 rfl ?_
    refine km_iload_n hX dX6_within_6 rfl ?_
    refine km_icmp_gt (tgt := 14) hX dX6_within_7 (by decide) (fun c => ?_) (fun c => ?_)
    · have h := h.1 c
      refine km_iconst (v := 0) hX dX6_within_14 (by decide) ?_
      exact km_zret hX hF rfl dX6_within_15 (Or.inl rfl) ⟨rfl, rfl, _, rfl, h⟩ (Nat.le_refl _) (Nat.le_refl _)
    · have h := h.2 c
      refine km_iconst (v := 1) hX dX6_within_10 (by decide) ?_
      refine km_goto (tgt := 15) hX dX6_within_11 (by decide) ?_
      exact km_zret hX hF rfl dX6_within_15 (Or.inr rfl) ⟨rfl, rfl, _, rfl, h⟩ (Nat.le_refl _) (Nat.le_refl _)
def X6_method_w (x1 : Int32) (mi : km_I) (K : Int32 → km_I → Prop) : Prop := X6_within_w x1 0 1 mi (fun r3 m3 => ((¬ r3 = 0 → X6_buildOf_w x1 m3 (fun r14 m14 => km_isB r14 ∧ ((¬ (m14 r14 0) = 6 → X0_addMethod_w r14 m14 (fun r33 m33 => K r33 m33)) ∧ ((m14 r14 0) = 6 → K (-104) m14)))) ∧ (r3 = 0 → K (-101) m3)))
set_option maxHeartbeats 4000000 in
set_option maxRecDepth 100000 in
theorem X6_method_c {E : km_E} {l : Launch} {mr : km_R} (kqmr : km_MR mr) {x1 : Int32} {mi : km_I} {K : Int32 → km_I → Prop} (h : X6_method_w x1 mi K) : km_Ci E l yX6_method wsX6_method rmX6_method [.ref 0, .int x1] SH mi mr K := by
  refine km_start (cc := cX6_method) (maxL := 3) (ret := (some .int)) (by decide) rfl (Nat.le_of_ble_eq_true rfl) ?_
  intro X hl hX hF _
  subst hl

  have h : X6_within_w x1 0 1 mi (fun r3 m3 => ((¬ r3 = 0 → X6_buildOf_w x1 m3 (fun r14 m14 => km_isB r14 ∧ ((¬ (m14 r14 0) = 6 → X0_addMethod_w r14 m14 (fun r33 m33 => K r33 m33)) ∧ ((m14 r14 0) = 6 → K (-104) m14)))) ∧ (r3 = 0 → K (-101) m3))) := h
  refine km_iload_n hX dX6_method_0 rfl ?_
  refine km_iconst (v := 0) hX dX6_method_1 (by decide) ?_
  refine km_iconst (v := 1) hX dX6_method_2 (by decide) ?_
  refine km_callSi hX dX6_method_3 vX6_method_83 (X6_within_c kqmr h) (by decide) rfl rfl (Nat.le_of_ble_eq_true rfl) (fun r3 m3 h => ?_)
  refine km_if_ne (tgt := 12) hX dX6_method_6 (by decide) (fun c => ?_) (fun c => ?_)
  · have h := h.1 c
    refine km_aload_n hX dX6_method_12 rfl rfl ?_
    refine km_iload_n hX dX6_method_13 rfl ?_
    refine km_callVr hX dX6_method_14 vX6_method_87 (X6_buildOf_c kqmr h) (by decide) shp_0 rfl rfl (Nat.le_of_ble_eq_true rfl) (fun r14 m14 h => ?_)
    obtain ⟨kqr14, h⟩ := h
    obtain ⟨sb0, sb1, sb2, sb3, sb4, sb5⟩ := km_shB kqr14
    obtain ⟨mb1, mb2, mb3, mb4, mb5⟩ := km_mrB kqmr kqr14
    refine km_astore_n hX dX6_method_17 (by decide) ?_
    refine km_aload_n hX dX6_method_18 rfl rfl ?_
    refine km_geti hX fX6_method_91 (by assumption) rfl dX6_method_19 ?_
    refine km_bipush (v := 6) hX dX6_method_22 (by decide) ?_
    refine km_icmp_ne (tgt := 32) hX dX6_method_24 (by decide) (fun c => ?_) (fun c => ?_)
    · have h := h.1 c
      refine km_aload_n hX dX6_method_32 rfl rfl ?_
      refine km_callVi hX dX6_method_33 vX6_method_94 (X0_addMethod_c kqmr kqr14 h) (by decide) (by assumption) rfl rfl (Nat.le_of_ble_eq_true rfl) (fun r33 m33 h => ?_)
      exact km_iret hX hF rfl dX6_method_36 ⟨rfl, rfl, _, rfl, h⟩ (Nat.le_refl _) (Nat.le_refl _)
    · have h := h.2 c
      refine km_bipush (v := -104) hX dX6_method_27 (by decide) ?_
      refine km_goto (tgt := 36) hX dX6_method_29 (by decide) ?_
      exact km_iret hX hF rfl dX6_method_36 ⟨rfl, rfl, _, rfl, h⟩ (Nat.le_refl _) (Nat.le_refl _)
  · have h := h.2 c
    refine km_bipush (v := -101) hX dX6_method_9 (by decide) ?_
    exact km_iret hX hF rfl dX6_method_11 ⟨rfl, rfl, _, rfl, h⟩ (Nat.le_refl _) (Nat.le_refl _)
def X6_isPort_w (x0 : Int32) (mi : km_I) (K : Int32 → km_I → Prop) : Prop := X6_within_w x0 0 3 mi (fun r3 m3 => (r3 = 0 ∨ r3 = 1) ∧ K r3 m3)
set_option maxHeartbeats 4000000 in
set_option maxRecDepth 100000 in
theorem X6_isPort_c {E : km_E} {l : Launch} {mr : km_R} (kqmr : km_MR mr) {x0 : Int32} {mi : km_I} {K : Int32 → km_I → Prop} (h : X6_isPort_w x0 mi K) : km_Ci E l yX6_isPort wsX6_isPort rmX6_isPort [.int x0] SH mi mr K := by
  refine km_start (cc := cX6_isPort) (maxL := 1) (ret := (some .boolean)) (by decide) rfl (Nat.le_of_ble_eq_true rfl) ?_
  intro X hl hX hF _
  subst hl

  have h : X6_within_w x0 0 3 mi (fun r3 m3 => (r3 = 0 ∨ r3 = 1) ∧ K r3 m3) := h
  refine km_iload_n hX dX6_isPort_0 rfl ?_
  refine km_iconst (v := 0) hX dX6_isPort_1 (by decide) ?_
  refine km_iconst (v := 3) hX dX6_isPort_2 (by decide) ?_
  refine km_callSi hX dX6_isPort_3 vX6_isPort_83 (X6_within_c kqmr h) (by decide) rfl rfl (Nat.le_of_ble_eq_true rfl) (fun r3 m3 h => ?_)
  obtain ⟨hc, h⟩ := h
  exact km_zret hX hF rfl dX6_isPort_6 hc ⟨rfl, rfl, _, rfl, h⟩ (Nat.le_refl _) (Nat.le_refl _)
def X6_fits_w (E : km_E) (x1 : Int32) (x2 : Int32) (x3 : Int32) (mi : km_I) (K : Int32 → km_I → Prop) : Prop := vp_in ((3 * x1) + x2) (E.2.2.1 0) ∧ (((Int32.toInt ((E.2.2.2.1 0 (Int32.toNatClampNeg ((3 * x1) + x2))))) < 1 ∨ 6 < (Int32.toInt ((E.2.2.2.1 0 (Int32.toNatClampNeg ((3 * x1) + x2))))) → K 1 mi) ∧ ((Int32.toInt ((E.2.2.2.1 0 (Int32.toNatClampNeg ((3 * x1) + x2))))) = 1 → X6_within_w x3 0 5 mi (fun r51 m51 => (r51 = 0 ∨ r51 = 1) ∧ K r51 m51)) ∧ ((Int32.toInt ((E.2.2.2.1 0 (Int32.toNatClampNeg ((3 * x1) + x2))))) = 2 → X6_within_w x3 0 (mi 0 1) mi (fun r61 m61 => (r61 = 0 ∨ r61 = 1) ∧ K r61 m61)) ∧ ((Int32.toInt ((E.2.2.2.1 0 (Int32.toNatClampNeg ((3 * x1) + x2))))) = 3 → X6_within_w x3 0 24 mi (fun r69 m69 => (r69 = 0 ∨ r69 = 1) ∧ K r69 m69)) ∧ ((Int32.toInt ((E.2.2.2.1 0 (Int32.toNatClampNeg ((3 * x1) + x2))))) = 4 → X6_isPort_w x3 mi (fun r74 m74 => (r74 = 0 ∨ r74 = 1) ∧ K r74 m74)) ∧ ((Int32.toInt ((E.2.2.2.1 0 (Int32.toNatClampNeg ((3 * x1) + x2))))) = 5 → X6_within_w x3 0 5 mi (fun r81 m81 => (r81 = 0 ∨ r81 = 1) ∧ K r81 m81)) ∧ ((Int32.toInt ((E.2.2.2.1 0 (Int32.toNatClampNeg ((3 * x1) + x2))))) = 6 → X6_within_w x3 2 7 mi (fun r89 m89 => (r89 = 0 ∨ r89 = 1) ∧ K r89 m89)))
set_option maxHeartbeats 4000000 in
set_option maxRecDepth 100000 in
theorem X6_fits_c {E : km_E} {l : Launch} {mr : km_R} (kqmr : km_MR mr) {x1 : Int32} {x2 : Int32} {x3 : Int32} {mi : km_I} {K : Int32 → km_I → Prop} (h : X6_fits_w E x1 x2 x3 mi K) : km_Ci E l yX6_fits wsX6_fits rmX6_fits [.ref 0, .int x1, .int x2, .int x3] SH mi mr K := by
  refine km_start (cc := cX6_fits) (maxL := 4) (ret := (some .boolean)) (by decide) rfl (Nat.le_of_ble_eq_true rfl) ?_
  intro X hl hX hF _
  subst hl

  have h : vp_in ((3 * x1) + x2) (E.2.2.1 0) ∧ (((Int32.toInt ((E.2.2.2.1 0 (Int32.toNatClampNeg ((3 * x1) + x2))))) < 1 ∨ 6 < (Int32.toInt ((E.2.2.2.1 0 (Int32.toNatClampNeg ((3 * x1) + x2))))) → K 1 mi) ∧ ((Int32.toInt ((E.2.2.2.1 0 (Int32.toNatClampNeg ((3 * x1) + x2))))) = 1 → X6_within_w x3 0 5 mi (fun r51 m51 => (r51 = 0 ∨ r51 = 1) ∧ K r51 m51)) ∧ ((Int32.toInt ((E.2.2.2.1 0 (Int32.toNatClampNeg ((3 * x1) + x2))))) = 2 → X6_within_w x3 0 (mi 0 1) mi (fun r61 m61 => (r61 = 0 ∨ r61 = 1) ∧ K r61 m61)) ∧ ((Int32.toInt ((E.2.2.2.1 0 (Int32.toNatClampNeg ((3 * x1) + x2))))) = 3 → X6_within_w x3 0 24 mi (fun r69 m69 => (r69 = 0 ∨ r69 = 1) ∧ K r69 m69)) ∧ ((Int32.toInt ((E.2.2.2.1 0 (Int32.toNatClampNeg ((3 * x1) + x2))))) = 4 → X6_isPort_w x3 mi (fun r74 m74 => (r74 = 0 ∨ r74 = 1) ∧ K r74 m74)) ∧ ((Int32.toInt ((E.2.2.2.1 0 (Int32.toNatClampNeg ((3 * x1) + x2))))) = 5 → X6_within_w x3 0 5 mi (fun r81 m81 => (r81 = 0 ∨ r81 = 1) ∧ K r81 m81)) ∧ ((Int32.toInt ((E.2.2.2.1 0 (Int32.toNatClampNeg ((3 * x1) + x2))))) = 6 → X6_within_w x3 2 7 mi (fun r89 m89 => (r89 = 0 ∨ r89 = 1) ∧ K r89 m89))) := h
  refine km_gets0 hX dX6_fits_0 sX6_fits_220 ?_
  refine km_iconst (v := 3) hX dX6_fits_3 (by decide) ?_
  refine km_iload_n hX dX6_fits_4 rfl ?_
  refine km_imul hX dX6_fits_5 ?_
  refine km_iload_n hX dX6_fits_6 rfl ?_
  refine km_iadd hX dX6_fits_7 ?_
  obtain ⟨hc, h⟩ := h
  refine km_ialdx hX (by decide) hc dX6_fits_8 ?_
  by_cases cO : (Int32.toInt ((E.2.2.2.1 0 (Int32.toNatClampNeg ((3 * x1) + x2))))) < 1 ∨ 6 < (Int32.toInt ((E.2.2.2.1 0 (Int32.toNatClampNeg ((3 * x1) + x2)))))
  · refine km_tableOut (tgt := 93) hX dX6_fits_9 cO (by decide) ?_
    have h := h.1 cO
    refine km_iconst (v := 1) hX dX6_fits_93 (by decide) ?_
    exact km_zret hX hF rfl dX6_fits_94 (Or.inr rfl) ⟨rfl, rfl, _, rfl, h⟩ (Nat.le_refl _) (Nat.le_refl _)
  · have cI : (Int32.toInt ((E.2.2.2.1 0 (Int32.toNatClampNeg ((3 * x1) + x2))))) = 1 ∨ (Int32.toInt ((E.2.2.2.1 0 (Int32.toNatClampNeg ((3 * x1) + x2))))) = 2 ∨ (Int32.toInt ((E.2.2.2.1 0 (Int32.toNatClampNeg ((3 * x1) + x2))))) = 3 ∨ (Int32.toInt ((E.2.2.2.1 0 (Int32.toNatClampNeg ((3 * x1) + x2))))) = 4 ∨ (Int32.toInt ((E.2.2.2.1 0 (Int32.toNatClampNeg ((3 * x1) + x2))))) = 5 ∨ (Int32.toInt ((E.2.2.2.1 0 (Int32.toNatClampNeg ((3 * x1) + x2))))) = 6 := by omega
    rcases cI with c | c | c | c | c | c
    · refine km_tableIn (off := 39) (tgt := 48) hX dX6_fits_9 (by omega) (by omega) (by rw [c]; rfl) (by decide) ?_
      have h := h.2.1 c
      refine km_iload_n hX dX6_fits_48 rfl ?_
      refine km_iconst (v := 0) hX dX6_fits_49 (by decide) ?_
      refine km_iconst (v := 5) hX dX6_fits_50 (by decide) ?_
      refine km_callSi hX dX6_fits_51 vX6_fits_83 (X6_within_c kqmr h) (by decide) rfl rfl (Nat.le_of_ble_eq_true rfl) (fun r51 m51 h => ?_)
      obtain ⟨hc, h⟩ := h
      exact km_zret hX hF rfl dX6_fits_54 hc ⟨rfl, rfl, _, rfl, h⟩ (Nat.le_refl _) (Nat.le_refl _)
    · refine km_tableIn (off := 46) (tgt := 55) hX dX6_fits_9 (by omega) (by omega) (by rw [c]; rfl) (by decide) ?_
      have h := h.2.2.1 c
      refine km_iload_n hX dX6_fits_55 rfl ?_
      refine km_iconst (v := 0) hX dX6_fits_56 (by decide) ?_
      refine km_aload_n hX dX6_fits_57 rfl rfl ?_
      refine km_geti hX fX6_fits_59 shp_0 rfl dX6_fits_58 ?_
      refine km_callSi hX dX6_fits_61 vX6_fits_83 (X6_within_c kqmr h) (by decide) rfl rfl (Nat.le_of_ble_eq_true rfl) (fun r61 m61 h => ?_)
      obtain ⟨hc, h⟩ := h
      exact km_zret hX hF rfl dX6_fits_64 hc ⟨rfl, rfl, _, rfl, h⟩ (Nat.le_refl _) (Nat.le_refl _)
    · refine km_tableIn (off := 56) (tgt := 65) hX dX6_fits_9 (by omega) (by omega) (by rw [c]; rfl) (by decide) ?_
      have h := h.2.2.2.1 c
      refine km_iload_n hX dX6_fits_65 rfl ?_
      refine km_iconst (v := 0) hX dX6_fits_66 (by decide) ?_
      refine km_bipush (v := 24) hX dX6_fits_67 (by decide) ?_
      refine km_callSi hX dX6_fits_69 vX6_fits_83 (X6_within_c kqmr h) (by decide) rfl rfl (Nat.le_of_ble_eq_true rfl) (fun r69 m69 h => ?_)
      obtain ⟨hc, h⟩ := h
      exact km_zret hX hF rfl dX6_fits_72 hc ⟨rfl, rfl, _, rfl, h⟩ (Nat.le_refl _) (Nat.le_refl _)
    · refine km_tableIn (off := 64) (tgt := 73) hX dX6_fits_9 (by omega) (by omega) (by rw [c]; rfl) (by decide) ?_
      have h := h.2.2.2.2.1 c
      refine km_iload_n hX dX6_fits_73 rfl ?_
      refine km_callSi hX dX6_fits_74 vX6_fits_155 (X6_isPort_c kqmr h) (by decide) rfl rfl (Nat.le_of_ble_eq_true rfl) (fun r74 m74 h => ?_)
      obtain ⟨hc, h⟩ := h
      exact km_zret hX hF rfl dX6_fits_77 hc ⟨rfl, rfl, _, rfl, h⟩ (Nat.le_refl _) (Nat.le_refl _)
    · refine km_tableIn (off := 69) (tgt := 78) hX dX6_fits_9 (by omega) (by omega) (by rw [c]; rfl) (by decide) ?_
      have h := h.2.2.2.2.2.1 c
      refine km_iload_n hX dX6_fits_78 rfl ?_
      refine km_iconst (v := 0) hX dX6_fits_79 (by decide) ?_
      refine km_iconst (v := 5) hX dX6_fits_80 (by decide) ?_
      refine km_callSi hX dX6_fits_81 vX6_fits_83 (X6_within_c kqmr h) (by decide) rfl rfl (Nat.le_of_ble_eq_true rfl) (fun r81 m81 h => ?_)
      obtain ⟨hc, h⟩ := h
      exact km_zret hX hF rfl dX6_fits_84 hc ⟨rfl, rfl, _, rfl, h⟩ (Nat.le_refl _) (Nat.le_refl _)
    · refine km_tableIn (off := 76) (tgt := 85) hX dX6_fits_9 (by omega) (by omega) (by rw [c]; rfl) (by decide) ?_
      have h := h.2.2.2.2.2.2 c
      refine km_iload_n hX dX6_fits_85 rfl ?_
      refine km_iconst (v := 2) hX dX6_fits_86 (by decide) ?_
      refine km_bipush (v := 7) hX dX6_fits_87 (by decide) ?_
      refine km_callSi hX dX6_fits_89 vX6_fits_83 (X6_within_c kqmr h) (by decide) rfl rfl (Nat.le_of_ble_eq_true rfl) (fun r89 m89 h => ?_)
      obtain ⟨hc, h⟩ := h
      exact km_zret hX hF rfl dX6_fits_92 hc ⟨rfl, rfl, _, rfl, h⟩ (Nat.le_refl _) (Nat.le_refl _)
def X6_isMethod_w (x1 : Int32) (x2 : Int32) (mi : km_I) (K : Int32 → km_I → Prop) : Prop := X6_within_w x1 0 1 mi (fun r3 m3 => ((r3 = 0 → K 0 m3) ∧ (¬ r3 = 0 → X6_buildOf_w x1 m3 (fun r11 m11 => km_isB r11 ∧ X0_has_w r11 x2 m11 (fun r15 m15 => ((r15 = 0 → K 0 m15) ∧ (¬ r15 = 0 → K 1 m15)))))))
set_option maxHeartbeats 4000000 in
set_option maxRecDepth 100000 in
theorem X6_isMethod_c {E : km_E} {l : Launch} {mr : km_R} (kqmr : km_MR mr) {x1 : Int32} {x2 : Int32} {mi : km_I} {K : Int32 → km_I → Prop} (h : X6_isMethod_w x1 x2 mi K) : km_Ci E l yX6_isMethod wsX6_isMethod rmX6_isMethod [.ref 0, .int x1, .int x2] SH mi mr K := by
  refine km_start (cc := cX6_isMethod) (maxL := 3) (ret := (some .boolean)) (by decide) rfl (Nat.le_of_ble_eq_true rfl) ?_
  intro X hl hX hF _
  subst hl

  have h : X6_within_w x1 0 1 mi (fun r3 m3 => ((r3 = 0 → K 0 m3) ∧ (¬ r3 = 0 → X6_buildOf_w x1 m3 (fun r11 m11 => km_isB r11 ∧ X0_has_w r11 x2 m11 (fun r15 m15 => ((r15 = 0 → K 0 m15) ∧ (¬ r15 = 0 → K 1 m15))))))) := h
  refine km_iload_n hX dX6_isMethod_0 rfl ?_
  refine km_iconst (v := 0) hX dX6_isMethod_1 (by decide) ?_
  refine km_iconst (v := 1) hX dX6_isMethod_2 (by decide) ?_
  refine km_callSi hX dX6_isMethod_3 vX6_isMethod_83 (X6_within_c kqmr h) (by decide) rfl rfl (Nat.le_of_ble_eq_true rfl) (fun r3 m3 h => ?_)
  refine km_if_eq (tgt := 25) hX dX6_isMethod_6 (by decide) (fun c => ?_) (fun c => ?_)
  · have h := h.1 c
    refine km_iconst (v := 0) hX dX6_isMethod_25 (by decide) ?_
    exact km_zret hX hF rfl dX6_isMethod_26 (Or.inl rfl) ⟨rfl, rfl, _, rfl, h⟩ (Nat.le_refl _) (Nat.le_refl _)
  · have h := h.2 c
    refine km_aload_n hX dX6_isMethod_9 rfl rfl ?_
    refine km_iload_n hX dX6_isMethod_10 rfl ?_
    refine km_callVr hX dX6_isMethod_11 vX6_isMethod_87 (X6_buildOf_c kqmr h) (by decide) shp_0 rfl rfl (Nat.le_of_ble_eq_true rfl) (fun r11 m11 h => ?_)
    obtain ⟨kqr11, h⟩ := h
    obtain ⟨sb0, sb1, sb2, sb3, sb4, sb5⟩ := km_shB kqr11
    obtain ⟨mb1, mb2, mb3, mb4, mb5⟩ := km_mrB kqmr kqr11
    refine km_iload_n hX dX6_isMethod_14 rfl ?_
    refine km_callVi hX dX6_isMethod_15 vX6_isMethod_172 (X0_has_c kqmr kqr11 h) (by decide) (by assumption) rfl rfl (Nat.le_of_ble_eq_true rfl) (fun r15 m15 h => ?_)
    refine km_if_eq (tgt := 25) hX dX6_isMethod_18 (by decide) (fun c => ?_) (fun c => ?_)
    · have h := h.1 c
      refine km_iconst (v := 0) hX dX6_isMethod_25 (by decide) ?_
      exact km_zret hX hF rfl dX6_isMethod_26 (Or.inl rfl) ⟨rfl, rfl, _, rfl, h⟩ (Nat.le_refl _) (Nat.le_refl _)
    · have h := h.2 c
      refine km_iconst (v := 1) hX dX6_isMethod_21 (by decide) ?_
      refine km_goto (tgt := 26) hX dX6_isMethod_22 (by decide) ?_
      exact km_zret hX hF rfl dX6_isMethod_26 (Or.inr rfl) ⟨rfl, rfl, _, rfl, h⟩ (Nat.le_refl _) (Nat.le_refl _)
def X6_op_w (E : km_E) (x1 : Int32) (x2 : Int32) (x3 : Int32) (x4 : Int32) (x5 : Int32) (x6 : Int32) (mi : km_I) (K : Int32 → km_I → Prop) : Prop := X6_isMethod_w x1 x2 mi (fun r3 m3 => ((¬ r3 = 0 → X6_within_w x3 0 15 m3 (fun r16 m16 => ((r16 = 0 → K (-102) m16) ∧ (¬ r16 = 0 → X6_fits_w E x3 0 x4 m16 (fun r27 m27 => ((r27 = 0 → K (-102) m27) ∧ (¬ r27 = 0 → X6_fits_w E x3 1 x5 m27 (fun r38 m38 => ((r38 = 0 → K (-102) m38) ∧ (¬ r38 = 0 → X6_fits_w E x3 2 x6 m38 (fun r49 m49 => ((¬ r49 = 0 → X6_buildOf_w x1 m49 (fun r60 m60 => km_isB r60 ∧ vp_in x2 6 ∧ ((¬ (m60 (r60 + 1) (Int32.toNatClampNeg x2)) = 24 → X0_addOp_w r60 x2 x3 x4 x5 x6 m60 (fun r92 m92 => K r92 m92)) ∧ ((m60 (r60 + 1) (Int32.toNatClampNeg x2)) = 24 → K (-104) m60)))) ∧ (r49 = 0 → K (-102) m49))))))))))))) ∧ (r3 = 0 → K (-101) m3)))
set_option maxHeartbeats 4000000 in
set_option maxRecDepth 100000 in
theorem X6_op_c {E : km_E} {l : Launch} {mr : km_R} (kqmr : km_MR mr) {x1 : Int32} {x2 : Int32} {x3 : Int32} {x4 : Int32} {x5 : Int32} {x6 : Int32} {mi : km_I} {K : Int32 → km_I → Prop} (h : X6_op_w E x1 x2 x3 x4 x5 x6 mi K) : km_Ci E l yX6_op wsX6_op rmX6_op [.ref 0, .int x1, .int x2, .int x3, .int x4, .int x5, .int x6] SH mi mr K := by
  refine km_start (cc := cX6_op) (maxL := 8) (ret := (some .int)) (by decide) rfl (Nat.le_of_ble_eq_true rfl) ?_
  intro X hl hX hF _
  subst hl

  have h : X6_isMethod_w x1 x2 mi (fun r3 m3 => ((¬ r3 = 0 → X6_within_w x3 0 15 m3 (fun r16 m16 => ((r16 = 0 → K (-102) m16) ∧ (¬ r16 = 0 → X6_fits_w E x3 0 x4 m16 (fun r27 m27 => ((r27 = 0 → K (-102) m27) ∧ (¬ r27 = 0 → X6_fits_w E x3 1 x5 m27 (fun r38 m38 => ((r38 = 0 → K (-102) m38) ∧ (¬ r38 = 0 → X6_fits_w E x3 2 x6 m38 (fun r49 m49 => ((¬ r49 = 0 → X6_buildOf_w x1 m49 (fun r60 m60 => km_isB r60 ∧ vp_in x2 6 ∧ ((¬ (m60 (r60 + 1) (Int32.toNatClampNeg x2)) = 24 → X0_addOp_w r60 x2 x3 x4 x5 x6 m60 (fun r92 m92 => K r92 m92)) ∧ ((m60 (r60 + 1) (Int32.toNatClampNeg x2)) = 24 → K (-104) m60)))) ∧ (r49 = 0 → K (-102) m49))))))))))))) ∧ (r3 = 0 → K (-101) m3))) := h
  refine km_aload_n hX dX6_op_0 rfl rfl ?_
  refine km_iload_n hX dX6_op_1 rfl ?_
  refine km_iload_n hX dX6_op_2 rfl ?_
  refine km_callVi hX dX6_op_3 vX6_op_98 (X6_isMethod_c kqmr h) (by decide) shp_0 rfl rfl (Nat.le_of_ble_eq_true rfl) (fun r3 m3 h => ?_)
  refine km_if_ne (tgt := 12) hX dX6_op_6 (by decide) (fun c => ?_) (fun c => ?_)
  · have h := h.1 c
    refine km_iload_n hX dX6_op_12 rfl ?_
    refine km_iconst (v := 0) hX dX6_op_13 (by decide) ?_
    refine km_bipush (v := 15) hX dX6_op_14 (by decide) ?_
    refine km_callSi hX dX6_op_16 vX6_op_83 (X6_within_c kqmr h) (by decide) rfl rfl (Nat.le_of_ble_eq_true rfl) (fun r16 m16 h => ?_)
    refine km_if_eq (tgt := 55) hX dX6_op_19 (by decide) (fun c => ?_) (fun c => ?_)
    · have h := h.1 c
      refine km_bipush (v := -102) hX dX6_op_55 (by decide) ?_
      exact km_iret hX hF rfl dX6_op_57 ⟨rfl, rfl, _, rfl, h⟩ (Nat.le_refl _) (Nat.le_refl _)
    · have h := h.2 c
      refine km_aload_n hX dX6_op_22 rfl rfl ?_
      refine km_iload_n hX dX6_op_23 rfl ?_
      refine km_iconst (v := 0) hX dX6_op_24 (by decide) ?_
      refine km_iload hX dX6_op_25 rfl ?_
      refine km_callVi hX dX6_op_27 vX6_op_102 (X6_fits_c kqmr h) (by decide) shp_0 rfl rfl (Nat.le_of_ble_eq_true rfl) (fun r27 m27 h => ?_)
      refine km_if_eq (tgt := 55) hX dX6_op_30 (by decide) (fun c => ?_) (fun c => ?_)
      · have h := h.1 c
        refine km_bipush (v := -102) hX dX6_op_55 (by decide) ?_
        exact km_iret hX hF rfl dX6_op_57 ⟨rfl, rfl, _, rfl, h⟩ (Nat.le_refl _) (Nat.le_refl _)
      · have h := h.2 c
        refine km_aload_n hX dX6_op_33 rfl rfl ?_
        refine km_iload_n hX dX6_op_34 rfl ?_
        refine km_iconst (v := 1) hX dX6_op_35 (by decide) ?_
        refine km_iload hX dX6_op_36 rfl ?_
        refine km_callVi hX dX6_op_38 vX6_op_102 (X6_fits_c kqmr h) (by decide) shp_0 rfl rfl (Nat.le_of_ble_eq_true rfl) (fun r38 m38 h => ?_)
        refine km_if_eq (tgt := 55) hX dX6_op_41 (by decide) (fun c => ?_) (fun c => ?_)
        · have h := h.1 c
          refine km_bipush (v := -102) hX dX6_op_55 (by decide) ?_
          exact km_iret hX hF rfl dX6_op_57 ⟨rfl, rfl, _, rfl, h⟩ (Nat.le_refl _) (Nat.le_refl _)
        · have h := h.2 c
          refine km_aload_n hX dX6_op_44 rfl rfl ?_
          refine km_iload_n hX dX6_op_45 rfl ?_
          refine km_iconst (v := 2) hX dX6_op_46 (by decide) ?_
          refine km_iload hX dX6_op_47 rfl ?_
          refine km_callVi hX dX6_op_49 vX6_op_102 (X6_fits_c kqmr h) (by decide) shp_0 rfl rfl (Nat.le_of_ble_eq_true rfl) (fun r49 m49 h => ?_)
          refine km_if_ne (tgt := 58) hX dX6_op_52 (by decide) (fun c => ?_) (fun c => ?_)
          · have h := h.1 c
            refine km_aload_n hX dX6_op_58 rfl rfl ?_
            refine km_iload_n hX dX6_op_59 rfl ?_
            refine km_callVr hX dX6_op_60 vX6_op_87 (X6_buildOf_c kqmr h) (by decide) shp_0 rfl rfl (Nat.le_of_ble_eq_true rfl) (fun r60 m60 h => ?_)
            obtain ⟨kqr60, h⟩ := h
            obtain ⟨sb0, sb1, sb2, sb3, sb4, sb5⟩ := km_shB kqr60
            obtain ⟨mb1, mb2, mb3, mb4, mb5⟩ := km_mrB kqmr kqr60
            refine km_astore hX dX6_op_63 (by decide) ?_
            refine km_aload hX dX6_op_65 rfl rfl ?_
            refine km_getr (q := (r60 + 1)) hX fX6_op_105 (by assumption) rfl dX6_op_67 (by assumption) ?_
            refine km_iload_n hX dX6_op_70 rfl ?_
            obtain ⟨hc, h⟩ := h
            refine km_iald hX (by assumption) hc dX6_op_71 ?_
            refine km_bipush (v := 24) hX dX6_op_72 (by decide) ?_
            refine km_icmp_ne (tgt := 82) hX dX6_op_74 (by decide) (fun c => ?_) (fun c => ?_)
            · have h := h.1 c
              refine km_aload hX dX6_op_82 rfl rfl ?_
              refine km_iload_n hX dX6_op_84 rfl ?_
              refine km_iload_n hX dX6_op_85 rfl ?_
              refine km_iload hX dX6_op_86 rfl ?_
              refine km_iload hX dX6_op_88 rfl ?_
              refine km_iload hX dX6_op_90 rfl ?_
              refine km_callVi hX dX6_op_92 vX6_op_109 (X0_addOp_c kqmr kqr60 h) (by decide) (by assumption) rfl rfl (Nat.le_of_ble_eq_true rfl) (fun r92 m92 h => ?_)
              exact km_iret hX hF rfl dX6_op_95 ⟨rfl, rfl, _, rfl, h⟩ (Nat.le_refl _) (Nat.le_refl _)
            · have h := h.2 c
              refine km_bipush (v := -104) hX dX6_op_77 (by decide) ?_
              refine km_goto (tgt := 95) hX dX6_op_79 (by decide) ?_
              exact km_iret hX hF rfl dX6_op_95 ⟨rfl, rfl, _, rfl, h⟩ (Nat.le_refl _) (Nat.le_refl _)
          · have h := h.2 c
            refine km_bipush (v := -102) hX dX6_op_55 (by decide) ?_
            exact km_iret hX hF rfl dX6_op_57 ⟨rfl, rfl, _, rfl, h⟩ (Nat.le_refl _) (Nat.le_refl _)
  · have h := h.2 c
    refine km_bipush (v := -101) hX dX6_op_9 (by decide) ?_
    exact km_iret hX hF rfl dX6_op_11 ⟨rfl, rfl, _, rfl, h⟩ (Nat.le_refl _) (Nat.le_refl _)
def X6_clear_w (x1 : Int32) (x2 : Int32) (mi : km_I) (K : Int32 → km_I → Prop) : Prop := X6_isMethod_w x1 x2 mi (fun r3 m3 => ((r3 = 0 → K (-101) m3) ∧ (¬ r3 = 0 → X6_buildOf_w x1 m3 (fun r11 m11 => km_isB r11 ∧ X0_removeOps_w r11 x2 m11 (fun r15 m15 => K r15 m15)))))
set_option maxHeartbeats 4000000 in
set_option maxRecDepth 100000 in
theorem X6_clear_c {E : km_E} {l : Launch} {mr : km_R} (kqmr : km_MR mr) {x1 : Int32} {x2 : Int32} {mi : km_I} {K : Int32 → km_I → Prop} (h : X6_clear_w x1 x2 mi K) : km_Ci E l yX6_clear wsX6_clear rmX6_clear [.ref 0, .int x1, .int x2] SH mi mr K := by
  refine km_start (cc := cX6_clear) (maxL := 3) (ret := (some .int)) (by decide) rfl (Nat.le_of_ble_eq_true rfl) ?_
  intro X hl hX hF _
  subst hl

  have h : X6_isMethod_w x1 x2 mi (fun r3 m3 => ((r3 = 0 → K (-101) m3) ∧ (¬ r3 = 0 → X6_buildOf_w x1 m3 (fun r11 m11 => km_isB r11 ∧ X0_removeOps_w r11 x2 m11 (fun r15 m15 => K r15 m15))))) := h
  refine km_aload_n hX dX6_clear_0 rfl rfl ?_
  refine km_iload_n hX dX6_clear_1 rfl ?_
  refine km_iload_n hX dX6_clear_2 rfl ?_
  refine km_callVi hX dX6_clear_3 vX6_clear_98 (X6_isMethod_c kqmr h) (by decide) shp_0 rfl rfl (Nat.le_of_ble_eq_true rfl) (fun r3 m3 h => ?_)
  refine km_if_eq (tgt := 21) hX dX6_clear_6 (by decide) (fun c => ?_) (fun c => ?_)
  · have h := h.1 c
    refine km_bipush (v := -101) hX dX6_clear_21 (by decide) ?_
    exact km_iret hX hF rfl dX6_clear_23 ⟨rfl, rfl, _, rfl, h⟩ (Nat.le_refl _) (Nat.le_refl _)
  · have h := h.2 c
    refine km_aload_n hX dX6_clear_9 rfl rfl ?_
    refine km_iload_n hX dX6_clear_10 rfl ?_
    refine km_callVr hX dX6_clear_11 vX6_clear_87 (X6_buildOf_c kqmr h) (by decide) shp_0 rfl rfl (Nat.le_of_ble_eq_true rfl) (fun r11 m11 h => ?_)
    obtain ⟨kqr11, h⟩ := h
    obtain ⟨sb0, sb1, sb2, sb3, sb4, sb5⟩ := km_shB kqr11
    obtain ⟨mb1, mb2, mb3, mb4, mb5⟩ := km_mrB kqmr kqr11
    refine km_iload_n hX dX6_clear_14 rfl ?_
    refine km_callVi hX dX6_clear_15 vX6_clear_113 (X0_removeOps_c kqmr kqr11 h) (by decide) (by assumption) rfl rfl (Nat.le_of_ble_eq_true rfl) (fun r15 m15 h => ?_)
    refine km_goto (tgt := 23) hX dX6_clear_18 (by decide) ?_
    exact km_iret hX hF rfl dX6_clear_23 ⟨rfl, rfl, _, rfl, h⟩ (Nat.le_refl _) (Nat.le_refl _)
def X6_run_w (x1 : Int32) (x2 : Int32) (x3 : Int32) (x4 : Int32) (mi : km_I) (K : Int32 → km_I → Prop) : Prop := X6_isMethod_w x1 x2 mi (fun r3 m3 => ((¬ r3 = 0 → X6_within_w x3 0 (m3 0 1) m3 (fun r18 m18 => ((r18 = 0 → K (-102) m18) ∧ (¬ r18 = 0 → X6_within_w x4 0 (m18 0 1) m18 (fun r31 m31 => ((¬ r31 = 0 → X6_buildOf_w x1 m31 (fun r46 m46 => km_isB r46 ∧ X1_go_w 26 r46 x2 x3 x4 m46 (fun m60 => K (m60 27 0) m60))) ∧ (r31 = 0 → K (-102) m31))))))) ∧ (r3 = 0 → K (-101) m3)))
set_option maxHeartbeats 4000000 in
set_option maxRecDepth 100000 in
theorem X6_run_c {E : km_E} {l : Launch} {mr : km_R} (kqmr : km_MR mr) {x1 : Int32} {x2 : Int32} {x3 : Int32} {x4 : Int32} (kqbb : ∃ b, km_isB b ∧ mr 26 7 = some b) {mi : km_I} {K : Int32 → km_I → Prop} (h : X6_run_w x1 x2 x3 x4 mi K) : km_CR E l yX6_run wsX6_run rmX6_run [.ref 0, .int x1, .int x2, .int x3, .int x4] SH mi mr K := by
  refine km_start (cc := cX6_run) (maxL := 5) (ret := (some .int)) (by decide) rfl (Nat.le_of_ble_eq_true rfl) ?_
  intro X hl hX hF _
  subst hl

  have h : X6_isMethod_w x1 x2 mi (fun r3 m3 => ((¬ r3 = 0 → X6_within_w x3 0 (m3 0 1) m3 (fun r18 m18 => ((r18 = 0 → K (-102) m18) ∧ (¬ r18 = 0 → X6_within_w x4 0 (m18 0 1) m18 (fun r31 m31 => ((¬ r31 = 0 → X6_buildOf_w x1 m31 (fun r46 m46 => km_isB r46 ∧ X1_go_w 26 r46 x2 x3 x4 m46 (fun m60 => K (m60 27 0) m60))) ∧ (r31 = 0 → K (-102) m31))))))) ∧ (r3 = 0 → K (-101) m3))) := h
  refine km_aload_n hX dX6_run_0 rfl rfl ?_
  refine km_iload_n hX dX6_run_1 rfl ?_
  refine km_iload_n hX dX6_run_2 rfl ?_
  refine km_callVi hX dX6_run_3 vX6_run_98 (X6_isMethod_c kqmr h) (by decide) shp_0 rfl rfl (Nat.le_of_ble_eq_true rfl) (fun r3 m3 h => ?_)
  refine km_if_ne (tgt := 12) hX dX6_run_6 (by decide) (fun c => ?_) (fun c => ?_)
  · have h := h.1 c
    refine km_iload_n hX dX6_run_12 rfl ?_
    refine km_iconst (v := 0) hX dX6_run_13 (by decide) ?_
    refine km_aload_n hX dX6_run_14 rfl rfl ?_
    refine km_geti hX fX6_run_59 shp_0 rfl dX6_run_15 ?_
    refine km_callSi hX dX6_run_18 vX6_run_83 (X6_within_c kqmr h) (by decide) rfl rfl (Nat.le_of_ble_eq_true rfl) (fun r18 m18 h => ?_)
    refine km_if_eq (tgt := 37) hX dX6_run_21 (by decide) (fun c => ?_) (fun c => ?_)
    · have h := h.1 c
      refine km_bipush (v := -102) hX dX6_run_37 (by decide) ?_
      exact km_iret hX hF rfl dX6_run_39 ⟨rfl, kqmr, kqbb, _, rfl, h⟩ (Nat.le_refl _) (Nat.le_refl _)
    · have h := h.2 c
      refine km_iload hX dX6_run_24 rfl ?_
      refine km_iconst (v := 0) hX dX6_run_26 (by decide) ?_
      refine km_aload_n hX dX6_run_27 rfl rfl ?_
      refine km_geti hX fX6_run_59 shp_0 rfl dX6_run_28 ?_
      refine km_callSi hX dX6_run_31 vX6_run_83 (X6_within_c kqmr h) (by decide) rfl rfl (Nat.le_of_ble_eq_true rfl) (fun r31 m31 h => ?_)
      refine km_if_ne (tgt := 40) hX dX6_run_34 (by decide) (fun c => ?_) (fun c => ?_)
      · have h := h.1 c
        refine km_aload_n hX dX6_run_40 rfl rfl ?_
        refine km_getr (q := 26) hX fX6_run_67 shp_0 rfl dX6_run_41 (mrp_0_8 kqmr) ?_
        refine km_aload_n hX dX6_run_44 rfl rfl ?_
        refine km_iload_n hX dX6_run_45 rfl ?_
        refine km_callVr hX dX6_run_46 vX6_run_87 (X6_buildOf_c kqmr h) (by decide) shp_0 rfl rfl (Nat.le_of_ble_eq_true rfl) (fun r46 m46 h => ?_)
        obtain ⟨kqr46, h⟩ := h
        obtain ⟨sb0, sb1, sb2, sb3, sb4, sb5⟩ := km_shB kqr46
        obtain ⟨mb1, mb2, mb3, mb4, mb5⟩ := km_mrB kqmr kqr46
        refine km_callV hX dX6_run_49 vX6_run_117 (X1_turnTo_c kqmr (by decide) kqr46) (by decide) shp_26 rfl rfl (Nat.le_of_ble_eq_true rfl) (fun r9 sh9 mi9 mr9 h9 => ?_)
        obtain ⟨rfl, rfl, rfl, rfl⟩ := h9
        have kqmr := km_MR_turn (b := r46) kqmr
        have kqbl : (km_ur mr 26 7 (some r46)) 26 7 = some r46 := by simp [km_ur]
        have kqbb : ∃ b, km_isB b ∧ (km_ur mr 26 7 (some r46)) 26 7 = some b := ⟨r46, kqr46, kqbl⟩
        refine km_aload_n hX dX6_run_52 rfl rfl ?_
        refine km_getr (q := 26) hX fX6_run_67 shp_0 rfl dX6_run_53 (mrp_0_8 kqmr) ?_
        refine km_iload_n hX dX6_run_56 rfl ?_
        refine km_iload_n hX dX6_run_57 rfl ?_
        refine km_iload hX dX6_run_58 rfl ?_
        refine km_callVv hX dX6_run_60 vX6_run_121 (X1_go_c kqmr (by decide) kqr46 kqbl h) (by decide) shp_26 rfl rfl (Nat.le_of_ble_eq_true rfl) (fun m60 h => ?_)
        refine km_aload_n hX dX6_run_63 rfl rfl ?_
        refine km_getr (q := 26) hX fX6_run_67 shp_0 rfl dX6_run_64 (mrp_0_8 kqmr) ?_
        refine km_getr (q := 27) hX fX6_run_125 shp_26 rfl dX6_run_67 (mrp_26_0 kqmr) ?_
        refine km_geti hX fX6_run_129 shp_27 rfl dX6_run_70 ?_
        exact km_iret hX hF rfl dX6_run_73 ⟨rfl, kqmr, kqbb, _, rfl, h⟩ (Nat.le_refl _) (Nat.le_refl _)
      · have h := h.2 c
        refine km_bipush (v := -102) hX dX6_run_37 (by decide) ?_
        exact km_iret hX hF rfl dX6_run_39 ⟨rfl, kqmr, kqbb, _, rfl, h⟩ (Nat.le_refl _) (Nat.le_refl _)
  · have h := h.2 c
    refine km_bipush (v := -101) hX dX6_run_9 (by decide) ?_
    exact km_iret hX hF rfl dX6_run_11 ⟨rfl, kqmr, kqbb, _, rfl, h⟩ (Nat.le_refl _) (Nat.le_refl _)
def X6_ran_w (x1 : Int32) (mi : km_I) (K : Int32 → km_I → Prop) : Prop := (((Int32.toInt (x1)) < 0 ∨ 4 < (Int32.toInt (x1)) → K (-101) mi) ∧ ((Int32.toInt (x1)) = 0 → K (mi 27 2) mi) ∧ ((Int32.toInt (x1)) = 1 → K (mi 27 1) mi) ∧ ((Int32.toInt (x1)) = 2 → K (mi 27 3) mi) ∧ ((Int32.toInt (x1)) = 3 → K (mi 27 5) mi) ∧ ((Int32.toInt (x1)) = 4 → K (mi 27 4) mi))
set_option maxHeartbeats 4000000 in
set_option maxRecDepth 100000 in
theorem X6_ran_c {E : km_E} {l : Launch} {mr : km_R} (kqmr : km_MR mr) {x1 : Int32} {mi : km_I} {K : Int32 → km_I → Prop} (h : X6_ran_w x1 mi K) : km_Ci E l yX6_ran wsX6_ran rmX6_ran [.ref 0, .int x1] SH mi mr K := by
  refine km_start (cc := cX6_ran) (maxL := 3) (ret := (some .int)) (by decide) rfl (Nat.le_of_ble_eq_true rfl) ?_
  intro X hl hX hF _
  subst hl

  have h : (((Int32.toInt (x1)) < 0 ∨ 4 < (Int32.toInt (x1)) → K (-101) mi) ∧ ((Int32.toInt (x1)) = 0 → K (mi 27 2) mi) ∧ ((Int32.toInt (x1)) = 1 → K (mi 27 1) mi) ∧ ((Int32.toInt (x1)) = 2 → K (mi 27 3) mi) ∧ ((Int32.toInt (x1)) = 3 → K (mi 27 5) mi) ∧ ((Int32.toInt (x1)) = 4 → K (mi 27 4) mi)) := h
  refine km_aload_n hX dX6_ran_0 rfl rfl ?_
  refine km_getr (q := 26) hX fX6_ran_67 shp_0 rfl dX6_ran_1 (mrp_0_8 kqmr) ?_
  refine km_getr (q := 27) hX fX6_ran_125 shp_26 rfl dX6_ran_4 (mrp_26_0 kqmr) ?_
  refine km_astore_n hX dX6_ran_7 (by decide) ?_
  refine km_iload_n hX dX6_ran_8 rfl ?_
  by_cases cO : (Int32.toInt (x1)) < 0 ∨ 4 < (Int32.toInt (x1))
  · refine km_tableOut (tgt := 69) hX dX6_ran_9 cO (by decide) ?_
    have h := h.1 cO
    refine km_bipush (v := -101) hX dX6_ran_69 (by decide) ?_
    exact km_iret hX hF rfl dX6_ran_71 ⟨rfl, rfl, _, rfl, h⟩ (Nat.le_refl _) (Nat.le_refl _)
  · have cI : (Int32.toInt (x1)) = 0 ∨ (Int32.toInt (x1)) = 1 ∨ (Int32.toInt (x1)) = 2 ∨ (Int32.toInt (x1)) = 3 ∨ (Int32.toInt (x1)) = 4 := by omega
    rcases cI with c | c | c | c | c
    · refine km_tableIn (off := 35) (tgt := 44) hX dX6_ran_9 (by omega) (by omega) (by rw [c]; rfl) (by decide) ?_
      have h := h.2.1 c
      refine km_aload_n hX dX6_ran_44 rfl rfl ?_
      refine km_geti hX fX6_ran_134 shp_27 rfl dX6_ran_45 ?_
      exact km_iret hX hF rfl dX6_ran_48 ⟨rfl, rfl, _, rfl, h⟩ (Nat.le_refl _) (Nat.le_refl _)
    · refine km_tableIn (off := 40) (tgt := 49) hX dX6_ran_9 (by omega) (by omega) (by rw [c]; rfl) (by decide) ?_
      have h := h.2.2.1 c
      refine km_aload_n hX dX6_ran_49 rfl rfl ?_
      refine km_geti hX fX6_ran_137 shp_27 rfl dX6_ran_50 ?_
      exact km_iret hX hF rfl dX6_ran_53 ⟨rfl, rfl, _, rfl, h⟩ (Nat.le_refl _) (Nat.le_refl _)
    · refine km_tableIn (off := 45) (tgt := 54) hX dX6_ran_9 (by omega) (by omega) (by rw [c]; rfl) (by decide) ?_
      have h := h.2.2.2.1 c
      refine km_aload_n hX dX6_ran_54 rfl rfl ?_
      refine km_geti hX fX6_ran_140 shp_27 rfl dX6_ran_55 ?_
      exact km_iret hX hF rfl dX6_ran_58 ⟨rfl, rfl, _, rfl, h⟩ (Nat.le_refl _) (Nat.le_refl _)
    · refine km_tableIn (off := 50) (tgt := 59) hX dX6_ran_9 (by omega) (by omega) (by rw [c]; rfl) (by decide) ?_
      have h := h.2.2.2.2.1 c
      refine km_aload_n hX dX6_ran_59 rfl rfl ?_
      refine km_geti hX fX6_ran_143 shp_27 rfl dX6_ran_60 ?_
      exact km_iret hX hF rfl dX6_ran_63 ⟨rfl, rfl, _, rfl, h⟩ (Nat.le_refl _) (Nat.le_refl _)
    · refine km_tableIn (off := 55) (tgt := 64) hX dX6_ran_9 (by omega) (by omega) (by rw [c]; rfl) (by decide) ?_
      have h := h.2.2.2.2.2 c
      refine km_aload_n hX dX6_ran_64 rfl rfl ?_
      refine km_geti hX fX6_ran_146 shp_27 rfl dX6_ran_65 ?_
      exact km_iret hX hF rfl dX6_ran_68 ⟨rfl, rfl, _, rfl, h⟩ (Nat.le_refl _) (Nat.le_refl _)
def X6_told_w (x1 : Int32) (x2 : Int32) (mi : km_I) (K : Int32 → km_I → Prop) : Prop := X6_within_w x2 0 1 mi (fun r3 m3 => ((¬ r3 = 0 → X6_within_w x1 0 ((m3 27 5) - 1) m3 (fun r28 m28 => ((¬ r28 = 0 → ((¬ x2 = 0 → vp_in x1 40 ∧ K (m28 29 (Int32.toNatClampNeg x1)) m28) ∧ (x2 = 0 → vp_in x1 40 ∧ K (m28 28 (Int32.toNatClampNeg x1)) m28))) ∧ (r28 = 0 → K (-1) m28)))) ∧ (r3 = 0 → K (-101) m3)))
set_option maxHeartbeats 4000000 in
set_option maxRecDepth 100000 in
theorem X6_told_c {E : km_E} {l : Launch} {mr : km_R} (kqmr : km_MR mr) {x1 : Int32} {x2 : Int32} {mi : km_I} {K : Int32 → km_I → Prop} (h : X6_told_w x1 x2 mi K) : km_Ci E l yX6_told wsX6_told rmX6_told [.ref 0, .int x1, .int x2] SH mi mr K := by
  refine km_start (cc := cX6_told) (maxL := 4) (ret := (some .int)) (by decide) rfl (Nat.le_of_ble_eq_true rfl) ?_
  intro X hl hX hF _
  subst hl

  have h : X6_within_w x2 0 1 mi (fun r3 m3 => ((¬ r3 = 0 → X6_within_w x1 0 ((m3 27 5) - 1) m3 (fun r28 m28 => ((¬ r28 = 0 → ((¬ x2 = 0 → vp_in x1 40 ∧ K (m28 29 (Int32.toNatClampNeg x1)) m28) ∧ (x2 = 0 → vp_in x1 40 ∧ K (m28 28 (Int32.toNatClampNeg x1)) m28))) ∧ (r28 = 0 → K (-1) m28)))) ∧ (r3 = 0 → K (-101) m3))) := h
  refine km_iload_n hX dX6_told_0 rfl ?_
  refine km_iconst (v := 0) hX dX6_told_1 (by decide) ?_
  refine km_iconst (v := 1) hX dX6_told_2 (by decide) ?_
  refine km_callSi hX dX6_told_3 vX6_told_83 (X6_within_c kqmr h) (by decide) rfl rfl (Nat.le_of_ble_eq_true rfl) (fun r3 m3 h => ?_)
  refine km_if_ne (tgt := 12) hX dX6_told_6 (by decide) (fun c => ?_) (fun c => ?_)
  · have h := h.1 c
    refine km_aload_n hX dX6_told_12 rfl rfl ?_
    refine km_getr (q := 26) hX fX6_told_67 shp_0 rfl dX6_told_13 (mrp_0_8 kqmr) ?_
    refine km_getr (q := 27) hX fX6_told_125 shp_26 rfl dX6_told_16 (mrp_26_0 kqmr) ?_
    refine km_astore_n hX dX6_told_19 (by decide) ?_
    refine km_iload_n hX dX6_told_20 rfl ?_
    refine km_iconst (v := 0) hX dX6_told_21 (by decide) ?_
    refine km_aload_n hX dX6_told_22 rfl rfl ?_
    refine km_geti hX fX6_told_143 shp_27 rfl dX6_told_23 ?_
    refine km_iconst (v := 1) hX dX6_told_26 (by decide) ?_
    refine km_isub hX dX6_told_27 ?_
    refine km_callSi hX dX6_told_28 vX6_told_83 (X6_within_c kqmr h) (by decide) rfl rfl (Nat.le_of_ble_eq_true rfl) (fun r28 m28 h => ?_)
    refine km_if_ne (tgt := 36) hX dX6_told_31 (by decide) (fun c => ?_) (fun c => ?_)
    · have h := h.1 c
      refine km_iload_n hX dX6_told_36 rfl ?_
      refine km_if_ne (tgt := 49) hX dX6_told_37 (by decide) (fun c => ?_) (fun c => ?_)
      · have h := h.1 c
        refine km_aload_n hX dX6_told_49 rfl rfl ?_
        refine km_getr (q := 29) hX fX6_told_152 shp_27 rfl dX6_told_50 (mrp_27_7 kqmr) ?_
        refine km_iload_n hX dX6_told_53 rfl ?_
        obtain ⟨hc, h⟩ := h
        refine km_iald hX shp_29 hc dX6_told_54 ?_
        exact km_iret hX hF rfl dX6_told_55 ⟨rfl, rfl, _, rfl, h⟩ (Nat.le_refl _) (Nat.le_refl _)
      · have h := h.2 c
        refine km_aload_n hX dX6_told_40 rfl rfl ?_
        refine km_getr (q := 28) hX fX6_told_149 shp_27 rfl dX6_told_41 (mrp_27_6 kqmr) ?_
        refine km_iload_n hX dX6_told_44 rfl ?_
        obtain ⟨hc, h⟩ := h
        refine km_iald hX shp_28 hc dX6_told_45 ?_
        refine km_goto (tgt := 55) hX dX6_told_46 (by decide) ?_
        exact km_iret hX hF rfl dX6_told_55 ⟨rfl, rfl, _, rfl, h⟩ (Nat.le_refl _) (Nat.le_refl _)
    · have h := h.2 c
      refine km_iconst (v := -1) hX dX6_told_34 (by decide) ?_
      exact km_iret hX hF rfl dX6_told_35 ⟨rfl, rfl, _, rfl, h⟩ (Nat.le_refl _) (Nat.le_refl _)
  · have h := h.2 c
    refine km_bipush (v := -101) hX dX6_told_9 (by decide) ?_
    exact km_iret hX hF rfl dX6_told_11 ⟨rfl, rfl, _, rfl, h⟩ (Nat.le_refl _) (Nat.le_refl _)
def X6_rename_w (x1 : Int32) (x2 : Int32) (mi : km_I) (K : Int32 → km_I → Prop) : Prop := X6_isPort_w x1 mi (fun r1 m1 => ((r1 = 0 → K (-101) m1) ∧ (¬ r1 = 0 → X6_isPort_w x2 m1 (fun r8 m8 => ((¬ r8 = 0 → X3_swapIn_w 13 x1 x2 m8 (fun r23 m23 => K r23 m23)) ∧ (r8 = 0 → K (-101) m8))))))
set_option maxHeartbeats 4000000 in
set_option maxRecDepth 100000 in
theorem X6_rename_c {E : km_E} {l : Launch} {mr : km_R} (kqmr : km_MR mr) {x1 : Int32} {x2 : Int32} {mi : km_I} {K : Int32 → km_I → Prop} (h : X6_rename_w x1 x2 mi K) : km_Ci E l yX6_rename wsX6_rename rmX6_rename [.ref 0, .int x1, .int x2] SH mi mr K := by
  refine km_start (cc := cX6_rename) (maxL := 3) (ret := (some .int)) (by decide) rfl (Nat.le_of_ble_eq_true rfl) ?_
  intro X hl hX hF _
  subst hl

  have h : X6_isPort_w x1 mi (fun r1 m1 => ((r1 = 0 → K (-101) m1) ∧ (¬ r1 = 0 → X6_isPort_w x2 m1 (fun r8 m8 => ((¬ r8 = 0 → X3_swapIn_w 13 x1 x2 m8 (fun r23 m23 => K r23 m23)) ∧ (r8 = 0 → K (-101) m8)))))) := h
  refine km_iload_n hX dX6_rename_0 rfl ?_
  refine km_callSi hX dX6_rename_1 vX6_rename_155 (X6_isPort_c kqmr h) (by decide) rfl rfl (Nat.le_of_ble_eq_true rfl) (fun r1 m1 h => ?_)
  refine km_if_eq (tgt := 14) hX dX6_rename_4 (by decide) (fun c => ?_) (fun c => ?_)
  · have h := h.1 c
    refine km_bipush (v := -101) hX dX6_rename_14 (by decide) ?_
    exact km_iret hX hF rfl dX6_rename_16 ⟨rfl, rfl, _, rfl, h⟩ (Nat.le_refl _) (Nat.le_refl _)
  · have h := h.2 c
    refine km_iload_n hX dX6_rename_7 rfl ?_
    refine km_callSi hX dX6_rename_8 vX6_rename_155 (X6_isPort_c kqmr h) (by decide) rfl rfl (Nat.le_of_ble_eq_true rfl) (fun r8 m8 h => ?_)
    refine km_if_ne (tgt := 17) hX dX6_rename_11 (by decide) (fun c => ?_) (fun c => ?_)
    · have h := h.1 c
      refine km_aload_n hX dX6_rename_17 rfl rfl ?_
      refine km_getr (q := 13) hX fX6_rename_22 shp_0 rfl dX6_rename_18 (mrp_0_4 kqmr) ?_
      refine km_iload_n hX dX6_rename_21 rfl ?_
      refine km_iload_n hX dX6_rename_22 rfl ?_
      refine km_callVi hX dX6_rename_23 vX6_rename_159 (X3_swapIn_c kqmr (by decide) h) (by decide) shp_13 rfl rfl (Nat.le_of_ble_eq_true rfl) (fun r23 m23 h => ?_)
      exact km_iret hX hF rfl dX6_rename_26 ⟨rfl, rfl, _, rfl, h⟩ (Nat.le_refl _) (Nat.le_refl _)
    · have h := h.2 c
      refine km_bipush (v := -101) hX dX6_rename_14 (by decide) ?_
      exact km_iret hX hF rfl dX6_rename_16 ⟨rfl, rfl, _, rfl, h⟩ (Nat.le_refl _) (Nat.le_refl _)
def X6_group_w (x1 : Int32) (x2 : Int32) (mi : km_I) (K : Int32 → km_I → Prop) : Prop := X6_isPort_w x1 mi (fun r1 m1 => ((¬ r1 = 0 → X6_within_w x2 0 3 m1 (fun r13 m13 => ((¬ r13 = 0 → vp_in x1 4 ∧ vp_in x1 4 ∧ (∀ m41, m41 = km_u m13 15 (Int32.toNatClampNeg x1) x2 → K (m13 15 (Int32.toNatClampNeg x1)) m41)) ∧ (r13 = 0 → K (-102) m13)))) ∧ (r1 = 0 → K (-101) m1)))
set_option maxHeartbeats 4000000 in
set_option maxRecDepth 100000 in
theorem X6_group_c {E : km_E} {l : Launch} {mr : km_R} (kqmr : km_MR mr) {x1 : Int32} {x2 : Int32} {mi : km_I} {K : Int32 → km_I → Prop} (h : X6_group_w x1 x2 mi K) : km_Ci E l yX6_group wsX6_group rmX6_group [.ref 0, .int x1, .int x2] SH mi mr K := by
  refine km_start (cc := cX6_group) (maxL := 4) (ret := (some .int)) (by decide) rfl (Nat.le_of_ble_eq_true rfl) ?_
  intro X hl hX hF _
  subst hl

  have h : X6_isPort_w x1 mi (fun r1 m1 => ((¬ r1 = 0 → X6_within_w x2 0 3 m1 (fun r13 m13 => ((¬ r13 = 0 → vp_in x1 4 ∧ vp_in x1 4 ∧ (∀ m41, m41 = km_u m13 15 (Int32.toNatClampNeg x1) x2 → K (m13 15 (Int32.toNatClampNeg x1)) m41)) ∧ (r13 = 0 → K (-102) m13)))) ∧ (r1 = 0 → K (-101) m1))) := h
  refine km_iload_n hX dX6_group_0 rfl ?_
  refine km_callSi hX dX6_group_1 vX6_group_155 (X6_isPort_c kqmr h) (by decide) rfl rfl (Nat.le_of_ble_eq_true rfl) (fun r1 m1 h => ?_)
  refine km_if_ne (tgt := 10) hX dX6_group_4 (by decide) (fun c => ?_) (fun c => ?_)
  · have h := h.1 c
    refine km_iload_n hX dX6_group_10 rfl ?_
    refine km_iconst (v := 0) hX dX6_group_11 (by decide) ?_
    refine km_iconst (v := 3) hX dX6_group_12 (by decide) ?_
    refine km_callSi hX dX6_group_13 vX6_group_83 (X6_within_c kqmr h) (by decide) rfl rfl (Nat.le_of_ble_eq_true rfl) (fun r13 m13 h => ?_)
    refine km_if_ne (tgt := 22) hX dX6_group_16 (by decide) (fun c => ?_) (fun c => ?_)
    · have h := h.1 c
      refine km_aload_n hX dX6_group_22 rfl rfl ?_
      refine km_getr (q := 13) hX fX6_group_22 shp_0 rfl dX6_group_23 (mrp_0_4 kqmr) ?_
      refine km_getr (q := 15) hX fX6_group_163 shp_13 rfl dX6_group_26 (mrp_13_1 kqmr) ?_
      refine km_iload_n hX dX6_group_29 rfl ?_
      obtain ⟨hc, h⟩ := h
      refine km_iald hX shp_15 hc dX6_group_30 ?_
      refine km_istore_n hX dX6_group_31 (by decide) ?_
      refine km_aload_n hX dX6_group_32 rfl rfl ?_
      refine km_getr (q := 13) hX fX6_group_22 shp_0 rfl dX6_group_33 (mrp_0_4 kqmr) ?_
      refine km_getr (q := 15) hX fX6_group_163 shp_13 rfl dX6_group_36 (mrp_13_1 kqmr) ?_
      refine km_iload_n hX dX6_group_39 rfl ?_
      refine km_iload_n hX dX6_group_40 rfl ?_
      obtain ⟨hc, h⟩ := h
      refine km_iastN hX shp_15 hc dX6_group_41 (fun m41 e41 => ?_)
      have h := h m41 e41
      refine km_iload_n hX dX6_group_42 rfl ?_
      exact km_iret hX hF rfl dX6_group_43 ⟨rfl, rfl, _, rfl, h⟩ (Nat.le_refl _) (Nat.le_refl _)
    · have h := h.2 c
      refine km_bipush (v := -102) hX dX6_group_19 (by decide) ?_
      exact km_iret hX hF rfl dX6_group_21 ⟨rfl, rfl, _, rfl, h⟩ (Nat.le_refl _) (Nat.le_refl _)
  · have h := h.2 c
    refine km_bipush (v := -101) hX dX6_group_7 (by decide) ?_
    exact km_iret hX hF rfl dX6_group_9 ⟨rfl, rfl, _, rfl, h⟩ (Nat.le_refl _) (Nat.le_refl _)
def X6_runBoth_w (x1 : Int32) (x2 : Int32) (x3 : Int32) (x4 : Int32) (mi : km_I) (K : Int32 → km_I → Prop) : Prop := X1_go_w 38 1 x1 x3 x4 mi (fun m8 => X1_go_w 50 7 x2 x3 x4 m8 (fun m19 => (((m19 39 0) = 2 → K 0 m19) ∧ (¬ (m19 39 0) = 2 → (((m19 51 0) = 2 → K 0 m19) ∧ (¬ (m19 51 0) = 2 → K 1 m19))))))
set_option maxHeartbeats 4000000 in
set_option maxRecDepth 100000 in
theorem X6_runBoth_c {E : km_E} {l : Launch} {mr : km_R} (kqmr : km_MR mr) {x1 : Int32} {x2 : Int32} {x3 : Int32} {x4 : Int32} {mi : km_I} {K : Int32 → km_I → Prop} (h : X6_runBoth_w x1 x2 x3 x4 mi K) : km_Ci E l yX6_runBoth wsX6_runBoth rmX6_runBoth [.ref 0, .int x1, .int x2, .int x3, .int x4] SH mi mr K := by
  refine km_start (cc := cX6_runBoth) (maxL := 5) (ret := (some .boolean)) (by decide) rfl (Nat.le_of_ble_eq_true rfl) ?_
  intro X hl hX hF _
  subst hl

  have h : X1_go_w 38 1 x1 x3 x4 mi (fun m8 => X1_go_w 50 7 x2 x3 x4 m8 (fun m19 => (((m19 39 0) = 2 → K 0 m19) ∧ (¬ (m19 39 0) = 2 → (((m19 51 0) = 2 → K 0 m19) ∧ (¬ (m19 51 0) = 2 → K 1 m19)))))) := h
  refine km_aload_n hX dX6_runBoth_0 rfl rfl ?_
  refine km_getr (q := 38) hX fX6_runBoth_71 shp_0 rfl dX6_runBoth_1 (mrp_0_9 kqmr) ?_
  refine km_iload_n hX dX6_runBoth_4 rfl ?_
  refine km_iload_n hX dX6_runBoth_5 rfl ?_
  refine km_iload hX dX6_runBoth_6 rfl ?_
  refine km_callVv hX dX6_runBoth_8 vX6_runBoth_121 (X1_go_c kqmr (by decide) (by decide) (mrp_38_7 kqmr) h) (by decide) shp_38 rfl rfl (Nat.le_of_ble_eq_true rfl) (fun m8 h => ?_)
  refine km_aload_n hX dX6_runBoth_11 rfl rfl ?_
  refine km_getr (q := 50) hX fX6_runBoth_74 shp_0 rfl dX6_runBoth_12 (mrp_0_10 kqmr) ?_
  refine km_iload_n hX dX6_runBoth_15 rfl ?_
  refine km_iload_n hX dX6_runBoth_16 rfl ?_
  refine km_iload hX dX6_runBoth_17 rfl ?_
  refine km_callVv hX dX6_runBoth_19 vX6_runBoth_121 (X1_go_c kqmr (by decide) (by decide) (mrp_50_7 kqmr) h) (by decide) shp_50 rfl rfl (Nat.le_of_ble_eq_true rfl) (fun m19 h => ?_)
  refine km_aload_n hX dX6_runBoth_22 rfl rfl ?_
  refine km_getr (q := 38) hX fX6_runBoth_71 shp_0 rfl dX6_runBoth_23 (mrp_0_9 kqmr) ?_
  refine km_getr (q := 39) hX fX6_runBoth_125 shp_38 rfl dX6_runBoth_26 (mrp_38_0 kqmr) ?_
  refine km_geti hX fX6_runBoth_129 shp_39 rfl dX6_runBoth_29 ?_
  refine km_iconst (v := 2) hX dX6_runBoth_32 (by decide) ?_
  refine km_icmp_eq (tgt := 54) hX dX6_runBoth_33 (by decide) (fun c => ?_) (fun c => ?_)
  · have h := h.1 c
    refine km_iconst (v := 0) hX dX6_runBoth_54 (by decide) ?_
    exact km_zret hX hF rfl dX6_runBoth_55 (Or.inl rfl) ⟨rfl, rfl, _, rfl, h⟩ (Nat.le_refl _) (Nat.le_refl _)
  · have h := h.2 c
    refine km_aload_n hX dX6_runBoth_36 rfl rfl ?_
    refine km_getr (q := 50) hX fX6_runBoth_74 shp_0 rfl dX6_runBoth_37 (mrp_0_10 kqmr) ?_
    refine km_getr (q := 51) hX fX6_runBoth_125 shp_50 rfl dX6_runBoth_40 (mrp_50_0 kqmr) ?_
    refine km_geti hX fX6_runBoth_129 shp_51 rfl dX6_runBoth_43 ?_
    refine km_iconst (v := 2) hX dX6_runBoth_46 (by decide) ?_
    refine km_icmp_eq (tgt := 54) hX dX6_runBoth_47 (by decide) (fun c => ?_) (fun c => ?_)
    · have h := h.1 c
      refine km_iconst (v := 0) hX dX6_runBoth_54 (by decide) ?_
      exact km_zret hX hF rfl dX6_runBoth_55 (Or.inl rfl) ⟨rfl, rfl, _, rfl, h⟩ (Nat.le_refl _) (Nat.le_refl _)
    · have h := h.2 c
      refine km_iconst (v := 1) hX dX6_runBoth_50 (by decide) ?_
      refine km_goto (tgt := 55) hX dX6_runBoth_51 (by decide) ?_
      exact km_zret hX hF rfl dX6_runBoth_55 (Or.inr rfl) ⟨rfl, rfl, _, rfl, h⟩ (Nat.le_refl _) (Nat.le_refl _)
def X6_runsAlike_w (o1 : Nat) (mi : km_I) (K : Int32 → km_I → Prop) : Prop := X5_endsLike_w 39 51 mi (fun r18 m18 => ((r18 = 0 → K 0 m18) ∧ (¬ r18 = 0 → ((¬ (m18 39 5) = (m18 51 5) → K 0 m18) ∧ ((m18 39 5) = (m18 51 5) → X3_alike_w o1 39 51 0 (m18 39 5) m18 (fun r43 m43 => ((r43 = 0 → K 0 m43) ∧ (¬ r43 = 0 → K 1 m43))))))))
set_option maxHeartbeats 4000000 in
set_option maxRecDepth 100000 in
theorem X6_runsAlike_c {E : km_E} {l : Launch} {mr : km_R} (kqmr : km_MR mr) {o1 : Nat} (kqo1 : km_isO o1) {mi : km_I} {K : Int32 → km_I → Prop} (h : X6_runsAlike_w o1 mi K) : km_Ci E l yX6_runsAlike wsX6_runsAlike rmX6_runsAlike [.ref 0, .ref o1] SH mi mr K := by
  refine km_start (cc := cX6_runsAlike) (maxL := 4) (ret := (some .boolean)) (by decide) rfl (Nat.le_of_ble_eq_true rfl) ?_
  intro X hl hX hF _
  subst hl
  obtain ⟨so10, so11, so12, so13, mo11, mo12, mo13⟩ := km_fO kqmr kqo1
  have h : X5_endsLike_w 39 51 mi (fun r18 m18 => ((r18 = 0 → K 0 m18) ∧ (¬ r18 = 0 → ((¬ (m18 39 5) = (m18 51 5) → K 0 m18) ∧ ((m18 39 5) = (m18 51 5) → X3_alike_w o1 39 51 0 (m18 39 5) m18 (fun r43 m43 => ((r43 = 0 → K 0 m43) ∧ (¬ r43 = 0 → K 1 m43)))))))) := h
  refine km_aload_n hX dX6_runsAlike_0 rfl rfl ?_
  refine km_getr (q := 38) hX fX6_runsAlike_71 shp_0 rfl dX6_runsAlike_1 (mrp_0_9 kqmr) ?_
  refine km_getr (q := 39) hX fX6_runsAlike_125 shp_38 rfl dX6_runsAlike_4 (mrp_38_0 kqmr) ?_
  refine km_astore_n hX dX6_runsAlike_7 (by decide) ?_
  refine km_aload_n hX dX6_runsAlike_8 rfl rfl ?_
  refine km_getr (q := 50) hX fX6_runsAlike_74 shp_0 rfl dX6_runsAlike_9 (mrp_0_10 kqmr) ?_
  refine km_getr (q := 51) hX fX6_runsAlike_125 shp_50 rfl dX6_runsAlike_12 (mrp_50_0 kqmr) ?_
  refine km_astore_n hX dX6_runsAlike_15 (by decide) ?_
  refine km_aload_n hX dX6_runsAlike_16 rfl rfl ?_
  refine km_aload_n hX dX6_runsAlike_17 rfl rfl ?_
  refine km_callVi hX dX6_runsAlike_18 vX6_runsAlike_227 (X5_endsLike_c kqmr (by decide) (by decide) h) (by decide) shp_39 rfl rfl (Nat.le_of_ble_eq_true rfl) (fun r18 m18 h => ?_)
  refine km_if_eq (tgt := 53) hX dX6_runsAlike_21 (by decide) (fun c => ?_) (fun c => ?_)
  · have h := h.1 c
    refine km_iconst (v := 0) hX dX6_runsAlike_53 (by decide) ?_
    exact km_zret hX hF rfl dX6_runsAlike_54 (Or.inl rfl) ⟨rfl, rfl, _, rfl, h⟩ (Nat.le_refl _) (Nat.le_refl _)
  · have h := h.2 c
    refine km_aload_n hX dX6_runsAlike_24 rfl rfl ?_
    refine km_geti hX fX6_runsAlike_143 shp_39 rfl dX6_runsAlike_25 ?_
    refine km_aload_n hX dX6_runsAlike_28 rfl rfl ?_
    refine km_geti hX fX6_runsAlike_143 shp_51 rfl dX6_runsAlike_29 ?_
    refine km_icmp_ne (tgt := 53) hX dX6_runsAlike_32 (by decide) (fun c => ?_) (fun c => ?_)
    · have h := h.1 c
      refine km_iconst (v := 0) hX dX6_runsAlike_53 (by decide) ?_
      exact km_zret hX hF rfl dX6_runsAlike_54 (Or.inl rfl) ⟨rfl, rfl, _, rfl, h⟩ (Nat.le_refl _) (Nat.le_refl _)
    · have h := h.2 c
      refine km_aload_n hX dX6_runsAlike_35 rfl rfl ?_
      refine km_aload_n hX dX6_runsAlike_36 rfl rfl ?_
      refine km_aload_n hX dX6_runsAlike_37 rfl rfl ?_
      refine km_iconst (v := 0) hX dX6_runsAlike_38 (by decide) ?_
      refine km_aload_n hX dX6_runsAlike_39 rfl rfl ?_
      refine km_geti hX fX6_runsAlike_143 shp_39 rfl dX6_runsAlike_40 ?_
      refine km_callVi hX dX6_runsAlike_43 vX6_runsAlike_231 (X3_alike_c kqmr kqo1 (by decide) (by decide) h) (by decide) (by assumption) rfl rfl (Nat.le_of_ble_eq_true rfl) (fun r43 m43 h => ?_)
      refine km_if_eq (tgt := 53) hX dX6_runsAlike_46 (by decide) (fun c => ?_) (fun c => ?_)
      · have h := h.1 c
        refine km_iconst (v := 0) hX dX6_runsAlike_53 (by decide) ?_
        exact km_zret hX hF rfl dX6_runsAlike_54 (Or.inl rfl) ⟨rfl, rfl, _, rfl, h⟩ (Nat.le_refl _) (Nat.le_refl _)
      · have h := h.2 c
        refine km_iconst (v := 1) hX dX6_runsAlike_49 (by decide) ?_
        refine km_goto (tgt := 54) hX dX6_runsAlike_50 (by decide) ?_
        exact km_zret hX hF rfl dX6_runsAlike_54 (Or.inr rfl) ⟨rfl, rfl, _, rfl, h⟩ (Nat.le_refl _) (Nat.le_refl _)
def X6_held_b69 (x1 : Int32) (x2 : Int32) (Z5 : Int32 → Int32 → Int32 → Int32 → km_I → Prop) (Z17 : Int32 → Int32 → Int32 → Int32 → Int32 → km_I → Prop) (y1 : Int32) (y2 : Int32) (y3 : Int32) (y4 : Int32) (y5 : Int32) (mi : km_I) (K : Int32 → km_I → Prop) : Prop := Z17 y1 y2 y3 y4 (y5 + 1) mi
set_option maxHeartbeats 4000000 in
set_option maxRecDepth 100000 in
theorem X6_held_b69_t {E : km_E} {X : km_X} {mr : km_R} {K : Int32 → km_I → Prop} {x1 : Int32} {x2 : Int32} {Z5 : Int32 → Int32 → Int32 → Int32 → km_I → Prop} {Z17 : Int32 → Int32 → Int32 → Int32 → Int32 → km_I → Prop} (hX : km_ok E X rmX6_held cX6_held 6 wsX6_held RX6) (hF : km_fin E X (some .int) 0 0 (fun r sh' mi' mr' => sh' = SH ∧ mr' = mr ∧ ∃ i, r = some (.int i) ∧ K i mi')) (kqmr : km_MR mr) (hZ5 : ∀ (y1 : Int32) (y2 : Int32) (y3 : Int32) (y4 : Int32) (m : km_I), Z5 y1 y2 y3 y4 m → km_G E X 6 SH m mr 0 0 5 [(0, .ref 0), (1, .int y1), (2, .int y2), (3, .int y3), (4, .int y4)] []) (hZ17 : ∀ (y1 : Int32) (y2 : Int32) (y3 : Int32) (y4 : Int32) (y5 : Int32) (m : km_I), Z17 y1 y2 y3 y4 y5 m → km_G E X 6 SH m mr 0 0 17 [(0, .ref 0), (1, .int y1), (2, .int y2), (3, .int y3), (4, .int y4), (5, .int y5)] []) : ∀ (y1 : Int32) (y2 : Int32) (y3 : Int32) (y4 : Int32) (y5 : Int32) (mi : km_I), X6_held_b69 x1 x2 Z5 Z17 y1 y2 y3 y4 y5 mi K → km_G E X 6 SH mi mr 0 0 69 [(0, .ref 0), (1, .int y1), (2, .int y2), (3, .int y3), (4, .int y4), (5, .int y5)] [] := by
  intro y1 y2 y3 y4 y5 mi h
  have h : Z17 y1 y2 y3 y4 (y5 + 1) mi := h
  refine km_iinc (v := 1) hX dX6_held_69 (by decide) rfl (by decide) ?_
  refine km_goto (tgt := 17) hX dX6_held_72 (by decide) ?_
  refine km_ren (ls' := [(0, .ref 0), (1, .int y1), (2, .int y2), (3, .int y3), (4, .int y4), (5, .int (y5 + 1))]) [0, 1, 2, 3, 4, 5] rfl ?_
  exact hZ17 _ _ _ _ _ _ h
def X6_held_b17 (x1 : Int32) (x2 : Int32) (Z5 : Int32 → Int32 → Int32 → Int32 → km_I → Prop) (n : Nat) (y1 : Int32) (y2 : Int32) (y3 : Int32) (y4 : Int32) (y5 : Int32) (mi : km_I) (K : Int32 → km_I → Prop) : Prop := match n with
  | 0 => False
  | n + 1 => (((mi 0 1) < y5 → Z5 y1 y2 y3 (y4 + 1) mi) ∧ (¬ (mi 0 1) < y5 → X6_runBoth_w y1 y2 y4 y5 mi (fun r33 m33 => ((¬ r33 = 0 → X6_runsAlike_w 13 m33 (fun r49 m49 => ((¬ r49 = 0 → X6_held_b69 x1 x2 Z5 (fun v0 v1 v2 v3 v4 m => X6_held_b17 x1 x2 Z5 n v0 v1 v2 v3 v4 m K) y1 y2 y3 y4 y5 m49 K) ∧ (r49 = 0 → (∀ m58, m58 = km_u m49 0 13 y4 → (∀ m64, m64 = km_u m58 0 14 y5 → K 0 m64)))))) ∧ (r33 = 0 → X6_held_b69 x1 x2 Z5 (fun v0 v1 v2 v3 v4 m => X6_held_b17 x1 x2 Z5 n v0 v1 v2 v3 v4 m K) y1 y2 2 y4 y5 m33 K)))))
set_option maxHeartbeats 4000000 in
set_option maxRecDepth 100000 in
theorem X6_held_b17_t {E : km_E} {X : km_X} {mr : km_R} {K : Int32 → km_I → Prop} {x1 : Int32} {x2 : Int32} {Z5 : Int32 → Int32 → Int32 → Int32 → km_I → Prop} (hX : km_ok E X rmX6_held cX6_held 6 wsX6_held RX6) (hF : km_fin E X (some .int) 0 0 (fun r sh' mi' mr' => sh' = SH ∧ mr' = mr ∧ ∃ i, r = some (.int i) ∧ K i mi')) (kqmr : km_MR mr) (hZ5 : ∀ (y1 : Int32) (y2 : Int32) (y3 : Int32) (y4 : Int32) (m : km_I), Z5 y1 y2 y3 y4 m → km_G E X 6 SH m mr 0 0 5 [(0, .ref 0), (1, .int y1), (2, .int y2), (3, .int y3), (4, .int y4)] []) : ∀ (n : Nat) (y1 : Int32) (y2 : Int32) (y3 : Int32) (y4 : Int32) (y5 : Int32) (mi : km_I), X6_held_b17 x1 x2 Z5 n y1 y2 y3 y4 y5 mi K → km_G E X 6 SH mi mr 0 0 17 [(0, .ref 0), (1, .int y1), (2, .int y2), (3, .int y3), (4, .int y4), (5, .int y5)] [] := by
  intro n
  induction n with
  | zero => intro y1 y2 y3 y4 y5 mi h; exact h.elim
  | succ n ih =>
    intro y1 y2 y3 y4 y5 mi h
    have h : (((mi 0 1) < y5 → Z5 y1 y2 y3 (y4 + 1) mi) ∧ (¬ (mi 0 1) < y5 → X6_runBoth_w y1 y2 y4 y5 mi (fun r33 m33 => ((¬ r33 = 0 → X6_runsAlike_w 13 m33 (fun r49 m49 => ((¬ r49 = 0 → X6_held_b69 x1 x2 Z5 (fun v0 v1 v2 v3 v4 m => X6_held_b17 x1 x2 Z5 n v0 v1 v2 v3 v4 m K) y1 y2 y3 y4 y5 m49 K) ∧ (r49 = 0 → (∀ m58, m58 = km_u m49 0 13 y4 → (∀ m64, m64 = km_u m58 0 14 y5 → K 0 m64)))))) ∧ (r33 = 0 → X6_held_b69 x1 x2 Z5 (fun v0 v1 v2 v3 v4 m => X6_held_b17 x1 x2 Z5 n v0 v1 v2 v3 v4 m K) y1 y2 2 y4 y5 m33 K))))) := h
    refine km_iload hX dX6_held_17 rfl ?_
    refine km_aload_n hX dX6_held_19 rfl rfl ?_
    refine km_geti hX fX6_held_59 shp_0 rfl dX6_held_20 ?_
    refine km_icmp_gt (tgt := 75) hX dX6_held_23 (by decide) (fun c => ?_) (fun c => ?_)
    · have h := h.1 c
      refine km_iinc (v := 1) hX dX6_held_75 (by decide) rfl (by decide) ?_
      refine km_goto (tgt := 5) hX dX6_held_78 (by decide) ?_
      refine km_ren (ls' := [(0, .ref 0), (1, .int y1), (2, .int y2), (3, .int y3), (4, .int (y4 + 1))]) [0, 1, 2, 3, 4] rfl ?_
      exact hZ5 _ _ _ _ _ h
    · have h := h.2 c
      refine km_aload_n hX dX6_held_26 rfl rfl ?_
      refine km_iload_n hX dX6_held_27 rfl ?_
      refine km_iload_n hX dX6_held_28 rfl ?_
      refine km_iload hX dX6_held_29 rfl ?_
      refine km_iload hX dX6_held_31 rfl ?_
      refine km_callVi hX dX6_held_33 vX6_held_180 (X6_runBoth_c kqmr h) (by decide) shp_0 rfl rfl (Nat.le_of_ble_eq_true rfl) (fun r33 m33 h => ?_)
      refine km_if_ne (tgt := 44) hX dX6_held_36 (by decide) (fun c => ?_) (fun c => ?_)
      · have h := h.1 c
        refine km_aload_n hX dX6_held_44 rfl rfl ?_
        refine km_aload_n hX dX6_held_45 rfl rfl ?_
        refine km_getr (q := 13) hX fX6_held_22 shp_0 rfl dX6_held_46 (mrp_0_4 kqmr) ?_
        refine km_callVi hX dX6_held_49 vX6_held_223 (X6_runsAlike_c kqmr (by decide) h) (by decide) shp_0 rfl rfl (Nat.le_of_ble_eq_true rfl) (fun r49 m49 h => ?_)
        refine km_if_ne (tgt := 69) hX dX6_held_52 (by decide) (fun c => ?_) (fun c => ?_)
        · have h := h.1 c
          refine km_ren (ls' := [(0, .ref 0), (1, .int y1), (2, .int y2), (3, .int y3), (4, .int y4), (5, .int y5)]) [0, 1, 2, 3, 4, 5] rfl ?_
          exact X6_held_b69_t hX hF kqmr hZ5 (fun v0 v1 v2 v3 v4 m hh => ih v0 v1 v2 v3 v4 m hh) _ _ _ _ _ _ h
        · have h := h.2 c
          refine km_aload_n hX dX6_held_55 rfl rfl ?_
          refine km_iload hX dX6_held_56 rfl ?_
          refine km_putiN hX pX6_held_43 shp_0 rfl dX6_held_58 (fun m58 e58 => ?_)
          have h := h m58 e58
          refine km_aload_n hX dX6_held_61 rfl rfl ?_
          refine km_iload hX dX6_held_62 rfl ?_
          refine km_putiN hX pX6_held_47 shp_0 rfl dX6_held_64 (fun m64 e64 => ?_)
          have h := h m64 e64
          refine km_iconst (v := 0) hX dX6_held_67 (by decide) ?_
          exact km_iret hX hF rfl dX6_held_68 ⟨rfl, rfl, _, rfl, h⟩ (Nat.le_refl _) (Nat.le_refl _)
      · have h := h.2 c
        refine km_iconst (v := 2) hX dX6_held_39 (by decide) ?_
        refine km_istore_n hX dX6_held_40 (by decide) ?_
        refine km_goto (tgt := 69) hX dX6_held_41 (by decide) ?_
        refine km_ren (ls' := [(0, .ref 0), (1, .int y1), (2, .int y2), (3, .int 2), (4, .int y4), (5, .int y5)]) [0, 1, 2, 3, 4, 5] rfl ?_
        exact X6_held_b69_t hX hF kqmr hZ5 (fun v0 v1 v2 v3 v4 m hh => ih v0 v1 v2 v3 v4 m hh) _ _ _ _ _ _ h
def X6_held_b5 (x1 : Int32) (x2 : Int32) (n : Nat) (y1 : Int32) (y2 : Int32) (y3 : Int32) (y4 : Int32) (mi : km_I) (K : Int32 → km_I → Prop) : Prop := match n with
  | 0 => False
  | n + 1 => (((mi 0 1) < y4 → K y3 mi) ∧ (¬ (mi 0 1) < y4 → ∃ k, X6_held_b17 x1 x2 (fun v0 v1 v2 v3 m => X6_held_b5 x1 x2 n v0 v1 v2 v3 m K) k y1 y2 y3 y4 0 mi K))
set_option maxHeartbeats 4000000 in
set_option maxRecDepth 100000 in
theorem X6_held_b5_t {E : km_E} {X : km_X} {mr : km_R} {K : Int32 → km_I → Prop} {x1 : Int32} {x2 : Int32} (hX : km_ok E X rmX6_held cX6_held 6 wsX6_held RX6) (hF : km_fin E X (some .int) 0 0 (fun r sh' mi' mr' => sh' = SH ∧ mr' = mr ∧ ∃ i, r = some (.int i) ∧ K i mi')) (kqmr : km_MR mr) : ∀ (n : Nat) (y1 : Int32) (y2 : Int32) (y3 : Int32) (y4 : Int32) (mi : km_I), X6_held_b5 x1 x2 n y1 y2 y3 y4 mi K → km_G E X 6 SH mi mr 0 0 5 [(0, .ref 0), (1, .int y1), (2, .int y2), (3, .int y3), (4, .int y4)] [] := by
  intro n
  induction n with
  | zero => intro y1 y2 y3 y4 mi h; exact h.elim
  | succ n ih =>
    intro y1 y2 y3 y4 mi h
    have h : (((mi 0 1) < y4 → K y3 mi) ∧ (¬ (mi 0 1) < y4 → ∃ k, X6_held_b17 x1 x2 (fun v0 v1 v2 v3 m => X6_held_b5 x1 x2 n v0 v1 v2 v3 m K) k y1 y2 y3 y4 0 mi K)) := h
    refine km_iload hX dX6_held_5 rfl ?_
    refine km_aload_n hX dX6_held_7 rfl rfl ?_
    refine km_geti hX fX6_held_59 shp_0 rfl dX6_held_8 ?_
    refine km_icmp_gt (tgt := 81) hX dX6_held_11 (by decide) (fun c => ?_) (fun c => ?_)
    · have h := h.1 c
      refine km_iload_n hX dX6_held_81 rfl ?_
      exact km_iret hX hF rfl dX6_held_82 ⟨rfl, rfl, _, rfl, h⟩ (Nat.le_refl _) (Nat.le_refl _)
    · have h := h.2 c
      refine km_iconst (v := 0) hX dX6_held_14 (by decide) ?_
      refine km_istore hX dX6_held_15 (by decide) ?_
      obtain ⟨n9, h⟩ := h
      refine km_ren (ls' := [(0, .ref 0), (1, .int y1), (2, .int y2), (3, .int y3), (4, .int y4), (5, .int 0)]) [0, 1, 2, 3, 4, 5] rfl ?_
      exact X6_held_b17_t hX hF kqmr (fun v0 v1 v2 v3 m hh => ih v0 v1 v2 v3 m hh) n9 _ _ _ _ _ _ h
def X6_held_w (x1 : Int32) (x2 : Int32) (mi : km_I) (K : Int32 → km_I → Prop) : Prop := ∃ k, X6_held_b5 x1 x2 k x1 x2 1 0 mi K
set_option maxHeartbeats 4000000 in
set_option maxRecDepth 100000 in
theorem X6_held_c {E : km_E} {l : Launch} {mr : km_R} (kqmr : km_MR mr) {x1 : Int32} {x2 : Int32} {mi : km_I} {K : Int32 → km_I → Prop} (h : X6_held_w x1 x2 mi K) : km_Ci E l yX6_held wsX6_held rmX6_held [.ref 0, .int x1, .int x2] SH mi mr K := by
  refine km_start (cc := cX6_held) (maxL := 6) (ret := (some .int)) (by decide) rfl (Nat.le_of_ble_eq_true rfl) ?_
  intro X hl hX hF _
  subst hl

  have h : ∃ k, X6_held_b5 x1 x2 k x1 x2 1 0 mi K := h
  refine km_iconst (v := 1) hX dX6_held_0 (by decide) ?_
  refine km_istore_n hX dX6_held_1 (by decide) ?_
  refine km_iconst (v := 0) hX dX6_held_2 (by decide) ?_
  refine km_istore hX dX6_held_3 (by decide) ?_
  obtain ⟨n9, h⟩ := h
  refine km_ren (ls' := [(0, .ref 0), (1, .int x1), (2, .int x2), (3, .int 1), (4, .int 0)]) [0, 1, 2, 3, 4] rfl ?_
  exact X6_held_b5_t hX hF kqmr n9 _ _ _ _ _ h
def X6_isPair_w (x1 : Int32) (x2 : Int32) (mi : km_I) (K : Int32 → km_I → Prop) : Prop := X0_has_w 1 x1 mi (fun r5 m5 => ((r5 = 0 → K 0 m5) ∧ (¬ r5 = 0 → X0_has_w 7 x2 m5 (fun r16 m16 => ((r16 = 0 → K 0 m16) ∧ (¬ r16 = 0 → K 1 m16))))))
set_option maxHeartbeats 4000000 in
set_option maxRecDepth 100000 in
theorem X6_isPair_c {E : km_E} {l : Launch} {mr : km_R} (kqmr : km_MR mr) {x1 : Int32} {x2 : Int32} {mi : km_I} {K : Int32 → km_I → Prop} (h : X6_isPair_w x1 x2 mi K) : km_Ci E l yX6_isPair wsX6_isPair rmX6_isPair [.ref 0, .int x1, .int x2] SH mi mr K := by
  refine km_start (cc := cX6_isPair) (maxL := 3) (ret := (some .boolean)) (by decide) rfl (Nat.le_of_ble_eq_true rfl) ?_
  intro X hl hX hF _
  subst hl

  have h : X0_has_w 1 x1 mi (fun r5 m5 => ((r5 = 0 → K 0 m5) ∧ (¬ r5 = 0 → X0_has_w 7 x2 m5 (fun r16 m16 => ((r16 = 0 → K 0 m16) ∧ (¬ r16 = 0 → K 1 m16)))))) := h
  refine km_aload_n hX dX6_isPair_0 rfl rfl ?_
  refine km_getr (q := 1) hX fX6_isPair_10 shp_0 rfl dX6_isPair_1 (mrp_0_2 kqmr) ?_
  refine km_iload_n hX dX6_isPair_4 rfl ?_
  refine km_callVi hX dX6_isPair_5 vX6_isPair_172 (X0_has_c kqmr (by decide) h) (by decide) shp_1 rfl rfl (Nat.le_of_ble_eq_true rfl) (fun r5 m5 h => ?_)
  refine km_if_eq (tgt := 26) hX dX6_isPair_8 (by decide) (fun c => ?_) (fun c => ?_)
  · have h := h.1 c
    refine km_iconst (v := 0) hX dX6_isPair_26 (by decide) ?_
    exact km_zret hX hF rfl dX6_isPair_27 (Or.inl rfl) ⟨rfl, rfl, _, rfl, h⟩ (Nat.le_refl _) (Nat.le_refl _)
  · have h := h.2 c
    refine km_aload_n hX dX6_isPair_11 rfl rfl ?_
    refine km_getr (q := 7) hX fX6_isPair_16 shp_0 rfl dX6_isPair_12 (mrp_0_3 kqmr) ?_
    refine km_iload_n hX dX6_isPair_15 rfl ?_
    refine km_callVi hX dX6_isPair_16 vX6_isPair_172 (X0_has_c kqmr (by decide) h) (by decide) shp_7 rfl rfl (Nat.le_of_ble_eq_true rfl) (fun r16 m16 h => ?_)
    refine km_if_eq (tgt := 26) hX dX6_isPair_19 (by decide) (fun c => ?_) (fun c => ?_)
    · have h := h.1 c
      refine km_iconst (v := 0) hX dX6_isPair_26 (by decide) ?_
      exact km_zret hX hF rfl dX6_isPair_27 (Or.inl rfl) ⟨rfl, rfl, _, rfl, h⟩ (Nat.le_refl _) (Nat.le_refl _)
    · have h := h.2 c
      refine km_iconst (v := 1) hX dX6_isPair_22 (by decide) ?_
      refine km_goto (tgt := 27) hX dX6_isPair_23 (by decide) ?_
      exact km_zret hX hF rfl dX6_isPair_27 (Or.inr rfl) ⟨rfl, rfl, _, rfl, h⟩ (Nat.le_refl _) (Nat.le_refl _)
def X6_hold_b48 (x1 : Int32) (x2 : Int32) (y1 : Int32) (y2 : Int32) (y3 : Int32) (z0 : Int32) (mi : km_I) (K : Int32 → km_I → Prop) : Prop := (∀ m48, m48 = km_u mi 0 16 z0 → K y3 m48)
set_option maxHeartbeats 4000000 in
set_option maxRecDepth 100000 in
theorem X6_hold_b48_t {E : km_E} {X : km_X} {mr : km_R} {K : Int32 → km_I → Prop} {x1 : Int32} {x2 : Int32} (hX : km_ok E X rmX6_hold cX6_hold 4 wsX6_hold RX6) (hF : km_fin E X (some .int) 0 0 (fun r sh' mi' mr' => sh' = SH ∧ mr' = mr ∧ ∃ i, r = some (.int i) ∧ K i mi')) (kqmr : km_MR mr) : ∀ (y1 : Int32) (y2 : Int32) (y3 : Int32) (z0 : Int32) (mi : km_I), X6_hold_b48 x1 x2 y1 y2 y3 z0 mi K → km_G E X 4 SH mi mr 0 0 48 [(0, .ref 0), (1, .int y1), (2, .int y2), (3, .int y3)] [.int z0, .ref 0] := by
  intro y1 y2 y3 z0 mi h
  have h : (∀ m48, m48 = km_u mi 0 16 z0 → K y3 m48) := h
  refine km_putiN hX pX6_hold_53 shp_0 rfl dX6_hold_48 (fun m48 e48 => ?_)
  have h := h m48 e48
  refine km_iload_n hX dX6_hold_51 rfl ?_
  exact km_iret hX hF rfl dX6_hold_52 ⟨rfl, rfl, _, rfl, h⟩ (Nat.le_refl _) (Nat.le_refl _)
def X6_hold_b32 (x1 : Int32) (x2 : Int32) (y1 : Int32) (y2 : Int32) (y3 : Int32) (z0 : Int32) (mi : km_I) (K : Int32 → km_I → Prop) : Prop := (∀ m32, m32 = km_u mi 0 15 z0 → ((¬ y3 = 0 → X6_hold_b48 x1 x2 y1 y2 y3 (-1) m32 K) ∧ (y3 = 0 → X6_hold_b48 x1 x2 y1 y2 y3 (m32 0 14) m32 K)))
set_option maxHeartbeats 4000000 in
set_option maxRecDepth 100000 in
theorem X6_hold_b32_t {E : km_E} {X : km_X} {mr : km_R} {K : Int32 → km_I → Prop} {x1 : Int32} {x2 : Int32} (hX : km_ok E X rmX6_hold cX6_hold 4 wsX6_hold RX6) (hF : km_fin E X (some .int) 0 0 (fun r sh' mi' mr' => sh' = SH ∧ mr' = mr ∧ ∃ i, r = some (.int i) ∧ K i mi')) (kqmr : km_MR mr) : ∀ (y1 : Int32) (y2 : Int32) (y3 : Int32) (z0 : Int32) (mi : km_I), X6_hold_b32 x1 x2 y1 y2 y3 z0 mi K → km_G E X 4 SH mi mr 0 0 32 [(0, .ref 0), (1, .int y1), (2, .int y2), (3, .int y3)] [.int z0, .ref 0] := by
  intro y1 y2 y3 z0 mi h
  have h : (∀ m32, m32 = km_u mi 0 15 z0 → ((¬ y3 = 0 → X6_hold_b48 x1 x2 y1 y2 y3 (-1) m32 K) ∧ (y3 = 0 → X6_hold_b48 x1 x2 y1 y2 y3 (m32 0 14) m32 K))) := h
  refine km_putiN hX pX6_hold_50 shp_0 rfl dX6_hold_32 (fun m32 e32 => ?_)
  have h := h m32 e32
  refine km_aload_n hX dX6_hold_35 rfl rfl ?_
  refine km_iload_n hX dX6_hold_36 rfl ?_
  refine km_if_ne (tgt := 47) hX dX6_hold_37 (by decide) (fun c => ?_) (fun c => ?_)
  · have h := h.1 c
    refine km_iconst (v := -1) hX dX6_hold_47 (by decide) ?_
    refine km_ren (ls' := [(0, .ref 0), (1, .int y1), (2, .int y2), (3, .int y3)]) [0, 1, 2, 3] rfl ?_
    exact X6_hold_b48_t hX hF kqmr _ _ _ _ _ h
  · have h := h.2 c
    refine km_aload_n hX dX6_hold_40 rfl rfl ?_
    refine km_geti hX fX6_hold_47 shp_0 rfl dX6_hold_41 ?_
    refine km_goto (tgt := 48) hX dX6_hold_44 (by decide) ?_
    refine km_ren (ls' := [(0, .ref 0), (1, .int y1), (2, .int y2), (3, .int y3)]) [0, 1, 2, 3] rfl ?_
    exact X6_hold_b48_t hX hF kqmr _ _ _ _ _ h
def X6_hold_w (x1 : Int32) (x2 : Int32) (mi : km_I) (K : Int32 → km_I → Prop) : Prop := X6_isPair_w x1 x2 mi (fun r3 m3 => ((¬ r3 = 0 → X6_held_w x1 x2 m3 (fun r15 m15 => ((¬ r15 = 0 → X6_hold_b32 x1 x2 x1 x2 r15 (-1) m15 K) ∧ (r15 = 0 → X6_hold_b32 x1 x2 x1 x2 r15 (m15 0 13) m15 K)))) ∧ (r3 = 0 → K (-101) m3)))
set_option maxHeartbeats 4000000 in
set_option maxRecDepth 100000 in
theorem X6_hold_c {E : km_E} {l : Launch} {mr : km_R} (kqmr : km_MR mr) {x1 : Int32} {x2 : Int32} {mi : km_I} {K : Int32 → km_I → Prop} (h : X6_hold_w x1 x2 mi K) : km_Ci E l yX6_hold wsX6_hold rmX6_hold [.ref 0, .int x1, .int x2] SH mi mr K := by
  refine km_start (cc := cX6_hold) (maxL := 4) (ret := (some .int)) (by decide) rfl (Nat.le_of_ble_eq_true rfl) ?_
  intro X hl hX hF _
  subst hl

  have h : X6_isPair_w x1 x2 mi (fun r3 m3 => ((¬ r3 = 0 → X6_held_w x1 x2 m3 (fun r15 m15 => ((¬ r15 = 0 → X6_hold_b32 x1 x2 x1 x2 r15 (-1) m15 K) ∧ (r15 = 0 → X6_hold_b32 x1 x2 x1 x2 r15 (m15 0 13) m15 K)))) ∧ (r3 = 0 → K (-101) m3))) := h
  refine km_aload_n hX dX6_hold_0 rfl rfl ?_
  refine km_iload_n hX dX6_hold_1 rfl ?_
  refine km_iload_n hX dX6_hold_2 rfl ?_
  refine km_callVi hX dX6_hold_3 vX6_hold_166 (X6_isPair_c kqmr h) (by decide) shp_0 rfl rfl (Nat.le_of_ble_eq_true rfl) (fun r3 m3 h => ?_)
  refine km_if_ne (tgt := 12) hX dX6_hold_6 (by decide) (fun c => ?_) (fun c => ?_)
  · have h := h.1 c
    refine km_aload_n hX dX6_hold_12 rfl rfl ?_
    refine km_iload_n hX dX6_hold_13 rfl ?_
    refine km_iload_n hX dX6_hold_14 rfl ?_
    refine km_callVi hX dX6_hold_15 vX6_hold_169 (X6_held_c kqmr h) (by decide) shp_0 rfl rfl (Nat.le_of_ble_eq_true rfl) (fun r15 m15 h => ?_)
    refine km_istore_n hX dX6_hold_18 (by decide) ?_
    refine km_aload_n hX dX6_hold_19 rfl rfl ?_
    refine km_iload_n hX dX6_hold_20 rfl ?_
    refine km_if_ne (tgt := 31) hX dX6_hold_21 (by decide) (fun c => ?_) (fun c => ?_)
    · have h := h.1 c
      refine km_iconst (v := -1) hX dX6_hold_31 (by decide) ?_
      refine km_ren (ls' := [(0, .ref 0), (1, .int x1), (2, .int x2), (3, .int r15)]) [0, 1, 2, 3] rfl ?_
      exact X6_hold_b32_t hX hF kqmr _ _ _ _ _ h
    · have h := h.2 c
      refine km_aload_n hX dX6_hold_24 rfl rfl ?_
      refine km_geti hX fX6_hold_43 shp_0 rfl dX6_hold_25 ?_
      refine km_goto (tgt := 32) hX dX6_hold_28 (by decide) ?_
      refine km_ren (ls' := [(0, .ref 0), (1, .int x1), (2, .int x2), (3, .int r15)]) [0, 1, 2, 3] rfl ?_
      exact X6_hold_b32_t hX hF kqmr _ _ _ _ _ h
  · have h := h.2 c
    refine km_bipush (v := -101) hX dX6_hold_9 (by decide) ?_
    exact km_iret hX hF rfl dX6_hold_11 ⟨rfl, rfl, _, rfl, h⟩ (Nat.le_refl _) (Nat.le_refl _)
def X6_first_w (x1 : Int32) (mi : km_I) (K : Int32 → km_I → Prop) : Prop := ((¬ (Int32.toInt (x1)) = 0 ∧ ¬ (Int32.toInt (x1)) = 1 → K (-101) mi) ∧ ((Int32.toInt (x1)) = 0 → K (mi 0 15) mi) ∧ ((Int32.toInt (x1)) = 1 → K (mi 0 16) mi))
set_option maxHeartbeats 4000000 in
set_option maxRecDepth 100000 in
theorem X6_first_c {E : km_E} {l : Launch} {mr : km_R} (kqmr : km_MR mr) {x1 : Int32} {mi : km_I} {K : Int32 → km_I → Prop} (h : X6_first_w x1 mi K) : km_Ci E l yX6_first wsX6_first rmX6_first [.ref 0, .int x1] SH mi mr K := by
  refine km_start (cc := cX6_first) (maxL := 2) (ret := (some .int)) (by decide) rfl (Nat.le_of_ble_eq_true rfl) ?_
  intro X hl hX hF _
  subst hl

  have h : ((¬ (Int32.toInt (x1)) = 0 ∧ ¬ (Int32.toInt (x1)) = 1 → K (-101) mi) ∧ ((Int32.toInt (x1)) = 0 → K (mi 0 15) mi) ∧ ((Int32.toInt (x1)) = 1 → K (mi 0 16) mi)) := h
  refine km_iload_n hX dX6_first_0 rfl ?_
  have cI : (¬ (Int32.toInt (x1)) = 0 ∧ ¬ (Int32.toInt (x1)) = 1) ∨ (Int32.toInt (x1)) = 0 ∨ (Int32.toInt (x1)) = 1 := by omega
  rcases cI with c | c | c
  · refine km_lookup (off := 37) (tgt := 38) hX dX6_first_1 (by decide) (by simp [Op.lookupswitch.offset]; rw [if_neg (by omega), if_neg (by omega)]) (by decide) ?_
    have h := h.1 c
    refine km_bipush (v := -101) hX dX6_first_38 (by decide) ?_
    exact km_iret hX hF rfl dX6_first_40 ⟨rfl, rfl, _, rfl, h⟩ (Nat.le_refl _) (Nat.le_refl _)
  · refine km_lookup (off := 27) (tgt := 28) hX dX6_first_1 (by decide) (by rw [c]; rfl) (by decide) ?_
    have h := h.2.1 c
    refine km_aload_n hX dX6_first_28 rfl rfl ?_
    refine km_geti hX fX6_first_50 shp_0 rfl dX6_first_29 ?_
    exact km_iret hX hF rfl dX6_first_32 ⟨rfl, rfl, _, rfl, h⟩ (Nat.le_refl _) (Nat.le_refl _)
  · refine km_lookup (off := 32) (tgt := 33) hX dX6_first_1 (by decide) (by rw [c]; rfl) (by decide) ?_
    have h := h.2.2 c
    refine km_aload_n hX dX6_first_33 rfl rfl ?_
    refine km_geti hX fX6_first_53 shp_0 rfl dX6_first_34 ?_
    exact km_iret hX hF rfl dX6_first_37 ⟨rfl, rfl, _, rfl, h⟩ (Nat.le_refl _) (Nat.le_refl _)
def X6_match_b16 (x1 : Int32) (n : Nat) (y1 : Int32) (y2 : Int32) (mi : km_I) (K : Int32 → km_I → Prop) : Prop := match n with
  | 0 => False
  | n + 1 => (((mi 7 0) ≤ y2 → K (-1) mi) ∧ (¬ (mi 7 0) ≤ y2 → X6_held_w y1 y2 mi (fun r30 m30 => ((¬ r30 = 1 → X6_match_b16 x1 n y1 (y2 + 1) m30 K) ∧ (r30 = 1 → K y2 m30)))))
set_option maxHeartbeats 4000000 in
set_option maxRecDepth 100000 in
theorem X6_match_b16_t {E : km_E} {X : km_X} {mr : km_R} {K : Int32 → km_I → Prop} {x1 : Int32} (hX : km_ok E X rmX6_match cX6_match 3 wsX6_match RX6) (hF : km_fin E X (some .int) 0 0 (fun r sh' mi' mr' => sh' = SH ∧ mr' = mr ∧ ∃ i, r = some (.int i) ∧ K i mi')) (kqmr : km_MR mr) : ∀ (n : Nat) (y1 : Int32) (y2 : Int32) (mi : km_I), X6_match_b16 x1 n y1 y2 mi K → km_G E X 3 SH mi mr 0 0 16 [(0, .ref 0), (1, .int y1), (2, .int y2)] [] := by
  intro n
  induction n with
  | zero => intro y1 y2 mi h; exact h.elim
  | succ n ih =>
    intro y1 y2 mi h
    have h : (((mi 7 0) ≤ y2 → K (-1) mi) ∧ (¬ (mi 7 0) ≤ y2 → X6_held_w y1 y2 mi (fun r30 m30 => ((¬ r30 = 1 → X6_match_b16 x1 n y1 (y2 + 1) m30 K) ∧ (r30 = 1 → K y2 m30))))) := h
    refine km_iload_n hX dX6_match_16 rfl ?_
    refine km_aload_n hX dX6_match_17 rfl rfl ?_
    refine km_getr (q := 7) hX fX6_match_16 shp_0 rfl dX6_match_18 (mrp_0_3 kqmr) ?_
    refine km_geti hX fX6_match_91 shp_7 rfl dX6_match_21 ?_
    refine km_icmp_ge (tgt := 45) hX dX6_match_24 (by decide) (fun c => ?_) (fun c => ?_)
    · have h := h.1 c
      refine km_iconst (v := -1) hX dX6_match_45 (by decide) ?_
      exact km_iret hX hF rfl dX6_match_46 ⟨rfl, rfl, _, rfl, h⟩ (Nat.le_refl _) (Nat.le_refl _)
    · have h := h.2 c
      refine km_aload_n hX dX6_match_27 rfl rfl ?_
      refine km_iload_n hX dX6_match_28 rfl ?_
      refine km_iload_n hX dX6_match_29 rfl ?_
      refine km_callVi hX dX6_match_30 vX6_match_169 (X6_held_c kqmr h) (by decide) shp_0 rfl rfl (Nat.le_of_ble_eq_true rfl) (fun r30 m30 h => ?_)
      refine km_iconst (v := 1) hX dX6_match_33 (by decide) ?_
      refine km_icmp_ne (tgt := 39) hX dX6_match_34 (by decide) (fun c => ?_) (fun c => ?_)
      · have h := h.1 c
        refine km_iinc (v := 1) hX dX6_match_39 (by decide) rfl (by decide) ?_
        refine km_goto (tgt := 16) hX dX6_match_42 (by decide) ?_
        refine km_ren (ls' := [(0, .ref 0), (1, .int y1), (2, .int (y2 + 1))]) [0, 1, 2] rfl ?_
        exact ih _ _ _ h
      · have h := h.2 c
        refine km_iload_n hX dX6_match_37 rfl ?_
        exact km_iret hX hF rfl dX6_match_38 ⟨rfl, rfl, _, rfl, h⟩ (Nat.le_refl _) (Nat.le_refl _)
def X6_match_w (x1 : Int32) (mi : km_I) (K : Int32 → km_I → Prop) : Prop := X0_has_w 1 x1 mi (fun r5 m5 => ((¬ r5 = 0 → ∃ k, X6_match_b16 x1 k x1 0 m5 K) ∧ (r5 = 0 → K (-101) m5)))
set_option maxHeartbeats 4000000 in
set_option maxRecDepth 100000 in
theorem X6_match_c {E : km_E} {l : Launch} {mr : km_R} (kqmr : km_MR mr) {x1 : Int32} {mi : km_I} {K : Int32 → km_I → Prop} (h : X6_match_w x1 mi K) : km_Ci E l yX6_match wsX6_match rmX6_match [.ref 0, .int x1] SH mi mr K := by
  refine km_start (cc := cX6_match) (maxL := 3) (ret := (some .int)) (by decide) rfl (Nat.le_of_ble_eq_true rfl) ?_
  intro X hl hX hF _
  subst hl

  have h : X0_has_w 1 x1 mi (fun r5 m5 => ((¬ r5 = 0 → ∃ k, X6_match_b16 x1 k x1 0 m5 K) ∧ (r5 = 0 → K (-101) m5))) := h
  refine km_aload_n hX dX6_match_0 rfl rfl ?_
  refine km_getr (q := 1) hX fX6_match_10 shp_0 rfl dX6_match_1 (mrp_0_2 kqmr) ?_
  refine km_iload_n hX dX6_match_4 rfl ?_
  refine km_callVi hX dX6_match_5 vX6_match_172 (X0_has_c kqmr (by decide) h) (by decide) shp_1 rfl rfl (Nat.le_of_ble_eq_true rfl) (fun r5 m5 h => ?_)
  refine km_if_ne (tgt := 14) hX dX6_match_8 (by decide) (fun c => ?_) (fun c => ?_)
  · have h := h.1 c
    refine km_iconst (v := 0) hX dX6_match_14 (by decide) ?_
    refine km_istore_n hX dX6_match_15 (by decide) ?_
    obtain ⟨n9, h⟩ := h
    refine km_ren (ls' := [(0, .ref 0), (1, .int x1), (2, .int 0)]) [0, 1, 2] rfl ?_
    exact X6_match_b16_t hX hF kqmr n9 _ _ _ h
  · have h := h.2 c
    refine km_bipush (v := -101) hX dX6_match_11 (by decide) ?_
    exact km_iret hX hF rfl dX6_match_13 ⟨rfl, rfl, _, rfl, h⟩ (Nat.le_refl _) (Nat.le_refl _)
def X6_stillAlike_b64 (E : km_E) (x1 : Int32) (x2 : Int32) (Z13 : Int32 → Int32 → Int32 → Int32 → km_I → Prop) (y1 : Int32) (y2 : Int32) (y3 : Int32) (y4 : Int32) (mi : km_I) (K : Int32 → km_I → Prop) : Prop := Z13 y1 y2 y3 (y4 + 1) mi
set_option maxHeartbeats 4000000 in
set_option maxRecDepth 100000 in
theorem X6_stillAlike_b64_t {E : km_E} {X : km_X} {mr : km_R} {K : Int32 → km_I → Prop} {x1 : Int32} {x2 : Int32} {Z13 : Int32 → Int32 → Int32 → Int32 → km_I → Prop} (hX : km_ok E X rmX6_stillAlike cX6_stillAlike 5 wsX6_stillAlike RX6) (hF : km_fin E X (some .int) 0 0 (fun r sh' mi' mr' => sh' = SH ∧ mr' = mr ∧ ∃ i, r = some (.int i) ∧ K i mi')) (kqmr : km_MR mr) (hZ13 : ∀ (y1 : Int32) (y2 : Int32) (y3 : Int32) (y4 : Int32) (m : km_I), Z13 y1 y2 y3 y4 m → km_G E X 5 SH m mr 0 0 13 [(0, .ref 0), (1, .int y1), (2, .int y2), (3, .int y3), (4, .int y4)] []) : ∀ (y1 : Int32) (y2 : Int32) (y3 : Int32) (y4 : Int32) (mi : km_I), X6_stillAlike_b64 E x1 x2 Z13 y1 y2 y3 y4 mi K → km_G E X 5 SH mi mr 0 0 64 [(0, .ref 0), (1, .int y1), (2, .int y2), (3, .int y3), (4, .int y4)] [] := by
  intro y1 y2 y3 y4 mi h
  have h : Z13 y1 y2 y3 (y4 + 1) mi := h
  refine km_iinc (v := 1) hX dX6_stillAlike_64 (by decide) rfl (by decide) ?_
  refine km_goto (tgt := 13) hX dX6_stillAlike_67 (by decide) ?_
  refine km_ren (ls' := [(0, .ref 0), (1, .int y1), (2, .int y2), (3, .int y3), (4, .int (y4 + 1))]) [0, 1, 2, 3, 4] rfl ?_
  exact hZ13 _ _ _ _ _ h
def X6_stillAlike_b13 (E : km_E) (x1 : Int32) (x2 : Int32) (n : Nat) (y1 : Int32) (y2 : Int32) (y3 : Int32) (y4 : Int32) (mi : km_I) (K : Int32 → km_I → Prop) : Prop := match n with
  | 0 => False
  | n + 1 => (((Int32.ofNat (E.2.2.1 1)) ≤ y4 → K y3 mi) ∧ (¬ (Int32.ofNat (E.2.2.1 1)) ≤ y4 → (((y3 &&& (1 <<< (y4 &&& 31))) = 0 → X6_stillAlike_b64 E x1 x2 (fun v0 v1 v2 v3 m => X6_stillAlike_b13 E x1 x2 n v0 v1 v2 v3 m K) y1 y2 y3 y4 mi K) ∧ (¬ (y3 &&& (1 <<< (y4 &&& 31))) = 0 → vp_in y4 (E.2.2.1 1) ∧ X3_takeNames_w 17 (E.2.2.2.1 1 (Int32.toNatClampNeg y4)) mi (fun m41 => X6_runsAlike_w 17 m41 (fun r49 m49 => ((¬ r49 = 0 → X6_stillAlike_b64 E x1 x2 (fun v0 v1 v2 v3 m => X6_stillAlike_b13 E x1 x2 n v0 v1 v2 v3 m K) y1 y2 y3 y4 m49 K) ∧ (r49 = 0 → X6_stillAlike_b64 E x1 x2 (fun v0 v1 v2 v3 m => X6_stillAlike_b13 E x1 x2 n v0 v1 v2 v3 m K) y1 y2 (y3 &&& ((1 <<< (y4 &&& 31)) ^^^ (-1))) y4 m49 K))))))))
set_option maxHeartbeats 4000000 in
set_option maxRecDepth 100000 in
theorem X6_stillAlike_b13_t {E : km_E} {X : km_X} {mr : km_R} {K : Int32 → km_I → Prop} {x1 : Int32} {x2 : Int32} (hX : km_ok E X rmX6_stillAlike cX6_stillAlike 5 wsX6_stillAlike RX6) (hF : km_fin E X (some .int) 0 0 (fun r sh' mi' mr' => sh' = SH ∧ mr' = mr ∧ ∃ i, r = some (.int i) ∧ K i mi')) (kqmr : km_MR mr) : ∀ (n : Nat) (y1 : Int32) (y2 : Int32) (y3 : Int32) (y4 : Int32) (mi : km_I), X6_stillAlike_b13 E x1 x2 n y1 y2 y3 y4 mi K → km_G E X 5 SH mi mr 0 0 13 [(0, .ref 0), (1, .int y1), (2, .int y2), (3, .int y3), (4, .int y4)] [] := by
  intro n
  induction n with
  | zero => intro y1 y2 y3 y4 mi h; exact h.elim
  | succ n ih =>
    intro y1 y2 y3 y4 mi h
    have h : (((Int32.ofNat (E.2.2.1 1)) ≤ y4 → K y3 mi) ∧ (¬ (Int32.ofNat (E.2.2.1 1)) ≤ y4 → (((y3 &&& (1 <<< (y4 &&& 31))) = 0 → X6_stillAlike_b64 E x1 x2 (fun v0 v1 v2 v3 m => X6_stillAlike_b13 E x1 x2 n v0 v1 v2 v3 m K) y1 y2 y3 y4 mi K) ∧ (¬ (y3 &&& (1 <<< (y4 &&& 31))) = 0 → vp_in y4 (E.2.2.1 1) ∧ X3_takeNames_w 17 (E.2.2.2.1 1 (Int32.toNatClampNeg y4)) mi (fun m41 => X6_runsAlike_w 17 m41 (fun r49 m49 => ((¬ r49 = 0 → X6_stillAlike_b64 E x1 x2 (fun v0 v1 v2 v3 m => X6_stillAlike_b13 E x1 x2 n v0 v1 v2 v3 m K) y1 y2 y3 y4 m49 K) ∧ (r49 = 0 → X6_stillAlike_b64 E x1 x2 (fun v0 v1 v2 v3 m => X6_stillAlike_b13 E x1 x2 n v0 v1 v2 v3 m K) y1 y2 (y3 &&& ((1 <<< (y4 &&& 31)) ^^^ (-1))) y4 m49 K)))))))) := h
    refine km_iload hX dX6_stillAlike_13 rfl ?_
    refine km_gets1 hX dX6_stillAlike_15 sX6_stillAlike_188 ?_
    refine km_alenx hX (by decide) rfl dX6_stillAlike_18 ?_
    refine km_icmp_ge (tgt := 70) hX dX6_stillAlike_19 (by decide) (fun c => ?_) (fun c => ?_)
    · have h := h.1 c
      refine km_iload_n hX dX6_stillAlike_70 rfl ?_
      exact km_iret hX hF rfl dX6_stillAlike_71 ⟨rfl, rfl, _, rfl, h⟩ (Nat.le_refl _) (Nat.le_refl _)
    · have h := h.2 c
      refine km_iload_n hX dX6_stillAlike_22 rfl ?_
      refine km_iconst (v := 1) hX dX6_stillAlike_23 (by decide) ?_
      refine km_iload hX dX6_stillAlike_24 rfl ?_
      refine km_ishl hX dX6_stillAlike_26 ?_
      refine km_iand hX dX6_stillAlike_27 ?_
      refine km_if_eq (tgt := 64) hX dX6_stillAlike_28 (by decide) (fun c => ?_) (fun c => ?_)
      · have h := h.1 c
        refine km_ren (ls' := [(0, .ref 0), (1, .int y1), (2, .int y2), (3, .int y3), (4, .int y4)]) [0, 1, 2, 3, 4] rfl ?_
        exact X6_stillAlike_b64_t hX hF kqmr (fun v0 v1 v2 v3 m hh => ih v0 v1 v2 v3 m hh) _ _ _ _ _ h
      · have h := h.2 c
        refine km_aload_n hX dX6_stillAlike_31 rfl rfl ?_
        refine km_getr (q := 17) hX fX6_stillAlike_26 shp_0 rfl dX6_stillAlike_32 (mrp_0_5 kqmr) ?_
        refine km_gets1 hX dX6_stillAlike_35 sX6_stillAlike_188 ?_
        refine km_iload hX dX6_stillAlike_38 rfl ?_
        obtain ⟨hc, h⟩ := h
        refine km_ialdx hX (by decide) hc dX6_stillAlike_40 ?_
        refine km_callVv hX dX6_stillAlike_41 vX6_stillAlike_235 (X3_takeNames_c kqmr (by decide) h) (by decide) shp_17 rfl rfl (Nat.le_of_ble_eq_true rfl) (fun m41 h => ?_)
        refine km_aload_n hX dX6_stillAlike_44 rfl rfl ?_
        refine km_aload_n hX dX6_stillAlike_45 rfl rfl ?_
        refine km_getr (q := 17) hX fX6_stillAlike_26 shp_0 rfl dX6_stillAlike_46 (mrp_0_5 kqmr) ?_
        refine km_callVi hX dX6_stillAlike_49 vX6_stillAlike_223 (X6_runsAlike_c kqmr (by decide) h) (by decide) shp_0 rfl rfl (Nat.le_of_ble_eq_true rfl) (fun r49 m49 h => ?_)
        refine km_if_ne (tgt := 64) hX dX6_stillAlike_52 (by decide) (fun c => ?_) (fun c => ?_)
        · have h := h.1 c
          refine km_ren (ls' := [(0, .ref 0), (1, .int y1), (2, .int y2), (3, .int y3), (4, .int y4)]) [0, 1, 2, 3, 4] rfl ?_
          exact X6_stillAlike_b64_t hX hF kqmr (fun v0 v1 v2 v3 m hh => ih v0 v1 v2 v3 m hh) _ _ _ _ _ h
        · have h := h.2 c
          refine km_iload_n hX dX6_stillAlike_55 rfl ?_
          refine km_iconst (v := 1) hX dX6_stillAlike_56 (by decide) ?_
          refine km_iload hX dX6_stillAlike_57 rfl ?_
          refine km_ishl hX dX6_stillAlike_59 ?_
          refine km_iconst (v := -1) hX dX6_stillAlike_60 (by decide) ?_
          refine km_ixor hX dX6_stillAlike_61 ?_
          refine km_iand hX dX6_stillAlike_62 ?_
          refine km_istore_n hX dX6_stillAlike_63 (by decide) ?_
          refine km_ren (ls' := [(0, .ref 0), (1, .int y1), (2, .int y2), (3, .int (y3 &&& ((1 <<< (y4 &&& 31)) ^^^ (-1)))), (4, .int y4)]) [0, 1, 2, 3, 4] rfl ?_
          exact X6_stillAlike_b64_t hX hF kqmr (fun v0 v1 v2 v3 m hh => ih v0 v1 v2 v3 m hh) _ _ _ _ _ h
def X6_stillAlike_b9 (E : km_E) (x1 : Int32) (x2 : Int32) (y1 : Int32) (y2 : Int32) (z0 : Int32) (mi : km_I) (K : Int32 → km_I → Prop) : Prop := ∃ k, X6_stillAlike_b13 E x1 x2 k y1 y2 z0 0 mi K
set_option maxHeartbeats 4000000 in
set_option maxRecDepth 100000 in
theorem X6_stillAlike_b9_t {E : km_E} {X : km_X} {mr : km_R} {K : Int32 → km_I → Prop} {x1 : Int32} {x2 : Int32} (hX : km_ok E X rmX6_stillAlike cX6_stillAlike 5 wsX6_stillAlike RX6) (hF : km_fin E X (some .int) 0 0 (fun r sh' mi' mr' => sh' = SH ∧ mr' = mr ∧ ∃ i, r = some (.int i) ∧ K i mi')) (kqmr : km_MR mr) : ∀ (y1 : Int32) (y2 : Int32) (z0 : Int32) (mi : km_I), X6_stillAlike_b9 E x1 x2 y1 y2 z0 mi K → km_G E X 5 SH mi mr 0 0 9 [(0, .ref 0), (1, .int y1), (2, .int y2)] [.int z0] := by
  intro y1 y2 z0 mi h
  have h : ∃ k, X6_stillAlike_b13 E x1 x2 k y1 y2 z0 0 mi K := h
  refine km_istore_n hX dX6_stillAlike_9 (by decide) ?_
  refine km_iconst (v := 0) hX dX6_stillAlike_10 (by decide) ?_
  refine km_istore hX dX6_stillAlike_11 (by decide) ?_
  obtain ⟨n9, h⟩ := h
  refine km_ren (ls' := [(0, .ref 0), (1, .int y1), (2, .int y2), (3, .int z0), (4, .int 0)]) [0, 1, 2, 3, 4] rfl ?_
  exact X6_stillAlike_b13_t hX hF kqmr n9 _ _ _ _ _ h
def X6_stillAlike_w (E : km_E) (x1 : Int32) (x2 : Int32) (mi : km_I) (K : Int32 → km_I → Prop) : Prop := ((x2 = 0 → X6_stillAlike_b9 E x1 x2 x1 x2 0 mi K) ∧ (¬ x2 = 0 → X6_stillAlike_b9 E x1 x2 x1 x2 x1 mi K))
set_option maxHeartbeats 4000000 in
set_option maxRecDepth 100000 in
theorem X6_stillAlike_c {E : km_E} {l : Launch} {mr : km_R} (kqmr : km_MR mr) {x1 : Int32} {x2 : Int32} {mi : km_I} {K : Int32 → km_I → Prop} (h : X6_stillAlike_w E x1 x2 mi K) : km_Ci E l yX6_stillAlike wsX6_stillAlike rmX6_stillAlike [.ref 0, .int x1, .int x2] SH mi mr K := by
  refine km_start (cc := cX6_stillAlike) (maxL := 5) (ret := (some .int)) (by decide) rfl (Nat.le_of_ble_eq_true rfl) ?_
  intro X hl hX hF _
  subst hl

  have h : ((x2 = 0 → X6_stillAlike_b9 E x1 x2 x1 x2 0 mi K) ∧ (¬ x2 = 0 → X6_stillAlike_b9 E x1 x2 x1 x2 x1 mi K)) := h
  refine km_iload_n hX dX6_stillAlike_0 rfl ?_
  refine km_if_eq (tgt := 8) hX dX6_stillAlike_1 (by decide) (fun c => ?_) (fun c => ?_)
  · have h := h.1 c
    refine km_iconst (v := 0) hX dX6_stillAlike_8 (by decide) ?_
    refine km_ren (ls' := [(0, .ref 0), (1, .int x1), (2, .int x2)]) [0, 1, 2] rfl ?_
    exact X6_stillAlike_b9_t hX hF kqmr _ _ _ _ h
  · have h := h.2 c
    refine km_iload_n hX dX6_stillAlike_4 rfl ?_
    refine km_goto (tgt := 9) hX dX6_stillAlike_5 (by decide) ?_
    refine km_ren (ls' := [(0, .ref 0), (1, .int x1), (2, .int x2)]) [0, 1, 2] rfl ?_
    exact X6_stillAlike_b9_t hX hF kqmr _ _ _ _ h
def X6_find_b70 (E : km_E) (x1 : Int32) (x2 : Int32) (Z29 : Int32 → Int32 → Int32 → Int32 → km_I → Prop) (Z41 : Int32 → Int32 → Int32 → Int32 → Int32 → km_I → Prop) (y1 : Int32) (y2 : Int32) (y3 : Int32) (y4 : Int32) (y5 : Int32) (mi : km_I) (K : Int32 → km_I → Prop) : Prop := Z41 y1 y2 y3 y4 (y5 + 1) mi
set_option maxHeartbeats 4000000 in
set_option maxRecDepth 100000 in
theorem X6_find_b70_t {E : km_E} {X : km_X} {mr : km_R} {K : Int32 → km_I → Prop} {x1 : Int32} {x2 : Int32} {Z29 : Int32 → Int32 → Int32 → Int32 → km_I → Prop} {Z41 : Int32 → Int32 → Int32 → Int32 → Int32 → km_I → Prop} (hX : km_ok E X rmX6_find cX6_find 6 wsX6_find RX6) (hF : km_fin E X (some .int) 0 0 (fun r sh' mi' mr' => sh' = SH ∧ mr' = mr ∧ ∃ i, r = some (.int i) ∧ K i mi')) (kqmr : km_MR mr) (hZ29 : ∀ (y1 : Int32) (y2 : Int32) (y3 : Int32) (y4 : Int32) (m : km_I), Z29 y1 y2 y3 y4 m → km_G E X 6 SH m mr 0 0 29 [(0, .ref 0), (1, .int y1), (2, .int y2), (3, .int y3), (4, .int y4)] []) (hZ41 : ∀ (y1 : Int32) (y2 : Int32) (y3 : Int32) (y4 : Int32) (y5 : Int32) (m : km_I), Z41 y1 y2 y3 y4 y5 m → km_G E X 6 SH m mr 0 0 41 [(0, .ref 0), (1, .int y1), (2, .int y2), (3, .int y3), (4, .int y4), (5, .int y5)] []) : ∀ (y1 : Int32) (y2 : Int32) (y3 : Int32) (y4 : Int32) (y5 : Int32) (mi : km_I), X6_find_b70 E x1 x2 Z29 Z41 y1 y2 y3 y4 y5 mi K → km_G E X 6 SH mi mr 0 0 70 [(0, .ref 0), (1, .int y1), (2, .int y2), (3, .int y3), (4, .int y4), (5, .int y5)] [] := by
  intro y1 y2 y3 y4 y5 mi h
  have h : Z41 y1 y2 y3 y4 (y5 + 1) mi := h
  refine km_iinc (v := 1) hX dX6_find_70 (by decide) rfl (by decide) ?_
  refine km_goto (tgt := 41) hX dX6_find_73 (by decide) ?_
  refine km_ren (ls' := [(0, .ref 0), (1, .int y1), (2, .int y2), (3, .int y3), (4, .int y4), (5, .int (y5 + 1))]) [0, 1, 2, 3, 4, 5] rfl ?_
  exact hZ41 _ _ _ _ _ _ h
def X6_find_b41 (E : km_E) (x1 : Int32) (x2 : Int32) (Z29 : Int32 → Int32 → Int32 → Int32 → km_I → Prop) (n : Nat) (y1 : Int32) (y2 : Int32) (y3 : Int32) (y4 : Int32) (y5 : Int32) (mi : km_I) (K : Int32 → km_I → Prop) : Prop := match n with
  | 0 => False
  | n + 1 => (((mi 0 1) < y5 → Z29 y1 y2 y3 (y4 + 1) mi) ∧ (¬ (mi 0 1) < y5 → ((y3 = 0 → X6_find_b70 E x1 x2 Z29 (fun v0 v1 v2 v3 v4 m => X6_find_b41 E x1 x2 Z29 n v0 v1 v2 v3 v4 m K) y1 y2 y3 y4 y5 mi K) ∧ (¬ y3 = 0 → X6_runBoth_w y1 y2 y4 y5 mi (fun r63 m63 => X6_stillAlike_w E y3 r63 m63 (fun r66 m66 => X6_find_b70 E x1 x2 Z29 (fun v0 v1 v2 v3 v4 m => X6_find_b41 E x1 x2 Z29 n v0 v1 v2 v3 v4 m K) y1 y2 r66 y4 y5 m66 K))))))
set_option maxHeartbeats 4000000 in
set_option maxRecDepth 100000 in
theorem X6_find_b41_t {E : km_E} {X : km_X} {mr : km_R} {K : Int32 → km_I → Prop} {x1 : Int32} {x2 : Int32} {Z29 : Int32 → Int32 → Int32 → Int32 → km_I → Prop} (hX : km_ok E X rmX6_find cX6_find 6 wsX6_find RX6) (hF : km_fin E X (some .int) 0 0 (fun r sh' mi' mr' => sh' = SH ∧ mr' = mr ∧ ∃ i, r = some (.int i) ∧ K i mi')) (kqmr : km_MR mr) (hZ29 : ∀ (y1 : Int32) (y2 : Int32) (y3 : Int32) (y4 : Int32) (m : km_I), Z29 y1 y2 y3 y4 m → km_G E X 6 SH m mr 0 0 29 [(0, .ref 0), (1, .int y1), (2, .int y2), (3, .int y3), (4, .int y4)] []) : ∀ (n : Nat) (y1 : Int32) (y2 : Int32) (y3 : Int32) (y4 : Int32) (y5 : Int32) (mi : km_I), X6_find_b41 E x1 x2 Z29 n y1 y2 y3 y4 y5 mi K → km_G E X 6 SH mi mr 0 0 41 [(0, .ref 0), (1, .int y1), (2, .int y2), (3, .int y3), (4, .int y4), (5, .int y5)] [] := by
  intro n
  induction n with
  | zero => intro y1 y2 y3 y4 y5 mi h; exact h.elim
  | succ n ih =>
    intro y1 y2 y3 y4 y5 mi h
    have h : (((mi 0 1) < y5 → Z29 y1 y2 y3 (y4 + 1) mi) ∧ (¬ (mi 0 1) < y5 → ((y3 = 0 → X6_find_b70 E x1 x2 Z29 (fun v0 v1 v2 v3 v4 m => X6_find_b41 E x1 x2 Z29 n v0 v1 v2 v3 v4 m K) y1 y2 y3 y4 y5 mi K) ∧ (¬ y3 = 0 → X6_runBoth_w y1 y2 y4 y5 mi (fun r63 m63 => X6_stillAlike_w E y3 r63 m63 (fun r66 m66 => X6_find_b70 E x1 x2 Z29 (fun v0 v1 v2 v3 v4 m => X6_find_b41 E x1 x2 Z29 n v0 v1 v2 v3 v4 m K) y1 y2 r66 y4 y5 m66 K)))))) := h
    refine km_iload hX dX6_find_41 rfl ?_
    refine km_aload_n hX dX6_find_43 rfl rfl ?_
    refine km_geti hX fX6_find_59 shp_0 rfl dX6_find_44 ?_
    refine km_icmp_gt (tgt := 76) hX dX6_find_47 (by decide) (fun c => ?_) (fun c => ?_)
    · have h := h.1 c
      refine km_iinc (v := 1) hX dX6_find_76 (by decide) rfl (by decide) ?_
      refine km_goto (tgt := 29) hX dX6_find_79 (by decide) ?_
      refine km_ren (ls' := [(0, .ref 0), (1, .int y1), (2, .int y2), (3, .int y3), (4, .int (y4 + 1))]) [0, 1, 2, 3, 4] rfl ?_
      exact hZ29 _ _ _ _ _ h
    · have h := h.2 c
      refine km_iload_n hX dX6_find_50 rfl ?_
      refine km_if_eq (tgt := 70) hX dX6_find_51 (by decide) (fun c => ?_) (fun c => ?_)
      · have h := h.1 c
        refine km_ren (ls' := [(0, .ref 0), (1, .int y1), (2, .int y2), (3, .int y3), (4, .int y4), (5, .int y5)]) [0, 1, 2, 3, 4, 5] rfl ?_
        exact X6_find_b70_t hX hF kqmr hZ29 (fun v0 v1 v2 v3 v4 m hh => ih v0 v1 v2 v3 v4 m hh) _ _ _ _ _ _ h
      · have h := h.2 c
        refine km_aload_n hX dX6_find_54 rfl rfl ?_
        refine km_iload_n hX dX6_find_55 rfl ?_
        refine km_aload_n hX dX6_find_56 rfl rfl ?_
        refine km_iload_n hX dX6_find_57 rfl ?_
        refine km_iload_n hX dX6_find_58 rfl ?_
        refine km_iload hX dX6_find_59 rfl ?_
        refine km_iload hX dX6_find_61 rfl ?_
        refine km_callVi hX dX6_find_63 vX6_find_180 (X6_runBoth_c kqmr h) (by decide) shp_0 rfl rfl (Nat.le_of_ble_eq_true rfl) (fun r63 m63 h => ?_)
        refine km_callVi hX dX6_find_66 vX6_find_184 (X6_stillAlike_c kqmr h) (by decide) shp_0 rfl rfl (Nat.le_of_ble_eq_true rfl) (fun r66 m66 h => ?_)
        refine km_istore_n hX dX6_find_69 (by decide) ?_
        refine km_ren (ls' := [(0, .ref 0), (1, .int y1), (2, .int y2), (3, .int r66), (4, .int y4), (5, .int y5)]) [0, 1, 2, 3, 4, 5] rfl ?_
        exact X6_find_b70_t hX hF kqmr hZ29 (fun v0 v1 v2 v3 v4 m hh => ih v0 v1 v2 v3 v4 m hh) _ _ _ _ _ _ h
def X6_find_b29 (E : km_E) (x1 : Int32) (x2 : Int32) (n : Nat) (y1 : Int32) (y2 : Int32) (y3 : Int32) (y4 : Int32) (mi : km_I) (K : Int32 → km_I → Prop) : Prop := match n with
  | 0 => False
  | n + 1 => (((mi 0 1) < y4 → ((¬ y3 = 0 → J6_numberOfTrailingZeros_0f7a4_w y3 mi (fun r94 m94 => vp_in r94 (E.2.2.1 1) ∧ K (E.2.2.2.1 1 (Int32.toNatClampNeg r94)) m94)) ∧ (y3 = 0 → K (-1) mi))) ∧ (¬ (mi 0 1) < y4 → ∃ k, X6_find_b41 E x1 x2 (fun v0 v1 v2 v3 m => X6_find_b29 E x1 x2 n v0 v1 v2 v3 m K) k y1 y2 y3 y4 0 mi K))
set_option maxHeartbeats 4000000 in
set_option maxRecDepth 100000 in
theorem X6_find_b29_t {E : km_E} {X : km_X} {mr : km_R} {K : Int32 → km_I → Prop} {x1 : Int32} {x2 : Int32} (hX : km_ok E X rmX6_find cX6_find 6 wsX6_find RX6) (hF : km_fin E X (some .int) 0 0 (fun r sh' mi' mr' => sh' = SH ∧ mr' = mr ∧ ∃ i, r = some (.int i) ∧ K i mi')) (kqmr : km_MR mr) : ∀ (n : Nat) (y1 : Int32) (y2 : Int32) (y3 : Int32) (y4 : Int32) (mi : km_I), X6_find_b29 E x1 x2 n y1 y2 y3 y4 mi K → km_G E X 6 SH mi mr 0 0 29 [(0, .ref 0), (1, .int y1), (2, .int y2), (3, .int y3), (4, .int y4)] [] := by
  intro n
  induction n with
  | zero => intro y1 y2 y3 y4 mi h; exact h.elim
  | succ n ih =>
    intro y1 y2 y3 y4 mi h
    have h : (((mi 0 1) < y4 → ((¬ y3 = 0 → J6_numberOfTrailingZeros_0f7a4_w y3 mi (fun r94 m94 => vp_in r94 (E.2.2.1 1) ∧ K (E.2.2.2.1 1 (Int32.toNatClampNeg r94)) m94)) ∧ (y3 = 0 → K (-1) mi))) ∧ (¬ (mi 0 1) < y4 → ∃ k, X6_find_b41 E x1 x2 (fun v0 v1 v2 v3 m => X6_find_b29 E x1 x2 n v0 v1 v2 v3 m K) k y1 y2 y3 y4 0 mi K)) := h
    refine km_iload hX dX6_find_29 rfl ?_
    refine km_aload_n hX dX6_find_31 rfl rfl ?_
    refine km_geti hX fX6_find_59 shp_0 rfl dX6_find_32 ?_
    refine km_icmp_gt (tgt := 82) hX dX6_find_35 (by decide) (fun c => ?_) (fun c => ?_)
    · have h := h.1 c
      refine km_iload_n hX dX6_find_82 rfl ?_
      refine km_if_ne (tgt := 90) hX dX6_find_83 (by decide) (fun c => ?_) (fun c => ?_)
      · have h := h.1 c
        refine km_gets1 hX dX6_find_90 sX6_find_188 ?_
        refine km_iload_n hX dX6_find_93 rfl ?_
        refine km_callSi hX dX6_find_94 vX6_find_191 (J6_numberOfTrailingZeros_0f7a4_c kqmr h) (by decide) rfl rfl (Nat.le_of_ble_eq_true rfl) (fun r94 m94 h => ?_)
        obtain ⟨hc, h⟩ := h
        refine km_ialdx hX (by decide) hc dX6_find_97 ?_
        exact km_iret hX hF rfl dX6_find_98 ⟨rfl, rfl, _, rfl, h⟩ (Nat.le_refl _) (Nat.le_refl _)
      · have h := h.2 c
        refine km_iconst (v := -1) hX dX6_find_86 (by decide) ?_
        refine km_goto (tgt := 98) hX dX6_find_87 (by decide) ?_
        exact km_iret hX hF rfl dX6_find_98 ⟨rfl, rfl, _, rfl, h⟩ (Nat.le_refl _) (Nat.le_refl _)
    · have h := h.2 c
      refine km_iconst (v := 0) hX dX6_find_38 (by decide) ?_
      refine km_istore hX dX6_find_39 (by decide) ?_
      obtain ⟨n9, h⟩ := h
      refine km_ren (ls' := [(0, .ref 0), (1, .int y1), (2, .int y2), (3, .int y3), (4, .int y4), (5, .int 0)]) [0, 1, 2, 3, 4, 5] rfl ?_
      exact X6_find_b41_t hX hF kqmr (fun v0 v1 v2 v3 m hh => ih v0 v1 v2 v3 m hh) n9 _ _ _ _ _ _ h
def X6_find_w (E : km_E) (x1 : Int32) (x2 : Int32) (mi : km_I) (K : Int32 → km_I → Prop) : Prop := X6_isPair_w x1 x2 mi (fun r3 m3 => ((¬ r3 = 0 → X3_takeGroups_w 17 13 m3 (fun m20 => ∃ k, X6_find_b29 E x1 x2 k x1 x2 16777215 0 m20 K)) ∧ (r3 = 0 → K (-101) m3)))
set_option maxHeartbeats 4000000 in
set_option maxRecDepth 100000 in
theorem X6_find_c {E : km_E} {l : Launch} {mr : km_R} (kqmr : km_MR mr) {x1 : Int32} {x2 : Int32} {mi : km_I} {K : Int32 → km_I → Prop} (h : X6_find_w E x1 x2 mi K) : km_Ci E l yX6_find wsX6_find rmX6_find [.ref 0, .int x1, .int x2] SH mi mr K := by
  refine km_start (cc := cX6_find) (maxL := 6) (ret := (some .int)) (by decide) rfl (Nat.le_of_ble_eq_true rfl) ?_
  intro X hl hX hF _
  subst hl

  have h : X6_isPair_w x1 x2 mi (fun r3 m3 => ((¬ r3 = 0 → X3_takeGroups_w 17 13 m3 (fun m20 => ∃ k, X6_find_b29 E x1 x2 k x1 x2 16777215 0 m20 K)) ∧ (r3 = 0 → K (-101) m3))) := h
  refine km_aload_n hX dX6_find_0 rfl rfl ?_
  refine km_iload_n hX dX6_find_1 rfl ?_
  refine km_iload_n hX dX6_find_2 rfl ?_
  refine km_callVi hX dX6_find_3 vX6_find_166 (X6_isPair_c kqmr h) (by decide) shp_0 rfl rfl (Nat.le_of_ble_eq_true rfl) (fun r3 m3 h => ?_)
  refine km_if_ne (tgt := 12) hX dX6_find_6 (by decide) (fun c => ?_) (fun c => ?_)
  · have h := h.1 c
    refine km_aload_n hX dX6_find_12 rfl rfl ?_
    refine km_getr (q := 17) hX fX6_find_26 shp_0 rfl dX6_find_13 (mrp_0_5 kqmr) ?_
    refine km_aload_n hX dX6_find_16 rfl rfl ?_
    refine km_getr (q := 13) hX fX6_find_22 shp_0 rfl dX6_find_17 (mrp_0_4 kqmr) ?_
    refine km_callVv hX dX6_find_20 vX6_find_175 (X3_takeGroups_c kqmr (by decide) (by decide) h) (by decide) shp_17 rfl rfl (Nat.le_of_ble_eq_true rfl) (fun m20 h => ?_)
    refine km_ldc hX dX6_find_23 lX6_find_179 ?_
    refine km_istore_n hX dX6_find_25 (by decide) ?_
    refine km_iconst (v := 0) hX dX6_find_26 (by decide) ?_
    refine km_istore hX dX6_find_27 (by decide) ?_
    obtain ⟨n9, h⟩ := h
    refine km_ren (ls' := [(0, .ref 0), (1, .int x1), (2, .int x2), (3, .int 16777215), (4, .int 0)]) [0, 1, 2, 3, 4] rfl ?_
    exact X6_find_b29_t hX hF kqmr n9 _ _ _ _ _ h
  · have h := h.2 c
    refine km_bipush (v := -101) hX dX6_find_9 (by decide) ?_
    exact km_iret hX hF rfl dX6_find_11 ⟨rfl, rfl, _, rfl, h⟩ (Nat.le_refl _) (Nat.le_refl _)
def X6_assume_w (x1 : Int32) (x2 : Int32) (mi : km_I) (K : Int32 → km_I → Prop) : Prop := X6_isPair_w x1 x2 mi (fun r3 m3 => ((¬ r3 = 0 → X2_has_w x1 x2 m3 (fun r18 m18 => ((r18 = 0 → ((¬ (m18 21 0) = 6 → X2_add_w x1 x2 m18 (fun r50 m50 => K r50 m50)) ∧ ((m18 21 0) = 6 → K (-104) m18))) ∧ (¬ r18 = 0 → K (-103) m18)))) ∧ (r3 = 0 → K (-101) m3)))
set_option maxHeartbeats 4000000 in
set_option maxRecDepth 100000 in
theorem X6_assume_c {E : km_E} {l : Launch} {mr : km_R} (kqmr : km_MR mr) {x1 : Int32} {x2 : Int32} {mi : km_I} {K : Int32 → km_I → Prop} (h : X6_assume_w x1 x2 mi K) : km_Ci E l yX6_assume wsX6_assume rmX6_assume [.ref 0, .int x1, .int x2] SH mi mr K := by
  refine km_start (cc := cX6_assume) (maxL := 3) (ret := (some .int)) (by decide) rfl (Nat.le_of_ble_eq_true rfl) ?_
  intro X hl hX hF _
  subst hl

  have h : X6_isPair_w x1 x2 mi (fun r3 m3 => ((¬ r3 = 0 → X2_has_w x1 x2 m3 (fun r18 m18 => ((r18 = 0 → ((¬ (m18 21 0) = 6 → X2_add_w x1 x2 m18 (fun r50 m50 => K r50 m50)) ∧ ((m18 21 0) = 6 → K (-104) m18))) ∧ (¬ r18 = 0 → K (-103) m18)))) ∧ (r3 = 0 → K (-101) m3))) := h
  refine km_aload_n hX dX6_assume_0 rfl rfl ?_
  refine km_iload_n hX dX6_assume_1 rfl ?_
  refine km_iload_n hX dX6_assume_2 rfl ?_
  refine km_callVi hX dX6_assume_3 vX6_assume_166 (X6_isPair_c kqmr h) (by decide) shp_0 rfl rfl (Nat.le_of_ble_eq_true rfl) (fun r3 m3 h => ?_)
  refine km_if_ne (tgt := 12) hX dX6_assume_6 (by decide) (fun c => ?_) (fun c => ?_)
  · have h := h.1 c
    refine km_aload_n hX dX6_assume_12 rfl rfl ?_
    refine km_getr (q := 21) hX fX6_assume_32 shp_0 rfl dX6_assume_13 (mrp_0_6 kqmr) ?_
    refine km_iload_n hX dX6_assume_16 rfl ?_
    refine km_iload_n hX dX6_assume_17 rfl ?_
    refine km_callVi hX dX6_assume_18 vX6_assume_196 (X2_has_c kqmr h) (by decide) shp_21 rfl rfl (Nat.le_of_ble_eq_true rfl) (fun r18 m18 h => ?_)
    refine km_if_eq (tgt := 27) hX dX6_assume_21 (by decide) (fun c => ?_) (fun c => ?_)
    · have h := h.1 c
      refine km_aload_n hX dX6_assume_27 rfl rfl ?_
      refine km_getr (q := 21) hX fX6_assume_32 shp_0 rfl dX6_assume_28 (mrp_0_6 kqmr) ?_
      refine km_geti hX fX6_assume_198 shp_21 rfl dX6_assume_31 ?_
      refine km_bipush (v := 6) hX dX6_assume_34 (by decide) ?_
      refine km_icmp_ne (tgt := 44) hX dX6_assume_36 (by decide) (fun c => ?_) (fun c => ?_)
      · have h := h.1 c
        refine km_aload_n hX dX6_assume_44 rfl rfl ?_
        refine km_getr (q := 21) hX fX6_assume_32 shp_0 rfl dX6_assume_45 (mrp_0_6 kqmr) ?_
        refine km_iload_n hX dX6_assume_48 rfl ?_
        refine km_iload_n hX dX6_assume_49 rfl ?_
        refine km_callVi hX dX6_assume_50 vX6_assume_201 (X2_add_c kqmr h) (by decide) shp_21 rfl rfl (Nat.le_of_ble_eq_true rfl) (fun r50 m50 h => ?_)
        exact km_iret hX hF rfl dX6_assume_53 ⟨rfl, rfl, _, rfl, h⟩ (Nat.le_refl _) (Nat.le_refl _)
      · have h := h.2 c
        refine km_bipush (v := -104) hX dX6_assume_39 (by decide) ?_
        refine km_goto (tgt := 53) hX dX6_assume_41 (by decide) ?_
        exact km_iret hX hF rfl dX6_assume_53 ⟨rfl, rfl, _, rfl, h⟩ (Nat.le_refl _) (Nat.le_refl _)
    · have h := h.2 c
      refine km_bipush (v := -103) hX dX6_assume_24 (by decide) ?_
      exact km_iret hX hF rfl dX6_assume_26 ⟨rfl, rfl, _, rfl, h⟩ (Nat.le_refl _) (Nat.le_refl _)
  · have h := h.2 c
    refine km_bipush (v := -101) hX dX6_assume_9 (by decide) ?_
    exact km_iret hX hF rfl dX6_assume_11 ⟨rfl, rfl, _, rfl, h⟩ (Nat.le_refl _) (Nat.le_refl _)
def X6_drop_w (mi : km_I) (K : Int32 → km_I → Prop) : Prop := (∀ m13, m13 = km_u mi 21 0 0 → K (mi 21 0) m13)
set_option maxHeartbeats 4000000 in
set_option maxRecDepth 100000 in
theorem X6_drop_c {E : km_E} {l : Launch} {mr : km_R} (kqmr : km_MR mr) {mi : km_I} {K : Int32 → km_I → Prop} (h : X6_drop_w mi K) : km_Ci E l yX6_drop wsX6_drop rmX6_drop [.ref 0] SH mi mr K := by
  refine km_start (cc := cX6_drop) (maxL := 2) (ret := (some .int)) (by decide) rfl (Nat.le_of_ble_eq_true rfl) ?_
  intro X hl hX hF _
  subst hl

  have h : (∀ m13, m13 = km_u mi 21 0 0 → K (mi 21 0) m13) := h
  refine km_aload_n hX dX6_drop_0 rfl rfl ?_
  refine km_getr (q := 21) hX fX6_drop_32 shp_0 rfl dX6_drop_1 (mrp_0_6 kqmr) ?_
  refine km_geti hX fX6_drop_198 shp_21 rfl dX6_drop_4 ?_
  refine km_istore_n hX dX6_drop_7 (by decide) ?_
  refine km_aload_n hX dX6_drop_8 rfl rfl ?_
  refine km_getr (q := 21) hX fX6_drop_32 shp_0 rfl dX6_drop_9 (mrp_0_6 kqmr) ?_
  refine km_iconst (v := 0) hX dX6_drop_12 (by decide) ?_
  refine km_putiN hX pX6_drop_198 shp_21 rfl dX6_drop_13 (fun m13 e13 => ?_)
  have h := h m13 e13
  refine km_iload_n hX dX6_drop_16 rfl ?_
  exact km_iret hX hF rfl dX6_drop_17 ⟨rfl, rfl, _, rfl, h⟩ (Nat.le_refl _) (Nat.le_refl _)
def X6_callingsAlike_b18 (q1 : Nat) (q2 : Nat) (n : Nat) (y3 : Int32) (y4 : Int32) (mi : km_I) (K : Int32 → km_I → Prop) : Prop := match n with
  | 0 => False
  | n + 1 => (((mi q1 8) ≤ y4 → ((¬ (mi q1 5) = (mi q2 5) → K 0 mi) ∧ ((mi q1 5) = (mi q2 5) → X3_alike_w 13 q1 q2 y3 (mi q1 5) mi (fun r118 m118 => ((r118 = 0 → K 0 m118) ∧ (¬ r118 = 0 → K 1 m118)))))) ∧ (¬ (mi q1 8) ≤ y4 → vp_in y4 2 ∧ X5_sameCalling_w q1 q2 y4 mi (fun r40 m40 => ((r40 = 0 → K 0 m40) ∧ (¬ r40 = 0 → vp_in y4 2 ∧ vp_in y4 2 ∧ X2_has_w (m40 (q1 + 3) (Int32.toNatClampNeg y4)) (m40 (q2 + 3) (Int32.toNatClampNeg y4)) m40 (fun r64 m64 => ((r64 = 0 → K 0 m64) ∧ (¬ r64 = 0 → X3_alike_w 13 q1 q2 y3 (mi (q1 + 6) (Int32.toNatClampNeg y4)) m64 (fun r79 m79 => ((¬ r79 = 0 → X6_callingsAlike_b18 q1 q2 n (mi (q1 + 6) (Int32.toNatClampNeg y4)) (y4 + 1) m79 K) ∧ (r79 = 0 → K 0 m79)))))))))))
set_option maxHeartbeats 4000000 in
set_option maxRecDepth 100000 in
theorem X6_callingsAlike_b18_t {E : km_E} {X : km_X} {mr : km_R} {K : Int32 → km_I → Prop} {q1 : Nat} {q2 : Nat} (hX : km_ok E X rmX6_callingsAlike cX6_callingsAlike 6 wsX6_callingsAlike RX6) (hF : km_fin E X (some .boolean) 0 0 (fun r sh' mi' mr' => sh' = SH ∧ mr' = mr ∧ ∃ i, r = some (.int i) ∧ K i mi')) (kqmr : km_MR mr) (kqq1 : km_isT q1) (kqq2 : km_isT q2) : ∀ (n : Nat) (y3 : Int32) (y4 : Int32) (mi : km_I), X6_callingsAlike_b18 q1 q2 n y3 y4 mi K → km_G E X 6 SH mi mr 0 0 18 [(0, .ref 0), (1, .ref q1), (2, .ref q2), (3, .int y3), (4, .int y4)] [] := by
  obtain ⟨sq10, sq11, sq12, sq13, sq14, sq15, sq16, mq11, mq12, mq13, mq14, mq15, mq16⟩ := km_fT kqmr kqq1
  obtain ⟨sq20, sq21, sq22, sq23, sq24, sq25, sq26, mq21, mq22, mq23, mq24, mq25, mq26⟩ := km_fT kqmr kqq2
  intro n
  induction n with
  | zero => intro y3 y4 mi h; exact h.elim
  | succ n ih =>
    intro y3 y4 mi h
    have h : (((mi q1 8) ≤ y4 → ((¬ (mi q1 5) = (mi q2 5) → K 0 mi) ∧ ((mi q1 5) = (mi q2 5) → X3_alike_w 13 q1 q2 y3 (mi q1 5) mi (fun r118 m118 => ((r118 = 0 → K 0 m118) ∧ (¬ r118 = 0 → K 1 m118)))))) ∧ (¬ (mi q1 8) ≤ y4 → vp_in y4 2 ∧ X5_sameCalling_w q1 q2 y4 mi (fun r40 m40 => ((r40 = 0 → K 0 m40) ∧ (¬ r40 = 0 → vp_in y4 2 ∧ vp_in y4 2 ∧ X2_has_w (m40 (q1 + 3) (Int32.toNatClampNeg y4)) (m40 (q2 + 3) (Int32.toNatClampNeg y4)) m40 (fun r64 m64 => ((r64 = 0 → K 0 m64) ∧ (¬ r64 = 0 → X3_alike_w 13 q1 q2 y3 (mi (q1 + 6) (Int32.toNatClampNeg y4)) m64 (fun r79 m79 => ((¬ r79 = 0 → X6_callingsAlike_b18 q1 q2 n (mi (q1 + 6) (Int32.toNatClampNeg y4)) (y4 + 1) m79 K) ∧ (r79 = 0 → K 0 m79))))))))))) := h
    refine km_iload hX dX6_callingsAlike_18 rfl ?_
    refine km_aload_n hX dX6_callingsAlike_20 rfl rfl ?_
    refine km_geti hX fX6_callingsAlike_258 (by assumption) rfl dX6_callingsAlike_21 ?_
    refine km_icmp_ge (tgt := 96) hX dX6_callingsAlike_24 (by decide) (fun c => ?_) (fun c => ?_)
    · have h := h.1 c
      refine km_aload_n hX dX6_callingsAlike_96 rfl rfl ?_
      refine km_geti hX fX6_callingsAlike_143 (by assumption) rfl dX6_callingsAlike_97 ?_
      refine km_aload_n hX dX6_callingsAlike_100 rfl rfl ?_
      refine km_geti hX fX6_callingsAlike_143 (by assumption) rfl dX6_callingsAlike_101 ?_
      refine km_icmp_ne (tgt := 128) hX dX6_callingsAlike_104 (by decide) (fun c => ?_) (fun c => ?_)
      · have h := h.1 c
        refine km_iconst (v := 0) hX dX6_callingsAlike_128 (by decide) ?_
        exact km_zret hX hF rfl dX6_callingsAlike_129 (Or.inl rfl) ⟨rfl, rfl, _, rfl, h⟩ (Nat.le_refl _) (Nat.le_refl _)
      · have h := h.2 c
        refine km_aload_n hX dX6_callingsAlike_107 rfl rfl ?_
        refine km_getr (q := 13) hX fX6_callingsAlike_22 shp_0 rfl dX6_callingsAlike_108 (mrp_0_4 kqmr) ?_
        refine km_aload_n hX dX6_callingsAlike_111 rfl rfl ?_
        refine km_aload_n hX dX6_callingsAlike_112 rfl rfl ?_
        refine km_iload_n hX dX6_callingsAlike_113 rfl ?_
        refine km_aload_n hX dX6_callingsAlike_114 rfl rfl ?_
        refine km_geti hX fX6_callingsAlike_143 (by assumption) rfl dX6_callingsAlike_115 ?_
        refine km_callVi hX dX6_callingsAlike_118 vX6_callingsAlike_231 (X3_alike_c kqmr (by decide) kqq1 kqq2 h) (by decide) shp_13 rfl rfl (Nat.le_of_ble_eq_true rfl) (fun r118 m118 h => ?_)
        refine km_if_eq (tgt := 128) hX dX6_callingsAlike_121 (by decide) (fun c => ?_) (fun c => ?_)
        · have h := h.1 c
          refine km_iconst (v := 0) hX dX6_callingsAlike_128 (by decide) ?_
          exact km_zret hX hF rfl dX6_callingsAlike_129 (Or.inl rfl) ⟨rfl, rfl, _, rfl, h⟩ (Nat.le_refl _) (Nat.le_refl _)
        · have h := h.2 c
          refine km_iconst (v := 1) hX dX6_callingsAlike_124 (by decide) ?_
          refine km_goto (tgt := 129) hX dX6_callingsAlike_125 (by decide) ?_
          exact km_zret hX hF rfl dX6_callingsAlike_129 (Or.inr rfl) ⟨rfl, rfl, _, rfl, h⟩ (Nat.le_refl _) (Nat.le_refl _)
    · have h := h.2 c
      refine km_aload_n hX dX6_callingsAlike_27 rfl rfl ?_
      refine km_getr (q := (q1 + 6)) hX fX6_callingsAlike_270 (by assumption) rfl dX6_callingsAlike_28 (by assumption) ?_
      refine km_iload hX dX6_callingsAlike_31 rfl ?_
      obtain ⟨hc, h⟩ := h
      refine km_iald hX (by assumption) hc dX6_callingsAlike_33 ?_
      refine km_istore hX dX6_callingsAlike_34 (by decide) ?_
      refine km_aload_n hX dX6_callingsAlike_36 rfl rfl ?_
      refine km_aload_n hX dX6_callingsAlike_37 rfl rfl ?_
      refine km_iload hX dX6_callingsAlike_38 rfl ?_
      refine km_callVi hX dX6_callingsAlike_40 vX6_callingsAlike_273 (X5_sameCalling_c kqmr kqq1 kqq2 h) (by decide) (by assumption) rfl rfl (Nat.le_of_ble_eq_true rfl) (fun r40 m40 h => ?_)
      refine km_if_eq (tgt := 85) hX dX6_callingsAlike_43 (by decide) (fun c => ?_) (fun c => ?_)
      · have h := h.1 c
        refine km_iconst (v := 0) hX dX6_callingsAlike_85 (by decide) ?_
        exact km_zret hX hF rfl dX6_callingsAlike_86 (Or.inl rfl) ⟨rfl, rfl, _, rfl, h⟩ (Nat.le_refl _) (Nat.le_refl _)
      · have h := h.2 c
        refine km_aload_n hX dX6_callingsAlike_46 rfl rfl ?_
        refine km_getr (q := 21) hX fX6_callingsAlike_32 shp_0 rfl dX6_callingsAlike_47 (mrp_0_6 kqmr) ?_
        refine km_aload_n hX dX6_callingsAlike_50 rfl rfl ?_
        refine km_getr (q := (q1 + 3)) hX fX6_callingsAlike_277 (by assumption) rfl dX6_callingsAlike_51 (by assumption) ?_
        refine km_iload hX dX6_callingsAlike_54 rfl ?_
        obtain ⟨hc, h⟩ := h
        refine km_iald hX (by assumption) hc dX6_callingsAlike_56 ?_
        refine km_aload_n hX dX6_callingsAlike_57 rfl rfl ?_
        refine km_getr (q := (q2 + 3)) hX fX6_callingsAlike_277 (by assumption) rfl dX6_callingsAlike_58 (by assumption) ?_
        refine km_iload hX dX6_callingsAlike_61 rfl ?_
        obtain ⟨hc, h⟩ := h
        refine km_iald hX (by assumption) hc dX6_callingsAlike_63 ?_
        refine km_callVi hX dX6_callingsAlike_64 vX6_callingsAlike_196 (X2_has_c kqmr h) (by decide) shp_21 rfl rfl (Nat.le_of_ble_eq_true rfl) (fun r64 m64 h => ?_)
        refine km_if_eq (tgt := 85) hX dX6_callingsAlike_67 (by decide) (fun c => ?_) (fun c => ?_)
        · have h := h.1 c
          refine km_iconst (v := 0) hX dX6_callingsAlike_85 (by decide) ?_
          exact km_zret hX hF rfl dX6_callingsAlike_86 (Or.inl rfl) ⟨rfl, rfl, _, rfl, h⟩ (Nat.le_refl _) (Nat.le_refl _)
        · have h := h.2 c
          refine km_aload_n hX dX6_callingsAlike_70 rfl rfl ?_
          refine km_getr (q := 13) hX fX6_callingsAlike_22 shp_0 rfl dX6_callingsAlike_71 (mrp_0_4 kqmr) ?_
          refine km_aload_n hX dX6_callingsAlike_74 rfl rfl ?_
          refine km_aload_n hX dX6_callingsAlike_75 rfl rfl ?_
          refine km_iload_n hX dX6_callingsAlike_76 rfl ?_
          refine km_iload hX dX6_callingsAlike_77 rfl ?_
          refine km_callVi hX dX6_callingsAlike_79 vX6_callingsAlike_231 (X3_alike_c kqmr (by decide) kqq1 kqq2 h) (by decide) shp_13 rfl rfl (Nat.le_of_ble_eq_true rfl) (fun r79 m79 h => ?_)
          refine km_if_ne (tgt := 87) hX dX6_callingsAlike_82 (by decide) (fun c => ?_) (fun c => ?_)
          · have h := h.1 c
            refine km_iload hX dX6_callingsAlike_87 rfl ?_
            refine km_istore_n hX dX6_callingsAlike_89 (by decide) ?_
            refine km_iinc (v := 1) hX dX6_callingsAlike_90 (by decide) rfl (by decide) ?_
            refine km_goto (tgt := 18) hX dX6_callingsAlike_93 (by decide) ?_
            refine km_ren (ls' := [(0, .ref 0), (1, .ref q1), (2, .ref q2), (3, .int (mi (q1 + 6) (Int32.toNatClampNeg y4))), (4, .int (y4 + 1))]) [0, 1, 2, 3, 4] rfl ?_
            exact ih _ _ _ h
          · have h := h.2 c
            refine km_iconst (v := 0) hX dX6_callingsAlike_85 (by decide) ?_
            exact km_zret hX hF rfl dX6_callingsAlike_86 (Or.inl rfl) ⟨rfl, rfl, _, rfl, h⟩ (Nat.le_refl _) (Nat.le_refl _)
def X6_callingsAlike_w (q1 : Nat) (q2 : Nat) (mi : km_I) (K : Int32 → km_I → Prop) : Prop := (((mi q1 8) = (mi q2 8) → ∃ k, X6_callingsAlike_b18 q1 q2 k 0 0 mi K) ∧ (¬ (mi q1 8) = (mi q2 8) → K 0 mi))
set_option maxHeartbeats 4000000 in
set_option maxRecDepth 100000 in
theorem X6_callingsAlike_c {E : km_E} {l : Launch} {mr : km_R} (kqmr : km_MR mr) {q1 : Nat} {q2 : Nat} (kqq1 : km_isT q1) (kqq2 : km_isT q2) {mi : km_I} {K : Int32 → km_I → Prop} (h : X6_callingsAlike_w q1 q2 mi K) : km_Ci E l yX6_callingsAlike wsX6_callingsAlike rmX6_callingsAlike [.ref 0, .ref q1, .ref q2] SH mi mr K := by
  refine km_start (cc := cX6_callingsAlike) (maxL := 6) (ret := (some .boolean)) (by decide) rfl (Nat.le_of_ble_eq_true rfl) ?_
  intro X hl hX hF _
  subst hl
  obtain ⟨sq10, sq11, sq12, sq13, sq14, sq15, sq16, mq11, mq12, mq13, mq14, mq15, mq16⟩ := km_fT kqmr kqq1
  obtain ⟨sq20, sq21, sq22, sq23, sq24, sq25, sq26, mq21, mq22, mq23, mq24, mq25, mq26⟩ := km_fT kqmr kqq2
  have h : (((mi q1 8) = (mi q2 8) → ∃ k, X6_callingsAlike_b18 q1 q2 k 0 0 mi K) ∧ (¬ (mi q1 8) = (mi q2 8) → K 0 mi)) := h
  refine km_aload_n hX dX6_callingsAlike_0 rfl rfl ?_
  refine km_geti hX fX6_callingsAlike_258 (by assumption) rfl dX6_callingsAlike_1 ?_
  refine km_aload_n hX dX6_callingsAlike_4 rfl rfl ?_
  refine km_geti hX fX6_callingsAlike_258 (by assumption) rfl dX6_callingsAlike_5 ?_
  refine km_icmp_eq (tgt := 13) hX dX6_callingsAlike_8 (by decide) (fun c => ?_) (fun c => ?_)
  · have h := h.1 c
    refine km_iconst (v := 0) hX dX6_callingsAlike_13 (by decide) ?_
    refine km_istore_n hX dX6_callingsAlike_14 (by decide) ?_
    refine km_iconst (v := 0) hX dX6_callingsAlike_15 (by decide) ?_
    refine km_istore hX dX6_callingsAlike_16 (by decide) ?_
    obtain ⟨n9, h⟩ := h
    refine km_ren (ls' := [(0, .ref 0), (1, .ref q1), (2, .ref q2), (3, .int 0), (4, .int 0)]) [0, 1, 2, 3, 4] rfl ?_
    exact X6_callingsAlike_b18_t hX hF kqmr kqq1 kqq2 n9 _ _ _ h
  · have h := h.2 c
    refine km_iconst (v := 0) hX dX6_callingsAlike_11 (by decide) ?_
    exact km_zret hX hF rfl dX6_callingsAlike_12 (Or.inl rfl) ⟨rfl, rfl, _, rfl, h⟩ (Nat.le_refl _) (Nat.le_refl _)
def X6_walksAnswer_w (mi : km_I) (K : Int32 → km_I → Prop) : Prop := (((mi 63 0) = 2 → K 2 mi) ∧ (¬ (mi 63 0) = 2 → ((¬ (mi 75 0) = 2 → X5_endsLike_w 63 75 mi (fun r36 m36 => ((r36 = 0 → K 0 m36) ∧ (¬ r36 = 0 → X6_callingsAlike_w 63 75 m36 (fun r45 m45 => ((r45 = 0 → K 0 m45) ∧ (¬ r45 = 0 → K 1 m45))))))) ∧ ((mi 75 0) = 2 → K 2 mi))))
set_option maxHeartbeats 4000000 in
set_option maxRecDepth 100000 in
theorem X6_walksAnswer_c {E : km_E} {l : Launch} {mr : km_R} (kqmr : km_MR mr) {mi : km_I} {K : Int32 → km_I → Prop} (h : X6_walksAnswer_w mi K) : km_Ci E l yX6_walksAnswer wsX6_walksAnswer rmX6_walksAnswer [.ref 0] SH mi mr K := by
  refine km_start (cc := cX6_walksAnswer) (maxL := 3) (ret := (some .int)) (by decide) rfl (Nat.le_of_ble_eq_true rfl) ?_
  intro X hl hX hF _
  subst hl

  have h : (((mi 63 0) = 2 → K 2 mi) ∧ (¬ (mi 63 0) = 2 → ((¬ (mi 75 0) = 2 → X5_endsLike_w 63 75 mi (fun r36 m36 => ((r36 = 0 → K 0 m36) ∧ (¬ r36 = 0 → X6_callingsAlike_w 63 75 m36 (fun r45 m45 => ((r45 = 0 → K 0 m45) ∧ (¬ r45 = 0 → K 1 m45))))))) ∧ ((mi 75 0) = 2 → K 2 mi)))) := h
  refine km_aload_n hX dX6_walksAnswer_0 rfl rfl ?_
  refine km_getr (q := 62) hX fX6_walksAnswer_77 shp_0 rfl dX6_walksAnswer_1 (mrp_0_11 kqmr) ?_
  refine km_getr (q := 63) hX fX6_walksAnswer_125 shp_62 rfl dX6_walksAnswer_4 (mrp_62_0 kqmr) ?_
  refine km_astore_n hX dX6_walksAnswer_7 (by decide) ?_
  refine km_aload_n hX dX6_walksAnswer_8 rfl rfl ?_
  refine km_getr (q := 74) hX fX6_walksAnswer_80 shp_0 rfl dX6_walksAnswer_9 (mrp_0_12 kqmr) ?_
  refine km_getr (q := 75) hX fX6_walksAnswer_125 shp_74 rfl dX6_walksAnswer_12 (mrp_74_0 kqmr) ?_
  refine km_astore_n hX dX6_walksAnswer_15 (by decide) ?_
  refine km_aload_n hX dX6_walksAnswer_16 rfl rfl ?_
  refine km_geti hX fX6_walksAnswer_129 shp_63 rfl dX6_walksAnswer_17 ?_
  refine km_iconst (v := 2) hX dX6_walksAnswer_20 (by decide) ?_
  refine km_icmp_eq (tgt := 32) hX dX6_walksAnswer_21 (by decide) (fun c => ?_) (fun c => ?_)
  · have h := h.1 c
    refine km_iconst (v := 2) hX dX6_walksAnswer_32 (by decide) ?_
    exact km_iret hX hF rfl dX6_walksAnswer_33 ⟨rfl, rfl, _, rfl, h⟩ (Nat.le_refl _) (Nat.le_refl _)
  · have h := h.2 c
    refine km_aload_n hX dX6_walksAnswer_24 rfl rfl ?_
    refine km_geti hX fX6_walksAnswer_129 shp_75 rfl dX6_walksAnswer_25 ?_
    refine km_iconst (v := 2) hX dX6_walksAnswer_28 (by decide) ?_
    refine km_icmp_ne (tgt := 34) hX dX6_walksAnswer_29 (by decide) (fun c => ?_) (fun c => ?_)
    · have h := h.1 c
      refine km_aload_n hX dX6_walksAnswer_34 rfl rfl ?_
      refine km_aload_n hX dX6_walksAnswer_35 rfl rfl ?_
      refine km_callVi hX dX6_walksAnswer_36 vX6_walksAnswer_227 (X5_endsLike_c kqmr (by decide) (by decide) h) (by decide) shp_63 rfl rfl (Nat.le_of_ble_eq_true rfl) (fun r36 m36 h => ?_)
      refine km_if_eq (tgt := 55) hX dX6_walksAnswer_39 (by decide) (fun c => ?_) (fun c => ?_)
      · have h := h.1 c
        refine km_iconst (v := 0) hX dX6_walksAnswer_55 (by decide) ?_
        exact km_iret hX hF rfl dX6_walksAnswer_56 ⟨rfl, rfl, _, rfl, h⟩ (Nat.le_refl _) (Nat.le_refl _)
      · have h := h.2 c
        refine km_aload_n hX dX6_walksAnswer_42 rfl rfl ?_
        refine km_aload_n hX dX6_walksAnswer_43 rfl rfl ?_
        refine km_aload_n hX dX6_walksAnswer_44 rfl rfl ?_
        refine km_callVi hX dX6_walksAnswer_45 vX6_walksAnswer_266 (X6_callingsAlike_c kqmr (by decide) (by decide) h) (by decide) shp_0 rfl rfl (Nat.le_of_ble_eq_true rfl) (fun r45 m45 h => ?_)
        refine km_if_eq (tgt := 55) hX dX6_walksAnswer_48 (by decide) (fun c => ?_) (fun c => ?_)
        · have h := h.1 c
          refine km_iconst (v := 0) hX dX6_walksAnswer_55 (by decide) ?_
          exact km_iret hX hF rfl dX6_walksAnswer_56 ⟨rfl, rfl, _, rfl, h⟩ (Nat.le_refl _) (Nat.le_refl _)
        · have h := h.2 c
          refine km_iconst (v := 1) hX dX6_walksAnswer_51 (by decide) ?_
          refine km_goto (tgt := 56) hX dX6_walksAnswer_52 (by decide) ?_
          exact km_iret hX hF rfl dX6_walksAnswer_56 ⟨rfl, rfl, _, rfl, h⟩ (Nat.le_refl _) (Nat.le_refl _)
    · have h := h.2 c
      refine km_iconst (v := 2) hX dX6_walksAnswer_32 (by decide) ?_
      exact km_iret hX hF rfl dX6_walksAnswer_33 ⟨rfl, rfl, _, rfl, h⟩ (Nat.le_refl _) (Nat.le_refl _)
def X6_proveInputs_b137 (x1 : Int32) (x2 : Int32) (x3 : Int32) (Z6 : Int32 → Int32 → Int32 → Int32 → Int32 → km_I → Prop) (Z28 : Int32 → Int32 → Int32 → Int32 → Int32 → Int32 → km_I → Prop) (y1 : Int32) (y2 : Int32) (y3 : Int32) (y4 : Int32) (y5 : Int32) (y6 : Int32) (y7 : Int32) (mi : km_I) (K : km_I → Prop) : Prop := ((¬ y7 = 0 → Z28 y1 y2 y3 (if (mi 63 8) < (mi 75 8) then (mi 75 8) else (mi 63 8)) y5 (y6 + 1) mi) ∧ (y7 = 0 → K mi))
set_option maxHeartbeats 4000000 in
set_option maxRecDepth 100000 in
theorem X6_proveInputs_b137_t {E : km_E} {X : km_X} {mr : km_R} {K : km_I → Prop} {x1 : Int32} {x2 : Int32} {x3 : Int32} {Z6 : Int32 → Int32 → Int32 → Int32 → Int32 → km_I → Prop} {Z28 : Int32 → Int32 → Int32 → Int32 → Int32 → Int32 → km_I → Prop} (hX : km_ok E X rmX6_proveInputs cX6_proveInputs 8 wsX6_proveInputs RX6) (hF : km_fin E X none 0 0 (fun r sh' mi' mr' => sh' = SH ∧ mr' = mr ∧ r = none ∧ K mi')) (kqmr : km_MR mr) (hZ6 : ∀ (y1 : Int32) (y2 : Int32) (y3 : Int32) (y4 : Int32) (y5 : Int32) (m : km_I), Z6 y1 y2 y3 y4 y5 m → km_G E X 8 SH m mr 0 0 6 [(0, .ref 0), (1, .int y1), (2, .int y2), (3, .int y3), (4, .int y4), (5, .int y5)] []) (hZ28 : ∀ (y1 : Int32) (y2 : Int32) (y3 : Int32) (y4 : Int32) (y5 : Int32) (y6 : Int32) (m : km_I), Z28 y1 y2 y3 y4 y5 y6 m → km_G E X 8 SH m mr 0 0 28 [(0, .ref 0), (1, .int y1), (2, .int y2), (3, .int y3), (4, .int y4), (5, .int y5), (6, .int y6)] []) : ∀ (y1 : Int32) (y2 : Int32) (y3 : Int32) (y4 : Int32) (y5 : Int32) (y6 : Int32) (y7 : Int32) (mi : km_I), X6_proveInputs_b137 x1 x2 x3 Z6 Z28 y1 y2 y3 y4 y5 y6 y7 mi K → km_G E X 8 SH mi mr 0 0 137 [(0, .ref 0), (1, .int y1), (2, .int y2), (3, .int y3), (4, .int y4), (5, .int y5), (6, .int y6), (7, .int y7)] [] := by
  intro y1 y2 y3 y4 y5 y6 y7 mi h
  have h : ((¬ y7 = 0 → Z28 y1 y2 y3 (if (mi 63 8) < (mi 75 8) then (mi 75 8) else (mi 63 8)) y5 (y6 + 1) mi) ∧ (y7 = 0 → K mi)) := h
  refine km_iload hX dX6_proveInputs_137 rfl ?_
  refine km_if_ne (tgt := 143) hX dX6_proveInputs_139 (by decide) (fun c => ?_) (fun c => ?_)
  · have h := h.1 c
    refine km_aload_n hX dX6_proveInputs_143 rfl rfl ?_
    refine km_getr (q := 62) hX fX6_proveInputs_77 shp_0 rfl dX6_proveInputs_144 (mrp_0_11 kqmr) ?_
    refine km_getr (q := 63) hX fX6_proveInputs_125 shp_62 rfl dX6_proveInputs_147 (mrp_62_0 kqmr) ?_
    refine km_geti hX fX6_proveInputs_258 shp_63 rfl dX6_proveInputs_150 ?_
    refine km_aload_n hX dX6_proveInputs_153 rfl rfl ?_
    refine km_getr (q := 74) hX fX6_proveInputs_80 shp_0 rfl dX6_proveInputs_154 (mrp_0_12 kqmr) ?_
    refine km_getr (q := 75) hX fX6_proveInputs_125 shp_74 rfl dX6_proveInputs_157 (mrp_74_0 kqmr) ?_
    refine km_geti hX fX6_proveInputs_258 shp_75 rfl dX6_proveInputs_160 ?_
    refine km_max hX dX6_proveInputs_163 xX6_proveInputs_261.1 xX6_proveInputs_261.2.1 xX6_proveInputs_261.2.2.1 xX6_proveInputs_261.2.2.2 (by decide) (by decide) (by decide) ?_
    refine km_istore hX dX6_proveInputs_166 (by decide) ?_
    refine km_iinc (v := 1) hX dX6_proveInputs_168 (by decide) rfl (by decide) ?_
    refine km_goto (tgt := 28) hX dX6_proveInputs_171 (by decide) ?_
    refine km_ren (ls' := [(0, .ref 0), (1, .int y1), (2, .int y2), (3, .int y3), (4, .int (if (mi 63 8) < (mi 75 8) then (mi 75 8) else (mi 63 8))), (5, .int y5), (6, .int (y6 + 1))]) [0, 1, 2, 3, 4, 5, 6] rfl ?_
    exact hZ28 _ _ _ _ _ _ _ h
  · have h := h.2 c
    exact km_vret hX hF rfl dX6_proveInputs_142 ⟨rfl, rfl, rfl, h⟩ (Nat.le_refl _) (Nat.le_refl _)
def X6_proveInputs_b174 (x1 : Int32) (x2 : Int32) (x3 : Int32) (Z6 : Int32 → Int32 → Int32 → Int32 → Int32 → km_I → Prop) (y1 : Int32) (y2 : Int32) (y3 : Int32) (y4 : Int32) (y5 : Int32) (y6 : Int32) (mi : km_I) (K : km_I → Prop) : Prop := Z6 y1 y2 y3 y4 (y5 + 1) mi
set_option maxHeartbeats 4000000 in
set_option maxRecDepth 100000 in
theorem X6_proveInputs_b174_t {E : km_E} {X : km_X} {mr : km_R} {K : km_I → Prop} {x1 : Int32} {x2 : Int32} {x3 : Int32} {Z6 : Int32 → Int32 → Int32 → Int32 → Int32 → km_I → Prop} (hX : km_ok E X rmX6_proveInputs cX6_proveInputs 8 wsX6_proveInputs RX6) (hF : km_fin E X none 0 0 (fun r sh' mi' mr' => sh' = SH ∧ mr' = mr ∧ r = none ∧ K mi')) (kqmr : km_MR mr) (hZ6 : ∀ (y1 : Int32) (y2 : Int32) (y3 : Int32) (y4 : Int32) (y5 : Int32) (m : km_I), Z6 y1 y2 y3 y4 y5 m → km_G E X 8 SH m mr 0 0 6 [(0, .ref 0), (1, .int y1), (2, .int y2), (3, .int y3), (4, .int y4), (5, .int y5)] []) : ∀ (y1 : Int32) (y2 : Int32) (y3 : Int32) (y4 : Int32) (y5 : Int32) (y6 : Int32) (mi : km_I), X6_proveInputs_b174 x1 x2 x3 Z6 y1 y2 y3 y4 y5 y6 mi K → km_G E X 8 SH mi mr 0 0 174 [(0, .ref 0), (1, .int y1), (2, .int y2), (3, .int y3), (4, .int y4), (5, .int y5), (6, .int y6)] [] := by
  intro y1 y2 y3 y4 y5 y6 mi h
  have h : Z6 y1 y2 y3 y4 (y5 + 1) mi := h
  refine km_iinc (v := 1) hX dX6_proveInputs_174 (by decide) rfl (by decide) ?_
  refine km_goto (tgt := 6) hX dX6_proveInputs_177 (by decide) ?_
  refine km_ren (ls' := [(0, .ref 0), (1, .int y1), (2, .int y2), (3, .int y3), (4, .int y4), (5, .int (y5 + 1))]) [0, 1, 2, 3, 4, 5] rfl ?_
  exact hZ6 _ _ _ _ _ _ h
def X6_proveInputs_b28 (x1 : Int32) (x2 : Int32) (x3 : Int32) (Z6 : Int32 → Int32 → Int32 → Int32 → Int32 → km_I → Prop) (n : Nat) (y1 : Int32) (y2 : Int32) (y3 : Int32) (y4 : Int32) (y5 : Int32) (y6 : Int32) (mi : km_I) (K : km_I → Prop) : Prop := match n with
  | 0 => False
  | n + 1 => ((((mi 0 1) + 1) < y6 → X6_proveInputs_b174 x1 x2 x3 Z6 y1 y2 y3 y4 y5 y6 mi K) ∧ (¬ ((mi 0 1) + 1) < y6 → ((y4 ≤ 1 → X6_proveInputs_b174 x1 x2 x3 Z6 y1 y2 y3 y4 y5 y6 mi K) ∧ (¬ y4 ≤ 1 → X1_takeAnswers_w 62 1 y5 y6 mi (fun m53 => X1_takeAnswers_w 74 7 y5 y6 m53 (fun m64 => vp_in y1 6 ∧ X1_go_w 62 1 (m64 22 (Int32.toNatClampNeg y1)) y2 y3 m64 (fun m82 => vp_in y1 6 ∧ X1_go_w 74 7 (m82 23 (Int32.toNatClampNeg y1)) y2 y3 m82 (fun m100 => X6_walksAnswer_w m100 (fun r104 m104 => X4_yieldsTo_w r104 m104 (fun r115 m115 => ((r115 = 0 → X6_proveInputs_b137 x1 x2 x3 Z6 (fun v0 v1 v2 v3 v4 v5 m => X6_proveInputs_b28 x1 x2 x3 Z6 n v0 v1 v2 v3 v4 v5 m K) y1 y2 y3 y4 y5 y6 r104 m115 K) ∧ (¬ r115 = 0 → X4_keep_w r104 y1 y2 y3 y5 y6 m115 (fun m134 => X6_proveInputs_b137 x1 x2 x3 Z6 (fun v0 v1 v2 v3 v4 v5 m => X6_proveInputs_b28 x1 x2 x3 Z6 n v0 v1 v2 v3 v4 v5 m K) y1 y2 y3 y4 y5 y6 r104 m134 K)))))))))))))
set_option maxHeartbeats 4000000 in
set_option maxRecDepth 100000 in
theorem X6_proveInputs_b28_t {E : km_E} {X : km_X} {mr : km_R} {K : km_I → Prop} {x1 : Int32} {x2 : Int32} {x3 : Int32} {Z6 : Int32 → Int32 → Int32 → Int32 → Int32 → km_I → Prop} (hX : km_ok E X rmX6_proveInputs cX6_proveInputs 8 wsX6_proveInputs RX6) (hF : km_fin E X none 0 0 (fun r sh' mi' mr' => sh' = SH ∧ mr' = mr ∧ r = none ∧ K mi')) (kqmr : km_MR mr) (hZ6 : ∀ (y1 : Int32) (y2 : Int32) (y3 : Int32) (y4 : Int32) (y5 : Int32) (m : km_I), Z6 y1 y2 y3 y4 y5 m → km_G E X 8 SH m mr 0 0 6 [(0, .ref 0), (1, .int y1), (2, .int y2), (3, .int y3), (4, .int y4), (5, .int y5)] []) : ∀ (n : Nat) (y1 : Int32) (y2 : Int32) (y3 : Int32) (y4 : Int32) (y5 : Int32) (y6 : Int32) (mi : km_I), X6_proveInputs_b28 x1 x2 x3 Z6 n y1 y2 y3 y4 y5 y6 mi K → km_G E X 8 SH mi mr 0 0 28 [(0, .ref 0), (1, .int y1), (2, .int y2), (3, .int y3), (4, .int y4), (5, .int y5), (6, .int y6)] [] := by
  intro n
  induction n with
  | zero => intro y1 y2 y3 y4 y5 y6 mi h; exact h.elim
  | succ n ih =>
    intro y1 y2 y3 y4 y5 y6 mi h
    have h : ((((mi 0 1) + 1) < y6 → X6_proveInputs_b174 x1 x2 x3 Z6 y1 y2 y3 y4 y5 y6 mi K) ∧ (¬ ((mi 0 1) + 1) < y6 → ((y4 ≤ 1 → X6_proveInputs_b174 x1 x2 x3 Z6 y1 y2 y3 y4 y5 y6 mi K) ∧ (¬ y4 ≤ 1 → X1_takeAnswers_w 62 1 y5 y6 mi (fun m53 => X1_takeAnswers_w 74 7 y5 y6 m53 (fun m64 => vp_in y1 6 ∧ X1_go_w 62 1 (m64 22 (Int32.toNatClampNeg y1)) y2 y3 m64 (fun m82 => vp_in y1 6 ∧ X1_go_w 74 7 (m82 23 (Int32.toNatClampNeg y1)) y2 y3 m82 (fun m100 => X6_walksAnswer_w m100 (fun r104 m104 => X4_yieldsTo_w r104 m104 (fun r115 m115 => ((r115 = 0 → X6_proveInputs_b137 x1 x2 x3 Z6 (fun v0 v1 v2 v3 v4 v5 m => X6_proveInputs_b28 x1 x2 x3 Z6 n v0 v1 v2 v3 v4 v5 m K) y1 y2 y3 y4 y5 y6 r104 m115 K) ∧ (¬ r115 = 0 → X4_keep_w r104 y1 y2 y3 y5 y6 m115 (fun m134 => X6_proveInputs_b137 x1 x2 x3 Z6 (fun v0 v1 v2 v3 v4 v5 m => X6_proveInputs_b28 x1 x2 x3 Z6 n v0 v1 v2 v3 v4 v5 m K) y1 y2 y3 y4 y5 y6 r104 m134 K))))))))))))) := h
    refine km_iload hX dX6_proveInputs_28 rfl ?_
    refine km_aload_n hX dX6_proveInputs_30 rfl rfl ?_
    refine km_geti hX fX6_proveInputs_59 shp_0 rfl dX6_proveInputs_31 ?_
    refine km_iconst (v := 1) hX dX6_proveInputs_34 (by decide) ?_
    refine km_iadd hX dX6_proveInputs_35 ?_
    refine km_icmp_gt (tgt := 174) hX dX6_proveInputs_36 (by decide) (fun c => ?_) (fun c => ?_)
    · have h := h.1 c
      refine km_ren (ls' := [(0, .ref 0), (1, .int y1), (2, .int y2), (3, .int y3), (4, .int y4), (5, .int y5), (6, .int y6)]) [0, 1, 2, 3, 4, 5, 6] rfl ?_
      exact X6_proveInputs_b174_t hX hF kqmr hZ6 _ _ _ _ _ _ _ h
    · have h := h.2 c
      refine km_iload hX dX6_proveInputs_39 rfl ?_
      refine km_iconst (v := 1) hX dX6_proveInputs_41 (by decide) ?_
      refine km_icmp_le (tgt := 174) hX dX6_proveInputs_42 (by decide) (fun c => ?_) (fun c => ?_)
      · have h := h.1 c
        refine km_ren (ls' := [(0, .ref 0), (1, .int y1), (2, .int y2), (3, .int y3), (4, .int y4), (5, .int y5), (6, .int y6)]) [0, 1, 2, 3, 4, 5, 6] rfl ?_
        exact X6_proveInputs_b174_t hX hF kqmr hZ6 _ _ _ _ _ _ _ h
      · have h := h.2 c
        refine km_aload_n hX dX6_proveInputs_45 rfl rfl ?_
        refine km_getr (q := 62) hX fX6_proveInputs_77 shp_0 rfl dX6_proveInputs_46 (mrp_0_11 kqmr) ?_
        refine km_iload hX dX6_proveInputs_49 rfl ?_
        refine km_iload hX dX6_proveInputs_51 rfl ?_
        refine km_callVv hX dX6_proveInputs_53 vX6_proveInputs_238 (X1_takeAnswers_c kqmr (by decide) (by decide) (mrp_62_7 kqmr) h) (by decide) shp_62 rfl rfl (Nat.le_of_ble_eq_true rfl) (fun m53 h => ?_)
        refine km_aload_n hX dX6_proveInputs_56 rfl rfl ?_
        refine km_getr (q := 74) hX fX6_proveInputs_80 shp_0 rfl dX6_proveInputs_57 (mrp_0_12 kqmr) ?_
        refine km_iload hX dX6_proveInputs_60 rfl ?_
        refine km_iload hX dX6_proveInputs_62 rfl ?_
        refine km_callVv hX dX6_proveInputs_64 vX6_proveInputs_238 (X1_takeAnswers_c kqmr (by decide) (by decide) (mrp_74_7 kqmr) h) (by decide) shp_74 rfl rfl (Nat.le_of_ble_eq_true rfl) (fun m64 h => ?_)
        refine km_aload_n hX dX6_proveInputs_67 rfl rfl ?_
        refine km_getr (q := 62) hX fX6_proveInputs_77 shp_0 rfl dX6_proveInputs_68 (mrp_0_11 kqmr) ?_
        refine km_aload_n hX dX6_proveInputs_71 rfl rfl ?_
        refine km_getr (q := 21) hX fX6_proveInputs_32 shp_0 rfl dX6_proveInputs_72 (mrp_0_6 kqmr) ?_
        refine km_getr (q := 22) hX fX6_proveInputs_242 shp_21 rfl dX6_proveInputs_75 (mrp_21_1 kqmr) ?_
        refine km_iload_n hX dX6_proveInputs_78 rfl ?_
        obtain ⟨hc, h⟩ := h
        refine km_iald hX shp_22 hc dX6_proveInputs_79 ?_
        refine km_iload_n hX dX6_proveInputs_80 rfl ?_
        refine km_iload_n hX dX6_proveInputs_81 rfl ?_
        refine km_callVv hX dX6_proveInputs_82 vX6_proveInputs_121 (X1_go_c kqmr (by decide) (by decide) (mrp_62_7 kqmr) h) (by decide) shp_62 rfl rfl (Nat.le_of_ble_eq_true rfl) (fun m82 h => ?_)
        refine km_aload_n hX dX6_proveInputs_85 rfl rfl ?_
        refine km_getr (q := 74) hX fX6_proveInputs_80 shp_0 rfl dX6_proveInputs_86 (mrp_0_12 kqmr) ?_
        refine km_aload_n hX dX6_proveInputs_89 rfl rfl ?_
        refine km_getr (q := 21) hX fX6_proveInputs_32 shp_0 rfl dX6_proveInputs_90 (mrp_0_6 kqmr) ?_
        refine km_getr (q := 23) hX fX6_proveInputs_245 shp_21 rfl dX6_proveInputs_93 (mrp_21_2 kqmr) ?_
        refine km_iload_n hX dX6_proveInputs_96 rfl ?_
        obtain ⟨hc, h⟩ := h
        refine km_iald hX shp_23 hc dX6_proveInputs_97 ?_
        refine km_iload_n hX dX6_proveInputs_98 rfl ?_
        refine km_iload_n hX dX6_proveInputs_99 rfl ?_
        refine km_callVv hX dX6_proveInputs_100 vX6_proveInputs_121 (X1_go_c kqmr (by decide) (by decide) (mrp_74_7 kqmr) h) (by decide) shp_74 rfl rfl (Nat.le_of_ble_eq_true rfl) (fun m100 h => ?_)
        refine km_aload_n hX dX6_proveInputs_103 rfl rfl ?_
        refine km_callVi hX dX6_proveInputs_104 vX6_proveInputs_248 (X6_walksAnswer_c kqmr h) (by decide) shp_0 rfl rfl (Nat.le_of_ble_eq_true rfl) (fun r104 m104 h => ?_)
        refine km_istore hX dX6_proveInputs_107 (by decide) ?_
        refine km_aload_n hX dX6_proveInputs_109 rfl rfl ?_
        refine km_getr (q := 24) hX fX6_proveInputs_39 shp_0 rfl dX6_proveInputs_110 (mrp_0_7 kqmr) ?_
        refine km_iload hX dX6_proveInputs_113 rfl ?_
        refine km_callVi hX dX6_proveInputs_115 vX6_proveInputs_251 (X4_yieldsTo_c kqmr h) (by decide) shp_24 rfl rfl (Nat.le_of_ble_eq_true rfl) (fun r115 m115 h => ?_)
        refine km_if_eq (tgt := 137) hX dX6_proveInputs_118 (by decide) (fun c => ?_) (fun c => ?_)
        · have h := h.1 c
          refine km_ren (ls' := [(0, .ref 0), (1, .int y1), (2, .int y2), (3, .int y3), (4, .int y4), (5, .int y5), (6, .int y6), (7, .int r104)]) [0, 1, 2, 3, 4, 5, 6, 7] rfl ?_
          exact X6_proveInputs_b137_t hX hF kqmr hZ6 (fun v0 v1 v2 v3 v4 v5 m hh => ih v0 v1 v2 v3 v4 v5 m hh) _ _ _ _ _ _ _ _ h
        · have h := h.2 c
          refine km_aload_n hX dX6_proveInputs_121 rfl rfl ?_
          refine km_getr (q := 24) hX fX6_proveInputs_39 shp_0 rfl dX6_proveInputs_122 (mrp_0_7 kqmr) ?_
          refine km_iload hX dX6_proveInputs_125 rfl ?_
          refine km_iload_n hX dX6_proveInputs_127 rfl ?_
          refine km_iload_n hX dX6_proveInputs_128 rfl ?_
          refine km_iload_n hX dX6_proveInputs_129 rfl ?_
          refine km_iload hX dX6_proveInputs_130 rfl ?_
          refine km_iload hX dX6_proveInputs_132 rfl ?_
          refine km_callVv hX dX6_proveInputs_134 vX6_proveInputs_254 (X4_keep_c kqmr h) (by decide) shp_24 rfl rfl (Nat.le_of_ble_eq_true rfl) (fun m134 h => ?_)
          refine km_ren (ls' := [(0, .ref 0), (1, .int y1), (2, .int y2), (3, .int y3), (4, .int y4), (5, .int y5), (6, .int y6), (7, .int r104)]) [0, 1, 2, 3, 4, 5, 6, 7] rfl ?_
          exact X6_proveInputs_b137_t hX hF kqmr hZ6 (fun v0 v1 v2 v3 v4 v5 m hh => ih v0 v1 v2 v3 v4 v5 m hh) _ _ _ _ _ _ _ _ h
def X6_proveInputs_b6 (x1 : Int32) (x2 : Int32) (x3 : Int32) (n : Nat) (y1 : Int32) (y2 : Int32) (y3 : Int32) (y4 : Int32) (y5 : Int32) (mi : km_I) (K : km_I → Prop) : Prop := match n with
  | 0 => False
  | n + 1 => ((((mi 0 1) + 1) < y5 → K mi) ∧ (¬ ((mi 0 1) + 1) < y5 → ((y4 ≤ 0 → K mi) ∧ (¬ y4 ≤ 0 → ∃ k, X6_proveInputs_b28 x1 x2 x3 (fun v0 v1 v2 v3 v4 m => X6_proveInputs_b6 x1 x2 x3 n v0 v1 v2 v3 v4 m K) k y1 y2 y3 2 y5 0 mi K))))
set_option maxHeartbeats 4000000 in
set_option maxRecDepth 100000 in
theorem X6_proveInputs_b6_t {E : km_E} {X : km_X} {mr : km_R} {K : km_I → Prop} {x1 : Int32} {x2 : Int32} {x3 : Int32} (hX : km_ok E X rmX6_proveInputs cX6_proveInputs 8 wsX6_proveInputs RX6) (hF : km_fin E X none 0 0 (fun r sh' mi' mr' => sh' = SH ∧ mr' = mr ∧ r = none ∧ K mi')) (kqmr : km_MR mr) : ∀ (n : Nat) (y1 : Int32) (y2 : Int32) (y3 : Int32) (y4 : Int32) (y5 : Int32) (mi : km_I), X6_proveInputs_b6 x1 x2 x3 n y1 y2 y3 y4 y5 mi K → km_G E X 8 SH mi mr 0 0 6 [(0, .ref 0), (1, .int y1), (2, .int y2), (3, .int y3), (4, .int y4), (5, .int y5)] [] := by
  intro n
  induction n with
  | zero => intro y1 y2 y3 y4 y5 mi h; exact h.elim
  | succ n ih =>
    intro y1 y2 y3 y4 y5 mi h
    have h : ((((mi 0 1) + 1) < y5 → K mi) ∧ (¬ ((mi 0 1) + 1) < y5 → ((y4 ≤ 0 → K mi) ∧ (¬ y4 ≤ 0 → ∃ k, X6_proveInputs_b28 x1 x2 x3 (fun v0 v1 v2 v3 v4 m => X6_proveInputs_b6 x1 x2 x3 n v0 v1 v2 v3 v4 m K) k y1 y2 y3 2 y5 0 mi K)))) := h
    refine km_iload hX dX6_proveInputs_6 rfl ?_
    refine km_aload_n hX dX6_proveInputs_8 rfl rfl ?_
    refine km_geti hX fX6_proveInputs_59 shp_0 rfl dX6_proveInputs_9 ?_
    refine km_iconst (v := 1) hX dX6_proveInputs_12 (by decide) ?_
    refine km_iadd hX dX6_proveInputs_13 ?_
    refine km_icmp_gt (tgt := 180) hX dX6_proveInputs_14 (by decide) (fun c => ?_) (fun c => ?_)
    · have h := h.1 c
      exact km_vret hX hF rfl dX6_proveInputs_180 ⟨rfl, rfl, rfl, h⟩ (Nat.le_refl _) (Nat.le_refl _)
    · have h := h.2 c
      refine km_iload hX dX6_proveInputs_17 rfl ?_
      refine km_if_le (tgt := 180) hX dX6_proveInputs_19 (by decide) (fun c => ?_) (fun c => ?_)
      · have h := h.1 c
        exact km_vret hX hF rfl dX6_proveInputs_180 ⟨rfl, rfl, rfl, h⟩ (Nat.le_refl _) (Nat.le_refl _)
      · have h := h.2 c
        refine km_iconst (v := 2) hX dX6_proveInputs_22 (by decide) ?_
        refine km_istore hX dX6_proveInputs_23 (by decide) ?_
        refine km_iconst (v := 0) hX dX6_proveInputs_25 (by decide) ?_
        refine km_istore hX dX6_proveInputs_26 (by decide) ?_
        obtain ⟨n9, h⟩ := h
        refine km_ren (ls' := [(0, .ref 0), (1, .int y1), (2, .int y2), (3, .int y3), (4, .int 2), (5, .int y5), (6, .int 0)]) [0, 1, 2, 3, 4, 5, 6] rfl ?_
        exact X6_proveInputs_b28_t hX hF kqmr (fun v0 v1 v2 v3 v4 m hh => ih v0 v1 v2 v3 v4 m hh) n9 _ _ _ _ _ _ _ h
def X6_proveInputs_w (x1 : Int32) (x2 : Int32) (x3 : Int32) (mi : km_I) (K : km_I → Prop) : Prop := ∃ k, X6_proveInputs_b6 x1 x2 x3 k x1 x2 x3 2 0 mi K
set_option maxHeartbeats 4000000 in
set_option maxRecDepth 100000 in
theorem X6_proveInputs_c {E : km_E} {l : Launch} {mr : km_R} (kqmr : km_MR mr) {x1 : Int32} {x2 : Int32} {x3 : Int32} {mi : km_I} {K : km_I → Prop} (h : X6_proveInputs_w x1 x2 x3 mi K) : km_Cv E l yX6_proveInputs wsX6_proveInputs rmX6_proveInputs [.ref 0, .int x1, .int x2, .int x3] SH mi mr K := by
  refine km_start (cc := cX6_proveInputs) (maxL := 8) (ret := none) (by decide) rfl (Nat.le_of_ble_eq_true rfl) ?_
  intro X hl hX hF _
  subst hl

  have h : ∃ k, X6_proveInputs_b6 x1 x2 x3 k x1 x2 x3 2 0 mi K := h
  refine km_iconst (v := 2) hX dX6_proveInputs_0 (by decide) ?_
  refine km_istore hX dX6_proveInputs_1 (by decide) ?_
  refine km_iconst (v := 0) hX dX6_proveInputs_3 (by decide) ?_
  refine km_istore hX dX6_proveInputs_4 (by decide) ?_
  obtain ⟨n9, h⟩ := h
  refine km_ren (ls' := [(0, .ref 0), (1, .int x1), (2, .int x2), (3, .int x3), (4, .int 2), (5, .int 0)]) [0, 1, 2, 3, 4, 5] rfl ?_
  exact X6_proveInputs_b6_t hX hF kqmr n9 _ _ _ _ _ _ h
def X6_prove_b64 (Z16 : Int32 → km_I → Prop) (Z29 : Int32 → Int32 → km_I → Prop) (Z39 : Int32 → Int32 → Int32 → km_I → Prop) (y1 : Int32) (y2 : Int32) (y3 : Int32) (mi : km_I) (K : Int32 → km_I → Prop) : Prop := Z39 y1 y2 (y3 + 1) mi
set_option maxHeartbeats 4000000 in
set_option maxRecDepth 100000 in
theorem X6_prove_b64_t {E : km_E} {X : km_X} {mr : km_R} {K : Int32 → km_I → Prop} {Z16 : Int32 → km_I → Prop} {Z29 : Int32 → Int32 → km_I → Prop} {Z39 : Int32 → Int32 → Int32 → km_I → Prop} (hX : km_ok E X rmX6_prove cX6_prove 4 wsX6_prove RX6) (hF : km_fin E X (some .int) 0 0 (fun r sh' mi' mr' => sh' = SH ∧ mr' = mr ∧ ∃ i, r = some (.int i) ∧ K i mi')) (kqmr : km_MR mr) (hZ16 : ∀ (y1 : Int32) (m : km_I), Z16 y1 m → km_G E X 4 SH m mr 0 0 16 [(0, .ref 0), (1, .int y1)] []) (hZ29 : ∀ (y1 : Int32) (y2 : Int32) (m : km_I), Z29 y1 y2 m → km_G E X 4 SH m mr 0 0 29 [(0, .ref 0), (1, .int y1), (2, .int y2)] []) (hZ39 : ∀ (y1 : Int32) (y2 : Int32) (y3 : Int32) (m : km_I), Z39 y1 y2 y3 m → km_G E X 4 SH m mr 0 0 39 [(0, .ref 0), (1, .int y1), (2, .int y2), (3, .int y3)] []) : ∀ (y1 : Int32) (y2 : Int32) (y3 : Int32) (mi : km_I), X6_prove_b64 Z16 Z29 Z39 y1 y2 y3 mi K → km_G E X 4 SH mi mr 0 0 64 [(0, .ref 0), (1, .int y1), (2, .int y2), (3, .int y3)] [] := by
  intro y1 y2 y3 mi h
  have h : Z39 y1 y2 (y3 + 1) mi := h
  refine km_iinc (v := 1) hX dX6_prove_64 (by decide) rfl (by decide) ?_
  refine km_goto (tgt := 39) hX dX6_prove_67 (by decide) ?_
  refine km_ren (ls' := [(0, .ref 0), (1, .int y1), (2, .int y2), (3, .int (y3 + 1))]) [0, 1, 2, 3] rfl ?_
  exact hZ39 _ _ _ _ h
def X6_prove_b39 (Z16 : Int32 → km_I → Prop) (Z29 : Int32 → Int32 → km_I → Prop) (n : Nat) (y1 : Int32) (y2 : Int32) (y3 : Int32) (mi : km_I) (K : Int32 → km_I → Prop) : Prop := match n with
  | 0 => False
  | n + 1 => (((mi 0 1) < y3 → Z29 y1 (y2 + 1) mi) ∧ (¬ (mi 0 1) < y3 → (((mi 24 0) = 0 → X6_prove_b64 Z16 Z29 (fun v0 v1 v2 m => X6_prove_b39 Z16 Z29 n v0 v1 v2 m K) y1 y2 y3 mi K) ∧ (¬ (mi 24 0) = 0 → X6_proveInputs_w y1 y2 y3 mi (fun m61 => X6_prove_b64 Z16 Z29 (fun v0 v1 v2 m => X6_prove_b39 Z16 Z29 n v0 v1 v2 m K) y1 y2 y3 m61 K)))))
set_option maxHeartbeats 4000000 in
set_option maxRecDepth 100000 in
theorem X6_prove_b39_t {E : km_E} {X : km_X} {mr : km_R} {K : Int32 → km_I → Prop} {Z16 : Int32 → km_I → Prop} {Z29 : Int32 → Int32 → km_I → Prop} (hX : km_ok E X rmX6_prove cX6_prove 4 wsX6_prove RX6) (hF : km_fin E X (some .int) 0 0 (fun r sh' mi' mr' => sh' = SH ∧ mr' = mr ∧ ∃ i, r = some (.int i) ∧ K i mi')) (kqmr : km_MR mr) (hZ16 : ∀ (y1 : Int32) (m : km_I), Z16 y1 m → km_G E X 4 SH m mr 0 0 16 [(0, .ref 0), (1, .int y1)] []) (hZ29 : ∀ (y1 : Int32) (y2 : Int32) (m : km_I), Z29 y1 y2 m → km_G E X 4 SH m mr 0 0 29 [(0, .ref 0), (1, .int y1), (2, .int y2)] []) : ∀ (n : Nat) (y1 : Int32) (y2 : Int32) (y3 : Int32) (mi : km_I), X6_prove_b39 Z16 Z29 n y1 y2 y3 mi K → km_G E X 4 SH mi mr 0 0 39 [(0, .ref 0), (1, .int y1), (2, .int y2), (3, .int y3)] [] := by
  intro n
  induction n with
  | zero => intro y1 y2 y3 mi h; exact h.elim
  | succ n ih =>
    intro y1 y2 y3 mi h
    have h : (((mi 0 1) < y3 → Z29 y1 (y2 + 1) mi) ∧ (¬ (mi 0 1) < y3 → (((mi 24 0) = 0 → X6_prove_b64 Z16 Z29 (fun v0 v1 v2 m => X6_prove_b39 Z16 Z29 n v0 v1 v2 m K) y1 y2 y3 mi K) ∧ (¬ (mi 24 0) = 0 → X6_proveInputs_w y1 y2 y3 mi (fun m61 => X6_prove_b64 Z16 Z29 (fun v0 v1 v2 m => X6_prove_b39 Z16 Z29 n v0 v1 v2 m K) y1 y2 y3 m61 K))))) := h
    refine km_iload_n hX dX6_prove_39 rfl ?_
    refine km_aload_n hX dX6_prove_40 rfl rfl ?_
    refine km_geti hX fX6_prove_59 shp_0 rfl dX6_prove_41 ?_
    refine km_icmp_gt (tgt := 70) hX dX6_prove_44 (by decide) (fun c => ?_) (fun c => ?_)
    · have h := h.1 c
      refine km_iinc (v := 1) hX dX6_prove_70 (by decide) rfl (by decide) ?_
      refine km_goto (tgt := 29) hX dX6_prove_73 (by decide) ?_
      refine km_ren (ls' := [(0, .ref 0), (1, .int y1), (2, .int (y2 + 1))]) [0, 1, 2] rfl ?_
      exact hZ29 _ _ _ h
    · have h := h.2 c
      refine km_aload_n hX dX6_prove_47 rfl rfl ?_
      refine km_getr (q := 24) hX fX6_prove_39 shp_0 rfl dX6_prove_48 (mrp_0_7 kqmr) ?_
      refine km_geti hX fX6_prove_208 shp_24 rfl dX6_prove_51 ?_
      refine km_if_eq (tgt := 64) hX dX6_prove_54 (by decide) (fun c => ?_) (fun c => ?_)
      · have h := h.1 c
        refine km_ren (ls' := [(0, .ref 0), (1, .int y1), (2, .int y2), (3, .int y3)]) [0, 1, 2, 3] rfl ?_
        exact X6_prove_b64_t hX hF kqmr hZ16 hZ29 (fun v0 v1 v2 m hh => ih v0 v1 v2 m hh) _ _ _ _ h
      · have h := h.2 c
        refine km_aload_n hX dX6_prove_57 rfl rfl ?_
        refine km_iload_n hX dX6_prove_58 rfl ?_
        refine km_iload_n hX dX6_prove_59 rfl ?_
        refine km_iload_n hX dX6_prove_60 rfl ?_
        refine km_callVv hX dX6_prove_61 vX6_prove_211 (X6_proveInputs_c kqmr h) (by decide) shp_0 rfl rfl (Nat.le_of_ble_eq_true rfl) (fun m61 h => ?_)
        refine km_ren (ls' := [(0, .ref 0), (1, .int y1), (2, .int y2), (3, .int y3)]) [0, 1, 2, 3] rfl ?_
        exact X6_prove_b64_t hX hF kqmr hZ16 hZ29 (fun v0 v1 v2 m hh => ih v0 v1 v2 m hh) _ _ _ _ h
def X6_prove_b29 (Z16 : Int32 → km_I → Prop) (n : Nat) (y1 : Int32) (y2 : Int32) (mi : km_I) (K : Int32 → km_I → Prop) : Prop := match n with
  | 0 => False
  | n + 1 => (((mi 0 1) < y2 → Z16 (y1 + 1) mi) ∧ (¬ (mi 0 1) < y2 → ∃ k, X6_prove_b39 Z16 (fun v0 v1 m => X6_prove_b29 Z16 n v0 v1 m K) k y1 y2 0 mi K))
set_option maxHeartbeats 4000000 in
set_option maxRecDepth 100000 in
theorem X6_prove_b29_t {E : km_E} {X : km_X} {mr : km_R} {K : Int32 → km_I → Prop} {Z16 : Int32 → km_I → Prop} (hX : km_ok E X rmX6_prove cX6_prove 4 wsX6_prove RX6) (hF : km_fin E X (some .int) 0 0 (fun r sh' mi' mr' => sh' = SH ∧ mr' = mr ∧ ∃ i, r = some (.int i) ∧ K i mi')) (kqmr : km_MR mr) (hZ16 : ∀ (y1 : Int32) (m : km_I), Z16 y1 m → km_G E X 4 SH m mr 0 0 16 [(0, .ref 0), (1, .int y1)] []) : ∀ (n : Nat) (y1 : Int32) (y2 : Int32) (mi : km_I), X6_prove_b29 Z16 n y1 y2 mi K → km_G E X 4 SH mi mr 0 0 29 [(0, .ref 0), (1, .int y1), (2, .int y2)] [] := by
  intro n
  induction n with
  | zero => intro y1 y2 mi h; exact h.elim
  | succ n ih =>
    intro y1 y2 mi h
    have h : (((mi 0 1) < y2 → Z16 (y1 + 1) mi) ∧ (¬ (mi 0 1) < y2 → ∃ k, X6_prove_b39 Z16 (fun v0 v1 m => X6_prove_b29 Z16 n v0 v1 m K) k y1 y2 0 mi K)) := h
    refine km_iload_n hX dX6_prove_29 rfl ?_
    refine km_aload_n hX dX6_prove_30 rfl rfl ?_
    refine km_geti hX fX6_prove_59 shp_0 rfl dX6_prove_31 ?_
    refine km_icmp_gt (tgt := 76) hX dX6_prove_34 (by decide) (fun c => ?_) (fun c => ?_)
    · have h := h.1 c
      refine km_iinc (v := 1) hX dX6_prove_76 (by decide) rfl (by decide) ?_
      refine km_goto (tgt := 16) hX dX6_prove_79 (by decide) ?_
      refine km_ren (ls' := [(0, .ref 0), (1, .int (y1 + 1))]) [0, 1] rfl ?_
      exact hZ16 _ _ h
    · have h := h.2 c
      refine km_iconst (v := 0) hX dX6_prove_37 (by decide) ?_
      refine km_istore_n hX dX6_prove_38 (by decide) ?_
      obtain ⟨n9, h⟩ := h
      refine km_ren (ls' := [(0, .ref 0), (1, .int y1), (2, .int y2), (3, .int 0)]) [0, 1, 2, 3] rfl ?_
      exact X6_prove_b39_t hX hF kqmr hZ16 (fun v0 v1 m hh => ih v0 v1 m hh) n9 _ _ _ _ h
def X6_prove_b16 (n : Nat) (y1 : Int32) (mi : km_I) (K : Int32 → km_I → Prop) : Prop := match n with
  | 0 => False
  | n + 1 => (((mi 21 0) ≤ y1 → K (mi 24 0) mi) ∧ (¬ (mi 21 0) ≤ y1 → ∃ k, X6_prove_b29 (fun v0 m => X6_prove_b16 n v0 m K) k y1 0 mi K))
set_option maxHeartbeats 4000000 in
set_option maxRecDepth 100000 in
theorem X6_prove_b16_t {E : km_E} {X : km_X} {mr : km_R} {K : Int32 → km_I → Prop} (hX : km_ok E X rmX6_prove cX6_prove 4 wsX6_prove RX6) (hF : km_fin E X (some .int) 0 0 (fun r sh' mi' mr' => sh' = SH ∧ mr' = mr ∧ ∃ i, r = some (.int i) ∧ K i mi')) (kqmr : km_MR mr) : ∀ (n : Nat) (y1 : Int32) (mi : km_I), X6_prove_b16 n y1 mi K → km_G E X 4 SH mi mr 0 0 16 [(0, .ref 0), (1, .int y1)] [] := by
  intro n
  induction n with
  | zero => intro y1 mi h; exact h.elim
  | succ n ih =>
    intro y1 mi h
    have h : (((mi 21 0) ≤ y1 → K (mi 24 0) mi) ∧ (¬ (mi 21 0) ≤ y1 → ∃ k, X6_prove_b29 (fun v0 m => X6_prove_b16 n v0 m K) k y1 0 mi K)) := h
    refine km_iload_n hX dX6_prove_16 rfl ?_
    refine km_aload_n hX dX6_prove_17 rfl rfl ?_
    refine km_getr (q := 21) hX fX6_prove_32 shp_0 rfl dX6_prove_18 (mrp_0_6 kqmr) ?_
    refine km_geti hX fX6_prove_198 shp_21 rfl dX6_prove_21 ?_
    refine km_icmp_ge (tgt := 82) hX dX6_prove_24 (by decide) (fun c => ?_) (fun c => ?_)
    · have h := h.1 c
      refine km_aload_n hX dX6_prove_82 rfl rfl ?_
      refine km_getr (q := 24) hX fX6_prove_39 shp_0 rfl dX6_prove_83 (mrp_0_7 kqmr) ?_
      refine km_geti hX fX6_prove_208 shp_24 rfl dX6_prove_86 ?_
      exact km_iret hX hF rfl dX6_prove_89 ⟨rfl, rfl, _, rfl, h⟩ (Nat.le_refl _) (Nat.le_refl _)
    · have h := h.2 c
      refine km_iconst (v := 0) hX dX6_prove_27 (by decide) ?_
      refine km_istore_n hX dX6_prove_28 (by decide) ?_
      obtain ⟨n9, h⟩ := h
      refine km_ren (ls' := [(0, .ref 0), (1, .int y1), (2, .int 0)]) [0, 1, 2] rfl ?_
      exact X6_prove_b29_t hX hF kqmr (fun v0 m hh => ih v0 m hh) n9 _ _ _ h
def X6_prove_w (mi : km_I) (K : Int32 → km_I → Prop) : Prop := X4_begin_w (mi 21 0) mi (fun m11 => ∃ k, X6_prove_b16 k 0 m11 K)
set_option maxHeartbeats 4000000 in
set_option maxRecDepth 100000 in
theorem X6_prove_c {E : km_E} {l : Launch} {mr : km_R} (kqmr : km_MR mr) {mi : km_I} {K : Int32 → km_I → Prop} (h : X6_prove_w mi K) : km_Ci E l yX6_prove wsX6_prove rmX6_prove [.ref 0] SH mi mr K := by
  refine km_start (cc := cX6_prove) (maxL := 4) (ret := (some .int)) (by decide) rfl (Nat.le_of_ble_eq_true rfl) ?_
  intro X hl hX hF _
  subst hl

  have h : X4_begin_w (mi 21 0) mi (fun m11 => ∃ k, X6_prove_b16 k 0 m11 K) := h
  refine km_aload_n hX dX6_prove_0 rfl rfl ?_
  refine km_getr (q := 24) hX fX6_prove_39 shp_0 rfl dX6_prove_1 (mrp_0_7 kqmr) ?_
  refine km_aload_n hX dX6_prove_4 rfl rfl ?_
  refine km_getr (q := 21) hX fX6_prove_32 shp_0 rfl dX6_prove_5 (mrp_0_6 kqmr) ?_
  refine km_geti hX fX6_prove_198 shp_21 rfl dX6_prove_8 ?_
  refine km_callVv hX dX6_prove_11 vX6_prove_204 (X4_begin_c kqmr h) (by decide) shp_24 rfl rfl (Nat.le_of_ble_eq_true rfl) (fun m11 h => ?_)
  refine km_iconst (v := 0) hX dX6_prove_14 (by decide) ?_
  refine km_istore_n hX dX6_prove_15 (by decide) ?_
  obtain ⟨n9, h⟩ := h
  refine km_ren (ls' := [(0, .ref 0), (1, .int 0)]) [0, 1] rfl ?_
  exact X6_prove_b16_t hX hF kqmr n9 _ _ h
def X6_why_w (x1 : Int32) (mi : km_I) (K : Int32 → km_I → Prop) : Prop := X6_within_w x1 0 4 mi (fun r3 m3 => ((r3 = 0 → K (-101) m3) ∧ (¬ r3 = 0 → vp_in x1 5 ∧ K (m3 25 (Int32.toNatClampNeg x1)) m3)))
set_option maxHeartbeats 4000000 in
set_option maxRecDepth 100000 in
theorem X6_why_c {E : km_E} {l : Launch} {mr : km_R} (kqmr : km_MR mr) {x1 : Int32} {mi : km_I} {K : Int32 → km_I → Prop} (h : X6_why_w x1 mi K) : km_Ci E l yX6_why wsX6_why rmX6_why [.ref 0, .int x1] SH mi mr K := by
  refine km_start (cc := cX6_why) (maxL := 2) (ret := (some .int)) (by decide) rfl (Nat.le_of_ble_eq_true rfl) ?_
  intro X hl hX hF _
  subst hl

  have h : X6_within_w x1 0 4 mi (fun r3 m3 => ((r3 = 0 → K (-101) m3) ∧ (¬ r3 = 0 → vp_in x1 5 ∧ K (m3 25 (Int32.toNatClampNeg x1)) m3))) := h
  refine km_iload_n hX dX6_why_0 rfl ?_
  refine km_iconst (v := 0) hX dX6_why_1 (by decide) ?_
  refine km_iconst (v := 4) hX dX6_why_2 (by decide) ?_
  refine km_callSi hX dX6_why_3 vX6_why_83 (X6_within_c kqmr h) (by decide) rfl rfl (Nat.le_of_ble_eq_true rfl) (fun r3 m3 h => ?_)
  refine km_if_eq (tgt := 21) hX dX6_why_6 (by decide) (fun c => ?_) (fun c => ?_)
  · have h := h.1 c
    refine km_bipush (v := -101) hX dX6_why_21 (by decide) ?_
    exact km_iret hX hF rfl dX6_why_23 ⟨rfl, rfl, _, rfl, h⟩ (Nat.le_refl _) (Nat.le_refl _)
  · have h := h.2 c
    refine km_aload_n hX dX6_why_9 rfl rfl ?_
    refine km_getr (q := 24) hX fX6_why_39 shp_0 rfl dX6_why_10 (mrp_0_7 kqmr) ?_
    refine km_getr (q := 25) hX fX6_why_214 shp_24 rfl dX6_why_13 (mrp_24_1 kqmr) ?_
    refine km_iload_n hX dX6_why_16 rfl ?_
    obtain ⟨hc, h⟩ := h
    refine km_iald hX shp_25 hc dX6_why_17 ?_
    refine km_goto (tgt := 23) hX dX6_why_18 (by decide) ?_
    exact km_iret hX hF rfl dX6_why_23 ⟨rfl, rfl, _, rfl, h⟩ (Nat.le_refl _) (Nat.le_refl _)
def X6_count_b93 (x1 : Int32) (y1 : Int32) (mi : km_I) (K : Int32 → km_I → Prop) : Prop := vp_in (y1 - 4) 4 ∧ K (mi 14 (Int32.toNatClampNeg (y1 - 4))) mi
set_option maxHeartbeats 4000000 in
set_option maxRecDepth 100000 in
theorem X6_count_b93_t {E : km_E} {X : km_X} {mr : km_R} {K : Int32 → km_I → Prop} {x1 : Int32} (hX : km_ok E X rmX6_count cX6_count 2 wsX6_count RX6) (hF : km_fin E X (some .int) 0 0 (fun r sh' mi' mr' => sh' = SH ∧ mr' = mr ∧ ∃ i, r = some (.int i) ∧ K i mi')) (kqmr : km_MR mr) : ∀ (y1 : Int32) (mi : km_I), X6_count_b93 x1 y1 mi K → km_G E X 2 SH mi mr 0 0 93 [(0, .ref 0), (1, .int y1)] [] := by
  intro y1 mi h
  have h : vp_in (y1 - 4) 4 ∧ K (mi 14 (Int32.toNatClampNeg (y1 - 4))) mi := h
  refine km_aload_n hX dX6_count_93 rfl rfl ?_
  refine km_getr (q := 13) hX fX6_count_22 shp_0 rfl dX6_count_94 (mrp_0_4 kqmr) ?_
  refine km_getr (q := 14) hX fX6_count_217 shp_13 rfl dX6_count_97 (mrp_13_0 kqmr) ?_
  refine km_iload_n hX dX6_count_100 rfl ?_
  refine km_iconst (v := 4) hX dX6_count_101 (by decide) ?_
  refine km_isub hX dX6_count_102 ?_
  obtain ⟨hc, h⟩ := h
  refine km_iald hX shp_14 hc dX6_count_103 ?_
  exact km_iret hX hF rfl dX6_count_104 ⟨rfl, rfl, _, rfl, h⟩ (Nat.le_refl _) (Nat.le_refl _)
def X6_count_b105 (x1 : Int32) (y1 : Int32) (mi : km_I) (K : Int32 → km_I → Prop) : Prop := vp_in (y1 - 8) 4 ∧ K (mi 15 (Int32.toNatClampNeg (y1 - 8))) mi
set_option maxHeartbeats 4000000 in
set_option maxRecDepth 100000 in
theorem X6_count_b105_t {E : km_E} {X : km_X} {mr : km_R} {K : Int32 → km_I → Prop} {x1 : Int32} (hX : km_ok E X rmX6_count cX6_count 2 wsX6_count RX6) (hF : km_fin E X (some .int) 0 0 (fun r sh' mi' mr' => sh' = SH ∧ mr' = mr ∧ ∃ i, r = some (.int i) ∧ K i mi')) (kqmr : km_MR mr) : ∀ (y1 : Int32) (mi : km_I), X6_count_b105 x1 y1 mi K → km_G E X 2 SH mi mr 0 0 105 [(0, .ref 0), (1, .int y1)] [] := by
  intro y1 mi h
  have h : vp_in (y1 - 8) 4 ∧ K (mi 15 (Int32.toNatClampNeg (y1 - 8))) mi := h
  refine km_aload_n hX dX6_count_105 rfl rfl ?_
  refine km_getr (q := 13) hX fX6_count_22 shp_0 rfl dX6_count_106 (mrp_0_4 kqmr) ?_
  refine km_getr (q := 15) hX fX6_count_163 shp_13 rfl dX6_count_109 (mrp_13_1 kqmr) ?_
  refine km_iload_n hX dX6_count_112 rfl ?_
  refine km_bipush (v := 8) hX dX6_count_113 (by decide) ?_
  refine km_isub hX dX6_count_115 ?_
  obtain ⟨hc, h⟩ := h
  refine km_iald hX shp_15 hc dX6_count_116 ?_
  exact km_iret hX hF rfl dX6_count_117 ⟨rfl, rfl, _, rfl, h⟩ (Nat.le_refl _) (Nat.le_refl _)
def X6_count_w (x1 : Int32) (mi : km_I) (K : Int32 → km_I → Prop) : Prop := (((Int32.toInt (x1)) < 0 ∨ 11 < (Int32.toInt (x1)) → K (-101) mi) ∧ ((Int32.toInt (x1)) = 0 → K (mi 1 0) mi) ∧ ((Int32.toInt (x1)) = 1 → K (mi 7 0) mi) ∧ ((Int32.toInt (x1)) = 2 → K (mi 21 0) mi) ∧ ((Int32.toInt (x1)) = 3 → K (mi 0 0) mi) ∧ ((Int32.toInt (x1)) = 4 → X6_count_b93 x1 x1 mi K) ∧ ((Int32.toInt (x1)) = 5 → X6_count_b93 x1 x1 mi K) ∧ ((Int32.toInt (x1)) = 6 → X6_count_b93 x1 x1 mi K) ∧ ((Int32.toInt (x1)) = 7 → X6_count_b93 x1 x1 mi K) ∧ ((Int32.toInt (x1)) = 8 → X6_count_b105 x1 x1 mi K) ∧ ((Int32.toInt (x1)) = 9 → X6_count_b105 x1 x1 mi K) ∧ ((Int32.toInt (x1)) = 10 → X6_count_b105 x1 x1 mi K) ∧ ((Int32.toInt (x1)) = 11 → X6_count_b105 x1 x1 mi K))
set_option maxHeartbeats 4000000 in
set_option maxRecDepth 100000 in
theorem X6_count_c {E : km_E} {l : Launch} {mr : km_R} (kqmr : km_MR mr) {x1 : Int32} {mi : km_I} {K : Int32 → km_I → Prop} (h : X6_count_w x1 mi K) : km_Ci E l yX6_count wsX6_count rmX6_count [.ref 0, .int x1] SH mi mr K := by
  refine km_start (cc := cX6_count) (maxL := 2) (ret := (some .int)) (by decide) rfl (Nat.le_of_ble_eq_true rfl) ?_
  intro X hl hX hF _
  subst hl

  have h : (((Int32.toInt (x1)) < 0 ∨ 11 < (Int32.toInt (x1)) → K (-101) mi) ∧ ((Int32.toInt (x1)) = 0 → K (mi 1 0) mi) ∧ ((Int32.toInt (x1)) = 1 → K (mi 7 0) mi) ∧ ((Int32.toInt (x1)) = 2 → K (mi 21 0) mi) ∧ ((Int32.toInt (x1)) = 3 → K (mi 0 0) mi) ∧ ((Int32.toInt (x1)) = 4 → X6_count_b93 x1 x1 mi K) ∧ ((Int32.toInt (x1)) = 5 → X6_count_b93 x1 x1 mi K) ∧ ((Int32.toInt (x1)) = 6 → X6_count_b93 x1 x1 mi K) ∧ ((Int32.toInt (x1)) = 7 → X6_count_b93 x1 x1 mi K) ∧ ((Int32.toInt (x1)) = 8 → X6_count_b105 x1 x1 mi K) ∧ ((Int32.toInt (x1)) = 9 → X6_count_b105 x1 x1 mi K) ∧ ((Int32.toInt (x1)) = 10 → X6_count_b105 x1 x1 mi K) ∧ ((Int32.toInt (x1)) = 11 → X6_count_b105 x1 x1 mi K)) := h
  refine km_iload_n hX dX6_count_0 rfl ?_
  by_cases cO : (Int32.toInt (x1)) < 0 ∨ 11 < (Int32.toInt (x1))
  · refine km_tableOut (tgt := 118) hX dX6_count_1 cO (by decide) ?_
    have h := h.1 cO
    refine km_bipush (v := -101) hX dX6_count_118 (by decide) ?_
    exact km_iret hX hF rfl dX6_count_120 ⟨rfl, rfl, _, rfl, h⟩ (Nat.le_refl _) (Nat.le_refl _)
  · have cI : (Int32.toInt (x1)) = 0 ∨ (Int32.toInt (x1)) = 1 ∨ (Int32.toInt (x1)) = 2 ∨ (Int32.toInt (x1)) = 3 ∨ (Int32.toInt (x1)) = 4 ∨ (Int32.toInt (x1)) = 5 ∨ (Int32.toInt (x1)) = 6 ∨ (Int32.toInt (x1)) = 7 ∨ (Int32.toInt (x1)) = 8 ∨ (Int32.toInt (x1)) = 9 ∨ (Int32.toInt (x1)) = 10 ∨ (Int32.toInt (x1)) = 11 := by omega
    rcases cI with c | c | c | c | c | c | c | c | c | c | c | c
    · refine km_tableIn (off := 63) (tgt := 64) hX dX6_count_1 (by omega) (by omega) (by rw [c]; rfl) (by decide) ?_
      have h := h.2.1 c
      refine km_aload_n hX dX6_count_64 rfl rfl ?_
      refine km_getr (q := 1) hX fX6_count_10 shp_0 rfl dX6_count_65 (mrp_0_2 kqmr) ?_
      refine km_geti hX fX6_count_91 shp_1 rfl dX6_count_68 ?_
      exact km_iret hX hF rfl dX6_count_71 ⟨rfl, rfl, _, rfl, h⟩ (Nat.le_refl _) (Nat.le_refl _)
    · refine km_tableIn (off := 71) (tgt := 72) hX dX6_count_1 (by omega) (by omega) (by rw [c]; rfl) (by decide) ?_
      have h := h.2.2.1 c
      refine km_aload_n hX dX6_count_72 rfl rfl ?_
      refine km_getr (q := 7) hX fX6_count_16 shp_0 rfl dX6_count_73 (mrp_0_3 kqmr) ?_
      refine km_geti hX fX6_count_91 shp_7 rfl dX6_count_76 ?_
      exact km_iret hX hF rfl dX6_count_79 ⟨rfl, rfl, _, rfl, h⟩ (Nat.le_refl _) (Nat.le_refl _)
    · refine km_tableIn (off := 79) (tgt := 80) hX dX6_count_1 (by omega) (by omega) (by rw [c]; rfl) (by decide) ?_
      have h := h.2.2.2.1 c
      refine km_aload_n hX dX6_count_80 rfl rfl ?_
      refine km_getr (q := 21) hX fX6_count_32 shp_0 rfl dX6_count_81 (mrp_0_6 kqmr) ?_
      refine km_geti hX fX6_count_198 shp_21 rfl dX6_count_84 ?_
      exact km_iret hX hF rfl dX6_count_87 ⟨rfl, rfl, _, rfl, h⟩ (Nat.le_refl _) (Nat.le_refl _)
    · refine km_tableIn (off := 87) (tgt := 88) hX dX6_count_1 (by omega) (by omega) (by rw [c]; rfl) (by decide) ?_
      have h := h.2.2.2.2.1 c
      refine km_aload_n hX dX6_count_88 rfl rfl ?_
      refine km_geti hX fX6_count_56 shp_0 rfl dX6_count_89 ?_
      exact km_iret hX hF rfl dX6_count_92 ⟨rfl, rfl, _, rfl, h⟩ (Nat.le_refl _) (Nat.le_refl _)
    · refine km_tableIn (off := 92) (tgt := 93) hX dX6_count_1 (by omega) (by omega) (by rw [c]; rfl) (by decide) ?_
      have h := h.2.2.2.2.2.1 c
      refine km_ren (ls' := [(0, .ref 0), (1, .int x1)]) [0, 1] rfl ?_
      exact X6_count_b93_t hX hF kqmr _ _ h
    · refine km_tableIn (off := 92) (tgt := 93) hX dX6_count_1 (by omega) (by omega) (by rw [c]; rfl) (by decide) ?_
      have h := h.2.2.2.2.2.2.1 c
      refine km_ren (ls' := [(0, .ref 0), (1, .int x1)]) [0, 1] rfl ?_
      exact X6_count_b93_t hX hF kqmr _ _ h
    · refine km_tableIn (off := 92) (tgt := 93) hX dX6_count_1 (by omega) (by omega) (by rw [c]; rfl) (by decide) ?_
      have h := h.2.2.2.2.2.2.2.1 c
      refine km_ren (ls' := [(0, .ref 0), (1, .int x1)]) [0, 1] rfl ?_
      exact X6_count_b93_t hX hF kqmr _ _ h
    · refine km_tableIn (off := 92) (tgt := 93) hX dX6_count_1 (by omega) (by omega) (by rw [c]; rfl) (by decide) ?_
      have h := h.2.2.2.2.2.2.2.2.1 c
      refine km_ren (ls' := [(0, .ref 0), (1, .int x1)]) [0, 1] rfl ?_
      exact X6_count_b93_t hX hF kqmr _ _ h
    · refine km_tableIn (off := 104) (tgt := 105) hX dX6_count_1 (by omega) (by omega) (by rw [c]; rfl) (by decide) ?_
      have h := h.2.2.2.2.2.2.2.2.2.1 c
      refine km_ren (ls' := [(0, .ref 0), (1, .int x1)]) [0, 1] rfl ?_
      exact X6_count_b105_t hX hF kqmr _ _ h
    · refine km_tableIn (off := 104) (tgt := 105) hX dX6_count_1 (by omega) (by omega) (by rw [c]; rfl) (by decide) ?_
      have h := h.2.2.2.2.2.2.2.2.2.2.1 c
      refine km_ren (ls' := [(0, .ref 0), (1, .int x1)]) [0, 1] rfl ?_
      exact X6_count_b105_t hX hF kqmr _ _ h
    · refine km_tableIn (off := 104) (tgt := 105) hX dX6_count_1 (by omega) (by omega) (by rw [c]; rfl) (by decide) ?_
      have h := h.2.2.2.2.2.2.2.2.2.2.2.1 c
      refine km_ren (ls' := [(0, .ref 0), (1, .int x1)]) [0, 1] rfl ?_
      exact X6_count_b105_t hX hF kqmr _ _ h
    · refine km_tableIn (off := 104) (tgt := 105) hX dX6_count_1 (by omega) (by omega) (by rw [c]; rfl) (by decide) ?_
      have h := h.2.2.2.2.2.2.2.2.2.2.2.2 c
      refine km_ren (ls' := [(0, .ref 0), (1, .int x1)]) [0, 1] rfl ?_
      exact X6_count_b105_t hX hF kqmr _ _ h
