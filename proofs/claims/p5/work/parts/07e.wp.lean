def X7_in_w (x0 : Int32) (x1 : Int32) (x2 : Int32) (mi : km_I) (K : Int32 → km_I → Prop) : Prop := ((x0 < x1 → K 0 mi) ∧ (¬ x0 < x1 → ((x2 < x0 → K 0 mi) ∧ (¬ x2 < x0 → K 1 mi))))
set_option maxHeartbeats 4000000 in
set_option maxRecDepth 100000 in
theorem X7_in_c {E : km_E} {l : Launch} {mr : km_R} (kqmr : km_MR mr) {x0 : Int32} {x1 : Int32} {x2 : Int32} {mi : km_I} {K : Int32 → km_I → Prop} (h : X7_in_w x0 x1 x2 mi K) : km_Ci E l yX7_in wsX7_in rmX7_in [.int x0, .int x1, .int x2] SH mi mr K := by
  refine km_start (cc := cX7_in) (maxL := 3) (ret := (some .boolean)) (by decide) rfl (Nat.le_of_ble_eq_true rfl) ?_
  intro X hl hX hF _
  subst hl

  have h : ((x0 < x1 → K 0 mi) ∧ (¬ x0 < x1 → ((x2 < x0 → K 0 mi) ∧ (¬ x2 < x0 → K 1 mi)))) := h
  refine km_iload_n hX dX7_in_0 rfl ?_
  refine km_iload_n hX dX7_in_1 rfl ?_
  refine km_icmp_lt (tgt := 14) hX dX7_in_2 (by decide) (fun c => ?_) (fun c => ?_)
  · have h := h.1 c
    refine km_iconst (v := 0) hX dX7_in_14 (by decide) ?_
    exact km_zret hX hF rfl dX7_in_15 (Or.inl rfl) ⟨rfl, rfl, _, rfl, h⟩ (Nat.le_refl _) (Nat.le_refl _)
  · have h := h.2 c
    refine km_iload_n hX dX7_in_5 rfl ?_
    refine km_iload_n hX dX7_in_6 rfl ?_
    refine km_icmp_gt (tgt := 14) hX dX7_in_7 (by decide) (fun c => ?_) (fun c => ?_)
    · have h := h.1 c
      refine km_iconst (v := 0) hX dX7_in_14 (by decide) ?_
      exact km_zret hX hF rfl dX7_in_15 (Or.inl rfl) ⟨rfl, rfl, _, rfl, h⟩ (Nat.le_refl _) (Nat.le_refl _)
    · have h := h.2 c
      refine km_iconst (v := 1) hX dX7_in_10 (by decide) ?_
      refine km_goto (tgt := 15) hX dX7_in_11 (by decide) ?_
      exact km_zret hX hF rfl dX7_in_15 (Or.inr rfl) ⟨rfl, rfl, _, rfl, h⟩ (Nat.le_refl _) (Nat.le_refl _)
def X7_isMethod_w (x1 : Int32) (x2 : Int32) (mi : km_I) (K : Int32 → km_I → Prop) : Prop := X7_in_w x1 0 1 mi (fun r3 m3 => ((r3 = 0 → K 0 m3) ∧ (¬ r3 = 0 → vp_in x1 2 ∧ X7_in_w x2 0 ((m3 87 (Int32.toNatClampNeg x1)) - 1) m3 (fun r19 m19 => ((r19 = 0 → K 0 m19) ∧ (¬ r19 = 0 → K 1 m19))))))
set_option maxHeartbeats 4000000 in
set_option maxRecDepth 100000 in
theorem X7_isMethod_c {E : km_E} {l : Launch} {mr : km_R} (kqmr : km_MR mr) {x1 : Int32} {x2 : Int32} {mi : km_I} {K : Int32 → km_I → Prop} (h : X7_isMethod_w x1 x2 mi K) : km_Ci E l yX7_isMethod wsX7_isMethod rmX7_isMethod [.ref 86, .int x1, .int x2] SH mi mr K := by
  refine km_start (cc := cX7_isMethod) (maxL := 3) (ret := (some .boolean)) (by decide) rfl (Nat.le_of_ble_eq_true rfl) ?_
  intro X hl hX hF _
  subst hl

  have h : X7_in_w x1 0 1 mi (fun r3 m3 => ((r3 = 0 → K 0 m3) ∧ (¬ r3 = 0 → vp_in x1 2 ∧ X7_in_w x2 0 ((m3 87 (Int32.toNatClampNeg x1)) - 1) m3 (fun r19 m19 => ((r19 = 0 → K 0 m19) ∧ (¬ r19 = 0 → K 1 m19)))))) := h
  refine km_iload_n hX dX7_isMethod_0 rfl ?_
  refine km_iconst (v := 0) hX dX7_isMethod_1 (by decide) ?_
  refine km_iconst (v := 1) hX dX7_isMethod_2 (by decide) ?_
  refine km_callSi hX dX7_isMethod_3 vX7_isMethod_110 (X7_in_c kqmr h) (by decide) rfl rfl (Nat.le_of_ble_eq_true rfl) (fun r3 m3 h => ?_)
  refine km_if_eq (tgt := 29) hX dX7_isMethod_6 (by decide) (fun c => ?_) (fun c => ?_)
  · have h := h.1 c
    refine km_iconst (v := 0) hX dX7_isMethod_29 (by decide) ?_
    exact km_zret hX hF rfl dX7_isMethod_30 (Or.inl rfl) ⟨rfl, rfl, _, rfl, h⟩ (Nat.le_refl _) (Nat.le_refl _)
  · have h := h.2 c
    refine km_iload_n hX dX7_isMethod_9 rfl ?_
    refine km_iconst (v := 0) hX dX7_isMethod_10 (by decide) ?_
    refine km_aload_n hX dX7_isMethod_11 rfl rfl ?_
    refine km_getr (q := 87) hX fX7_isMethod_7 shp_86 rfl dX7_isMethod_12 (mrp_86_2 kqmr) ?_
    refine km_iload_n hX dX7_isMethod_15 rfl ?_
    obtain ⟨hc, h⟩ := h
    refine km_iald hX shp_87 hc dX7_isMethod_16 ?_
    refine km_iconst (v := 1) hX dX7_isMethod_17 (by decide) ?_
    refine km_isub hX dX7_isMethod_18 ?_
    refine km_callSi hX dX7_isMethod_19 vX7_isMethod_110 (X7_in_c kqmr h) (by decide) rfl rfl (Nat.le_of_ble_eq_true rfl) (fun r19 m19 h => ?_)
    refine km_if_eq (tgt := 29) hX dX7_isMethod_22 (by decide) (fun c => ?_) (fun c => ?_)
    · have h := h.1 c
      refine km_iconst (v := 0) hX dX7_isMethod_29 (by decide) ?_
      exact km_zret hX hF rfl dX7_isMethod_30 (Or.inl rfl) ⟨rfl, rfl, _, rfl, h⟩ (Nat.le_refl _) (Nat.le_refl _)
    · have h := h.2 c
      refine km_iconst (v := 1) hX dX7_isMethod_25 (by decide) ?_
      refine km_goto (tgt := 30) hX dX7_isMethod_26 (by decide) ?_
      exact km_zret hX hF rfl dX7_isMethod_30 (Or.inr rfl) ⟨rfl, rfl, _, rfl, h⟩ (Nat.le_refl _) (Nat.le_refl _)
def X7_isNumber_w (x1 : Int32) (mi : km_I) (K : Int32 → km_I → Prop) : Prop := X7_in_w x1 0 (mi 86 1) mi (fun r6 m6 => (r6 = 0 ∨ r6 = 1) ∧ K r6 m6)
set_option maxHeartbeats 4000000 in
set_option maxRecDepth 100000 in
theorem X7_isNumber_c {E : km_E} {l : Launch} {mr : km_R} (kqmr : km_MR mr) {x1 : Int32} {mi : km_I} {K : Int32 → km_I → Prop} (h : X7_isNumber_w x1 mi K) : km_Ci E l yX7_isNumber wsX7_isNumber rmX7_isNumber [.ref 86, .int x1] SH mi mr K := by
  refine km_start (cc := cX7_isNumber) (maxL := 2) (ret := (some .boolean)) (by decide) rfl (Nat.le_of_ble_eq_true rfl) ?_
  intro X hl hX hF _
  subst hl

  have h : X7_in_w x1 0 (mi 86 1) mi (fun r6 m6 => (r6 = 0 ∨ r6 = 1) ∧ K r6 m6) := h
  refine km_iload_n hX dX7_isNumber_0 rfl ?_
  refine km_iconst (v := 0) hX dX7_isNumber_1 (by decide) ?_
  refine km_aload_n hX dX7_isNumber_2 rfl rfl ?_
  refine km_geti hX fX7_isNumber_107 shp_86 rfl dX7_isNumber_3 ?_
  refine km_callSi hX dX7_isNumber_6 vX7_isNumber_110 (X7_in_c kqmr h) (by decide) rfl rfl (Nat.le_of_ble_eq_true rfl) (fun r6 m6 h => ?_)
  obtain ⟨hc, h⟩ := h
  exact km_zret hX hF rfl dX7_isNumber_9 hc ⟨rfl, rfl, _, rfl, h⟩ (Nat.le_refl _) (Nat.le_refl _)
def X7_method_w (x1 : Int32) (mi : km_I) (K : Int32 → km_I → Prop) : Prop := X7_in_w x1 0 1 mi (fun r3 m3 => ((¬ r3 = 0 → vp_in x1 2 ∧ ((¬ (m3 87 (Int32.toNatClampNeg x1)) = 6 → vp_in x1 2 ∧ vp_in ((6 * x1) + (m3 87 (Int32.toNatClampNeg x1))) 12 ∧ (∀ m44, m44 = km_u m3 88 (Int32.toNatClampNeg ((6 * x1) + (m3 87 (Int32.toNatClampNeg x1)))) 0 → vp_in x1 2 ∧ vp_in x1 2 ∧ (∀ m54, m54 = km_u m44 87 (Int32.toNatClampNeg x1) ((m44 87 (Int32.toNatClampNeg x1)) + 1) → K (m3 87 (Int32.toNatClampNeg x1)) m54))) ∧ ((m3 87 (Int32.toNatClampNeg x1)) = 6 → K (-104) m3))) ∧ (r3 = 0 → K (-101) m3)))
set_option maxHeartbeats 4000000 in
set_option maxRecDepth 100000 in
theorem X7_method_c {E : km_E} {l : Launch} {mr : km_R} (kqmr : km_MR mr) {x1 : Int32} {mi : km_I} {K : Int32 → km_I → Prop} (h : X7_method_w x1 mi K) : km_Ci E l yX7_method wsX7_method rmX7_method [.ref 86, .int x1] SH mi mr K := by
  refine km_start (cc := cX7_method) (maxL := 3) (ret := (some .int)) (by decide) rfl (Nat.le_of_ble_eq_true rfl) ?_
  intro X hl hX hF _
  subst hl

  have h : X7_in_w x1 0 1 mi (fun r3 m3 => ((¬ r3 = 0 → vp_in x1 2 ∧ ((¬ (m3 87 (Int32.toNatClampNeg x1)) = 6 → vp_in x1 2 ∧ vp_in ((6 * x1) + (m3 87 (Int32.toNatClampNeg x1))) 12 ∧ (∀ m44, m44 = km_u m3 88 (Int32.toNatClampNeg ((6 * x1) + (m3 87 (Int32.toNatClampNeg x1)))) 0 → vp_in x1 2 ∧ vp_in x1 2 ∧ (∀ m54, m54 = km_u m44 87 (Int32.toNatClampNeg x1) ((m44 87 (Int32.toNatClampNeg x1)) + 1) → K (m3 87 (Int32.toNatClampNeg x1)) m54))) ∧ ((m3 87 (Int32.toNatClampNeg x1)) = 6 → K (-104) m3))) ∧ (r3 = 0 → K (-101) m3))) := h
  refine km_iload_n hX dX7_method_0 rfl ?_
  refine km_iconst (v := 0) hX dX7_method_1 (by decide) ?_
  refine km_iconst (v := 1) hX dX7_method_2 (by decide) ?_
  refine km_callSi hX dX7_method_3 vX7_method_110 (X7_in_c kqmr h) (by decide) rfl rfl (Nat.le_of_ble_eq_true rfl) (fun r3 m3 h => ?_)
  refine km_if_ne (tgt := 12) hX dX7_method_6 (by decide) (fun c => ?_) (fun c => ?_)
  · have h := h.1 c
    refine km_aload_n hX dX7_method_12 rfl rfl ?_
    refine km_getr (q := 87) hX fX7_method_7 shp_86 rfl dX7_method_13 (mrp_86_2 kqmr) ?_
    refine km_iload_n hX dX7_method_16 rfl ?_
    obtain ⟨hc, h⟩ := h
    refine km_iald hX shp_87 hc dX7_method_17 ?_
    refine km_bipush (v := 6) hX dX7_method_18 (by decide) ?_
    refine km_icmp_ne (tgt := 26) hX dX7_method_20 (by decide) (fun c => ?_) (fun c => ?_)
    · have h := h.1 c
      refine km_aload_n hX dX7_method_26 rfl rfl ?_
      refine km_getr (q := 87) hX fX7_method_7 shp_86 rfl dX7_method_27 (mrp_86_2 kqmr) ?_
      refine km_iload_n hX dX7_method_30 rfl ?_
      obtain ⟨hc, h⟩ := h
      refine km_iald hX shp_87 hc dX7_method_31 ?_
      refine km_istore_n hX dX7_method_32 (by decide) ?_
      refine km_aload_n hX dX7_method_33 rfl rfl ?_
      refine km_getr (q := 88) hX fX7_method_13 shp_86 rfl dX7_method_34 (mrp_86_3 kqmr) ?_
      refine km_bipush (v := 6) hX dX7_method_37 (by decide) ?_
      refine km_iload_n hX dX7_method_39 rfl ?_
      refine km_imul hX dX7_method_40 ?_
      refine km_iload_n hX dX7_method_41 rfl ?_
      refine km_iadd hX dX7_method_42 ?_
      refine km_iconst (v := 0) hX dX7_method_43 (by decide) ?_
      obtain ⟨hc, h⟩ := h
      refine km_iastN hX shp_88 hc dX7_method_44 (fun m44 e44 => ?_)
      have h := h m44 e44
      refine km_aload_n hX dX7_method_45 rfl rfl ?_
      refine km_getr (q := 87) hX fX7_method_7 shp_86 rfl dX7_method_46 (mrp_86_2 kqmr) ?_
      refine km_iload_n hX dX7_method_49 rfl ?_
      refine km_dup2 hX dX7_method_50 ?_
      obtain ⟨hc, h⟩ := h
      refine km_iald hX shp_87 hc dX7_method_51 ?_
      refine km_iconst (v := 1) hX dX7_method_52 (by decide) ?_
      refine km_iadd hX dX7_method_53 ?_
      obtain ⟨hc, h⟩ := h
      refine km_iastN hX shp_87 hc dX7_method_54 (fun m54 e54 => ?_)
      have h := h m54 e54
      refine km_iload_n hX dX7_method_55 rfl ?_
      exact km_iret hX hF rfl dX7_method_56 ⟨rfl, rfl, _, rfl, h⟩ (Nat.le_refl _) (Nat.le_refl _)
    · have h := h.2 c
      refine km_bipush (v := -104) hX dX7_method_23 (by decide) ?_
      exact km_iret hX hF rfl dX7_method_25 ⟨rfl, rfl, _, rfl, h⟩ (Nat.le_refl _) (Nat.le_refl _)
  · have h := h.2 c
    refine km_bipush (v := -101) hX dX7_method_9 (by decide) ?_
    exact km_iret hX hF rfl dX7_method_11 ⟨rfl, rfl, _, rfl, h⟩ (Nat.le_refl _) (Nat.le_refl _)
def X7_isRegister_w (x0 : Int32) (mi : km_I) (K : Int32 → km_I → Prop) : Prop := X7_in_w x0 0 5 mi (fun r3 m3 => (r3 = 0 ∨ r3 = 1) ∧ K r3 m3)
set_option maxHeartbeats 4000000 in
set_option maxRecDepth 100000 in
theorem X7_isRegister_c {E : km_E} {l : Launch} {mr : km_R} (kqmr : km_MR mr) {x0 : Int32} {mi : km_I} {K : Int32 → km_I → Prop} (h : X7_isRegister_w x0 mi K) : km_Ci E l yX7_isRegister wsX7_isRegister rmX7_isRegister [.int x0] SH mi mr K := by
  refine km_start (cc := cX7_isRegister) (maxL := 1) (ret := (some .boolean)) (by decide) rfl (Nat.le_of_ble_eq_true rfl) ?_
  intro X hl hX hF _
  subst hl

  have h : X7_in_w x0 0 5 mi (fun r3 m3 => (r3 = 0 ∨ r3 = 1) ∧ K r3 m3) := h
  refine km_iload_n hX dX7_isRegister_0 rfl ?_
  refine km_iconst (v := 0) hX dX7_isRegister_1 (by decide) ?_
  refine km_iconst (v := 5) hX dX7_isRegister_2 (by decide) ?_
  refine km_callSi hX dX7_isRegister_3 vX7_isRegister_110 (X7_in_c kqmr h) (by decide) rfl rfl (Nat.le_of_ble_eq_true rfl) (fun r3 m3 h => ?_)
  obtain ⟨hc, h⟩ := h
  exact km_zret hX hF rfl dX7_isRegister_6 hc ⟨rfl, rfl, _, rfl, h⟩ (Nat.le_refl _) (Nat.le_refl _)
def X7_isRight_b232 (x1 : Int32) (x2 : Int32) (x3 : Int32) (x4 : Int32) (y1 : Int32) (y2 : Int32) (y3 : Int32) (y4 : Int32) (mi : km_I) (K : Int32 → km_I → Prop) : Prop := X7_in_w y1 2 9 mi (fun r236 m236 => ((r236 = 0 → K 0 m236) ∧ (¬ r236 = 0 → X7_isRegister_w y2 m236 (fun r243 m243 => ((r243 = 0 → K 0 m243) ∧ (¬ r243 = 0 → X7_isRegister_w y3 m243 (fun r250 m250 => ((r250 = 0 → K 0 m250) ∧ (¬ r250 = 0 → X7_isRegister_w y4 m250 (fun r258 m258 => ((r258 = 0 → K 0 m258) ∧ (¬ r258 = 0 → K 1 m258))))))))))))
set_option maxHeartbeats 4000000 in
set_option maxRecDepth 100000 in
theorem X7_isRight_b232_t {E : km_E} {X : km_X} {mr : km_R} {K : Int32 → km_I → Prop} {x1 : Int32} {x2 : Int32} {x3 : Int32} {x4 : Int32} (hX : km_ok E X rmX7_isRight cX7_isRight 5 wsX7_isRight RX7) (hF : km_fin E X (some .boolean) 0 0 (fun r sh' mi' mr' => sh' = SH ∧ mr' = mr ∧ ∃ i, r = some (.int i) ∧ K i mi')) (kqmr : km_MR mr) : ∀ (y1 : Int32) (y2 : Int32) (y3 : Int32) (y4 : Int32) (mi : km_I), X7_isRight_b232 x1 x2 x3 x4 y1 y2 y3 y4 mi K → km_G E X 5 SH mi mr 0 0 232 [(0, .ref 86), (1, .int y1), (2, .int y2), (3, .int y3), (4, .int y4)] [] := by
  intro y1 y2 y3 y4 mi h
  have h : X7_in_w y1 2 9 mi (fun r236 m236 => ((r236 = 0 → K 0 m236) ∧ (¬ r236 = 0 → X7_isRegister_w y2 m236 (fun r243 m243 => ((r243 = 0 → K 0 m243) ∧ (¬ r243 = 0 → X7_isRegister_w y3 m243 (fun r250 m250 => ((r250 = 0 → K 0 m250) ∧ (¬ r250 = 0 → X7_isRegister_w y4 m250 (fun r258 m258 => ((r258 = 0 → K 0 m258) ∧ (¬ r258 = 0 → K 1 m258)))))))))))) := h
  refine km_iload_n hX dX7_isRight_232 rfl ?_
  refine km_iconst (v := 2) hX dX7_isRight_233 (by decide) ?_
  refine km_bipush (v := 9) hX dX7_isRight_234 (by decide) ?_
  refine km_callSi hX dX7_isRight_236 vX7_isRight_110 (X7_in_c kqmr h) (by decide) rfl rfl (Nat.le_of_ble_eq_true rfl) (fun r236 m236 h => ?_)
  refine km_if_eq (tgt := 268) hX dX7_isRight_239 (by decide) (fun c => ?_) (fun c => ?_)
  · have h := h.1 c
    refine km_iconst (v := 0) hX dX7_isRight_268 (by decide) ?_
    exact km_zret hX hF rfl dX7_isRight_269 (Or.inl rfl) ⟨rfl, rfl, _, rfl, h⟩ (Nat.le_refl _) (Nat.le_refl _)
  · have h := h.2 c
    refine km_iload_n hX dX7_isRight_242 rfl ?_
    refine km_callSi hX dX7_isRight_243 vX7_isRight_114 (X7_isRegister_c kqmr h) (by decide) rfl rfl (Nat.le_of_ble_eq_true rfl) (fun r243 m243 h => ?_)
    refine km_if_eq (tgt := 268) hX dX7_isRight_246 (by decide) (fun c => ?_) (fun c => ?_)
    · have h := h.1 c
      refine km_iconst (v := 0) hX dX7_isRight_268 (by decide) ?_
      exact km_zret hX hF rfl dX7_isRight_269 (Or.inl rfl) ⟨rfl, rfl, _, rfl, h⟩ (Nat.le_refl _) (Nat.le_refl _)
    · have h := h.2 c
      refine km_iload_n hX dX7_isRight_249 rfl ?_
      refine km_callSi hX dX7_isRight_250 vX7_isRight_114 (X7_isRegister_c kqmr h) (by decide) rfl rfl (Nat.le_of_ble_eq_true rfl) (fun r250 m250 h => ?_)
      refine km_if_eq (tgt := 268) hX dX7_isRight_253 (by decide) (fun c => ?_) (fun c => ?_)
      · have h := h.1 c
        refine km_iconst (v := 0) hX dX7_isRight_268 (by decide) ?_
        exact km_zret hX hF rfl dX7_isRight_269 (Or.inl rfl) ⟨rfl, rfl, _, rfl, h⟩ (Nat.le_refl _) (Nat.le_refl _)
      · have h := h.2 c
        refine km_iload hX dX7_isRight_256 rfl ?_
        refine km_callSi hX dX7_isRight_258 vX7_isRight_114 (X7_isRegister_c kqmr h) (by decide) rfl rfl (Nat.le_of_ble_eq_true rfl) (fun r258 m258 h => ?_)
        refine km_if_eq (tgt := 268) hX dX7_isRight_261 (by decide) (fun c => ?_) (fun c => ?_)
        · have h := h.1 c
          refine km_iconst (v := 0) hX dX7_isRight_268 (by decide) ?_
          exact km_zret hX hF rfl dX7_isRight_269 (Or.inl rfl) ⟨rfl, rfl, _, rfl, h⟩ (Nat.le_refl _) (Nat.le_refl _)
        · have h := h.2 c
          refine km_iconst (v := 1) hX dX7_isRight_264 (by decide) ?_
          refine km_goto (tgt := 269) hX dX7_isRight_265 (by decide) ?_
          exact km_zret hX hF rfl dX7_isRight_269 (Or.inr rfl) ⟨rfl, rfl, _, rfl, h⟩ (Nat.le_refl _) (Nat.le_refl _)
def X7_isRight_w (x1 : Int32) (x2 : Int32) (x3 : Int32) (x4 : Int32) (mi : km_I) (K : Int32 → km_I → Prop) : Prop := (((Int32.toInt (x1)) < 0 ∨ 15 < (Int32.toInt (x1)) → X7_isRight_b232 x1 x2 x3 x4 x1 x2 x3 x4 mi K) ∧ ((Int32.toInt (x1)) = 0 → X7_isRegister_w x2 mi (fun r81 m81 => ((r81 = 0 → K 0 m81) ∧ (¬ r81 = 0 → X7_isNumber_w x3 m81 (fun r89 m89 => ((r89 = 0 → K 0 m89) ∧ (¬ r89 = 0 → K 1 m89))))))) ∧ ((Int32.toInt (x1)) = 1 → X7_isRegister_w x2 mi (fun r102 m102 => ((r102 = 0 → K 0 m102) ∧ (¬ r102 = 0 → X7_isRegister_w x3 m102 (fun r109 m109 => ((r109 = 0 → K 0 m109) ∧ (¬ r109 = 0 → K 1 m109))))))) ∧ ((Int32.toInt (x1)) = 2 → X7_isRight_b232 x1 x2 x3 x4 x1 x2 x3 x4 mi K) ∧ ((Int32.toInt (x1)) = 3 → X7_isRight_b232 x1 x2 x3 x4 x1 x2 x3 x4 mi K) ∧ ((Int32.toInt (x1)) = 4 → X7_isRight_b232 x1 x2 x3 x4 x1 x2 x3 x4 mi K) ∧ ((Int32.toInt (x1)) = 5 → X7_isRight_b232 x1 x2 x3 x4 x1 x2 x3 x4 mi K) ∧ ((Int32.toInt (x1)) = 6 → X7_isRight_b232 x1 x2 x3 x4 x1 x2 x3 x4 mi K) ∧ ((Int32.toInt (x1)) = 7 → X7_isRight_b232 x1 x2 x3 x4 x1 x2 x3 x4 mi K) ∧ ((Int32.toInt (x1)) = 8 → X7_isRight_b232 x1 x2 x3 x4 x1 x2 x3 x4 mi K) ∧ ((Int32.toInt (x1)) = 9 → X7_isRight_b232 x1 x2 x3 x4 x1 x2 x3 x4 mi K) ∧ ((Int32.toInt (x1)) = 10 → X7_isRegister_w x2 mi (fun r122 m122 => ((r122 = 0 → K 0 m122) ∧ (¬ r122 = 0 → X7_in_w x3 0 24 m122 (fun r132 m132 => ((r132 = 0 → K 0 m132) ∧ (¬ r132 = 0 → K 1 m132))))))) ∧ ((Int32.toInt (x1)) = 11 → X7_in_w x2 0 24 mi (fun r148 m148 => (r148 = 0 ∨ r148 = 1) ∧ K r148 m148)) ∧ ((Int32.toInt (x1)) = 12 → X7_in_w x2 0 3 mi (fun r155 m155 => ((r155 = 0 → K 0 m155) ∧ (¬ r155 = 0 → X7_isRegister_w x3 m155 (fun r162 m162 => ((r162 = 0 → K 0 m162) ∧ (¬ r162 = 0 → K 1 m162))))))) ∧ ((Int32.toInt (x1)) = 13 → X7_isRegister_w x2 mi (fun r175 m175 => ((r175 = 0 → K 0 m175) ∧ (¬ r175 = 0 → X7_in_w x3 0 5 m175 (fun r184 m184 => ((r184 = 0 → K 0 m184) ∧ (¬ r184 = 0 → X7_isRegister_w x4 m184 (fun r192 m192 => ((r192 = 0 → K 0 m192) ∧ (¬ r192 = 0 → K 1 m192)))))))))) ∧ ((Int32.toInt (x1)) = 14 → X7_isRegister_w x2 mi (fun r205 m205 => (r205 = 0 ∨ r205 = 1) ∧ K r205 m205)) ∧ ((Int32.toInt (x1)) = 15 → X7_in_w x2 2 7 mi (fun r213 m213 => ((r213 = 0 → K 0 m213) ∧ (¬ r213 = 0 → X7_isRegister_w x3 m213 (fun r220 m220 => ((r220 = 0 → K 0 m220) ∧ (¬ r220 = 0 → K 1 m220))))))))
set_option maxHeartbeats 4000000 in
set_option maxRecDepth 100000 in
theorem X7_isRight_c {E : km_E} {l : Launch} {mr : km_R} (kqmr : km_MR mr) {x1 : Int32} {x2 : Int32} {x3 : Int32} {x4 : Int32} {mi : km_I} {K : Int32 → km_I → Prop} (h : X7_isRight_w x1 x2 x3 x4 mi K) : km_Ci E l yX7_isRight wsX7_isRight rmX7_isRight [.ref 86, .int x1, .int x2, .int x3, .int x4] SH mi mr K := by
  refine km_start (cc := cX7_isRight) (maxL := 5) (ret := (some .boolean)) (by decide) rfl (Nat.le_of_ble_eq_true rfl) ?_
  intro X hl hX hF _
  subst hl

  have h : (((Int32.toInt (x1)) < 0 ∨ 15 < (Int32.toInt (x1)) → X7_isRight_b232 x1 x2 x3 x4 x1 x2 x3 x4 mi K) ∧ ((Int32.toInt (x1)) = 0 → X7_isRegister_w x2 mi (fun r81 m81 => ((r81 = 0 → K 0 m81) ∧ (¬ r81 = 0 → X7_isNumber_w x3 m81 (fun r89 m89 => ((r89 = 0 → K 0 m89) ∧ (¬ r89 = 0 → K 1 m89))))))) ∧ ((Int32.toInt (x1)) = 1 → X7_isRegister_w x2 mi (fun r102 m102 => ((r102 = 0 → K 0 m102) ∧ (¬ r102 = 0 → X7_isRegister_w x3 m102 (fun r109 m109 => ((r109 = 0 → K 0 m109) ∧ (¬ r109 = 0 → K 1 m109))))))) ∧ ((Int32.toInt (x1)) = 2 → X7_isRight_b232 x1 x2 x3 x4 x1 x2 x3 x4 mi K) ∧ ((Int32.toInt (x1)) = 3 → X7_isRight_b232 x1 x2 x3 x4 x1 x2 x3 x4 mi K) ∧ ((Int32.toInt (x1)) = 4 → X7_isRight_b232 x1 x2 x3 x4 x1 x2 x3 x4 mi K) ∧ ((Int32.toInt (x1)) = 5 → X7_isRight_b232 x1 x2 x3 x4 x1 x2 x3 x4 mi K) ∧ ((Int32.toInt (x1)) = 6 → X7_isRight_b232 x1 x2 x3 x4 x1 x2 x3 x4 mi K) ∧ ((Int32.toInt (x1)) = 7 → X7_isRight_b232 x1 x2 x3 x4 x1 x2 x3 x4 mi K) ∧ ((Int32.toInt (x1)) = 8 → X7_isRight_b232 x1 x2 x3 x4 x1 x2 x3 x4 mi K) ∧ ((Int32.toInt (x1)) = 9 → X7_isRight_b232 x1 x2 x3 x4 x1 x2 x3 x4 mi K) ∧ ((Int32.toInt (x1)) = 10 → X7_isRegister_w x2 mi (fun r122 m122 => ((r122 = 0 → K 0 m122) ∧ (¬ r122 = 0 → X7_in_w x3 0 24 m122 (fun r132 m132 => ((r132 = 0 → K 0 m132) ∧ (¬ r132 = 0 → K 1 m132))))))) ∧ ((Int32.toInt (x1)) = 11 → X7_in_w x2 0 24 mi (fun r148 m148 => (r148 = 0 ∨ r148 = 1) ∧ K r148 m148)) ∧ ((Int32.toInt (x1)) = 12 → X7_in_w x2 0 3 mi (fun r155 m155 => ((r155 = 0 → K 0 m155) ∧ (¬ r155 = 0 → X7_isRegister_w x3 m155 (fun r162 m162 => ((r162 = 0 → K 0 m162) ∧ (¬ r162 = 0 → K 1 m162))))))) ∧ ((Int32.toInt (x1)) = 13 → X7_isRegister_w x2 mi (fun r175 m175 => ((r175 = 0 → K 0 m175) ∧ (¬ r175 = 0 → X7_in_w x3 0 5 m175 (fun r184 m184 => ((r184 = 0 → K 0 m184) ∧ (¬ r184 = 0 → X7_isRegister_w x4 m184 (fun r192 m192 => ((r192 = 0 → K 0 m192) ∧ (¬ r192 = 0 → K 1 m192)))))))))) ∧ ((Int32.toInt (x1)) = 14 → X7_isRegister_w x2 mi (fun r205 m205 => (r205 = 0 ∨ r205 = 1) ∧ K r205 m205)) ∧ ((Int32.toInt (x1)) = 15 → X7_in_w x2 2 7 mi (fun r213 m213 => ((r213 = 0 → K 0 m213) ∧ (¬ r213 = 0 → X7_isRegister_w x3 m213 (fun r220 m220 => ((r220 = 0 → K 0 m220) ∧ (¬ r220 = 0 → K 1 m220)))))))) := h
  refine km_iload_n hX dX7_isRight_0 rfl ?_
  by_cases cO : (Int32.toInt (x1)) < 0 ∨ 15 < (Int32.toInt (x1))
  · refine km_tableOut (tgt := 232) hX dX7_isRight_1 cO (by decide) ?_
    have h := h.1 cO
    refine km_ren (ls' := [(0, .ref 86), (1, .int x1), (2, .int x2), (3, .int x3), (4, .int x4)]) [0, 1, 2, 3, 4] rfl ?_
    exact X7_isRight_b232_t hX hF kqmr _ _ _ _ _ h
  · have cI : (Int32.toInt (x1)) = 0 ∨ (Int32.toInt (x1)) = 1 ∨ (Int32.toInt (x1)) = 2 ∨ (Int32.toInt (x1)) = 3 ∨ (Int32.toInt (x1)) = 4 ∨ (Int32.toInt (x1)) = 5 ∨ (Int32.toInt (x1)) = 6 ∨ (Int32.toInt (x1)) = 7 ∨ (Int32.toInt (x1)) = 8 ∨ (Int32.toInt (x1)) = 9 ∨ (Int32.toInt (x1)) = 10 ∨ (Int32.toInt (x1)) = 11 ∨ (Int32.toInt (x1)) = 12 ∨ (Int32.toInt (x1)) = 13 ∨ (Int32.toInt (x1)) = 14 ∨ (Int32.toInt (x1)) = 15 := by omega
    rcases cI with c | c | c | c | c | c | c | c | c | c | c | c | c | c | c | c
    · refine km_tableIn (off := 79) (tgt := 80) hX dX7_isRight_1 (by omega) (by omega) (by rw [c]; rfl) (by decide) ?_
      have h := h.2.1 c
      refine km_iload_n hX dX7_isRight_80 rfl ?_
      refine km_callSi hX dX7_isRight_81 vX7_isRight_114 (X7_isRegister_c kqmr h) (by decide) rfl rfl (Nat.le_of_ble_eq_true rfl) (fun r81 m81 h => ?_)
      refine km_if_eq (tgt := 99) hX dX7_isRight_84 (by decide) (fun c => ?_) (fun c => ?_)
      · have h := h.1 c
        refine km_iconst (v := 0) hX dX7_isRight_99 (by decide) ?_
        exact km_zret hX hF rfl dX7_isRight_100 (Or.inl rfl) ⟨rfl, rfl, _, rfl, h⟩ (Nat.le_refl _) (Nat.le_refl _)
      · have h := h.2 c
        refine km_aload_n hX dX7_isRight_87 rfl rfl ?_
        refine km_iload_n hX dX7_isRight_88 rfl ?_
        refine km_callVi hX dX7_isRight_89 vX7_isRight_118 (X7_isNumber_c kqmr h) (by decide) shp_86 rfl rfl (Nat.le_of_ble_eq_true rfl) (fun r89 m89 h => ?_)
        refine km_if_eq (tgt := 99) hX dX7_isRight_92 (by decide) (fun c => ?_) (fun c => ?_)
        · have h := h.1 c
          refine km_iconst (v := 0) hX dX7_isRight_99 (by decide) ?_
          exact km_zret hX hF rfl dX7_isRight_100 (Or.inl rfl) ⟨rfl, rfl, _, rfl, h⟩ (Nat.le_refl _) (Nat.le_refl _)
        · have h := h.2 c
          refine km_iconst (v := 1) hX dX7_isRight_95 (by decide) ?_
          refine km_goto (tgt := 100) hX dX7_isRight_96 (by decide) ?_
          exact km_zret hX hF rfl dX7_isRight_100 (Or.inr rfl) ⟨rfl, rfl, _, rfl, h⟩ (Nat.le_refl _) (Nat.le_refl _)
    · refine km_tableIn (off := 100) (tgt := 101) hX dX7_isRight_1 (by omega) (by omega) (by rw [c]; rfl) (by decide) ?_
      have h := h.2.2.1 c
      refine km_iload_n hX dX7_isRight_101 rfl ?_
      refine km_callSi hX dX7_isRight_102 vX7_isRight_114 (X7_isRegister_c kqmr h) (by decide) rfl rfl (Nat.le_of_ble_eq_true rfl) (fun r102 m102 h => ?_)
      refine km_if_eq (tgt := 119) hX dX7_isRight_105 (by decide) (fun c => ?_) (fun c => ?_)
      · have h := h.1 c
        refine km_iconst (v := 0) hX dX7_isRight_119 (by decide) ?_
        exact km_zret hX hF rfl dX7_isRight_120 (Or.inl rfl) ⟨rfl, rfl, _, rfl, h⟩ (Nat.le_refl _) (Nat.le_refl _)
      · have h := h.2 c
        refine km_iload_n hX dX7_isRight_108 rfl ?_
        refine km_callSi hX dX7_isRight_109 vX7_isRight_114 (X7_isRegister_c kqmr h) (by decide) rfl rfl (Nat.le_of_ble_eq_true rfl) (fun r109 m109 h => ?_)
        refine km_if_eq (tgt := 119) hX dX7_isRight_112 (by decide) (fun c => ?_) (fun c => ?_)
        · have h := h.1 c
          refine km_iconst (v := 0) hX dX7_isRight_119 (by decide) ?_
          exact km_zret hX hF rfl dX7_isRight_120 (Or.inl rfl) ⟨rfl, rfl, _, rfl, h⟩ (Nat.le_refl _) (Nat.le_refl _)
        · have h := h.2 c
          refine km_iconst (v := 1) hX dX7_isRight_115 (by decide) ?_
          refine km_goto (tgt := 120) hX dX7_isRight_116 (by decide) ?_
          exact km_zret hX hF rfl dX7_isRight_120 (Or.inr rfl) ⟨rfl, rfl, _, rfl, h⟩ (Nat.le_refl _) (Nat.le_refl _)
    · refine km_tableIn (off := 231) (tgt := 232) hX dX7_isRight_1 (by omega) (by omega) (by rw [c]; rfl) (by decide) ?_
      have h := h.2.2.2.1 c
      refine km_ren (ls' := [(0, .ref 86), (1, .int x1), (2, .int x2), (3, .int x3), (4, .int x4)]) [0, 1, 2, 3, 4] rfl ?_
      exact X7_isRight_b232_t hX hF kqmr _ _ _ _ _ h
    · refine km_tableIn (off := 231) (tgt := 232) hX dX7_isRight_1 (by omega) (by omega) (by rw [c]; rfl) (by decide) ?_
      have h := h.2.2.2.2.1 c
      refine km_ren (ls' := [(0, .ref 86), (1, .int x1), (2, .int x2), (3, .int x3), (4, .int x4)]) [0, 1, 2, 3, 4] rfl ?_
      exact X7_isRight_b232_t hX hF kqmr _ _ _ _ _ h
    · refine km_tableIn (off := 231) (tgt := 232) hX dX7_isRight_1 (by omega) (by omega) (by rw [c]; rfl) (by decide) ?_
      have h := h.2.2.2.2.2.1 c
      refine km_ren (ls' := [(0, .ref 86), (1, .int x1), (2, .int x2), (3, .int x3), (4, .int x4)]) [0, 1, 2, 3, 4] rfl ?_
      exact X7_isRight_b232_t hX hF kqmr _ _ _ _ _ h
    · refine km_tableIn (off := 231) (tgt := 232) hX dX7_isRight_1 (by omega) (by omega) (by rw [c]; rfl) (by decide) ?_
      have h := h.2.2.2.2.2.2.1 c
      refine km_ren (ls' := [(0, .ref 86), (1, .int x1), (2, .int x2), (3, .int x3), (4, .int x4)]) [0, 1, 2, 3, 4] rfl ?_
      exact X7_isRight_b232_t hX hF kqmr _ _ _ _ _ h
    · refine km_tableIn (off := 231) (tgt := 232) hX dX7_isRight_1 (by omega) (by omega) (by rw [c]; rfl) (by decide) ?_
      have h := h.2.2.2.2.2.2.2.1 c
      refine km_ren (ls' := [(0, .ref 86), (1, .int x1), (2, .int x2), (3, .int x3), (4, .int x4)]) [0, 1, 2, 3, 4] rfl ?_
      exact X7_isRight_b232_t hX hF kqmr _ _ _ _ _ h
    · refine km_tableIn (off := 231) (tgt := 232) hX dX7_isRight_1 (by omega) (by omega) (by rw [c]; rfl) (by decide) ?_
      have h := h.2.2.2.2.2.2.2.2.1 c
      refine km_ren (ls' := [(0, .ref 86), (1, .int x1), (2, .int x2), (3, .int x3), (4, .int x4)]) [0, 1, 2, 3, 4] rfl ?_
      exact X7_isRight_b232_t hX hF kqmr _ _ _ _ _ h
    · refine km_tableIn (off := 231) (tgt := 232) hX dX7_isRight_1 (by omega) (by omega) (by rw [c]; rfl) (by decide) ?_
      have h := h.2.2.2.2.2.2.2.2.2.1 c
      refine km_ren (ls' := [(0, .ref 86), (1, .int x1), (2, .int x2), (3, .int x3), (4, .int x4)]) [0, 1, 2, 3, 4] rfl ?_
      exact X7_isRight_b232_t hX hF kqmr _ _ _ _ _ h
    · refine km_tableIn (off := 231) (tgt := 232) hX dX7_isRight_1 (by omega) (by omega) (by rw [c]; rfl) (by decide) ?_
      have h := h.2.2.2.2.2.2.2.2.2.2.1 c
      refine km_ren (ls' := [(0, .ref 86), (1, .int x1), (2, .int x2), (3, .int x3), (4, .int x4)]) [0, 1, 2, 3, 4] rfl ?_
      exact X7_isRight_b232_t hX hF kqmr _ _ _ _ _ h
    · refine km_tableIn (off := 120) (tgt := 121) hX dX7_isRight_1 (by omega) (by omega) (by rw [c]; rfl) (by decide) ?_
      have h := h.2.2.2.2.2.2.2.2.2.2.2.1 c
      refine km_iload_n hX dX7_isRight_121 rfl ?_
      refine km_callSi hX dX7_isRight_122 vX7_isRight_114 (X7_isRegister_c kqmr h) (by decide) rfl rfl (Nat.le_of_ble_eq_true rfl) (fun r122 m122 h => ?_)
      refine km_if_eq (tgt := 142) hX dX7_isRight_125 (by decide) (fun c => ?_) (fun c => ?_)
      · have h := h.1 c
        refine km_iconst (v := 0) hX dX7_isRight_142 (by decide) ?_
        exact km_zret hX hF rfl dX7_isRight_143 (Or.inl rfl) ⟨rfl, rfl, _, rfl, h⟩ (Nat.le_refl _) (Nat.le_refl _)
      · have h := h.2 c
        refine km_iload_n hX dX7_isRight_128 rfl ?_
        refine km_iconst (v := 0) hX dX7_isRight_129 (by decide) ?_
        refine km_bipush (v := 24) hX dX7_isRight_130 (by decide) ?_
        refine km_callSi hX dX7_isRight_132 vX7_isRight_110 (X7_in_c kqmr h) (by decide) rfl rfl (Nat.le_of_ble_eq_true rfl) (fun r132 m132 h => ?_)
        refine km_if_eq (tgt := 142) hX dX7_isRight_135 (by decide) (fun c => ?_) (fun c => ?_)
        · have h := h.1 c
          refine km_iconst (v := 0) hX dX7_isRight_142 (by decide) ?_
          exact km_zret hX hF rfl dX7_isRight_143 (Or.inl rfl) ⟨rfl, rfl, _, rfl, h⟩ (Nat.le_refl _) (Nat.le_refl _)
        · have h := h.2 c
          refine km_iconst (v := 1) hX dX7_isRight_138 (by decide) ?_
          refine km_goto (tgt := 143) hX dX7_isRight_139 (by decide) ?_
          exact km_zret hX hF rfl dX7_isRight_143 (Or.inr rfl) ⟨rfl, rfl, _, rfl, h⟩ (Nat.le_refl _) (Nat.le_refl _)
    · refine km_tableIn (off := 143) (tgt := 144) hX dX7_isRight_1 (by omega) (by omega) (by rw [c]; rfl) (by decide) ?_
      have h := h.2.2.2.2.2.2.2.2.2.2.2.2.1 c
      refine km_iload_n hX dX7_isRight_144 rfl ?_
      refine km_iconst (v := 0) hX dX7_isRight_145 (by decide) ?_
      refine km_bipush (v := 24) hX dX7_isRight_146 (by decide) ?_
      refine km_callSi hX dX7_isRight_148 vX7_isRight_110 (X7_in_c kqmr h) (by decide) rfl rfl (Nat.le_of_ble_eq_true rfl) (fun r148 m148 h => ?_)
      obtain ⟨hc, h⟩ := h
      exact km_zret hX hF rfl dX7_isRight_151 hc ⟨rfl, rfl, _, rfl, h⟩ (Nat.le_refl _) (Nat.le_refl _)
    · refine km_tableIn (off := 151) (tgt := 152) hX dX7_isRight_1 (by omega) (by omega) (by rw [c]; rfl) (by decide) ?_
      have h := h.2.2.2.2.2.2.2.2.2.2.2.2.2.1 c
      refine km_iload_n hX dX7_isRight_152 rfl ?_
      refine km_iconst (v := 0) hX dX7_isRight_153 (by decide) ?_
      refine km_iconst (v := 3) hX dX7_isRight_154 (by decide) ?_
      refine km_callSi hX dX7_isRight_155 vX7_isRight_110 (X7_in_c kqmr h) (by decide) rfl rfl (Nat.le_of_ble_eq_true rfl) (fun r155 m155 h => ?_)
      refine km_if_eq (tgt := 172) hX dX7_isRight_158 (by decide) (fun c => ?_) (fun c => ?_)
      · have h := h.1 c
        refine km_iconst (v := 0) hX dX7_isRight_172 (by decide) ?_
        exact km_zret hX hF rfl dX7_isRight_173 (Or.inl rfl) ⟨rfl, rfl, _, rfl, h⟩ (Nat.le_refl _) (Nat.le_refl _)
      · have h := h.2 c
        refine km_iload_n hX dX7_isRight_161 rfl ?_
        refine km_callSi hX dX7_isRight_162 vX7_isRight_114 (X7_isRegister_c kqmr h) (by decide) rfl rfl (Nat.le_of_ble_eq_true rfl) (fun r162 m162 h => ?_)
        refine km_if_eq (tgt := 172) hX dX7_isRight_165 (by decide) (fun c => ?_) (fun c => ?_)
        · have h := h.1 c
          refine km_iconst (v := 0) hX dX7_isRight_172 (by decide) ?_
          exact km_zret hX hF rfl dX7_isRight_173 (Or.inl rfl) ⟨rfl, rfl, _, rfl, h⟩ (Nat.le_refl _) (Nat.le_refl _)
        · have h := h.2 c
          refine km_iconst (v := 1) hX dX7_isRight_168 (by decide) ?_
          refine km_goto (tgt := 173) hX dX7_isRight_169 (by decide) ?_
          exact km_zret hX hF rfl dX7_isRight_173 (Or.inr rfl) ⟨rfl, rfl, _, rfl, h⟩ (Nat.le_refl _) (Nat.le_refl _)
    · refine km_tableIn (off := 173) (tgt := 174) hX dX7_isRight_1 (by omega) (by omega) (by rw [c]; rfl) (by decide) ?_
      have h := h.2.2.2.2.2.2.2.2.2.2.2.2.2.2.1 c
      refine km_iload_n hX dX7_isRight_174 rfl ?_
      refine km_callSi hX dX7_isRight_175 vX7_isRight_114 (X7_isRegister_c kqmr h) (by decide) rfl rfl (Nat.le_of_ble_eq_true rfl) (fun r175 m175 h => ?_)
      refine km_if_eq (tgt := 202) hX dX7_isRight_178 (by decide) (fun c => ?_) (fun c => ?_)
      · have h := h.1 c
        refine km_iconst (v := 0) hX dX7_isRight_202 (by decide) ?_
        exact km_zret hX hF rfl dX7_isRight_203 (Or.inl rfl) ⟨rfl, rfl, _, rfl, h⟩ (Nat.le_refl _) (Nat.le_refl _)
      · have h := h.2 c
        refine km_iload_n hX dX7_isRight_181 rfl ?_
        refine km_iconst (v := 0) hX dX7_isRight_182 (by decide) ?_
        refine km_iconst (v := 5) hX dX7_isRight_183 (by decide) ?_
        refine km_callSi hX dX7_isRight_184 vX7_isRight_110 (X7_in_c kqmr h) (by decide) rfl rfl (Nat.le_of_ble_eq_true rfl) (fun r184 m184 h => ?_)
        refine km_if_eq (tgt := 202) hX dX7_isRight_187 (by decide) (fun c => ?_) (fun c => ?_)
        · have h := h.1 c
          refine km_iconst (v := 0) hX dX7_isRight_202 (by decide) ?_
          exact km_zret hX hF rfl dX7_isRight_203 (Or.inl rfl) ⟨rfl, rfl, _, rfl, h⟩ (Nat.le_refl _) (Nat.le_refl _)
        · have h := h.2 c
          refine km_iload hX dX7_isRight_190 rfl ?_
          refine km_callSi hX dX7_isRight_192 vX7_isRight_114 (X7_isRegister_c kqmr h) (by decide) rfl rfl (Nat.le_of_ble_eq_true rfl) (fun r192 m192 h => ?_)
          refine km_if_eq (tgt := 202) hX dX7_isRight_195 (by decide) (fun c => ?_) (fun c => ?_)
          · have h := h.1 c
            refine km_iconst (v := 0) hX dX7_isRight_202 (by decide) ?_
            exact km_zret hX hF rfl dX7_isRight_203 (Or.inl rfl) ⟨rfl, rfl, _, rfl, h⟩ (Nat.le_refl _) (Nat.le_refl _)
          · have h := h.2 c
            refine km_iconst (v := 1) hX dX7_isRight_198 (by decide) ?_
            refine km_goto (tgt := 203) hX dX7_isRight_199 (by decide) ?_
            exact km_zret hX hF rfl dX7_isRight_203 (Or.inr rfl) ⟨rfl, rfl, _, rfl, h⟩ (Nat.le_refl _) (Nat.le_refl _)
    · refine km_tableIn (off := 203) (tgt := 204) hX dX7_isRight_1 (by omega) (by omega) (by rw [c]; rfl) (by decide) ?_
      have h := h.2.2.2.2.2.2.2.2.2.2.2.2.2.2.2.1 c
      refine km_iload_n hX dX7_isRight_204 rfl ?_
      refine km_callSi hX dX7_isRight_205 vX7_isRight_114 (X7_isRegister_c kqmr h) (by decide) rfl rfl (Nat.le_of_ble_eq_true rfl) (fun r205 m205 h => ?_)
      obtain ⟨hc, h⟩ := h
      exact km_zret hX hF rfl dX7_isRight_208 hc ⟨rfl, rfl, _, rfl, h⟩ (Nat.le_refl _) (Nat.le_refl _)
    · refine km_tableIn (off := 208) (tgt := 209) hX dX7_isRight_1 (by omega) (by omega) (by rw [c]; rfl) (by decide) ?_
      have h := h.2.2.2.2.2.2.2.2.2.2.2.2.2.2.2.2 c
      refine km_iload_n hX dX7_isRight_209 rfl ?_
      refine km_iconst (v := 2) hX dX7_isRight_210 (by decide) ?_
      refine km_bipush (v := 7) hX dX7_isRight_211 (by decide) ?_
      refine km_callSi hX dX7_isRight_213 vX7_isRight_110 (X7_in_c kqmr h) (by decide) rfl rfl (Nat.le_of_ble_eq_true rfl) (fun r213 m213 h => ?_)
      refine km_if_eq (tgt := 230) hX dX7_isRight_216 (by decide) (fun c => ?_) (fun c => ?_)
      · have h := h.1 c
        refine km_iconst (v := 0) hX dX7_isRight_230 (by decide) ?_
        exact km_zret hX hF rfl dX7_isRight_231 (Or.inl rfl) ⟨rfl, rfl, _, rfl, h⟩ (Nat.le_refl _) (Nat.le_refl _)
      · have h := h.2 c
        refine km_iload_n hX dX7_isRight_219 rfl ?_
        refine km_callSi hX dX7_isRight_220 vX7_isRight_114 (X7_isRegister_c kqmr h) (by decide) rfl rfl (Nat.le_of_ble_eq_true rfl) (fun r220 m220 h => ?_)
        refine km_if_eq (tgt := 230) hX dX7_isRight_223 (by decide) (fun c => ?_) (fun c => ?_)
        · have h := h.1 c
          refine km_iconst (v := 0) hX dX7_isRight_230 (by decide) ?_
          exact km_zret hX hF rfl dX7_isRight_231 (Or.inl rfl) ⟨rfl, rfl, _, rfl, h⟩ (Nat.le_refl _) (Nat.le_refl _)
        · have h := h.2 c
          refine km_iconst (v := 1) hX dX7_isRight_226 (by decide) ?_
          refine km_goto (tgt := 231) hX dX7_isRight_227 (by decide) ?_
          exact km_zret hX hF rfl dX7_isRight_231 (Or.inr rfl) ⟨rfl, rfl, _, rfl, h⟩ (Nat.le_refl _) (Nat.le_refl _)
def X7_op_w (x1 : Int32) (x2 : Int32) (x3 : Int32) (x4 : Int32) (x5 : Int32) (x6 : Int32) (mi : km_I) (K : Int32 → km_I → Prop) : Prop := X7_isMethod_w x1 x2 mi (fun r3 m3 => ((¬ r3 = 0 → X7_isRight_w x3 x4 x5 x6 m3 (fun r20 m20 => ((¬ r20 = 0 → vp_in ((6 * x1) + x2) 12 ∧ ((¬ (m20 88 (Int32.toNatClampNeg ((6 * x1) + x2))) = 24 → vp_in ((6 * x1) + x2) 12 ∧ vp_in ((24 * ((6 * x1) + x2)) + (m20 88 (Int32.toNatClampNeg ((6 * x1) + x2)))) 288 ∧ (∀ m74, m74 = km_u m20 89 (Int32.toNatClampNeg ((24 * ((6 * x1) + x2)) + (m20 88 (Int32.toNatClampNeg ((6 * x1) + x2))))) x3 → vp_in ((24 * ((6 * x1) + x2)) + (m20 88 (Int32.toNatClampNeg ((6 * x1) + x2)))) 288 ∧ (∀ m83, m83 = km_u m74 90 (Int32.toNatClampNeg ((24 * ((6 * x1) + x2)) + (m20 88 (Int32.toNatClampNeg ((6 * x1) + x2))))) x4 → vp_in ((24 * ((6 * x1) + x2)) + (m20 88 (Int32.toNatClampNeg ((6 * x1) + x2)))) 288 ∧ (∀ m92, m92 = km_u m83 91 (Int32.toNatClampNeg ((24 * ((6 * x1) + x2)) + (m20 88 (Int32.toNatClampNeg ((6 * x1) + x2))))) x5 → vp_in ((24 * ((6 * x1) + x2)) + (m20 88 (Int32.toNatClampNeg ((6 * x1) + x2)))) 288 ∧ (∀ m101, m101 = km_u m92 92 (Int32.toNatClampNeg ((24 * ((6 * x1) + x2)) + (m20 88 (Int32.toNatClampNeg ((6 * x1) + x2))))) x6 → vp_in ((6 * x1) + x2) 12 ∧ vp_in ((6 * x1) + x2) 12 ∧ (∀ m112, m112 = km_u m101 88 (Int32.toNatClampNeg ((6 * x1) + x2)) ((m101 88 (Int32.toNatClampNeg ((6 * x1) + x2))) + 1) → vp_in ((6 * x1) + x2) 12 ∧ K ((m112 88 (Int32.toNatClampNeg ((6 * x1) + x2))) - 1) m112)))))) ∧ ((m20 88 (Int32.toNatClampNeg ((6 * x1) + x2))) = 24 → K (-104) m20))) ∧ (r20 = 0 → K (-102) m20)))) ∧ (r3 = 0 → K (-101) m3)))
set_option maxHeartbeats 4000000 in
set_option maxRecDepth 100000 in
theorem X7_op_c {E : km_E} {l : Launch} {mr : km_R} (kqmr : km_MR mr) {x1 : Int32} {x2 : Int32} {x3 : Int32} {x4 : Int32} {x5 : Int32} {x6 : Int32} {mi : km_I} {K : Int32 → km_I → Prop} (h : X7_op_w x1 x2 x3 x4 x5 x6 mi K) : km_Ci E l yX7_op wsX7_op rmX7_op [.ref 86, .int x1, .int x2, .int x3, .int x4, .int x5, .int x6] SH mi mr K := by
  refine km_start (cc := cX7_op) (maxL := 9) (ret := (some .int)) (by decide) rfl (Nat.le_of_ble_eq_true rfl) ?_
  intro X hl hX hF _
  subst hl

  have h : X7_isMethod_w x1 x2 mi (fun r3 m3 => ((¬ r3 = 0 → X7_isRight_w x3 x4 x5 x6 m3 (fun r20 m20 => ((¬ r20 = 0 → vp_in ((6 * x1) + x2) 12 ∧ ((¬ (m20 88 (Int32.toNatClampNeg ((6 * x1) + x2))) = 24 → vp_in ((6 * x1) + x2) 12 ∧ vp_in ((24 * ((6 * x1) + x2)) + (m20 88 (Int32.toNatClampNeg ((6 * x1) + x2)))) 288 ∧ (∀ m74, m74 = km_u m20 89 (Int32.toNatClampNeg ((24 * ((6 * x1) + x2)) + (m20 88 (Int32.toNatClampNeg ((6 * x1) + x2))))) x3 → vp_in ((24 * ((6 * x1) + x2)) + (m20 88 (Int32.toNatClampNeg ((6 * x1) + x2)))) 288 ∧ (∀ m83, m83 = km_u m74 90 (Int32.toNatClampNeg ((24 * ((6 * x1) + x2)) + (m20 88 (Int32.toNatClampNeg ((6 * x1) + x2))))) x4 → vp_in ((24 * ((6 * x1) + x2)) + (m20 88 (Int32.toNatClampNeg ((6 * x1) + x2)))) 288 ∧ (∀ m92, m92 = km_u m83 91 (Int32.toNatClampNeg ((24 * ((6 * x1) + x2)) + (m20 88 (Int32.toNatClampNeg ((6 * x1) + x2))))) x5 → vp_in ((24 * ((6 * x1) + x2)) + (m20 88 (Int32.toNatClampNeg ((6 * x1) + x2)))) 288 ∧ (∀ m101, m101 = km_u m92 92 (Int32.toNatClampNeg ((24 * ((6 * x1) + x2)) + (m20 88 (Int32.toNatClampNeg ((6 * x1) + x2))))) x6 → vp_in ((6 * x1) + x2) 12 ∧ vp_in ((6 * x1) + x2) 12 ∧ (∀ m112, m112 = km_u m101 88 (Int32.toNatClampNeg ((6 * x1) + x2)) ((m101 88 (Int32.toNatClampNeg ((6 * x1) + x2))) + 1) → vp_in ((6 * x1) + x2) 12 ∧ K ((m112 88 (Int32.toNatClampNeg ((6 * x1) + x2))) - 1) m112)))))) ∧ ((m20 88 (Int32.toNatClampNeg ((6 * x1) + x2))) = 24 → K (-104) m20))) ∧ (r20 = 0 → K (-102) m20)))) ∧ (r3 = 0 → K (-101) m3))) := h
  refine km_aload_n hX dX7_op_0 rfl rfl ?_
  refine km_iload_n hX dX7_op_1 rfl ?_
  refine km_iload_n hX dX7_op_2 rfl ?_
  refine km_callVi hX dX7_op_3 vX7_op_121 (X7_isMethod_c kqmr h) (by decide) shp_86 rfl rfl (Nat.le_of_ble_eq_true rfl) (fun r3 m3 h => ?_)
  refine km_if_ne (tgt := 12) hX dX7_op_6 (by decide) (fun c => ?_) (fun c => ?_)
  · have h := h.1 c
    refine km_aload_n hX dX7_op_12 rfl rfl ?_
    refine km_iload_n hX dX7_op_13 rfl ?_
    refine km_iload hX dX7_op_14 rfl ?_
    refine km_iload hX dX7_op_16 rfl ?_
    refine km_iload hX dX7_op_18 rfl ?_
    refine km_callVi hX dX7_op_20 vX7_op_125 (X7_isRight_c kqmr h) (by decide) shp_86 rfl rfl (Nat.le_of_ble_eq_true rfl) (fun r20 m20 h => ?_)
    refine km_if_ne (tgt := 29) hX dX7_op_23 (by decide) (fun c => ?_) (fun c => ?_)
    · have h := h.1 c
      refine km_bipush (v := 6) hX dX7_op_29 (by decide) ?_
      refine km_iload_n hX dX7_op_31 rfl ?_
      refine km_imul hX dX7_op_32 ?_
      refine km_iload_n hX dX7_op_33 rfl ?_
      refine km_iadd hX dX7_op_34 ?_
      refine km_istore hX dX7_op_35 (by decide) ?_
      refine km_aload_n hX dX7_op_37 rfl rfl ?_
      refine km_getr (q := 88) hX fX7_op_13 shp_86 rfl dX7_op_38 (mrp_86_3 kqmr) ?_
      refine km_iload hX dX7_op_41 rfl ?_
      obtain ⟨hc, h⟩ := h
      refine km_iald hX shp_88 hc dX7_op_43 ?_
      refine km_bipush (v := 24) hX dX7_op_44 (by decide) ?_
      refine km_icmp_ne (tgt := 52) hX dX7_op_46 (by decide) (fun c => ?_) (fun c => ?_)
      · have h := h.1 c
        refine km_bipush (v := 24) hX dX7_op_52 (by decide) ?_
        refine km_iload hX dX7_op_54 rfl ?_
        refine km_imul hX dX7_op_56 ?_
        refine km_aload_n hX dX7_op_57 rfl rfl ?_
        refine km_getr (q := 88) hX fX7_op_13 shp_86 rfl dX7_op_58 (mrp_86_3 kqmr) ?_
        refine km_iload hX dX7_op_61 rfl ?_
        obtain ⟨hc, h⟩ := h
        refine km_iald hX shp_88 hc dX7_op_63 ?_
        refine km_iadd hX dX7_op_64 ?_
        refine km_istore hX dX7_op_65 (by decide) ?_
        refine km_aload_n hX dX7_op_67 rfl rfl ?_
        refine km_getr (q := 89) hX fX7_op_16 shp_86 rfl dX7_op_68 (mrp_86_4 kqmr) ?_
        refine km_iload hX dX7_op_71 rfl ?_
        refine km_iload_n hX dX7_op_73 rfl ?_
        obtain ⟨hc, h⟩ := h
        refine km_iastN hX shp_89 hc dX7_op_74 (fun m74 e74 => ?_)
        have h := h m74 e74
        refine km_aload_n hX dX7_op_75 rfl rfl ?_
        refine km_getr (q := 90) hX fX7_op_19 shp_86 rfl dX7_op_76 (mrp_86_5 kqmr) ?_
        refine km_iload hX dX7_op_79 rfl ?_
        refine km_iload hX dX7_op_81 rfl ?_
        obtain ⟨hc, h⟩ := h
        refine km_iastN hX shp_90 hc dX7_op_83 (fun m83 e83 => ?_)
        have h := h m83 e83
        refine km_aload_n hX dX7_op_84 rfl rfl ?_
        refine km_getr (q := 91) hX fX7_op_22 shp_86 rfl dX7_op_85 (mrp_86_6 kqmr) ?_
        refine km_iload hX dX7_op_88 rfl ?_
        refine km_iload hX dX7_op_90 rfl ?_
        obtain ⟨hc, h⟩ := h
        refine km_iastN hX shp_91 hc dX7_op_92 (fun m92 e92 => ?_)
        have h := h m92 e92
        refine km_aload_n hX dX7_op_93 rfl rfl ?_
        refine km_getr (q := 92) hX fX7_op_25 shp_86 rfl dX7_op_94 (mrp_86_7 kqmr) ?_
        refine km_iload hX dX7_op_97 rfl ?_
        refine km_iload hX dX7_op_99 rfl ?_
        obtain ⟨hc, h⟩ := h
        refine km_iastN hX shp_92 hc dX7_op_101 (fun m101 e101 => ?_)
        have h := h m101 e101
        refine km_aload_n hX dX7_op_102 rfl rfl ?_
        refine km_getr (q := 88) hX fX7_op_13 shp_86 rfl dX7_op_103 (mrp_86_3 kqmr) ?_
        refine km_iload hX dX7_op_106 rfl ?_
        refine km_dup2 hX dX7_op_108 ?_
        obtain ⟨hc, h⟩ := h
        refine km_iald hX shp_88 hc dX7_op_109 ?_
        refine km_iconst (v := 1) hX dX7_op_110 (by decide) ?_
        refine km_iadd hX dX7_op_111 ?_
        obtain ⟨hc, h⟩ := h
        refine km_iastN hX shp_88 hc dX7_op_112 (fun m112 e112 => ?_)
        have h := h m112 e112
        refine km_aload_n hX dX7_op_113 rfl rfl ?_
        refine km_getr (q := 88) hX fX7_op_13 shp_86 rfl dX7_op_114 (mrp_86_3 kqmr) ?_
        refine km_iload hX dX7_op_117 rfl ?_
        obtain ⟨hc, h⟩ := h
        refine km_iald hX shp_88 hc dX7_op_119 ?_
        refine km_iconst (v := 1) hX dX7_op_120 (by decide) ?_
        refine km_isub hX dX7_op_121 ?_
        exact km_iret hX hF rfl dX7_op_122 ⟨rfl, rfl, _, rfl, h⟩ (Nat.le_refl _) (Nat.le_refl _)
      · have h := h.2 c
        refine km_bipush (v := -104) hX dX7_op_49 (by decide) ?_
        exact km_iret hX hF rfl dX7_op_51 ⟨rfl, rfl, _, rfl, h⟩ (Nat.le_refl _) (Nat.le_refl _)
    · have h := h.2 c
      refine km_bipush (v := -102) hX dX7_op_26 (by decide) ?_
      exact km_iret hX hF rfl dX7_op_28 ⟨rfl, rfl, _, rfl, h⟩ (Nat.le_refl _) (Nat.le_refl _)
  · have h := h.2 c
    refine km_bipush (v := -101) hX dX7_op_9 (by decide) ?_
    exact km_iret hX hF rfl dX7_op_11 ⟨rfl, rfl, _, rfl, h⟩ (Nat.le_refl _) (Nat.le_refl _)
def X7_clear_w (x1 : Int32) (x2 : Int32) (mi : km_I) (K : Int32 → km_I → Prop) : Prop := X7_isMethod_w x1 x2 mi (fun r3 m3 => ((¬ r3 = 0 → vp_in ((6 * x1) + x2) 12 ∧ vp_in ((6 * x1) + x2) 12 ∧ (∀ m35, m35 = km_u m3 88 (Int32.toNatClampNeg ((6 * x1) + x2)) 0 → K (m3 88 (Int32.toNatClampNeg ((6 * x1) + x2))) m35)) ∧ (r3 = 0 → K (-101) m3)))
set_option maxHeartbeats 4000000 in
set_option maxRecDepth 100000 in
theorem X7_clear_c {E : km_E} {l : Launch} {mr : km_R} (kqmr : km_MR mr) {x1 : Int32} {x2 : Int32} {mi : km_I} {K : Int32 → km_I → Prop} (h : X7_clear_w x1 x2 mi K) : km_Ci E l yX7_clear wsX7_clear rmX7_clear [.ref 86, .int x1, .int x2] SH mi mr K := by
  refine km_start (cc := cX7_clear) (maxL := 4) (ret := (some .int)) (by decide) rfl (Nat.le_of_ble_eq_true rfl) ?_
  intro X hl hX hF _
  subst hl

  have h : X7_isMethod_w x1 x2 mi (fun r3 m3 => ((¬ r3 = 0 → vp_in ((6 * x1) + x2) 12 ∧ vp_in ((6 * x1) + x2) 12 ∧ (∀ m35, m35 = km_u m3 88 (Int32.toNatClampNeg ((6 * x1) + x2)) 0 → K (m3 88 (Int32.toNatClampNeg ((6 * x1) + x2))) m35)) ∧ (r3 = 0 → K (-101) m3))) := h
  refine km_aload_n hX dX7_clear_0 rfl rfl ?_
  refine km_iload_n hX dX7_clear_1 rfl ?_
  refine km_iload_n hX dX7_clear_2 rfl ?_
  refine km_callVi hX dX7_clear_3 vX7_clear_121 (X7_isMethod_c kqmr h) (by decide) shp_86 rfl rfl (Nat.le_of_ble_eq_true rfl) (fun r3 m3 h => ?_)
  refine km_if_ne (tgt := 12) hX dX7_clear_6 (by decide) (fun c => ?_) (fun c => ?_)
  · have h := h.1 c
    refine km_aload_n hX dX7_clear_12 rfl rfl ?_
    refine km_getr (q := 88) hX fX7_clear_13 shp_86 rfl dX7_clear_13 (mrp_86_3 kqmr) ?_
    refine km_bipush (v := 6) hX dX7_clear_16 (by decide) ?_
    refine km_iload_n hX dX7_clear_18 rfl ?_
    refine km_imul hX dX7_clear_19 ?_
    refine km_iload_n hX dX7_clear_20 rfl ?_
    refine km_iadd hX dX7_clear_21 ?_
    obtain ⟨hc, h⟩ := h
    refine km_iald hX shp_88 hc dX7_clear_22 ?_
    refine km_istore_n hX dX7_clear_23 (by decide) ?_
    refine km_aload_n hX dX7_clear_24 rfl rfl ?_
    refine km_getr (q := 88) hX fX7_clear_13 shp_86 rfl dX7_clear_25 (mrp_86_3 kqmr) ?_
    refine km_bipush (v := 6) hX dX7_clear_28 (by decide) ?_
    refine km_iload_n hX dX7_clear_30 rfl ?_
    refine km_imul hX dX7_clear_31 ?_
    refine km_iload_n hX dX7_clear_32 rfl ?_
    refine km_iadd hX dX7_clear_33 ?_
    refine km_iconst (v := 0) hX dX7_clear_34 (by decide) ?_
    obtain ⟨hc, h⟩ := h
    refine km_iastN hX shp_88 hc dX7_clear_35 (fun m35 e35 => ?_)
    have h := h m35 e35
    refine km_iload_n hX dX7_clear_36 rfl ?_
    exact km_iret hX hF rfl dX7_clear_37 ⟨rfl, rfl, _, rfl, h⟩ (Nat.le_refl _) (Nat.le_refl _)
  · have h := h.2 c
    refine km_bipush (v := -101) hX dX7_clear_9 (by decide) ?_
    exact km_iret hX hF rfl dX7_clear_11 ⟨rfl, rfl, _, rfl, h⟩ (Nat.le_refl _) (Nat.le_refl _)
def X7_enter_b75 (x1 : Int32) (x2 : Int32) (x3 : Int32) (x4 : Int32) (Z34 : Int32 → Int32 → Int32 → Int32 → Int32 → km_I → Prop) (y1 : Int32) (y2 : Int32) (y3 : Int32) (y4 : Int32) (y5 : Int32) (z0 : Int32) (z1 : Int32) (mi : km_I) (K : km_I → Prop) : Prop := vp_in z1 48 ∧ (∀ m75, m75 = km_u mi 100 (Int32.toNatClampNeg z1) z0 → Z34 y1 y2 y3 y4 (y5 + 1) m75)
set_option maxHeartbeats 4000000 in
set_option maxRecDepth 100000 in
theorem X7_enter_b75_t {E : km_E} {X : km_X} {mr : km_R} {K : km_I → Prop} {x1 : Int32} {x2 : Int32} {x3 : Int32} {x4 : Int32} {Z34 : Int32 → Int32 → Int32 → Int32 → Int32 → km_I → Prop} (hX : km_ok E X rmX7_enter cX7_enter 6 wsX7_enter RX7) (hF : km_fin E X none 0 0 (fun r sh' mi' mr' => sh' = SH ∧ mr' = mr ∧ r = none ∧ K mi')) (kqmr : km_MR mr) (hZ34 : ∀ (y1 : Int32) (y2 : Int32) (y3 : Int32) (y4 : Int32) (y5 : Int32) (m : km_I), Z34 y1 y2 y3 y4 y5 m → km_G E X 6 SH m mr 0 0 34 [(0, .ref 86), (1, .int y1), (2, .int y2), (3, .int y3), (4, .int y4), (5, .int y5)] []) : ∀ (y1 : Int32) (y2 : Int32) (y3 : Int32) (y4 : Int32) (y5 : Int32) (z0 : Int32) (z1 : Int32) (mi : km_I), X7_enter_b75 x1 x2 x3 x4 Z34 y1 y2 y3 y4 y5 z0 z1 mi K → km_G E X 6 SH mi mr 0 0 75 [(0, .ref 86), (1, .int y1), (2, .int y2), (3, .int y3), (4, .int y4), (5, .int y5)] [.int z0, .int z1, .ref 100] := by
  intro y1 y2 y3 y4 y5 z0 z1 mi h
  have h : vp_in z1 48 ∧ (∀ m75, m75 = km_u mi 100 (Int32.toNatClampNeg z1) z0 → Z34 y1 y2 y3 y4 (y5 + 1) m75) := h
  obtain ⟨hc, h⟩ := h
  refine km_iastN hX shp_100 hc dX7_enter_75 (fun m75 e75 => ?_)
  have h := h m75 e75
  refine km_iinc (v := 1) hX dX7_enter_76 (by decide) rfl (by decide) ?_
  refine km_goto (tgt := 34) hX dX7_enter_79 (by decide) ?_
  refine km_ren (ls' := [(0, .ref 86), (1, .int y1), (2, .int y2), (3, .int y3), (4, .int y4), (5, .int (y5 + 1))]) [0, 1, 2, 3, 4, 5] rfl ?_
  exact hZ34 _ _ _ _ _ _ h
def X7_enter_b132 (x1 : Int32) (x2 : Int32) (x3 : Int32) (x4 : Int32) (y1 : Int32) (y2 : Int32) (y3 : Int32) (y4 : Int32) (y5 : Int32) (z0 : Int32) (z1 : Int32) (mi : km_I) (K : km_I → Prop) : Prop := vp_in z1 3 ∧ (∀ m132, m132 = km_u mi 105 (Int32.toNatClampNeg z1) z0 → K m132)
set_option maxHeartbeats 4000000 in
set_option maxRecDepth 100000 in
theorem X7_enter_b132_t {E : km_E} {X : km_X} {mr : km_R} {K : km_I → Prop} {x1 : Int32} {x2 : Int32} {x3 : Int32} {x4 : Int32} (hX : km_ok E X rmX7_enter cX7_enter 6 wsX7_enter RX7) (hF : km_fin E X none 0 0 (fun r sh' mi' mr' => sh' = SH ∧ mr' = mr ∧ r = none ∧ K mi')) (kqmr : km_MR mr) : ∀ (y1 : Int32) (y2 : Int32) (y3 : Int32) (y4 : Int32) (y5 : Int32) (z0 : Int32) (z1 : Int32) (mi : km_I), X7_enter_b132 x1 x2 x3 x4 y1 y2 y3 y4 y5 z0 z1 mi K → km_G E X 6 SH mi mr 0 0 132 [(0, .ref 86), (1, .int y1), (2, .int y2), (3, .int y3), (4, .int y4), (5, .int y5)] [.int z0, .int z1, .ref 105] := by
  intro y1 y2 y3 y4 y5 z0 z1 mi h
  have h : vp_in z1 3 ∧ (∀ m132, m132 = km_u mi 105 (Int32.toNatClampNeg z1) z0 → K m132) := h
  obtain ⟨hc, h⟩ := h
  refine km_iastN hX shp_105 hc dX7_enter_132 (fun m132 e132 => ?_)
  have h := h m132 e132
  exact km_vret hX hF rfl dX7_enter_133 ⟨rfl, rfl, rfl, h⟩ (Nat.le_refl _) (Nat.le_refl _)
def X7_enter_b34 (x1 : Int32) (x2 : Int32) (x3 : Int32) (x4 : Int32) (n : Nat) (y1 : Int32) (y2 : Int32) (y3 : Int32) (y4 : Int32) (y5 : Int32) (mi : km_I) (K : km_I → Prop) : Prop := match n with
  | 0 => False
  | n + 1 => ((6 ≤ y5 → (∀ m89, m89 = km_u mi 86 13 ((mi 86 13) + 1) → vp_in (m89 86 18) 3 ∧ (((m89 86 13) ≤ (m89 105 (Int32.toNatClampNeg (m89 86 18))) → vp_in (m89 86 18) 3 ∧ X7_enter_b132 x1 x2 x3 x4 y1 y2 y3 y4 y5 (m89 105 (Int32.toNatClampNeg (m89 86 18))) (m89 86 18) m89 K) ∧ (¬ (m89 86 13) ≤ (m89 105 (Int32.toNatClampNeg (m89 86 18))) → X7_enter_b132 x1 x2 x3 x4 y1 y2 y3 y4 y5 (m89 86 13) (m89 86 18) m89 K)))) ∧ (¬ 6 ≤ y5 → ((¬ y5 = 0 → ((¬ y5 = 1 → X7_enter_b75 x1 x2 x3 x4 (fun v0 v1 v2 v3 v4 m => X7_enter_b34 x1 x2 x3 x4 n v0 v1 v2 v3 v4 m K) y1 y2 y3 y4 y5 0 ((6 * (mi 86 13)) + y5) mi K) ∧ (y5 = 1 → X7_enter_b75 x1 x2 x3 x4 (fun v0 v1 v2 v3 v4 m => X7_enter_b34 x1 x2 x3 x4 n v0 v1 v2 v3 v4 m K) y1 y2 y3 y4 y5 y3 ((6 * (mi 86 13)) + y5) mi K))) ∧ (y5 = 0 → X7_enter_b75 x1 x2 x3 x4 (fun v0 v1 v2 v3 v4 m => X7_enter_b34 x1 x2 x3 x4 n v0 v1 v2 v3 v4 m K) y1 y2 y3 y4 y5 y2 ((6 * (mi 86 13)) + y5) mi K))))
set_option maxHeartbeats 4000000 in
set_option maxRecDepth 100000 in
theorem X7_enter_b34_t {E : km_E} {X : km_X} {mr : km_R} {K : km_I → Prop} {x1 : Int32} {x2 : Int32} {x3 : Int32} {x4 : Int32} (hX : km_ok E X rmX7_enter cX7_enter 6 wsX7_enter RX7) (hF : km_fin E X none 0 0 (fun r sh' mi' mr' => sh' = SH ∧ mr' = mr ∧ r = none ∧ K mi')) (kqmr : km_MR mr) : ∀ (n : Nat) (y1 : Int32) (y2 : Int32) (y3 : Int32) (y4 : Int32) (y5 : Int32) (mi : km_I), X7_enter_b34 x1 x2 x3 x4 n y1 y2 y3 y4 y5 mi K → km_G E X 6 SH mi mr 0 0 34 [(0, .ref 86), (1, .int y1), (2, .int y2), (3, .int y3), (4, .int y4), (5, .int y5)] [] := by
  intro n
  induction n with
  | zero => intro y1 y2 y3 y4 y5 mi h; exact h.elim
  | succ n ih =>
    intro y1 y2 y3 y4 y5 mi h
    have h : ((6 ≤ y5 → (∀ m89, m89 = km_u mi 86 13 ((mi 86 13) + 1) → vp_in (m89 86 18) 3 ∧ (((m89 86 13) ≤ (m89 105 (Int32.toNatClampNeg (m89 86 18))) → vp_in (m89 86 18) 3 ∧ X7_enter_b132 x1 x2 x3 x4 y1 y2 y3 y4 y5 (m89 105 (Int32.toNatClampNeg (m89 86 18))) (m89 86 18) m89 K) ∧ (¬ (m89 86 13) ≤ (m89 105 (Int32.toNatClampNeg (m89 86 18))) → X7_enter_b132 x1 x2 x3 x4 y1 y2 y3 y4 y5 (m89 86 13) (m89 86 18) m89 K)))) ∧ (¬ 6 ≤ y5 → ((¬ y5 = 0 → ((¬ y5 = 1 → X7_enter_b75 x1 x2 x3 x4 (fun v0 v1 v2 v3 v4 m => X7_enter_b34 x1 x2 x3 x4 n v0 v1 v2 v3 v4 m K) y1 y2 y3 y4 y5 0 ((6 * (mi 86 13)) + y5) mi K) ∧ (y5 = 1 → X7_enter_b75 x1 x2 x3 x4 (fun v0 v1 v2 v3 v4 m => X7_enter_b34 x1 x2 x3 x4 n v0 v1 v2 v3 v4 m K) y1 y2 y3 y4 y5 y3 ((6 * (mi 86 13)) + y5) mi K))) ∧ (y5 = 0 → X7_enter_b75 x1 x2 x3 x4 (fun v0 v1 v2 v3 v4 m => X7_enter_b34 x1 x2 x3 x4 n v0 v1 v2 v3 v4 m K) y1 y2 y3 y4 y5 y2 ((6 * (mi 86 13)) + y5) mi K)))) := h
    refine km_iload hX dX7_enter_34 rfl ?_
    refine km_bipush (v := 6) hX dX7_enter_36 (by decide) ?_
    refine km_icmp_ge (tgt := 82) hX dX7_enter_38 (by decide) (fun c => ?_) (fun c => ?_)
    · have h := h.1 c
      refine km_aload_n hX dX7_enter_82 rfl rfl ?_
      refine km_dup hX dX7_enter_83 ?_
      refine km_geti hX fX7_enter_129 shp_86 rfl dX7_enter_84 ?_
      refine km_iconst (v := 1) hX dX7_enter_87 (by decide) ?_
      refine km_iadd hX dX7_enter_88 ?_
      refine km_putiN hX pX7_enter_129 shp_86 rfl dX7_enter_89 (fun m89 e89 => ?_)
      have h := h m89 e89
      refine km_aload_n hX dX7_enter_92 rfl rfl ?_
      refine km_getr (q := 105) hX fX7_enter_64 shp_86 rfl dX7_enter_93 (mrp_86_26 kqmr) ?_
      refine km_aload_n hX dX7_enter_96 rfl rfl ?_
      refine km_geti hX fX7_enter_132 shp_86 rfl dX7_enter_97 ?_
      refine km_aload_n hX dX7_enter_100 rfl rfl ?_
      refine km_geti hX fX7_enter_129 shp_86 rfl dX7_enter_101 ?_
      refine km_aload_n hX dX7_enter_104 rfl rfl ?_
      refine km_getr (q := 105) hX fX7_enter_64 shp_86 rfl dX7_enter_105 (mrp_86_26 kqmr) ?_
      refine km_aload_n hX dX7_enter_108 rfl rfl ?_
      refine km_geti hX fX7_enter_132 shp_86 rfl dX7_enter_109 ?_
      obtain ⟨hc, h⟩ := h
      refine km_iald hX shp_105 hc dX7_enter_112 ?_
      refine km_icmp_le (tgt := 123) hX dX7_enter_113 (by decide) (fun c => ?_) (fun c => ?_)
      · have h := h.1 c
        refine km_aload_n hX dX7_enter_123 rfl rfl ?_
        refine km_getr (q := 105) hX fX7_enter_64 shp_86 rfl dX7_enter_124 (mrp_86_26 kqmr) ?_
        refine km_aload_n hX dX7_enter_127 rfl rfl ?_
        refine km_geti hX fX7_enter_132 shp_86 rfl dX7_enter_128 ?_
        obtain ⟨hc, h⟩ := h
        refine km_iald hX shp_105 hc dX7_enter_131 ?_
        refine km_ren (ls' := [(0, .ref 86), (1, .int y1), (2, .int y2), (3, .int y3), (4, .int y4), (5, .int y5)]) [0, 1, 2, 3, 4, 5] rfl ?_
        exact X7_enter_b132_t hX hF kqmr _ _ _ _ _ _ _ _ h
      · have h := h.2 c
        refine km_aload_n hX dX7_enter_116 rfl rfl ?_
        refine km_geti hX fX7_enter_129 shp_86 rfl dX7_enter_117 ?_
        refine km_goto (tgt := 132) hX dX7_enter_120 (by decide) ?_
        refine km_ren (ls' := [(0, .ref 86), (1, .int y1), (2, .int y2), (3, .int y3), (4, .int y4), (5, .int y5)]) [0, 1, 2, 3, 4, 5] rfl ?_
        exact X7_enter_b132_t hX hF kqmr _ _ _ _ _ _ _ _ h
    · have h := h.2 c
      refine km_aload_n hX dX7_enter_41 rfl rfl ?_
      refine km_getr (q := 100) hX fX7_enter_49 shp_86 rfl dX7_enter_42 (mrp_86_17 kqmr) ?_
      refine km_bipush (v := 6) hX dX7_enter_45 (by decide) ?_
      refine km_aload_n hX dX7_enter_47 rfl rfl ?_
      refine km_geti hX fX7_enter_129 shp_86 rfl dX7_enter_48 ?_
      refine km_imul hX dX7_enter_51 ?_
      refine km_iload hX dX7_enter_52 rfl ?_
      refine km_iadd hX dX7_enter_54 ?_
      refine km_iload hX dX7_enter_55 rfl ?_
      refine km_if_ne (tgt := 64) hX dX7_enter_57 (by decide) (fun c => ?_) (fun c => ?_)
      · have h := h.1 c
        refine km_iload hX dX7_enter_64 rfl ?_
        refine km_iconst (v := 1) hX dX7_enter_66 (by decide) ?_
        refine km_icmp_ne (tgt := 74) hX dX7_enter_67 (by decide) (fun c => ?_) (fun c => ?_)
        · have h := h.1 c
          refine km_iconst (v := 0) hX dX7_enter_74 (by decide) ?_
          refine km_ren (ls' := [(0, .ref 86), (1, .int y1), (2, .int y2), (3, .int y3), (4, .int y4), (5, .int y5)]) [0, 1, 2, 3, 4, 5] rfl ?_
          exact X7_enter_b75_t hX hF kqmr (fun v0 v1 v2 v3 v4 m hh => ih v0 v1 v2 v3 v4 m hh) _ _ _ _ _ _ _ _ h
        · have h := h.2 c
          refine km_iload_n hX dX7_enter_70 rfl ?_
          refine km_goto (tgt := 75) hX dX7_enter_71 (by decide) ?_
          refine km_ren (ls' := [(0, .ref 86), (1, .int y1), (2, .int y2), (3, .int y3), (4, .int y4), (5, .int y5)]) [0, 1, 2, 3, 4, 5] rfl ?_
          exact X7_enter_b75_t hX hF kqmr (fun v0 v1 v2 v3 v4 m hh => ih v0 v1 v2 v3 v4 m hh) _ _ _ _ _ _ _ _ h
      · have h := h.2 c
        refine km_iload_n hX dX7_enter_60 rfl ?_
        refine km_goto (tgt := 75) hX dX7_enter_61 (by decide) ?_
        refine km_ren (ls' := [(0, .ref 86), (1, .int y1), (2, .int y2), (3, .int y3), (4, .int y4), (5, .int y5)]) [0, 1, 2, 3, 4, 5] rfl ?_
        exact X7_enter_b75_t hX hF kqmr (fun v0 v1 v2 v3 v4 m hh => ih v0 v1 v2 v3 v4 m hh) _ _ _ _ _ _ _ _ h
def X7_enter_w (x1 : Int32) (x2 : Int32) (x3 : Int32) (x4 : Int32) (mi : km_I) (K : km_I → Prop) : Prop := vp_in (mi 86 13) 8 ∧ (∀ m9, m9 = km_u mi 97 (Int32.toNatClampNeg (mi 86 13)) x1 → vp_in (m9 86 13) 8 ∧ (∀ m19, m19 = km_u m9 98 (Int32.toNatClampNeg (m9 86 13)) 0 → vp_in (m19 86 13) 8 ∧ (∀ m30, m30 = km_u m19 99 (Int32.toNatClampNeg (m19 86 13)) x4 → ∃ k, X7_enter_b34 x1 x2 x3 x4 k x1 x2 x3 x4 0 m30 K)))
set_option maxHeartbeats 4000000 in
set_option maxRecDepth 100000 in
theorem X7_enter_c {E : km_E} {l : Launch} {mr : km_R} (kqmr : km_MR mr) {x1 : Int32} {x2 : Int32} {x3 : Int32} {x4 : Int32} {mi : km_I} {K : km_I → Prop} (h : X7_enter_w x1 x2 x3 x4 mi K) : km_Cv E l yX7_enter wsX7_enter rmX7_enter [.ref 86, .int x1, .int x2, .int x3, .int x4] SH mi mr K := by
  refine km_start (cc := cX7_enter) (maxL := 6) (ret := none) (by decide) rfl (Nat.le_of_ble_eq_true rfl) ?_
  intro X hl hX hF _
  subst hl

  have h : vp_in (mi 86 13) 8 ∧ (∀ m9, m9 = km_u mi 97 (Int32.toNatClampNeg (mi 86 13)) x1 → vp_in (m9 86 13) 8 ∧ (∀ m19, m19 = km_u m9 98 (Int32.toNatClampNeg (m9 86 13)) 0 → vp_in (m19 86 13) 8 ∧ (∀ m30, m30 = km_u m19 99 (Int32.toNatClampNeg (m19 86 13)) x4 → ∃ k, X7_enter_b34 x1 x2 x3 x4 k x1 x2 x3 x4 0 m30 K))) := h
  refine km_aload_n hX dX7_enter_0 rfl rfl ?_
  refine km_getr (q := 97) hX fX7_enter_40 shp_86 rfl dX7_enter_1 (mrp_86_14 kqmr) ?_
  refine km_aload_n hX dX7_enter_4 rfl rfl ?_
  refine km_geti hX fX7_enter_129 shp_86 rfl dX7_enter_5 ?_
  refine km_iload_n hX dX7_enter_8 rfl ?_
  obtain ⟨hc, h⟩ := h
  refine km_iastN hX shp_97 hc dX7_enter_9 (fun m9 e9 => ?_)
  have h := h m9 e9
  refine km_aload_n hX dX7_enter_10 rfl rfl ?_
  refine km_getr (q := 98) hX fX7_enter_43 shp_86 rfl dX7_enter_11 (mrp_86_15 kqmr) ?_
  refine km_aload_n hX dX7_enter_14 rfl rfl ?_
  refine km_geti hX fX7_enter_129 shp_86 rfl dX7_enter_15 ?_
  refine km_iconst (v := 0) hX dX7_enter_18 (by decide) ?_
  obtain ⟨hc, h⟩ := h
  refine km_iastN hX shp_98 hc dX7_enter_19 (fun m19 e19 => ?_)
  have h := h m19 e19
  refine km_aload_n hX dX7_enter_20 rfl rfl ?_
  refine km_getr (q := 99) hX fX7_enter_46 shp_86 rfl dX7_enter_21 (mrp_86_16 kqmr) ?_
  refine km_aload_n hX dX7_enter_24 rfl rfl ?_
  refine km_geti hX fX7_enter_129 shp_86 rfl dX7_enter_25 ?_
  refine km_iload hX dX7_enter_28 rfl ?_
  obtain ⟨hc, h⟩ := h
  refine km_iastN hX shp_99 hc dX7_enter_30 (fun m30 e30 => ?_)
  have h := h m30 e30
  refine km_iconst (v := 0) hX dX7_enter_31 (by decide) ?_
  refine km_istore hX dX7_enter_32 (by decide) ?_
  obtain ⟨n9, h⟩ := h
  refine km_ren (ls' := [(0, .ref 86), (1, .int x1), (2, .int x2), (3, .int x3), (4, .int x4), (5, .int 0)]) [0, 1, 2, 3, 4, 5] rfl ?_
  exact X7_enter_b34_t hX hF kqmr n9 _ _ _ _ _ _ h
def X7_returns_w (x1 : Int32) (mi : km_I) (K : km_I → Prop) : Prop := (∀ m7, m7 = km_u mi 86 13 ((mi 86 13) - 1) → ((¬ (m7 86 13) = 0 → vp_in (m7 86 13) 8 ∧ vp_in ((6 * ((m7 86 13) - 1)) + (m7 99 (Int32.toNatClampNeg (m7 86 13)))) 48 ∧ (∀ m64, m64 = km_u m7 100 (Int32.toNatClampNeg ((6 * ((m7 86 13) - 1)) + (m7 99 (Int32.toNatClampNeg (m7 86 13))))) x1 → K m64)) ∧ ((m7 86 13) = 0 → vp_in (m7 86 18) 3 ∧ (∀ m26, m26 = km_u m7 101 (Int32.toNatClampNeg (m7 86 18)) 0 → vp_in (m26 86 18) 3 ∧ (∀ m36, m36 = km_u m26 103 (Int32.toNatClampNeg (m26 86 18)) x1 → K m36)))))
set_option maxHeartbeats 4000000 in
set_option maxRecDepth 100000 in
theorem X7_returns_c {E : km_E} {l : Launch} {mr : km_R} (kqmr : km_MR mr) {x1 : Int32} {mi : km_I} {K : km_I → Prop} (h : X7_returns_w x1 mi K) : km_Cv E l yX7_returns wsX7_returns rmX7_returns [.ref 86, .int x1] SH mi mr K := by
  refine km_start (cc := cX7_returns) (maxL := 2) (ret := none) (by decide) rfl (Nat.le_of_ble_eq_true rfl) ?_
  intro X hl hX hF _
  subst hl

  have h : (∀ m7, m7 = km_u mi 86 13 ((mi 86 13) - 1) → ((¬ (m7 86 13) = 0 → vp_in (m7 86 13) 8 ∧ vp_in ((6 * ((m7 86 13) - 1)) + (m7 99 (Int32.toNatClampNeg (m7 86 13)))) 48 ∧ (∀ m64, m64 = km_u m7 100 (Int32.toNatClampNeg ((6 * ((m7 86 13) - 1)) + (m7 99 (Int32.toNatClampNeg (m7 86 13))))) x1 → K m64)) ∧ ((m7 86 13) = 0 → vp_in (m7 86 18) 3 ∧ (∀ m26, m26 = km_u m7 101 (Int32.toNatClampNeg (m7 86 18)) 0 → vp_in (m26 86 18) 3 ∧ (∀ m36, m36 = km_u m26 103 (Int32.toNatClampNeg (m26 86 18)) x1 → K m36))))) := h
  refine km_aload_n hX dX7_returns_0 rfl rfl ?_
  refine km_dup hX dX7_returns_1 ?_
  refine km_geti hX fX7_returns_129 shp_86 rfl dX7_returns_2 ?_
  refine km_iconst (v := 1) hX dX7_returns_5 (by decide) ?_
  refine km_isub hX dX7_returns_6 ?_
  refine km_putiN hX pX7_returns_129 shp_86 rfl dX7_returns_7 (fun m7 e7 => ?_)
  have h := h m7 e7
  refine km_aload_n hX dX7_returns_10 rfl rfl ?_
  refine km_geti hX fX7_returns_129 shp_86 rfl dX7_returns_11 ?_
  refine km_if_ne (tgt := 40) hX dX7_returns_14 (by decide) (fun c => ?_) (fun c => ?_)
  · have h := h.1 c
    refine km_aload_n hX dX7_returns_40 rfl rfl ?_
    refine km_getr (q := 100) hX fX7_returns_49 shp_86 rfl dX7_returns_41 (mrp_86_17 kqmr) ?_
    refine km_bipush (v := 6) hX dX7_returns_44 (by decide) ?_
    refine km_aload_n hX dX7_returns_46 rfl rfl ?_
    refine km_geti hX fX7_returns_129 shp_86 rfl dX7_returns_47 ?_
    refine km_iconst (v := 1) hX dX7_returns_50 (by decide) ?_
    refine km_isub hX dX7_returns_51 ?_
    refine km_imul hX dX7_returns_52 ?_
    refine km_aload_n hX dX7_returns_53 rfl rfl ?_
    refine km_getr (q := 99) hX fX7_returns_46 shp_86 rfl dX7_returns_54 (mrp_86_16 kqmr) ?_
    refine km_aload_n hX dX7_returns_57 rfl rfl ?_
    refine km_geti hX fX7_returns_129 shp_86 rfl dX7_returns_58 ?_
    obtain ⟨hc, h⟩ := h
    refine km_iald hX shp_99 hc dX7_returns_61 ?_
    refine km_iadd hX dX7_returns_62 ?_
    refine km_iload_n hX dX7_returns_63 rfl ?_
    obtain ⟨hc, h⟩ := h
    refine km_iastN hX shp_100 hc dX7_returns_64 (fun m64 e64 => ?_)
    have h := h m64 e64
    exact km_vret hX hF rfl dX7_returns_65 ⟨rfl, rfl, rfl, h⟩ (Nat.le_refl _) (Nat.le_refl _)
  · have h := h.2 c
    refine km_aload_n hX dX7_returns_17 rfl rfl ?_
    refine km_getr (q := 101) hX fX7_returns_52 shp_86 rfl dX7_returns_18 (mrp_86_22 kqmr) ?_
    refine km_aload_n hX dX7_returns_21 rfl rfl ?_
    refine km_geti hX fX7_returns_132 shp_86 rfl dX7_returns_22 ?_
    refine km_iconst (v := 0) hX dX7_returns_25 (by decide) ?_
    obtain ⟨hc, h⟩ := h
    refine km_iastN hX shp_101 hc dX7_returns_26 (fun m26 e26 => ?_)
    have h := h m26 e26
    refine km_aload_n hX dX7_returns_27 rfl rfl ?_
    refine km_getr (q := 103) hX fX7_returns_58 shp_86 rfl dX7_returns_28 (mrp_86_24 kqmr) ?_
    refine km_aload_n hX dX7_returns_31 rfl rfl ?_
    refine km_geti hX fX7_returns_132 shp_86 rfl dX7_returns_32 ?_
    refine km_iload_n hX dX7_returns_35 rfl ?_
    obtain ⟨hc, h⟩ := h
    refine km_iastN hX shp_103 hc dX7_returns_36 (fun m36 e36 => ?_)
    have h := h m36 e36
    refine km_goto (tgt := 65) hX dX7_returns_37 (by decide) ?_
    exact km_vret hX hF rfl dX7_returns_65 ⟨rfl, rfl, rfl, h⟩ (Nat.le_refl _) (Nat.le_refl _)
def X7_throwsOut_w (x1 : Int32) (x2 : Int32) (mi : km_I) (K : km_I → Prop) : Prop := vp_in (mi 86 18) 3 ∧ (∀ m9, m9 = km_u mi 101 (Int32.toNatClampNeg (mi 86 18)) 1 → vp_in (m9 86 18) 3 ∧ (∀ m19, m19 = km_u m9 102 (Int32.toNatClampNeg (m9 86 18)) x1 → vp_in (m19 86 18) 3 ∧ (∀ m29, m29 = km_u m19 103 (Int32.toNatClampNeg (m19 86 18)) x2 → K m29)))
set_option maxHeartbeats 4000000 in
set_option maxRecDepth 100000 in
theorem X7_throwsOut_c {E : km_E} {l : Launch} {mr : km_R} (kqmr : km_MR mr) {x1 : Int32} {x2 : Int32} {mi : km_I} {K : km_I → Prop} (h : X7_throwsOut_w x1 x2 mi K) : km_Cv E l yX7_throwsOut wsX7_throwsOut rmX7_throwsOut [.ref 86, .int x1, .int x2] SH mi mr K := by
  refine km_start (cc := cX7_throwsOut) (maxL := 3) (ret := none) (by decide) rfl (Nat.le_of_ble_eq_true rfl) ?_
  intro X hl hX hF _
  subst hl

  have h : vp_in (mi 86 18) 3 ∧ (∀ m9, m9 = km_u mi 101 (Int32.toNatClampNeg (mi 86 18)) 1 → vp_in (m9 86 18) 3 ∧ (∀ m19, m19 = km_u m9 102 (Int32.toNatClampNeg (m9 86 18)) x1 → vp_in (m19 86 18) 3 ∧ (∀ m29, m29 = km_u m19 103 (Int32.toNatClampNeg (m19 86 18)) x2 → K m29))) := h
  refine km_aload_n hX dX7_throwsOut_0 rfl rfl ?_
  refine km_getr (q := 101) hX fX7_throwsOut_52 shp_86 rfl dX7_throwsOut_1 (mrp_86_22 kqmr) ?_
  refine km_aload_n hX dX7_throwsOut_4 rfl rfl ?_
  refine km_geti hX fX7_throwsOut_132 shp_86 rfl dX7_throwsOut_5 ?_
  refine km_iconst (v := 1) hX dX7_throwsOut_8 (by decide) ?_
  obtain ⟨hc, h⟩ := h
  refine km_iastN hX shp_101 hc dX7_throwsOut_9 (fun m9 e9 => ?_)
  have h := h m9 e9
  refine km_aload_n hX dX7_throwsOut_10 rfl rfl ?_
  refine km_getr (q := 102) hX fX7_throwsOut_55 shp_86 rfl dX7_throwsOut_11 (mrp_86_23 kqmr) ?_
  refine km_aload_n hX dX7_throwsOut_14 rfl rfl ?_
  refine km_geti hX fX7_throwsOut_132 shp_86 rfl dX7_throwsOut_15 ?_
  refine km_iload_n hX dX7_throwsOut_18 rfl ?_
  obtain ⟨hc, h⟩ := h
  refine km_iastN hX shp_102 hc dX7_throwsOut_19 (fun m19 e19 => ?_)
  have h := h m19 e19
  refine km_aload_n hX dX7_throwsOut_20 rfl rfl ?_
  refine km_getr (q := 103) hX fX7_throwsOut_58 shp_86 rfl dX7_throwsOut_21 (mrp_86_24 kqmr) ?_
  refine km_aload_n hX dX7_throwsOut_24 rfl rfl ?_
  refine km_geti hX fX7_throwsOut_132 shp_86 rfl dX7_throwsOut_25 ?_
  refine km_iload_n hX dX7_throwsOut_28 rfl ?_
  obtain ⟨hc, h⟩ := h
  refine km_iastN hX shp_103 hc dX7_throwsOut_29 (fun m29 e29 => ?_)
  have h := h m29 e29
  exact km_vret hX hF rfl dX7_throwsOut_30 ⟨rfl, rfl, rfl, h⟩ (Nat.le_refl _) (Nat.le_refl _)
def X7_reckoned_w (x0 : Int32) (x1 : Int32) (x2 : Int32) (mi : km_I) (K : Int32 → km_I → Prop) : Prop := (((Int32.toInt (x0)) < 2 ∨ 8 < (Int32.toInt (x0)) → ((x2 ≤ x1 → K 0 mi) ∧ (¬ x2 ≤ x1 → K 1 mi))) ∧ ((Int32.toInt (x0)) = 2 → K (x1 + x2) mi) ∧ ((Int32.toInt (x0)) = 3 → K (x1 - x2) mi) ∧ ((Int32.toInt (x0)) = 4 → K (x1 * x2) mi) ∧ ((Int32.toInt (x0)) = 5 → ¬ x2 = 0 ∧ K (x1 / x2) mi) ∧ ((Int32.toInt (x0)) = 6 → ¬ x2 = 0 ∧ K (x1 - x1 / x2 * x2) mi) ∧ ((Int32.toInt (x0)) = 7 → K (x1 &&& x2) mi) ∧ ((Int32.toInt (x0)) = 8 → K (x1 ^^^ x2) mi))
set_option maxHeartbeats 4000000 in
set_option maxRecDepth 100000 in
theorem X7_reckoned_c {E : km_E} {l : Launch} {mr : km_R} (kqmr : km_MR mr) {x0 : Int32} {x1 : Int32} {x2 : Int32} {mi : km_I} {K : Int32 → km_I → Prop} (h : X7_reckoned_w x0 x1 x2 mi K) : km_Ci E l yX7_reckoned wsX7_reckoned rmX7_reckoned [.int x0, .int x1, .int x2] SH mi mr K := by
  refine km_start (cc := cX7_reckoned) (maxL := 3) (ret := (some .int)) (by decide) rfl (Nat.le_of_ble_eq_true rfl) ?_
  intro X hl hX hF _
  subst hl

  have h : (((Int32.toInt (x0)) < 2 ∨ 8 < (Int32.toInt (x0)) → ((x2 ≤ x1 → K 0 mi) ∧ (¬ x2 ≤ x1 → K 1 mi))) ∧ ((Int32.toInt (x0)) = 2 → K (x1 + x2) mi) ∧ ((Int32.toInt (x0)) = 3 → K (x1 - x2) mi) ∧ ((Int32.toInt (x0)) = 4 → K (x1 * x2) mi) ∧ ((Int32.toInt (x0)) = 5 → ¬ x2 = 0 ∧ K (x1 / x2) mi) ∧ ((Int32.toInt (x0)) = 6 → ¬ x2 = 0 ∧ K (x1 - x1 / x2 * x2) mi) ∧ ((Int32.toInt (x0)) = 7 → K (x1 &&& x2) mi) ∧ ((Int32.toInt (x0)) = 8 → K (x1 ^^^ x2) mi)) := h
  refine km_iload_n hX dX7_reckoned_0 rfl ?_
  by_cases cO : (Int32.toInt (x0)) < 2 ∨ 8 < (Int32.toInt (x0))
  · refine km_tableOut (tgt := 72) hX dX7_reckoned_1 cO (by decide) ?_
    have h := h.1 cO
    refine km_iload_n hX dX7_reckoned_72 rfl ?_
    refine km_iload_n hX dX7_reckoned_73 rfl ?_
    refine km_icmp_ge (tgt := 81) hX dX7_reckoned_74 (by decide) (fun c => ?_) (fun c => ?_)
    · have h := h.1 c
      refine km_iconst (v := 0) hX dX7_reckoned_81 (by decide) ?_
      exact km_iret hX hF rfl dX7_reckoned_82 ⟨rfl, rfl, _, rfl, h⟩ (Nat.le_refl _) (Nat.le_refl _)
    · have h := h.2 c
      refine km_iconst (v := 1) hX dX7_reckoned_77 (by decide) ?_
      refine km_goto (tgt := 82) hX dX7_reckoned_78 (by decide) ?_
      exact km_iret hX hF rfl dX7_reckoned_82 ⟨rfl, rfl, _, rfl, h⟩ (Nat.le_refl _) (Nat.le_refl _)
  · have cI : (Int32.toInt (x0)) = 2 ∨ (Int32.toInt (x0)) = 3 ∨ (Int32.toInt (x0)) = 4 ∨ (Int32.toInt (x0)) = 5 ∨ (Int32.toInt (x0)) = 6 ∨ (Int32.toInt (x0)) = 7 ∨ (Int32.toInt (x0)) = 8 := by omega
    rcases cI with c | c | c | c | c | c | c
    · refine km_tableIn (off := 43) (tgt := 44) hX dX7_reckoned_1 (by omega) (by omega) (by rw [c]; rfl) (by decide) ?_
      have h := h.2.1 c
      refine km_iload_n hX dX7_reckoned_44 rfl ?_
      refine km_iload_n hX dX7_reckoned_45 rfl ?_
      refine km_iadd hX dX7_reckoned_46 ?_
      exact km_iret hX hF rfl dX7_reckoned_47 ⟨rfl, rfl, _, rfl, h⟩ (Nat.le_refl _) (Nat.le_refl _)
    · refine km_tableIn (off := 47) (tgt := 48) hX dX7_reckoned_1 (by omega) (by omega) (by rw [c]; rfl) (by decide) ?_
      have h := h.2.2.1 c
      refine km_iload_n hX dX7_reckoned_48 rfl ?_
      refine km_iload_n hX dX7_reckoned_49 rfl ?_
      refine km_isub hX dX7_reckoned_50 ?_
      exact km_iret hX hF rfl dX7_reckoned_51 ⟨rfl, rfl, _, rfl, h⟩ (Nat.le_refl _) (Nat.le_refl _)
    · refine km_tableIn (off := 51) (tgt := 52) hX dX7_reckoned_1 (by omega) (by omega) (by rw [c]; rfl) (by decide) ?_
      have h := h.2.2.2.1 c
      refine km_iload_n hX dX7_reckoned_52 rfl ?_
      refine km_iload_n hX dX7_reckoned_53 rfl ?_
      refine km_imul hX dX7_reckoned_54 ?_
      exact km_iret hX hF rfl dX7_reckoned_55 ⟨rfl, rfl, _, rfl, h⟩ (Nat.le_refl _) (Nat.le_refl _)
    · refine km_tableIn (off := 55) (tgt := 56) hX dX7_reckoned_1 (by omega) (by omega) (by rw [c]; rfl) (by decide) ?_
      have h := h.2.2.2.2.1 c
      refine km_iload_n hX dX7_reckoned_56 rfl ?_
      refine km_iload_n hX dX7_reckoned_57 rfl ?_
      obtain ⟨hc, h⟩ := h
      refine km_idiv hX hc dX7_reckoned_58 ?_
      exact km_iret hX hF rfl dX7_reckoned_59 ⟨rfl, rfl, _, rfl, h⟩ (Nat.le_refl _) (Nat.le_refl _)
    · refine km_tableIn (off := 59) (tgt := 60) hX dX7_reckoned_1 (by omega) (by omega) (by rw [c]; rfl) (by decide) ?_
      have h := h.2.2.2.2.2.1 c
      refine km_iload_n hX dX7_reckoned_60 rfl ?_
      refine km_iload_n hX dX7_reckoned_61 rfl ?_
      obtain ⟨hc, h⟩ := h
      refine km_irem hX hc dX7_reckoned_62 ?_
      exact km_iret hX hF rfl dX7_reckoned_63 ⟨rfl, rfl, _, rfl, h⟩ (Nat.le_refl _) (Nat.le_refl _)
    · refine km_tableIn (off := 63) (tgt := 64) hX dX7_reckoned_1 (by omega) (by omega) (by rw [c]; rfl) (by decide) ?_
      have h := h.2.2.2.2.2.2.1 c
      refine km_iload_n hX dX7_reckoned_64 rfl ?_
      refine km_iload_n hX dX7_reckoned_65 rfl ?_
      refine km_iand hX dX7_reckoned_66 ?_
      exact km_iret hX hF rfl dX7_reckoned_67 ⟨rfl, rfl, _, rfl, h⟩ (Nat.le_refl _) (Nat.le_refl _)
    · refine km_tableIn (off := 67) (tgt := 68) hX dX7_reckoned_1 (by omega) (by omega) (by rw [c]; rfl) (by decide) ?_
      have h := h.2.2.2.2.2.2.2 c
      refine km_iload_n hX dX7_reckoned_68 rfl ?_
      refine km_iload_n hX dX7_reckoned_69 rfl ?_
      refine km_ixor hX dX7_reckoned_70 ?_
      exact km_iret hX hF rfl dX7_reckoned_71 ⟨rfl, rfl, _, rfl, h⟩ (Nat.le_refl _) (Nat.le_refl _)
def X7_calls_b227 (x1 : Int32) (x2 : Int32) (x3 : Int32) (y1 : Int32) (y2 : Int32) (y3 : Int32) (y4 : Int32) (y5 : Int32) (y6 : Int32) (y7 : Int32) (z0 : Int32) (mi : km_I) (K : km_I → Prop) : Prop := ((z0 ≤ (mi 86 1) → vp_in y1 288 ∧ vp_in (y2 + (mi 90 (Int32.toNatClampNeg y1))) 48 ∧ (∀ m262, m262 = km_u mi 100 (Int32.toNatClampNeg (y2 + (mi 90 (Int32.toNatClampNeg y1)))) z0 → K m262)) ∧ (¬ z0 ≤ (mi 86 1) → X7_throwsOut_w 9 0 mi (fun m242 => K m242)))
set_option maxHeartbeats 4000000 in
set_option maxRecDepth 100000 in
theorem X7_calls_b227_t {E : km_E} {X : km_X} {mr : km_R} {K : km_I → Prop} {x1 : Int32} {x2 : Int32} {x3 : Int32} (hX : km_ok E X rmX7_calls cX7_calls 9 wsX7_calls RX7) (hF : km_fin E X none 0 0 (fun r sh' mi' mr' => sh' = SH ∧ mr' = mr ∧ r = none ∧ K mi')) (kqmr : km_MR mr) : ∀ (y1 : Int32) (y2 : Int32) (y3 : Int32) (y4 : Int32) (y5 : Int32) (y6 : Int32) (y7 : Int32) (z0 : Int32) (mi : km_I), X7_calls_b227 x1 x2 x3 y1 y2 y3 y4 y5 y6 y7 z0 mi K → km_G E X 9 SH mi mr 0 0 227 [(0, .ref 86), (1, .int y1), (2, .int y2), (3, .int y3), (4, .int y4), (5, .int y5), (6, .int y6), (7, .int y7)] [.int z0] := by
  intro y1 y2 y3 y4 y5 y6 y7 z0 mi h
  have h : ((z0 ≤ (mi 86 1) → vp_in y1 288 ∧ vp_in (y2 + (mi 90 (Int32.toNatClampNeg y1))) 48 ∧ (∀ m262, m262 = km_u mi 100 (Int32.toNatClampNeg (y2 + (mi 90 (Int32.toNatClampNeg y1)))) z0 → K m262)) ∧ (¬ z0 ≤ (mi 86 1) → X7_throwsOut_w 9 0 mi (fun m242 => K m242))) := h
  refine km_istore hX dX7_calls_227 (by decide) ?_
  refine km_iload hX dX7_calls_229 rfl ?_
  refine km_aload_n hX dX7_calls_231 rfl rfl ?_
  refine km_geti hX fX7_calls_107 shp_86 rfl dX7_calls_232 ?_
  refine km_icmp_le (tgt := 248) hX dX7_calls_235 (by decide) (fun c => ?_) (fun c => ?_)
  · have h := h.1 c
    refine km_aload_n hX dX7_calls_248 rfl rfl ?_
    refine km_getr (q := 100) hX fX7_calls_49 shp_86 rfl dX7_calls_249 (mrp_86_17 kqmr) ?_
    refine km_iload_n hX dX7_calls_252 rfl ?_
    refine km_aload_n hX dX7_calls_253 rfl rfl ?_
    refine km_getr (q := 90) hX fX7_calls_19 shp_86 rfl dX7_calls_254 (mrp_86_5 kqmr) ?_
    refine km_iload_n hX dX7_calls_257 rfl ?_
    obtain ⟨hc, h⟩ := h
    refine km_iald hX shp_90 hc dX7_calls_258 ?_
    refine km_iadd hX dX7_calls_259 ?_
    refine km_iload hX dX7_calls_260 rfl ?_
    obtain ⟨hc, h⟩ := h
    refine km_iastN hX shp_100 hc dX7_calls_262 (fun m262 e262 => ?_)
    have h := h m262 e262
    exact km_vret hX hF rfl dX7_calls_263 ⟨rfl, rfl, rfl, h⟩ (Nat.le_refl _) (Nat.le_refl _)
  · have h := h.2 c
    refine km_aload_n hX dX7_calls_238 rfl rfl ?_
    refine km_bipush (v := 9) hX dX7_calls_239 (by decide) ?_
    refine km_iconst (v := 0) hX dX7_calls_241 (by decide) ?_
    refine km_callVv hX dX7_calls_242 vX7_calls_135 (X7_throwsOut_c kqmr h) (by decide) shp_86 rfl rfl (Nat.le_of_ble_eq_true rfl) (fun m242 h => ?_)
    refine km_goto (tgt := 263) hX dX7_calls_245 (by decide) ?_
    exact km_vret hX hF rfl dX7_calls_263 ⟨rfl, rfl, rfl, h⟩ (Nat.le_refl _) (Nat.le_refl _)
def X7_calls_w (x1 : Int32) (x2 : Int32) (x3 : Int32) (mi : km_I) (K : km_I → Prop) : Prop := vp_in x1 288 ∧ vp_in x1 288 ∧ vp_in (x2 + (mi 92 (Int32.toNatClampNeg x1))) 48 ∧ vp_in x1 288 ∧ vp_in (x2 + (((mi 92 (Int32.toNatClampNeg x1)) + 1) - ((mi 92 (Int32.toNatClampNeg x1)) + 1) / 6 * 6)) 48 ∧ vp_in x3 2 ∧ (((mi 91 (Int32.toNatClampNeg x1)) < (mi 87 (Int32.toNatClampNeg x3)) → ((¬ (mi 86 19) = 0 → vp_in (mi 86 18) 3 ∧ ((¬ (mi 110 (Int32.toNatClampNeg (mi 86 18))) = 2 → vp_in (mi 86 18) 3 ∧ vp_in ((2 * (mi 86 18)) + (mi 110 (Int32.toNatClampNeg (mi 86 18)))) 6 ∧ (∀ m165, m165 = km_u mi 111 (Int32.toNatClampNeg ((2 * (mi 86 18)) + (mi 110 (Int32.toNatClampNeg (mi 86 18))))) (mi 91 (Int32.toNatClampNeg x1)) → vp_in ((2 * (m165 86 18)) + (mi 110 (Int32.toNatClampNeg (mi 86 18)))) 6 ∧ (∀ m181, m181 = km_u m165 112 (Int32.toNatClampNeg ((2 * (m165 86 18)) + (mi 110 (Int32.toNatClampNeg (mi 86 18))))) (mi 100 (Int32.toNatClampNeg (x2 + (mi 92 (Int32.toNatClampNeg x1))))) → vp_in ((2 * (m181 86 18)) + (mi 110 (Int32.toNatClampNeg (mi 86 18)))) 6 ∧ (∀ m197, m197 = km_u m181 113 (Int32.toNatClampNeg ((2 * (m181 86 18)) + (mi 110 (Int32.toNatClampNeg (mi 86 18))))) (mi 100 (Int32.toNatClampNeg (x2 + (((mi 92 (Int32.toNatClampNeg x1)) + 1) - ((mi 92 (Int32.toNatClampNeg x1)) + 1) / 6 * 6)))) → vp_in (m197 86 18) 3 ∧ vp_in (m197 86 18) 3 ∧ (∀ m210, m210 = km_u m197 110 (Int32.toNatClampNeg (m197 86 18)) ((m197 110 (Int32.toNatClampNeg (m197 86 18))) + 1) → ((¬ (mi 110 (Int32.toNatClampNeg (mi 86 18))) = 0 → X7_calls_b227 x1 x2 x3 x1 x2 x3 (mi 91 (Int32.toNatClampNeg x1)) (mi 100 (Int32.toNatClampNeg (x2 + (mi 92 (Int32.toNatClampNeg x1))))) (mi 100 (Int32.toNatClampNeg (x2 + (((mi 92 (Int32.toNatClampNeg x1)) + 1) - ((mi 92 (Int32.toNatClampNeg x1)) + 1) / 6 * 6)))) (mi 110 (Int32.toNatClampNeg (mi 86 18))) (m210 86 21) m210 K) ∧ ((mi 110 (Int32.toNatClampNeg (mi 86 18))) = 0 → X7_calls_b227 x1 x2 x3 x1 x2 x3 (mi 91 (Int32.toNatClampNeg x1)) (mi 100 (Int32.toNatClampNeg (x2 + (mi 92 (Int32.toNatClampNeg x1))))) (mi 100 (Int32.toNatClampNeg (x2 + (((mi 92 (Int32.toNatClampNeg x1)) + 1) - ((mi 92 (Int32.toNatClampNeg x1)) + 1) / 6 * 6)))) (mi 110 (Int32.toNatClampNeg (mi 86 18))) (m210 86 20) m210 K))))))) ∧ ((mi 110 (Int32.toNatClampNeg (mi 86 18))) = 2 → vp_in (mi 86 18) 3 ∧ (∀ m135, m135 = km_u mi 101 (Int32.toNatClampNeg (mi 86 18)) 2 → K m135)))) ∧ ((mi 86 19) = 0 → ((¬ (mi 86 13) = 8 → vp_in x1 288 ∧ X7_enter_w (mi 91 (Int32.toNatClampNeg x1)) (mi 100 (Int32.toNatClampNeg (x2 + (mi 92 (Int32.toNatClampNeg x1))))) (mi 100 (Int32.toNatClampNeg (x2 + (((mi 92 (Int32.toNatClampNeg x1)) + 1) - ((mi 92 (Int32.toNatClampNeg x1)) + 1) / 6 * 6)))) (mi 90 (Int32.toNatClampNeg x1)) mi (fun m107 => K m107)) ∧ ((mi 86 13) = 8 → vp_in (mi 86 18) 3 ∧ (∀ m90, m90 = km_u mi 101 (Int32.toNatClampNeg (mi 86 18)) 2 → K m90)))))) ∧ (¬ (mi 91 (Int32.toNatClampNeg x1)) < (mi 87 (Int32.toNatClampNeg x3)) → X7_throwsOut_w 8 (mi 91 (Int32.toNatClampNeg x1)) mi (fun m59 => K m59)))
set_option maxHeartbeats 4000000 in
set_option maxRecDepth 100000 in
theorem X7_calls_c {E : km_E} {l : Launch} {mr : km_R} (kqmr : km_MR mr) {x1 : Int32} {x2 : Int32} {x3 : Int32} {mi : km_I} {K : km_I → Prop} (h : X7_calls_w x1 x2 x3 mi K) : km_Cv E l yX7_calls wsX7_calls rmX7_calls [.ref 86, .int x1, .int x2, .int x3] SH mi mr K := by
  refine km_start (cc := cX7_calls) (maxL := 9) (ret := none) (by decide) rfl (Nat.le_of_ble_eq_true rfl) ?_
  intro X hl hX hF _
  subst hl

  have h : vp_in x1 288 ∧ vp_in x1 288 ∧ vp_in (x2 + (mi 92 (Int32.toNatClampNeg x1))) 48 ∧ vp_in x1 288 ∧ vp_in (x2 + (((mi 92 (Int32.toNatClampNeg x1)) + 1) - ((mi 92 (Int32.toNatClampNeg x1)) + 1) / 6 * 6)) 48 ∧ vp_in x3 2 ∧ (((mi 91 (Int32.toNatClampNeg x1)) < (mi 87 (Int32.toNatClampNeg x3)) → ((¬ (mi 86 19) = 0 → vp_in (mi 86 18) 3 ∧ ((¬ (mi 110 (Int32.toNatClampNeg (mi 86 18))) = 2 → vp_in (mi 86 18) 3 ∧ vp_in ((2 * (mi 86 18)) + (mi 110 (Int32.toNatClampNeg (mi 86 18)))) 6 ∧ (∀ m165, m165 = km_u mi 111 (Int32.toNatClampNeg ((2 * (mi 86 18)) + (mi 110 (Int32.toNatClampNeg (mi 86 18))))) (mi 91 (Int32.toNatClampNeg x1)) → vp_in ((2 * (m165 86 18)) + (mi 110 (Int32.toNatClampNeg (mi 86 18)))) 6 ∧ (∀ m181, m181 = km_u m165 112 (Int32.toNatClampNeg ((2 * (m165 86 18)) + (mi 110 (Int32.toNatClampNeg (mi 86 18))))) (mi 100 (Int32.toNatClampNeg (x2 + (mi 92 (Int32.toNatClampNeg x1))))) → vp_in ((2 * (m181 86 18)) + (mi 110 (Int32.toNatClampNeg (mi 86 18)))) 6 ∧ (∀ m197, m197 = km_u m181 113 (Int32.toNatClampNeg ((2 * (m181 86 18)) + (mi 110 (Int32.toNatClampNeg (mi 86 18))))) (mi 100 (Int32.toNatClampNeg (x2 + (((mi 92 (Int32.toNatClampNeg x1)) + 1) - ((mi 92 (Int32.toNatClampNeg x1)) + 1) / 6 * 6)))) → vp_in (m197 86 18) 3 ∧ vp_in (m197 86 18) 3 ∧ (∀ m210, m210 = km_u m197 110 (Int32.toNatClampNeg (m197 86 18)) ((m197 110 (Int32.toNatClampNeg (m197 86 18))) + 1) → ((¬ (mi 110 (Int32.toNatClampNeg (mi 86 18))) = 0 → X7_calls_b227 x1 x2 x3 x1 x2 x3 (mi 91 (Int32.toNatClampNeg x1)) (mi 100 (Int32.toNatClampNeg (x2 + (mi 92 (Int32.toNatClampNeg x1))))) (mi 100 (Int32.toNatClampNeg (x2 + (((mi 92 (Int32.toNatClampNeg x1)) + 1) - ((mi 92 (Int32.toNatClampNeg x1)) + 1) / 6 * 6)))) (mi 110 (Int32.toNatClampNeg (mi 86 18))) (m210 86 21) m210 K) ∧ ((mi 110 (Int32.toNatClampNeg (mi 86 18))) = 0 → X7_calls_b227 x1 x2 x3 x1 x2 x3 (mi 91 (Int32.toNatClampNeg x1)) (mi 100 (Int32.toNatClampNeg (x2 + (mi 92 (Int32.toNatClampNeg x1))))) (mi 100 (Int32.toNatClampNeg (x2 + (((mi 92 (Int32.toNatClampNeg x1)) + 1) - ((mi 92 (Int32.toNatClampNeg x1)) + 1) / 6 * 6)))) (mi 110 (Int32.toNatClampNeg (mi 86 18))) (m210 86 20) m210 K))))))) ∧ ((mi 110 (Int32.toNatClampNeg (mi 86 18))) = 2 → vp_in (mi 86 18) 3 ∧ (∀ m135, m135 = km_u mi 101 (Int32.toNatClampNeg (mi 86 18)) 2 → K m135)))) ∧ ((mi 86 19) = 0 → ((¬ (mi 86 13) = 8 → vp_in x1 288 ∧ X7_enter_w (mi 91 (Int32.toNatClampNeg x1)) (mi 100 (Int32.toNatClampNeg (x2 + (mi 92 (Int32.toNatClampNeg x1))))) (mi 100 (Int32.toNatClampNeg (x2 + (((mi 92 (Int32.toNatClampNeg x1)) + 1) - ((mi 92 (Int32.toNatClampNeg x1)) + 1) / 6 * 6)))) (mi 90 (Int32.toNatClampNeg x1)) mi (fun m107 => K m107)) ∧ ((mi 86 13) = 8 → vp_in (mi 86 18) 3 ∧ (∀ m90, m90 = km_u mi 101 (Int32.toNatClampNeg (mi 86 18)) 2 → K m90)))))) ∧ (¬ (mi 91 (Int32.toNatClampNeg x1)) < (mi 87 (Int32.toNatClampNeg x3)) → X7_throwsOut_w 8 (mi 91 (Int32.toNatClampNeg x1)) mi (fun m59 => K m59))) := h
  refine km_aload_n hX dX7_calls_0 rfl rfl ?_
  refine km_getr (q := 91) hX fX7_calls_22 shp_86 rfl dX7_calls_1 (mrp_86_6 kqmr) ?_
  refine km_iload_n hX dX7_calls_4 rfl ?_
  obtain ⟨hc, h⟩ := h
  refine km_iald hX shp_91 hc dX7_calls_5 ?_
  refine km_istore hX dX7_calls_6 (by decide) ?_
  refine km_aload_n hX dX7_calls_8 rfl rfl ?_
  refine km_getr (q := 100) hX fX7_calls_49 shp_86 rfl dX7_calls_9 (mrp_86_17 kqmr) ?_
  refine km_iload_n hX dX7_calls_12 rfl ?_
  refine km_aload_n hX dX7_calls_13 rfl rfl ?_
  refine km_getr (q := 92) hX fX7_calls_25 shp_86 rfl dX7_calls_14 (mrp_86_7 kqmr) ?_
  refine km_iload_n hX dX7_calls_17 rfl ?_
  obtain ⟨hc, h⟩ := h
  refine km_iald hX shp_92 hc dX7_calls_18 ?_
  refine km_iadd hX dX7_calls_19 ?_
  obtain ⟨hc, h⟩ := h
  refine km_iald hX shp_100 hc dX7_calls_20 ?_
  refine km_istore hX dX7_calls_21 (by decide) ?_
  refine km_aload_n hX dX7_calls_23 rfl rfl ?_
  refine km_getr (q := 100) hX fX7_calls_49 shp_86 rfl dX7_calls_24 (mrp_86_17 kqmr) ?_
  refine km_iload_n hX dX7_calls_27 rfl ?_
  refine km_aload_n hX dX7_calls_28 rfl rfl ?_
  refine km_getr (q := 92) hX fX7_calls_25 shp_86 rfl dX7_calls_29 (mrp_86_7 kqmr) ?_
  refine km_iload_n hX dX7_calls_32 rfl ?_
  obtain ⟨hc, h⟩ := h
  refine km_iald hX shp_92 hc dX7_calls_33 ?_
  refine km_iconst (v := 1) hX dX7_calls_34 (by decide) ?_
  refine km_iadd hX dX7_calls_35 ?_
  refine km_bipush (v := 6) hX dX7_calls_36 (by decide) ?_
  refine km_irem hX (by decide) dX7_calls_38 ?_
  refine km_iadd hX dX7_calls_39 ?_
  obtain ⟨hc, h⟩ := h
  refine km_iald hX shp_100 hc dX7_calls_40 ?_
  refine km_istore hX dX7_calls_41 (by decide) ?_
  refine km_iload hX dX7_calls_43 rfl ?_
  refine km_aload_n hX dX7_calls_45 rfl rfl ?_
  refine km_getr (q := 87) hX fX7_calls_7 shp_86 rfl dX7_calls_46 (mrp_86_2 kqmr) ?_
  refine km_iload_n hX dX7_calls_49 rfl ?_
  obtain ⟨hc, h⟩ := h
  refine km_iald hX shp_87 hc dX7_calls_50 ?_
  refine km_icmp_lt (tgt := 65) hX dX7_calls_51 (by decide) (fun c => ?_) (fun c => ?_)
  · have h := h.1 c
    refine km_aload_n hX dX7_calls_65 rfl rfl ?_
    refine km_geti hX fX7_calls_139 shp_86 rfl dX7_calls_66 ?_
    refine km_if_ne (tgt := 113) hX dX7_calls_69 (by decide) (fun c => ?_) (fun c => ?_)
    · have h := h.1 c
      refine km_aload_n hX dX7_calls_113 rfl rfl ?_
      refine km_getr (q := 110) hX fX7_calls_79 shp_86 rfl dX7_calls_114 (mrp_86_31 kqmr) ?_
      refine km_aload_n hX dX7_calls_117 rfl rfl ?_
      refine km_geti hX fX7_calls_132 shp_86 rfl dX7_calls_118 ?_
      obtain ⟨hc, h⟩ := h
      refine km_iald hX shp_110 hc dX7_calls_121 ?_
      refine km_iconst (v := 2) hX dX7_calls_122 (by decide) ?_
      refine km_icmp_ne (tgt := 139) hX dX7_calls_123 (by decide) (fun c => ?_) (fun c => ?_)
      · have h := h.1 c
        refine km_aload_n hX dX7_calls_139 rfl rfl ?_
        refine km_getr (q := 110) hX fX7_calls_79 shp_86 rfl dX7_calls_140 (mrp_86_31 kqmr) ?_
        refine km_aload_n hX dX7_calls_143 rfl rfl ?_
        refine km_geti hX fX7_calls_132 shp_86 rfl dX7_calls_144 ?_
        obtain ⟨hc, h⟩ := h
        refine km_iald hX shp_110 hc dX7_calls_147 ?_
        refine km_istore hX dX7_calls_148 (by decide) ?_
        refine km_aload_n hX dX7_calls_150 rfl rfl ?_
        refine km_getr (q := 111) hX fX7_calls_82 shp_86 rfl dX7_calls_151 (mrp_86_32 kqmr) ?_
        refine km_iconst (v := 2) hX dX7_calls_154 (by decide) ?_
        refine km_aload_n hX dX7_calls_155 rfl rfl ?_
        refine km_geti hX fX7_calls_132 shp_86 rfl dX7_calls_156 ?_
        refine km_imul hX dX7_calls_159 ?_
        refine km_iload hX dX7_calls_160 rfl ?_
        refine km_iadd hX dX7_calls_162 ?_
        refine km_iload hX dX7_calls_163 rfl ?_
        obtain ⟨hc, h⟩ := h
        refine km_iastN hX shp_111 hc dX7_calls_165 (fun m165 e165 => ?_)
        have h := h m165 e165
        refine km_aload_n hX dX7_calls_166 rfl rfl ?_
        refine km_getr (q := 112) hX fX7_calls_85 shp_86 rfl dX7_calls_167 (mrp_86_33 kqmr) ?_
        refine km_iconst (v := 2) hX dX7_calls_170 (by decide) ?_
        refine km_aload_n hX dX7_calls_171 rfl rfl ?_
        refine km_geti hX fX7_calls_132 shp_86 rfl dX7_calls_172 ?_
        refine km_imul hX dX7_calls_175 ?_
        refine km_iload hX dX7_calls_176 rfl ?_
        refine km_iadd hX dX7_calls_178 ?_
        refine km_iload hX dX7_calls_179 rfl ?_
        obtain ⟨hc, h⟩ := h
        refine km_iastN hX shp_112 hc dX7_calls_181 (fun m181 e181 => ?_)
        have h := h m181 e181
        refine km_aload_n hX dX7_calls_182 rfl rfl ?_
        refine km_getr (q := 113) hX fX7_calls_88 shp_86 rfl dX7_calls_183 (mrp_86_34 kqmr) ?_
        refine km_iconst (v := 2) hX dX7_calls_186 (by decide) ?_
        refine km_aload_n hX dX7_calls_187 rfl rfl ?_
        refine km_geti hX fX7_calls_132 shp_86 rfl dX7_calls_188 ?_
        refine km_imul hX dX7_calls_191 ?_
        refine km_iload hX dX7_calls_192 rfl ?_
        refine km_iadd hX dX7_calls_194 ?_
        refine km_iload hX dX7_calls_195 rfl ?_
        obtain ⟨hc, h⟩ := h
        refine km_iastN hX shp_113 hc dX7_calls_197 (fun m197 e197 => ?_)
        have h := h m197 e197
        refine km_aload_n hX dX7_calls_198 rfl rfl ?_
        refine km_getr (q := 110) hX fX7_calls_79 shp_86 rfl dX7_calls_199 (mrp_86_31 kqmr) ?_
        refine km_aload_n hX dX7_calls_202 rfl rfl ?_
        refine km_geti hX fX7_calls_132 shp_86 rfl dX7_calls_203 ?_
        refine km_dup2 hX dX7_calls_206 ?_
        obtain ⟨hc, h⟩ := h
        refine km_iald hX shp_110 hc dX7_calls_207 ?_
        refine km_iconst (v := 1) hX dX7_calls_208 (by decide) ?_
        refine km_iadd hX dX7_calls_209 ?_
        obtain ⟨hc, h⟩ := h
        refine km_iastN hX shp_110 hc dX7_calls_210 (fun m210 e210 => ?_)
        have h := h m210 e210
        refine km_iload hX dX7_calls_211 rfl ?_
        refine km_if_ne (tgt := 223) hX dX7_calls_213 (by decide) (fun c => ?_) (fun c => ?_)
        · have h := h.1 c
          refine km_aload_n hX dX7_calls_223 rfl rfl ?_
          refine km_geti hX fX7_calls_150 shp_86 rfl dX7_calls_224 ?_
          refine km_ren (ls' := [(0, .ref 86), (1, .int x1), (2, .int x2), (3, .int x3), (4, .int (mi 91 (Int32.toNatClampNeg x1))), (5, .int (mi 100 (Int32.toNatClampNeg (x2 + (mi 92 (Int32.toNatClampNeg x1)))))), (6, .int (mi 100 (Int32.toNatClampNeg (x2 + (((mi 92 (Int32.toNatClampNeg x1)) + 1) - ((mi 92 (Int32.toNatClampNeg x1)) + 1) / 6 * 6))))), (7, .int (mi 110 (Int32.toNatClampNeg (mi 86 18))))]) [0, 1, 2, 3, 4, 5, 6, 7] rfl ?_
          exact X7_calls_b227_t hX hF kqmr _ _ _ _ _ _ _ _ _ h
        · have h := h.2 c
          refine km_aload_n hX dX7_calls_216 rfl rfl ?_
          refine km_geti hX fX7_calls_147 shp_86 rfl dX7_calls_217 ?_
          refine km_goto (tgt := 227) hX dX7_calls_220 (by decide) ?_
          refine km_ren (ls' := [(0, .ref 86), (1, .int x1), (2, .int x2), (3, .int x3), (4, .int (mi 91 (Int32.toNatClampNeg x1))), (5, .int (mi 100 (Int32.toNatClampNeg (x2 + (mi 92 (Int32.toNatClampNeg x1)))))), (6, .int (mi 100 (Int32.toNatClampNeg (x2 + (((mi 92 (Int32.toNatClampNeg x1)) + 1) - ((mi 92 (Int32.toNatClampNeg x1)) + 1) / 6 * 6))))), (7, .int (mi 110 (Int32.toNatClampNeg (mi 86 18))))]) [0, 1, 2, 3, 4, 5, 6, 7] rfl ?_
          exact X7_calls_b227_t hX hF kqmr _ _ _ _ _ _ _ _ _ h
      · have h := h.2 c
        refine km_aload_n hX dX7_calls_126 rfl rfl ?_
        refine km_getr (q := 101) hX fX7_calls_52 shp_86 rfl dX7_calls_127 (mrp_86_22 kqmr) ?_
        refine km_aload_n hX dX7_calls_130 rfl rfl ?_
        refine km_geti hX fX7_calls_132 shp_86 rfl dX7_calls_131 ?_
        refine km_iconst (v := 2) hX dX7_calls_134 (by decide) ?_
        obtain ⟨hc, h⟩ := h
        refine km_iastN hX shp_101 hc dX7_calls_135 (fun m135 e135 => ?_)
        have h := h m135 e135
        refine km_goto (tgt := 263) hX dX7_calls_136 (by decide) ?_
        exact km_vret hX hF rfl dX7_calls_263 ⟨rfl, rfl, rfl, h⟩ (Nat.le_refl _) (Nat.le_refl _)
    · have h := h.2 c
      refine km_aload_n hX dX7_calls_72 rfl rfl ?_
      refine km_geti hX fX7_calls_129 shp_86 rfl dX7_calls_73 ?_
      refine km_bipush (v := 8) hX dX7_calls_76 (by decide) ?_
      refine km_icmp_ne (tgt := 94) hX dX7_calls_78 (by decide) (fun c => ?_) (fun c => ?_)
      · have h := h.1 c
        refine km_aload_n hX dX7_calls_94 rfl rfl ?_
        refine km_iload hX dX7_calls_95 rfl ?_
        refine km_iload hX dX7_calls_97 rfl ?_
        refine km_iload hX dX7_calls_99 rfl ?_
        refine km_aload_n hX dX7_calls_101 rfl rfl ?_
        refine km_getr (q := 90) hX fX7_calls_19 shp_86 rfl dX7_calls_102 (mrp_86_5 kqmr) ?_
        refine km_iload_n hX dX7_calls_105 rfl ?_
        obtain ⟨hc, h⟩ := h
        refine km_iald hX shp_90 hc dX7_calls_106 ?_
        refine km_callVv hX dX7_calls_107 vX7_calls_143 (X7_enter_c kqmr h) (by decide) shp_86 rfl rfl (Nat.le_of_ble_eq_true rfl) (fun m107 h => ?_)
        refine km_goto (tgt := 263) hX dX7_calls_110 (by decide) ?_
        exact km_vret hX hF rfl dX7_calls_263 ⟨rfl, rfl, rfl, h⟩ (Nat.le_refl _) (Nat.le_refl _)
      · have h := h.2 c
        refine km_aload_n hX dX7_calls_81 rfl rfl ?_
        refine km_getr (q := 101) hX fX7_calls_52 shp_86 rfl dX7_calls_82 (mrp_86_22 kqmr) ?_
        refine km_aload_n hX dX7_calls_85 rfl rfl ?_
        refine km_geti hX fX7_calls_132 shp_86 rfl dX7_calls_86 ?_
        refine km_iconst (v := 2) hX dX7_calls_89 (by decide) ?_
        obtain ⟨hc, h⟩ := h
        refine km_iastN hX shp_101 hc dX7_calls_90 (fun m90 e90 => ?_)
        have h := h m90 e90
        refine km_goto (tgt := 263) hX dX7_calls_91 (by decide) ?_
        exact km_vret hX hF rfl dX7_calls_263 ⟨rfl, rfl, rfl, h⟩ (Nat.le_refl _) (Nat.le_refl _)
  · have h := h.2 c
    refine km_aload_n hX dX7_calls_54 rfl rfl ?_
    refine km_bipush (v := 8) hX dX7_calls_55 (by decide) ?_
    refine km_iload hX dX7_calls_57 rfl ?_
    refine km_callVv hX dX7_calls_59 vX7_calls_135 (X7_throwsOut_c kqmr h) (by decide) shp_86 rfl rfl (Nat.le_of_ble_eq_true rfl) (fun m59 h => ?_)
    refine km_goto (tgt := 263) hX dX7_calls_62 (by decide) ?_
    exact km_vret hX hF rfl dX7_calls_263 ⟨rfl, rfl, rfl, h⟩ (Nat.le_refl _) (Nat.le_refl _)
def X7_tell_w (x1 : Int32) (x2 : Int32) (mi : km_I) (K : km_I → Prop) : Prop := vp_in (mi 86 18) 3 ∧ ((¬ (mi 106 (Int32.toNatClampNeg (mi 86 18))) = 40 → vp_in (mi 86 18) 3 ∧ vp_in ((40 * (mi 86 18)) + (mi 106 (Int32.toNatClampNeg (mi 86 18)))) 120 ∧ (∀ m49, m49 = km_u mi 107 (Int32.toNatClampNeg ((40 * (mi 86 18)) + (mi 106 (Int32.toNatClampNeg (mi 86 18))))) x1 → vp_in ((40 * (mi 86 18)) + (mi 106 (Int32.toNatClampNeg (mi 86 18)))) 120 ∧ (∀ m56, m56 = km_u m49 108 (Int32.toNatClampNeg ((40 * (mi 86 18)) + (mi 106 (Int32.toNatClampNeg (mi 86 18))))) x2 → vp_in (m56 86 18) 3 ∧ vp_in ((40 * (mi 86 18)) + (mi 106 (Int32.toNatClampNeg (mi 86 18)))) 120 ∧ (∀ m71, m71 = km_u m56 109 (Int32.toNatClampNeg ((40 * (mi 86 18)) + (mi 106 (Int32.toNatClampNeg (mi 86 18))))) (m56 110 (Int32.toNatClampNeg (m56 86 18))) → vp_in (m71 86 18) 3 ∧ vp_in (m71 86 18) 3 ∧ (∀ m84, m84 = km_u m71 106 (Int32.toNatClampNeg (m71 86 18)) ((m71 106 (Int32.toNatClampNeg (m71 86 18))) + 1) → K m84))))) ∧ ((mi 106 (Int32.toNatClampNeg (mi 86 18))) = 40 → vp_in (mi 86 18) 3 ∧ (∀ m23, m23 = km_u mi 101 (Int32.toNatClampNeg (mi 86 18)) 2 → K m23)))
set_option maxHeartbeats 4000000 in
set_option maxRecDepth 100000 in
theorem X7_tell_c {E : km_E} {l : Launch} {mr : km_R} (kqmr : km_MR mr) {x1 : Int32} {x2 : Int32} {mi : km_I} {K : km_I → Prop} (h : X7_tell_w x1 x2 mi K) : km_Cv E l yX7_tell wsX7_tell rmX7_tell [.ref 86, .int x1, .int x2] SH mi mr K := by
  refine km_start (cc := cX7_tell) (maxL := 4) (ret := none) (by decide) rfl (Nat.le_of_ble_eq_true rfl) ?_
  intro X hl hX hF _
  subst hl

  have h : vp_in (mi 86 18) 3 ∧ ((¬ (mi 106 (Int32.toNatClampNeg (mi 86 18))) = 40 → vp_in (mi 86 18) 3 ∧ vp_in ((40 * (mi 86 18)) + (mi 106 (Int32.toNatClampNeg (mi 86 18)))) 120 ∧ (∀ m49, m49 = km_u mi 107 (Int32.toNatClampNeg ((40 * (mi 86 18)) + (mi 106 (Int32.toNatClampNeg (mi 86 18))))) x1 → vp_in ((40 * (mi 86 18)) + (mi 106 (Int32.toNatClampNeg (mi 86 18)))) 120 ∧ (∀ m56, m56 = km_u m49 108 (Int32.toNatClampNeg ((40 * (mi 86 18)) + (mi 106 (Int32.toNatClampNeg (mi 86 18))))) x2 → vp_in (m56 86 18) 3 ∧ vp_in ((40 * (mi 86 18)) + (mi 106 (Int32.toNatClampNeg (mi 86 18)))) 120 ∧ (∀ m71, m71 = km_u m56 109 (Int32.toNatClampNeg ((40 * (mi 86 18)) + (mi 106 (Int32.toNatClampNeg (mi 86 18))))) (m56 110 (Int32.toNatClampNeg (m56 86 18))) → vp_in (m71 86 18) 3 ∧ vp_in (m71 86 18) 3 ∧ (∀ m84, m84 = km_u m71 106 (Int32.toNatClampNeg (m71 86 18)) ((m71 106 (Int32.toNatClampNeg (m71 86 18))) + 1) → K m84))))) ∧ ((mi 106 (Int32.toNatClampNeg (mi 86 18))) = 40 → vp_in (mi 86 18) 3 ∧ (∀ m23, m23 = km_u mi 101 (Int32.toNatClampNeg (mi 86 18)) 2 → K m23))) := h
  refine km_aload_n hX dX7_tell_0 rfl rfl ?_
  refine km_getr (q := 106) hX fX7_tell_67 shp_86 rfl dX7_tell_1 (mrp_86_27 kqmr) ?_
  refine km_aload_n hX dX7_tell_4 rfl rfl ?_
  refine km_geti hX fX7_tell_132 shp_86 rfl dX7_tell_5 ?_
  obtain ⟨hc, h⟩ := h
  refine km_iald hX shp_106 hc dX7_tell_8 ?_
  refine km_bipush (v := 40) hX dX7_tell_9 (by decide) ?_
  refine km_icmp_ne (tgt := 25) hX dX7_tell_11 (by decide) (fun c => ?_) (fun c => ?_)
  · have h := h.1 c
    refine km_bipush (v := 40) hX dX7_tell_25 (by decide) ?_
    refine km_aload_n hX dX7_tell_27 rfl rfl ?_
    refine km_geti hX fX7_tell_132 shp_86 rfl dX7_tell_28 ?_
    refine km_imul hX dX7_tell_31 ?_
    refine km_aload_n hX dX7_tell_32 rfl rfl ?_
    refine km_getr (q := 106) hX fX7_tell_67 shp_86 rfl dX7_tell_33 (mrp_86_27 kqmr) ?_
    refine km_aload_n hX dX7_tell_36 rfl rfl ?_
    refine km_geti hX fX7_tell_132 shp_86 rfl dX7_tell_37 ?_
    obtain ⟨hc, h⟩ := h
    refine km_iald hX shp_106 hc dX7_tell_40 ?_
    refine km_iadd hX dX7_tell_41 ?_
    refine km_istore_n hX dX7_tell_42 (by decide) ?_
    refine km_aload_n hX dX7_tell_43 rfl rfl ?_
    refine km_getr (q := 107) hX fX7_tell_70 shp_86 rfl dX7_tell_44 (mrp_86_28 kqmr) ?_
    refine km_iload_n hX dX7_tell_47 rfl ?_
    refine km_iload_n hX dX7_tell_48 rfl ?_
    obtain ⟨hc, h⟩ := h
    refine km_iastN hX shp_107 hc dX7_tell_49 (fun m49 e49 => ?_)
    have h := h m49 e49
    refine km_aload_n hX dX7_tell_50 rfl rfl ?_
    refine km_getr (q := 108) hX fX7_tell_73 shp_86 rfl dX7_tell_51 (mrp_86_29 kqmr) ?_
    refine km_iload_n hX dX7_tell_54 rfl ?_
    refine km_iload_n hX dX7_tell_55 rfl ?_
    obtain ⟨hc, h⟩ := h
    refine km_iastN hX shp_108 hc dX7_tell_56 (fun m56 e56 => ?_)
    have h := h m56 e56
    refine km_aload_n hX dX7_tell_57 rfl rfl ?_
    refine km_getr (q := 109) hX fX7_tell_76 shp_86 rfl dX7_tell_58 (mrp_86_30 kqmr) ?_
    refine km_iload_n hX dX7_tell_61 rfl ?_
    refine km_aload_n hX dX7_tell_62 rfl rfl ?_
    refine km_getr (q := 110) hX fX7_tell_79 shp_86 rfl dX7_tell_63 (mrp_86_31 kqmr) ?_
    refine km_aload_n hX dX7_tell_66 rfl rfl ?_
    refine km_geti hX fX7_tell_132 shp_86 rfl dX7_tell_67 ?_
    obtain ⟨hc, h⟩ := h
    refine km_iald hX shp_110 hc dX7_tell_70 ?_
    obtain ⟨hc, h⟩ := h
    refine km_iastN hX shp_109 hc dX7_tell_71 (fun m71 e71 => ?_)
    have h := h m71 e71
    refine km_aload_n hX dX7_tell_72 rfl rfl ?_
    refine km_getr (q := 106) hX fX7_tell_67 shp_86 rfl dX7_tell_73 (mrp_86_27 kqmr) ?_
    refine km_aload_n hX dX7_tell_76 rfl rfl ?_
    refine km_geti hX fX7_tell_132 shp_86 rfl dX7_tell_77 ?_
    refine km_dup2 hX dX7_tell_80 ?_
    obtain ⟨hc, h⟩ := h
    refine km_iald hX shp_106 hc dX7_tell_81 ?_
    refine km_iconst (v := 1) hX dX7_tell_82 (by decide) ?_
    refine km_iadd hX dX7_tell_83 ?_
    obtain ⟨hc, h⟩ := h
    refine km_iastN hX shp_106 hc dX7_tell_84 (fun m84 e84 => ?_)
    have h := h m84 e84
    exact km_vret hX hF rfl dX7_tell_85 ⟨rfl, rfl, rfl, h⟩ (Nat.le_refl _) (Nat.le_refl _)
  · have h := h.2 c
    refine km_aload_n hX dX7_tell_14 rfl rfl ?_
    refine km_getr (q := 101) hX fX7_tell_52 shp_86 rfl dX7_tell_15 (mrp_86_22 kqmr) ?_
    refine km_aload_n hX dX7_tell_18 rfl rfl ?_
    refine km_geti hX fX7_tell_132 shp_86 rfl dX7_tell_19 ?_
    refine km_iconst (v := 2) hX dX7_tell_22 (by decide) ?_
    obtain ⟨hc, h⟩ := h
    refine km_iastN hX shp_101 hc dX7_tell_23 (fun m23 e23 => ?_)
    have h := h m23 e23
    exact km_vret hX hF rfl dX7_tell_24 ⟨rfl, rfl, rfl, h⟩ (Nat.le_refl _) (Nat.le_refl _)
def X7_act_b179 (x1 : Int32) (x2 : Int32) (x3 : Int32) (y1 : Int32) (y2 : Int32) (y3 : Int32) (y4 : Int32) (y5 : Int32) (y6 : Int32) (y7 : Int32) (z0 : Int32) (z1 : Int32) (mi : km_I) (K : km_I → Prop) : Prop := vp_in z1 8 ∧ (∀ m179, m179 = km_u mi 98 (Int32.toNatClampNeg z1) z0 → K m179)
set_option maxHeartbeats 4000000 in
set_option maxRecDepth 100000 in
theorem X7_act_b179_t {E : km_E} {X : km_X} {mr : km_R} {K : km_I → Prop} {x1 : Int32} {x2 : Int32} {x3 : Int32} (hX : km_ok E X rmX7_act cX7_act 10 wsX7_act RX7) (hF : km_fin E X none 0 0 (fun r sh' mi' mr' => sh' = SH ∧ mr' = mr ∧ r = none ∧ K mi')) (kqmr : km_MR mr) : ∀ (y1 : Int32) (y2 : Int32) (y3 : Int32) (y4 : Int32) (y5 : Int32) (y6 : Int32) (y7 : Int32) (z0 : Int32) (z1 : Int32) (mi : km_I), X7_act_b179 x1 x2 x3 y1 y2 y3 y4 y5 y6 y7 z0 z1 mi K → km_G E X 10 SH mi mr 0 0 179 [(0, .ref 86), (1, .int y1), (2, .int y2), (3, .int y3), (4, .int y4), (5, .int y5), (6, .int y6), (7, .int y7)] [.int z0, .int z1, .ref 98] := by
  intro y1 y2 y3 y4 y5 y6 y7 z0 z1 mi h
  have h : vp_in z1 8 ∧ (∀ m179, m179 = km_u mi 98 (Int32.toNatClampNeg z1) z0 → K m179) := h
  obtain ⟨hc, h⟩ := h
  refine km_iastN hX shp_98 hc dX7_act_179 (fun m179 e179 => ?_)
  have h := h m179 e179
  refine km_goto (tgt := 339) hX dX7_act_180 (by decide) ?_
  exact km_vret hX hF rfl dX7_act_339 ⟨rfl, rfl, rfl, h⟩ (Nat.le_refl _) (Nat.le_refl _)
def X7_act_b315 (x1 : Int32) (x2 : Int32) (x3 : Int32) (y1 : Int32) (y2 : Int32) (y3 : Int32) (y4 : Int32) (y5 : Int32) (y6 : Int32) (y7 : Int32) (y8 : Int32) (y9 : Int32) (mi : km_I) (K : km_I → Prop) : Prop := X7_reckoned_w y5 y8 y9 mi (fun r330 m330 => vp_in (y4 + y6) 48 ∧ (∀ m338, m338 = km_u m330 100 (Int32.toNatClampNeg (y4 + y6)) (r330 &&& (m330 86 1)) → K m338))
set_option maxHeartbeats 4000000 in
set_option maxRecDepth 100000 in
theorem X7_act_b315_t {E : km_E} {X : km_X} {mr : km_R} {K : km_I → Prop} {x1 : Int32} {x2 : Int32} {x3 : Int32} (hX : km_ok E X rmX7_act cX7_act 10 wsX7_act RX7) (hF : km_fin E X none 0 0 (fun r sh' mi' mr' => sh' = SH ∧ mr' = mr ∧ r = none ∧ K mi')) (kqmr : km_MR mr) : ∀ (y1 : Int32) (y2 : Int32) (y3 : Int32) (y4 : Int32) (y5 : Int32) (y6 : Int32) (y7 : Int32) (y8 : Int32) (y9 : Int32) (mi : km_I), X7_act_b315 x1 x2 x3 y1 y2 y3 y4 y5 y6 y7 y8 y9 mi K → km_G E X 10 SH mi mr 0 0 315 [(0, .ref 86), (1, .int y1), (2, .int y2), (3, .int y3), (4, .int y4), (5, .int y5), (6, .int y6), (7, .int y7), (8, .int y8), (9, .int y9)] [] := by
  intro y1 y2 y3 y4 y5 y6 y7 y8 y9 mi h
  have h : X7_reckoned_w y5 y8 y9 mi (fun r330 m330 => vp_in (y4 + y6) 48 ∧ (∀ m338, m338 = km_u m330 100 (Int32.toNatClampNeg (y4 + y6)) (r330 &&& (m330 86 1)) → K m338)) := h
  refine km_aload_n hX dX7_act_315 rfl rfl ?_
  refine km_getr (q := 100) hX fX7_act_49 shp_86 rfl dX7_act_316 (mrp_86_17 kqmr) ?_
  refine km_iload hX dX7_act_319 rfl ?_
  refine km_iload hX dX7_act_321 rfl ?_
  refine km_iadd hX dX7_act_323 ?_
  refine km_iload hX dX7_act_324 rfl ?_
  refine km_iload hX dX7_act_326 rfl ?_
  refine km_iload hX dX7_act_328 rfl ?_
  refine km_callSi hX dX7_act_330 vX7_act_164 (X7_reckoned_c kqmr h) (by decide) rfl rfl (Nat.le_of_ble_eq_true rfl) (fun r330 m330 h => ?_)
  refine km_aload_n hX dX7_act_333 rfl rfl ?_
  refine km_geti hX fX7_act_107 shp_86 rfl dX7_act_334 ?_
  refine km_iand hX dX7_act_337 ?_
  obtain ⟨hc, h⟩ := h
  refine km_iastN hX shp_100 hc dX7_act_338 (fun m338 e338 => ?_)
  have h := h m338 e338
  exact km_vret hX hF rfl dX7_act_339 ⟨rfl, rfl, rfl, h⟩ (Nat.le_refl _) (Nat.le_refl _)
def X7_act_b301 (x1 : Int32) (x2 : Int32) (x3 : Int32) (y1 : Int32) (y2 : Int32) (y3 : Int32) (y4 : Int32) (y5 : Int32) (y6 : Int32) (y7 : Int32) (y8 : Int32) (y9 : Int32) (mi : km_I) (K : km_I → Prop) : Prop := ((¬ y9 = 0 → X7_act_b315 x1 x2 x3 y1 y2 y3 y4 y5 y6 y7 y8 y9 mi K) ∧ (y9 = 0 → X7_throwsOut_w 1 0 mi (fun m309 => K m309)))
set_option maxHeartbeats 4000000 in
set_option maxRecDepth 100000 in
theorem X7_act_b301_t {E : km_E} {X : km_X} {mr : km_R} {K : km_I → Prop} {x1 : Int32} {x2 : Int32} {x3 : Int32} (hX : km_ok E X rmX7_act cX7_act 10 wsX7_act RX7) (hF : km_fin E X none 0 0 (fun r sh' mi' mr' => sh' = SH ∧ mr' = mr ∧ r = none ∧ K mi')) (kqmr : km_MR mr) : ∀ (y1 : Int32) (y2 : Int32) (y3 : Int32) (y4 : Int32) (y5 : Int32) (y6 : Int32) (y7 : Int32) (y8 : Int32) (y9 : Int32) (mi : km_I), X7_act_b301 x1 x2 x3 y1 y2 y3 y4 y5 y6 y7 y8 y9 mi K → km_G E X 10 SH mi mr 0 0 301 [(0, .ref 86), (1, .int y1), (2, .int y2), (3, .int y3), (4, .int y4), (5, .int y5), (6, .int y6), (7, .int y7), (8, .int y8), (9, .int y9)] [] := by
  intro y1 y2 y3 y4 y5 y6 y7 y8 y9 mi h
  have h : ((¬ y9 = 0 → X7_act_b315 x1 x2 x3 y1 y2 y3 y4 y5 y6 y7 y8 y9 mi K) ∧ (y9 = 0 → X7_throwsOut_w 1 0 mi (fun m309 => K m309))) := h
  refine km_iload hX dX7_act_301 rfl ?_
  refine km_if_ne (tgt := 315) hX dX7_act_303 (by decide) (fun c => ?_) (fun c => ?_)
  · have h := h.1 c
    refine km_ren (ls' := [(0, .ref 86), (1, .int y1), (2, .int y2), (3, .int y3), (4, .int y4), (5, .int y5), (6, .int y6), (7, .int y7), (8, .int y8), (9, .int y9)]) [0, 1, 2, 3, 4, 5, 6, 7, 8, 9] rfl ?_
    exact X7_act_b315_t hX hF kqmr _ _ _ _ _ _ _ _ _ _ h
  · have h := h.2 c
    refine km_aload_n hX dX7_act_306 rfl rfl ?_
    refine km_iconst (v := 1) hX dX7_act_307 (by decide) ?_
    refine km_iconst (v := 0) hX dX7_act_308 (by decide) ?_
    refine km_callVv hX dX7_act_309 vX7_act_135 (X7_throwsOut_c kqmr h) (by decide) shp_86 rfl rfl (Nat.le_of_ble_eq_true rfl) (fun m309 h => ?_)
    refine km_goto (tgt := 339) hX dX7_act_312 (by decide) ?_
    exact km_vret hX hF rfl dX7_act_339 ⟨rfl, rfl, rfl, h⟩ (Nat.le_refl _) (Nat.le_refl _)
def X7_act_b260 (x1 : Int32) (x2 : Int32) (x3 : Int32) (y1 : Int32) (y2 : Int32) (y3 : Int32) (y4 : Int32) (y5 : Int32) (y6 : Int32) (y7 : Int32) (mi : km_I) (K : km_I → Prop) : Prop := vp_in (y4 + y7) 48 ∧ vp_in y1 288 ∧ vp_in (y4 + (mi 92 (Int32.toNatClampNeg y1))) 48 ∧ ((y5 = 5 → X7_act_b301 x1 x2 x3 y1 y2 y3 y4 y5 y6 y7 (mi 100 (Int32.toNatClampNeg (y4 + y7))) (mi 100 (Int32.toNatClampNeg (y4 + (mi 92 (Int32.toNatClampNeg y1))))) mi K) ∧ (¬ y5 = 5 → ((¬ y5 = 6 → X7_act_b315 x1 x2 x3 y1 y2 y3 y4 y5 y6 y7 (mi 100 (Int32.toNatClampNeg (y4 + y7))) (mi 100 (Int32.toNatClampNeg (y4 + (mi 92 (Int32.toNatClampNeg y1))))) mi K) ∧ (y5 = 6 → X7_act_b301 x1 x2 x3 y1 y2 y3 y4 y5 y6 y7 (mi 100 (Int32.toNatClampNeg (y4 + y7))) (mi 100 (Int32.toNatClampNeg (y4 + (mi 92 (Int32.toNatClampNeg y1))))) mi K))))
set_option maxHeartbeats 4000000 in
set_option maxRecDepth 100000 in
theorem X7_act_b260_t {E : km_E} {X : km_X} {mr : km_R} {K : km_I → Prop} {x1 : Int32} {x2 : Int32} {x3 : Int32} (hX : km_ok E X rmX7_act cX7_act 10 wsX7_act RX7) (hF : km_fin E X none 0 0 (fun r sh' mi' mr' => sh' = SH ∧ mr' = mr ∧ r = none ∧ K mi')) (kqmr : km_MR mr) : ∀ (y1 : Int32) (y2 : Int32) (y3 : Int32) (y4 : Int32) (y5 : Int32) (y6 : Int32) (y7 : Int32) (mi : km_I), X7_act_b260 x1 x2 x3 y1 y2 y3 y4 y5 y6 y7 mi K → km_G E X 10 SH mi mr 0 0 260 [(0, .ref 86), (1, .int y1), (2, .int y2), (3, .int y3), (4, .int y4), (5, .int y5), (6, .int y6), (7, .int y7)] [] := by
  intro y1 y2 y3 y4 y5 y6 y7 mi h
  have h : vp_in (y4 + y7) 48 ∧ vp_in y1 288 ∧ vp_in (y4 + (mi 92 (Int32.toNatClampNeg y1))) 48 ∧ ((y5 = 5 → X7_act_b301 x1 x2 x3 y1 y2 y3 y4 y5 y6 y7 (mi 100 (Int32.toNatClampNeg (y4 + y7))) (mi 100 (Int32.toNatClampNeg (y4 + (mi 92 (Int32.toNatClampNeg y1))))) mi K) ∧ (¬ y5 = 5 → ((¬ y5 = 6 → X7_act_b315 x1 x2 x3 y1 y2 y3 y4 y5 y6 y7 (mi 100 (Int32.toNatClampNeg (y4 + y7))) (mi 100 (Int32.toNatClampNeg (y4 + (mi 92 (Int32.toNatClampNeg y1))))) mi K) ∧ (y5 = 6 → X7_act_b301 x1 x2 x3 y1 y2 y3 y4 y5 y6 y7 (mi 100 (Int32.toNatClampNeg (y4 + y7))) (mi 100 (Int32.toNatClampNeg (y4 + (mi 92 (Int32.toNatClampNeg y1))))) mi K)))) := h
  refine km_aload_n hX dX7_act_260 rfl rfl ?_
  refine km_getr (q := 100) hX fX7_act_49 shp_86 rfl dX7_act_261 (mrp_86_17 kqmr) ?_
  refine km_iload hX dX7_act_264 rfl ?_
  refine km_iload hX dX7_act_266 rfl ?_
  refine km_iadd hX dX7_act_268 ?_
  obtain ⟨hc, h⟩ := h
  refine km_iald hX shp_100 hc dX7_act_269 ?_
  refine km_istore hX dX7_act_270 (by decide) ?_
  refine km_aload_n hX dX7_act_272 rfl rfl ?_
  refine km_getr (q := 100) hX fX7_act_49 shp_86 rfl dX7_act_273 (mrp_86_17 kqmr) ?_
  refine km_iload hX dX7_act_276 rfl ?_
  refine km_aload_n hX dX7_act_278 rfl rfl ?_
  refine km_getr (q := 92) hX fX7_act_25 shp_86 rfl dX7_act_279 (mrp_86_7 kqmr) ?_
  refine km_iload_n hX dX7_act_282 rfl ?_
  obtain ⟨hc, h⟩ := h
  refine km_iald hX shp_92 hc dX7_act_283 ?_
  refine km_iadd hX dX7_act_284 ?_
  obtain ⟨hc, h⟩ := h
  refine km_iald hX shp_100 hc dX7_act_285 ?_
  refine km_istore hX dX7_act_286 (by decide) ?_
  refine km_iload hX dX7_act_288 rfl ?_
  refine km_iconst (v := 5) hX dX7_act_290 (by decide) ?_
  refine km_icmp_eq (tgt := 301) hX dX7_act_291 (by decide) (fun c => ?_) (fun c => ?_)
  · have h := h.1 c
    refine km_ren (ls' := [(0, .ref 86), (1, .int y1), (2, .int y2), (3, .int y3), (4, .int y4), (5, .int y5), (6, .int y6), (7, .int y7), (8, .int (mi 100 (Int32.toNatClampNeg (y4 + y7)))), (9, .int (mi 100 (Int32.toNatClampNeg (y4 + (mi 92 (Int32.toNatClampNeg y1))))))]) [0, 1, 2, 3, 4, 5, 6, 7, 8, 9] rfl ?_
    exact X7_act_b301_t hX hF kqmr _ _ _ _ _ _ _ _ _ _ h
  · have h := h.2 c
    refine km_iload hX dX7_act_294 rfl ?_
    refine km_bipush (v := 6) hX dX7_act_296 (by decide) ?_
    refine km_icmp_ne (tgt := 315) hX dX7_act_298 (by decide) (fun c => ?_) (fun c => ?_)
    · have h := h.1 c
      refine km_ren (ls' := [(0, .ref 86), (1, .int y1), (2, .int y2), (3, .int y3), (4, .int y4), (5, .int y5), (6, .int y6), (7, .int y7), (8, .int (mi 100 (Int32.toNatClampNeg (y4 + y7)))), (9, .int (mi 100 (Int32.toNatClampNeg (y4 + (mi 92 (Int32.toNatClampNeg y1))))))]) [0, 1, 2, 3, 4, 5, 6, 7, 8, 9] rfl ?_
      exact X7_act_b315_t hX hF kqmr _ _ _ _ _ _ _ _ _ _ h
    · have h := h.2 c
      refine km_ren (ls' := [(0, .ref 86), (1, .int y1), (2, .int y2), (3, .int y3), (4, .int y4), (5, .int y5), (6, .int y6), (7, .int y7), (8, .int (mi 100 (Int32.toNatClampNeg (y4 + y7)))), (9, .int (mi 100 (Int32.toNatClampNeg (y4 + (mi 92 (Int32.toNatClampNeg y1))))))]) [0, 1, 2, 3, 4, 5, 6, 7, 8, 9] rfl ?_
      exact X7_act_b301_t hX hF kqmr _ _ _ _ _ _ _ _ _ _ h
def X7_act_w (x1 : Int32) (x2 : Int32) (x3 : Int32) (mi : km_I) (K : km_I → Prop) : Prop := vp_in x1 288 ∧ vp_in x1 288 ∧ vp_in x1 288 ∧ (((Int32.toInt ((mi 89 (Int32.toNatClampNeg x1)))) < 0 ∨ 15 < (Int32.toInt ((mi 89 (Int32.toNatClampNeg x1)))) → X7_act_b260 x1 x2 x3 x1 x2 x3 (6 * x2) (mi 89 (Int32.toNatClampNeg x1)) (mi 90 (Int32.toNatClampNeg x1)) (mi 91 (Int32.toNatClampNeg x1)) mi K) ∧ ((Int32.toInt ((mi 89 (Int32.toNatClampNeg x1)))) = 0 → vp_in ((6 * x2) + (mi 90 (Int32.toNatClampNeg x1))) 48 ∧ (∀ m123, m123 = km_u mi 100 (Int32.toNatClampNeg ((6 * x2) + (mi 90 (Int32.toNatClampNeg x1)))) (mi 91 (Int32.toNatClampNeg x1)) → K m123)) ∧ ((Int32.toInt ((mi 89 (Int32.toNatClampNeg x1)))) = 1 → vp_in ((6 * x2) + (mi 91 (Int32.toNatClampNeg x1))) 48 ∧ vp_in ((6 * x2) + (mi 90 (Int32.toNatClampNeg x1))) 48 ∧ (∀ m146, m146 = km_u mi 100 (Int32.toNatClampNeg ((6 * x2) + (mi 90 (Int32.toNatClampNeg x1)))) (mi 100 (Int32.toNatClampNeg ((6 * x2) + (mi 91 (Int32.toNatClampNeg x1))))) → K m146)) ∧ ((Int32.toInt ((mi 89 (Int32.toNatClampNeg x1)))) = 2 → X7_act_b260 x1 x2 x3 x1 x2 x3 (6 * x2) (mi 89 (Int32.toNatClampNeg x1)) (mi 90 (Int32.toNatClampNeg x1)) (mi 91 (Int32.toNatClampNeg x1)) mi K) ∧ ((Int32.toInt ((mi 89 (Int32.toNatClampNeg x1)))) = 3 → X7_act_b260 x1 x2 x3 x1 x2 x3 (6 * x2) (mi 89 (Int32.toNatClampNeg x1)) (mi 90 (Int32.toNatClampNeg x1)) (mi 91 (Int32.toNatClampNeg x1)) mi K) ∧ ((Int32.toInt ((mi 89 (Int32.toNatClampNeg x1)))) = 4 → X7_act_b260 x1 x2 x3 x1 x2 x3 (6 * x2) (mi 89 (Int32.toNatClampNeg x1)) (mi 90 (Int32.toNatClampNeg x1)) (mi 91 (Int32.toNatClampNeg x1)) mi K) ∧ ((Int32.toInt ((mi 89 (Int32.toNatClampNeg x1)))) = 5 → X7_act_b260 x1 x2 x3 x1 x2 x3 (6 * x2) (mi 89 (Int32.toNatClampNeg x1)) (mi 90 (Int32.toNatClampNeg x1)) (mi 91 (Int32.toNatClampNeg x1)) mi K) ∧ ((Int32.toInt ((mi 89 (Int32.toNatClampNeg x1)))) = 6 → X7_act_b260 x1 x2 x3 x1 x2 x3 (6 * x2) (mi 89 (Int32.toNatClampNeg x1)) (mi 90 (Int32.toNatClampNeg x1)) (mi 91 (Int32.toNatClampNeg x1)) mi K) ∧ ((Int32.toInt ((mi 89 (Int32.toNatClampNeg x1)))) = 7 → X7_act_b260 x1 x2 x3 x1 x2 x3 (6 * x2) (mi 89 (Int32.toNatClampNeg x1)) (mi 90 (Int32.toNatClampNeg x1)) (mi 91 (Int32.toNatClampNeg x1)) mi K) ∧ ((Int32.toInt ((mi 89 (Int32.toNatClampNeg x1)))) = 8 → X7_act_b260 x1 x2 x3 x1 x2 x3 (6 * x2) (mi 89 (Int32.toNatClampNeg x1)) (mi 90 (Int32.toNatClampNeg x1)) (mi 91 (Int32.toNatClampNeg x1)) mi K) ∧ ((Int32.toInt ((mi 89 (Int32.toNatClampNeg x1)))) = 9 → X7_act_b260 x1 x2 x3 x1 x2 x3 (6 * x2) (mi 89 (Int32.toNatClampNeg x1)) (mi 90 (Int32.toNatClampNeg x1)) (mi 91 (Int32.toNatClampNeg x1)) mi K) ∧ ((Int32.toInt ((mi 89 (Int32.toNatClampNeg x1)))) = 10 → vp_in ((6 * x2) + (mi 90 (Int32.toNatClampNeg x1))) 48 ∧ ((¬ (mi 100 (Int32.toNatClampNeg ((6 * x2) + (mi 90 (Int32.toNatClampNeg x1))))) = 0 → vp_in x2 8 ∧ X7_act_b179 x1 x2 x3 x1 x2 x3 (6 * x2) (mi 89 (Int32.toNatClampNeg x1)) (mi 90 (Int32.toNatClampNeg x1)) (mi 91 (Int32.toNatClampNeg x1)) (mi 98 (Int32.toNatClampNeg x2)) x2 mi K) ∧ ((mi 100 (Int32.toNatClampNeg ((6 * x2) + (mi 90 (Int32.toNatClampNeg x1))))) = 0 → X7_act_b179 x1 x2 x3 x1 x2 x3 (6 * x2) (mi 89 (Int32.toNatClampNeg x1)) (mi 90 (Int32.toNatClampNeg x1)) (mi 91 (Int32.toNatClampNeg x1)) (mi 91 (Int32.toNatClampNeg x1)) x2 mi K))) ∧ ((Int32.toInt ((mi 89 (Int32.toNatClampNeg x1)))) = 11 → vp_in x2 8 ∧ (∀ m190, m190 = km_u mi 98 (Int32.toNatClampNeg x2) (mi 90 (Int32.toNatClampNeg x1)) → K m190)) ∧ ((Int32.toInt ((mi 89 (Int32.toNatClampNeg x1)))) = 12 → vp_in ((6 * x2) + (mi 91 (Int32.toNatClampNeg x1))) 48 ∧ X7_tell_w (mi 90 (Int32.toNatClampNeg x1)) (mi 100 (Int32.toNatClampNeg ((6 * x2) + (mi 91 (Int32.toNatClampNeg x1))))) mi (fun m207 => K m207)) ∧ ((Int32.toInt ((mi 89 (Int32.toNatClampNeg x1)))) = 13 → X7_calls_w x1 (6 * x2) x3 mi (fun m218 => K m218)) ∧ ((Int32.toInt ((mi 89 (Int32.toNatClampNeg x1)))) = 14 → vp_in ((6 * x2) + (mi 90 (Int32.toNatClampNeg x1))) 48 ∧ X7_returns_w (mi 100 (Int32.toNatClampNeg ((6 * x2) + (mi 90 (Int32.toNatClampNeg x1))))) mi (fun m235 => K m235)) ∧ ((Int32.toInt ((mi 89 (Int32.toNatClampNeg x1)))) = 15 → vp_in ((6 * x2) + (mi 91 (Int32.toNatClampNeg x1))) 48 ∧ X7_throwsOut_w (mi 90 (Int32.toNatClampNeg x1)) (mi 100 (Int32.toNatClampNeg ((6 * x2) + (mi 91 (Int32.toNatClampNeg x1))))) mi (fun m254 => K m254)))
set_option maxHeartbeats 4000000 in
set_option maxRecDepth 100000 in
theorem X7_act_c {E : km_E} {l : Launch} {mr : km_R} (kqmr : km_MR mr) {x1 : Int32} {x2 : Int32} {x3 : Int32} {mi : km_I} {K : km_I → Prop} (h : X7_act_w x1 x2 x3 mi K) : km_Cv E l yX7_act wsX7_act rmX7_act [.ref 86, .int x1, .int x2, .int x3] SH mi mr K := by
  refine km_start (cc := cX7_act) (maxL := 10) (ret := none) (by decide) rfl (Nat.le_of_ble_eq_true rfl) ?_
  intro X hl hX hF _
  subst hl

  have h : vp_in x1 288 ∧ vp_in x1 288 ∧ vp_in x1 288 ∧ (((Int32.toInt ((mi 89 (Int32.toNatClampNeg x1)))) < 0 ∨ 15 < (Int32.toInt ((mi 89 (Int32.toNatClampNeg x1)))) → X7_act_b260 x1 x2 x3 x1 x2 x3 (6 * x2) (mi 89 (Int32.toNatClampNeg x1)) (mi 90 (Int32.toNatClampNeg x1)) (mi 91 (Int32.toNatClampNeg x1)) mi K) ∧ ((Int32.toInt ((mi 89 (Int32.toNatClampNeg x1)))) = 0 → vp_in ((6 * x2) + (mi 90 (Int32.toNatClampNeg x1))) 48 ∧ (∀ m123, m123 = km_u mi 100 (Int32.toNatClampNeg ((6 * x2) + (mi 90 (Int32.toNatClampNeg x1)))) (mi 91 (Int32.toNatClampNeg x1)) → K m123)) ∧ ((Int32.toInt ((mi 89 (Int32.toNatClampNeg x1)))) = 1 → vp_in ((6 * x2) + (mi 91 (Int32.toNatClampNeg x1))) 48 ∧ vp_in ((6 * x2) + (mi 90 (Int32.toNatClampNeg x1))) 48 ∧ (∀ m146, m146 = km_u mi 100 (Int32.toNatClampNeg ((6 * x2) + (mi 90 (Int32.toNatClampNeg x1)))) (mi 100 (Int32.toNatClampNeg ((6 * x2) + (mi 91 (Int32.toNatClampNeg x1))))) → K m146)) ∧ ((Int32.toInt ((mi 89 (Int32.toNatClampNeg x1)))) = 2 → X7_act_b260 x1 x2 x3 x1 x2 x3 (6 * x2) (mi 89 (Int32.toNatClampNeg x1)) (mi 90 (Int32.toNatClampNeg x1)) (mi 91 (Int32.toNatClampNeg x1)) mi K) ∧ ((Int32.toInt ((mi 89 (Int32.toNatClampNeg x1)))) = 3 → X7_act_b260 x1 x2 x3 x1 x2 x3 (6 * x2) (mi 89 (Int32.toNatClampNeg x1)) (mi 90 (Int32.toNatClampNeg x1)) (mi 91 (Int32.toNatClampNeg x1)) mi K) ∧ ((Int32.toInt ((mi 89 (Int32.toNatClampNeg x1)))) = 4 → X7_act_b260 x1 x2 x3 x1 x2 x3 (6 * x2) (mi 89 (Int32.toNatClampNeg x1)) (mi 90 (Int32.toNatClampNeg x1)) (mi 91 (Int32.toNatClampNeg x1)) mi K) ∧ ((Int32.toInt ((mi 89 (Int32.toNatClampNeg x1)))) = 5 → X7_act_b260 x1 x2 x3 x1 x2 x3 (6 * x2) (mi 89 (Int32.toNatClampNeg x1)) (mi 90 (Int32.toNatClampNeg x1)) (mi 91 (Int32.toNatClampNeg x1)) mi K) ∧ ((Int32.toInt ((mi 89 (Int32.toNatClampNeg x1)))) = 6 → X7_act_b260 x1 x2 x3 x1 x2 x3 (6 * x2) (mi 89 (Int32.toNatClampNeg x1)) (mi 90 (Int32.toNatClampNeg x1)) (mi 91 (Int32.toNatClampNeg x1)) mi K) ∧ ((Int32.toInt ((mi 89 (Int32.toNatClampNeg x1)))) = 7 → X7_act_b260 x1 x2 x3 x1 x2 x3 (6 * x2) (mi 89 (Int32.toNatClampNeg x1)) (mi 90 (Int32.toNatClampNeg x1)) (mi 91 (Int32.toNatClampNeg x1)) mi K) ∧ ((Int32.toInt ((mi 89 (Int32.toNatClampNeg x1)))) = 8 → X7_act_b260 x1 x2 x3 x1 x2 x3 (6 * x2) (mi 89 (Int32.toNatClampNeg x1)) (mi 90 (Int32.toNatClampNeg x1)) (mi 91 (Int32.toNatClampNeg x1)) mi K) ∧ ((Int32.toInt ((mi 89 (Int32.toNatClampNeg x1)))) = 9 → X7_act_b260 x1 x2 x3 x1 x2 x3 (6 * x2) (mi 89 (Int32.toNatClampNeg x1)) (mi 90 (Int32.toNatClampNeg x1)) (mi 91 (Int32.toNatClampNeg x1)) mi K) ∧ ((Int32.toInt ((mi 89 (Int32.toNatClampNeg x1)))) = 10 → vp_in ((6 * x2) + (mi 90 (Int32.toNatClampNeg x1))) 48 ∧ ((¬ (mi 100 (Int32.toNatClampNeg ((6 * x2) + (mi 90 (Int32.toNatClampNeg x1))))) = 0 → vp_in x2 8 ∧ X7_act_b179 x1 x2 x3 x1 x2 x3 (6 * x2) (mi 89 (Int32.toNatClampNeg x1)) (mi 90 (Int32.toNatClampNeg x1)) (mi 91 (Int32.toNatClampNeg x1)) (mi 98 (Int32.toNatClampNeg x2)) x2 mi K) ∧ ((mi 100 (Int32.toNatClampNeg ((6 * x2) + (mi 90 (Int32.toNatClampNeg x1))))) = 0 → X7_act_b179 x1 x2 x3 x1 x2 x3 (6 * x2) (mi 89 (Int32.toNatClampNeg x1)) (mi 90 (Int32.toNatClampNeg x1)) (mi 91 (Int32.toNatClampNeg x1)) (mi 91 (Int32.toNatClampNeg x1)) x2 mi K))) ∧ ((Int32.toInt ((mi 89 (Int32.toNatClampNeg x1)))) = 11 → vp_in x2 8 ∧ (∀ m190, m190 = km_u mi 98 (Int32.toNatClampNeg x2) (mi 90 (Int32.toNatClampNeg x1)) → K m190)) ∧ ((Int32.toInt ((mi 89 (Int32.toNatClampNeg x1)))) = 12 → vp_in ((6 * x2) + (mi 91 (Int32.toNatClampNeg x1))) 48 ∧ X7_tell_w (mi 90 (Int32.toNatClampNeg x1)) (mi 100 (Int32.toNatClampNeg ((6 * x2) + (mi 91 (Int32.toNatClampNeg x1))))) mi (fun m207 => K m207)) ∧ ((Int32.toInt ((mi 89 (Int32.toNatClampNeg x1)))) = 13 → X7_calls_w x1 (6 * x2) x3 mi (fun m218 => K m218)) ∧ ((Int32.toInt ((mi 89 (Int32.toNatClampNeg x1)))) = 14 → vp_in ((6 * x2) + (mi 90 (Int32.toNatClampNeg x1))) 48 ∧ X7_returns_w (mi 100 (Int32.toNatClampNeg ((6 * x2) + (mi 90 (Int32.toNatClampNeg x1))))) mi (fun m235 => K m235)) ∧ ((Int32.toInt ((mi 89 (Int32.toNatClampNeg x1)))) = 15 → vp_in ((6 * x2) + (mi 91 (Int32.toNatClampNeg x1))) 48 ∧ X7_throwsOut_w (mi 90 (Int32.toNatClampNeg x1)) (mi 100 (Int32.toNatClampNeg ((6 * x2) + (mi 91 (Int32.toNatClampNeg x1))))) mi (fun m254 => K m254))) := h
  refine km_bipush (v := 6) hX dX7_act_0 (by decide) ?_
  refine km_iload_n hX dX7_act_2 rfl ?_
  refine km_imul hX dX7_act_3 ?_
  refine km_istore hX dX7_act_4 (by decide) ?_
  refine km_aload_n hX dX7_act_6 rfl rfl ?_
  refine km_getr (q := 89) hX fX7_act_16 shp_86 rfl dX7_act_7 (mrp_86_4 kqmr) ?_
  refine km_iload_n hX dX7_act_10 rfl ?_
  obtain ⟨hc, h⟩ := h
  refine km_iald hX shp_89 hc dX7_act_11 ?_
  refine km_istore hX dX7_act_12 (by decide) ?_
  refine km_aload_n hX dX7_act_14 rfl rfl ?_
  refine km_getr (q := 90) hX fX7_act_19 shp_86 rfl dX7_act_15 (mrp_86_5 kqmr) ?_
  refine km_iload_n hX dX7_act_18 rfl ?_
  obtain ⟨hc, h⟩ := h
  refine km_iald hX shp_90 hc dX7_act_19 ?_
  refine km_istore hX dX7_act_20 (by decide) ?_
  refine km_aload_n hX dX7_act_22 rfl rfl ?_
  refine km_getr (q := 91) hX fX7_act_22 shp_86 rfl dX7_act_23 (mrp_86_6 kqmr) ?_
  refine km_iload_n hX dX7_act_26 rfl ?_
  obtain ⟨hc, h⟩ := h
  refine km_iald hX shp_91 hc dX7_act_27 ?_
  refine km_istore hX dX7_act_28 (by decide) ?_
  refine km_iload hX dX7_act_30 rfl ?_
  by_cases cO : (Int32.toInt ((mi 89 (Int32.toNatClampNeg x1)))) < 0 ∨ 15 < (Int32.toInt ((mi 89 (Int32.toNatClampNeg x1))))
  · refine km_tableOut (tgt := 260) hX dX7_act_32 cO (by decide) ?_
    have h := h.1 cO
    refine km_ren (ls' := [(0, .ref 86), (1, .int x1), (2, .int x2), (3, .int x3), (4, .int (6 * x2)), (5, .int (mi 89 (Int32.toNatClampNeg x1))), (6, .int (mi 90 (Int32.toNatClampNeg x1))), (7, .int (mi 91 (Int32.toNatClampNeg x1)))]) [0, 1, 2, 3, 4, 5, 6, 7] rfl ?_
    exact X7_act_b260_t hX hF kqmr _ _ _ _ _ _ _ _ h
  · have cI : (Int32.toInt ((mi 89 (Int32.toNatClampNeg x1)))) = 0 ∨ (Int32.toInt ((mi 89 (Int32.toNatClampNeg x1)))) = 1 ∨ (Int32.toInt ((mi 89 (Int32.toNatClampNeg x1)))) = 2 ∨ (Int32.toInt ((mi 89 (Int32.toNatClampNeg x1)))) = 3 ∨ (Int32.toInt ((mi 89 (Int32.toNatClampNeg x1)))) = 4 ∨ (Int32.toInt ((mi 89 (Int32.toNatClampNeg x1)))) = 5 ∨ (Int32.toInt ((mi 89 (Int32.toNatClampNeg x1)))) = 6 ∨ (Int32.toInt ((mi 89 (Int32.toNatClampNeg x1)))) = 7 ∨ (Int32.toInt ((mi 89 (Int32.toNatClampNeg x1)))) = 8 ∨ (Int32.toInt ((mi 89 (Int32.toNatClampNeg x1)))) = 9 ∨ (Int32.toInt ((mi 89 (Int32.toNatClampNeg x1)))) = 10 ∨ (Int32.toInt ((mi 89 (Int32.toNatClampNeg x1)))) = 11 ∨ (Int32.toInt ((mi 89 (Int32.toNatClampNeg x1)))) = 12 ∨ (Int32.toInt ((mi 89 (Int32.toNatClampNeg x1)))) = 13 ∨ (Int32.toInt ((mi 89 (Int32.toNatClampNeg x1)))) = 14 ∨ (Int32.toInt ((mi 89 (Int32.toNatClampNeg x1)))) = 15 := by omega
    rcases cI with c | c | c | c | c | c | c | c | c | c | c | c | c | c | c | c
    · refine km_tableIn (off := 80) (tgt := 112) hX dX7_act_32 (by omega) (by omega) (by rw [c]; rfl) (by decide) ?_
      have h := h.2.1 c
      refine km_aload_n hX dX7_act_112 rfl rfl ?_
      refine km_getr (q := 100) hX fX7_act_49 shp_86 rfl dX7_act_113 (mrp_86_17 kqmr) ?_
      refine km_iload hX dX7_act_116 rfl ?_
      refine km_iload hX dX7_act_118 rfl ?_
      refine km_iadd hX dX7_act_120 ?_
      refine km_iload hX dX7_act_121 rfl ?_
      obtain ⟨hc, h⟩ := h
      refine km_iastN hX shp_100 hc dX7_act_123 (fun m123 e123 => ?_)
      have h := h m123 e123
      refine km_goto (tgt := 339) hX dX7_act_124 (by decide) ?_
      exact km_vret hX hF rfl dX7_act_339 ⟨rfl, rfl, rfl, h⟩ (Nat.le_refl _) (Nat.le_refl _)
    · refine km_tableIn (off := 95) (tgt := 127) hX dX7_act_32 (by omega) (by omega) (by rw [c]; rfl) (by decide) ?_
      have h := h.2.2.1 c
      refine km_aload_n hX dX7_act_127 rfl rfl ?_
      refine km_getr (q := 100) hX fX7_act_49 shp_86 rfl dX7_act_128 (mrp_86_17 kqmr) ?_
      refine km_iload hX dX7_act_131 rfl ?_
      refine km_iload hX dX7_act_133 rfl ?_
      refine km_iadd hX dX7_act_135 ?_
      refine km_aload_n hX dX7_act_136 rfl rfl ?_
      refine km_getr (q := 100) hX fX7_act_49 shp_86 rfl dX7_act_137 (mrp_86_17 kqmr) ?_
      refine km_iload hX dX7_act_140 rfl ?_
      refine km_iload hX dX7_act_142 rfl ?_
      refine km_iadd hX dX7_act_144 ?_
      obtain ⟨hc, h⟩ := h
      refine km_iald hX shp_100 hc dX7_act_145 ?_
      obtain ⟨hc, h⟩ := h
      refine km_iastN hX shp_100 hc dX7_act_146 (fun m146 e146 => ?_)
      have h := h m146 e146
      refine km_goto (tgt := 339) hX dX7_act_147 (by decide) ?_
      exact km_vret hX hF rfl dX7_act_339 ⟨rfl, rfl, rfl, h⟩ (Nat.le_refl _) (Nat.le_refl _)
    · refine km_tableIn (off := 228) (tgt := 260) hX dX7_act_32 (by omega) (by omega) (by rw [c]; rfl) (by decide) ?_
      have h := h.2.2.2.1 c
      refine km_ren (ls' := [(0, .ref 86), (1, .int x1), (2, .int x2), (3, .int x3), (4, .int (6 * x2)), (5, .int (mi 89 (Int32.toNatClampNeg x1))), (6, .int (mi 90 (Int32.toNatClampNeg x1))), (7, .int (mi 91 (Int32.toNatClampNeg x1)))]) [0, 1, 2, 3, 4, 5, 6, 7] rfl ?_
      exact X7_act_b260_t hX hF kqmr _ _ _ _ _ _ _ _ h
    · refine km_tableIn (off := 228) (tgt := 260) hX dX7_act_32 (by omega) (by omega) (by rw [c]; rfl) (by decide) ?_
      have h := h.2.2.2.2.1 c
      refine km_ren (ls' := [(0, .ref 86), (1, .int x1), (2, .int x2), (3, .int x3), (4, .int (6 * x2)), (5, .int (mi 89 (Int32.toNatClampNeg x1))), (6, .int (mi 90 (Int32.toNatClampNeg x1))), (7, .int (mi 91 (Int32.toNatClampNeg x1)))]) [0, 1, 2, 3, 4, 5, 6, 7] rfl ?_
      exact X7_act_b260_t hX hF kqmr _ _ _ _ _ _ _ _ h
    · refine km_tableIn (off := 228) (tgt := 260) hX dX7_act_32 (by omega) (by omega) (by rw [c]; rfl) (by decide) ?_
      have h := h.2.2.2.2.2.1 c
      refine km_ren (ls' := [(0, .ref 86), (1, .int x1), (2, .int x2), (3, .int x3), (4, .int (6 * x2)), (5, .int (mi 89 (Int32.toNatClampNeg x1))), (6, .int (mi 90 (Int32.toNatClampNeg x1))), (7, .int (mi 91 (Int32.toNatClampNeg x1)))]) [0, 1, 2, 3, 4, 5, 6, 7] rfl ?_
      exact X7_act_b260_t hX hF kqmr _ _ _ _ _ _ _ _ h
    · refine km_tableIn (off := 228) (tgt := 260) hX dX7_act_32 (by omega) (by omega) (by rw [c]; rfl) (by decide) ?_
      have h := h.2.2.2.2.2.2.1 c
      refine km_ren (ls' := [(0, .ref 86), (1, .int x1), (2, .int x2), (3, .int x3), (4, .int (6 * x2)), (5, .int (mi 89 (Int32.toNatClampNeg x1))), (6, .int (mi 90 (Int32.toNatClampNeg x1))), (7, .int (mi 91 (Int32.toNatClampNeg x1)))]) [0, 1, 2, 3, 4, 5, 6, 7] rfl ?_
      exact X7_act_b260_t hX hF kqmr _ _ _ _ _ _ _ _ h
    · refine km_tableIn (off := 228) (tgt := 260) hX dX7_act_32 (by omega) (by omega) (by rw [c]; rfl) (by decide) ?_
      have h := h.2.2.2.2.2.2.2.1 c
      refine km_ren (ls' := [(0, .ref 86), (1, .int x1), (2, .int x2), (3, .int x3), (4, .int (6 * x2)), (5, .int (mi 89 (Int32.toNatClampNeg x1))), (6, .int (mi 90 (Int32.toNatClampNeg x1))), (7, .int (mi 91 (Int32.toNatClampNeg x1)))]) [0, 1, 2, 3, 4, 5, 6, 7] rfl ?_
      exact X7_act_b260_t hX hF kqmr _ _ _ _ _ _ _ _ h
    · refine km_tableIn (off := 228) (tgt := 260) hX dX7_act_32 (by omega) (by omega) (by rw [c]; rfl) (by decide) ?_
      have h := h.2.2.2.2.2.2.2.2.1 c
      refine km_ren (ls' := [(0, .ref 86), (1, .int x1), (2, .int x2), (3, .int x3), (4, .int (6 * x2)), (5, .int (mi 89 (Int32.toNatClampNeg x1))), (6, .int (mi 90 (Int32.toNatClampNeg x1))), (7, .int (mi 91 (Int32.toNatClampNeg x1)))]) [0, 1, 2, 3, 4, 5, 6, 7] rfl ?_
      exact X7_act_b260_t hX hF kqmr _ _ _ _ _ _ _ _ h
    · refine km_tableIn (off := 228) (tgt := 260) hX dX7_act_32 (by omega) (by omega) (by rw [c]; rfl) (by decide) ?_
      have h := h.2.2.2.2.2.2.2.2.2.1 c
      refine km_ren (ls' := [(0, .ref 86), (1, .int x1), (2, .int x2), (3, .int x3), (4, .int (6 * x2)), (5, .int (mi 89 (Int32.toNatClampNeg x1))), (6, .int (mi 90 (Int32.toNatClampNeg x1))), (7, .int (mi 91 (Int32.toNatClampNeg x1)))]) [0, 1, 2, 3, 4, 5, 6, 7] rfl ?_
      exact X7_act_b260_t hX hF kqmr _ _ _ _ _ _ _ _ h
    · refine km_tableIn (off := 228) (tgt := 260) hX dX7_act_32 (by omega) (by omega) (by rw [c]; rfl) (by decide) ?_
      have h := h.2.2.2.2.2.2.2.2.2.2.1 c
      refine km_ren (ls' := [(0, .ref 86), (1, .int x1), (2, .int x2), (3, .int x3), (4, .int (6 * x2)), (5, .int (mi 89 (Int32.toNatClampNeg x1))), (6, .int (mi 90 (Int32.toNatClampNeg x1))), (7, .int (mi 91 (Int32.toNatClampNeg x1)))]) [0, 1, 2, 3, 4, 5, 6, 7] rfl ?_
      exact X7_act_b260_t hX hF kqmr _ _ _ _ _ _ _ _ h
    · refine km_tableIn (off := 118) (tgt := 150) hX dX7_act_32 (by omega) (by omega) (by rw [c]; rfl) (by decide) ?_
      have h := h.2.2.2.2.2.2.2.2.2.2.2.1 c
      refine km_aload_n hX dX7_act_150 rfl rfl ?_
      refine km_getr (q := 98) hX fX7_act_43 shp_86 rfl dX7_act_151 (mrp_86_15 kqmr) ?_
      refine km_iload_n hX dX7_act_154 rfl ?_
      refine km_aload_n hX dX7_act_155 rfl rfl ?_
      refine km_getr (q := 100) hX fX7_act_49 shp_86 rfl dX7_act_156 (mrp_86_17 kqmr) ?_
      refine km_iload hX dX7_act_159 rfl ?_
      refine km_iload hX dX7_act_161 rfl ?_
      refine km_iadd hX dX7_act_163 ?_
      obtain ⟨hc, h⟩ := h
      refine km_iald hX shp_100 hc dX7_act_164 ?_
      refine km_if_ne (tgt := 173) hX dX7_act_165 (by decide) (fun c => ?_) (fun c => ?_)
      · have h := h.1 c
        refine km_aload_n hX dX7_act_173 rfl rfl ?_
        refine km_getr (q := 98) hX fX7_act_43 shp_86 rfl dX7_act_174 (mrp_86_15 kqmr) ?_
        refine km_iload_n hX dX7_act_177 rfl ?_
        obtain ⟨hc, h⟩ := h
        refine km_iald hX shp_98 hc dX7_act_178 ?_
        refine km_ren (ls' := [(0, .ref 86), (1, .int x1), (2, .int x2), (3, .int x3), (4, .int (6 * x2)), (5, .int (mi 89 (Int32.toNatClampNeg x1))), (6, .int (mi 90 (Int32.toNatClampNeg x1))), (7, .int (mi 91 (Int32.toNatClampNeg x1)))]) [0, 1, 2, 3, 4, 5, 6, 7] rfl ?_
        exact X7_act_b179_t hX hF kqmr _ _ _ _ _ _ _ _ _ _ h
      · have h := h.2 c
        refine km_iload hX dX7_act_168 rfl ?_
        refine km_goto (tgt := 179) hX dX7_act_170 (by decide) ?_
        refine km_ren (ls' := [(0, .ref 86), (1, .int x1), (2, .int x2), (3, .int x3), (4, .int (6 * x2)), (5, .int (mi 89 (Int32.toNatClampNeg x1))), (6, .int (mi 90 (Int32.toNatClampNeg x1))), (7, .int (mi 91 (Int32.toNatClampNeg x1)))]) [0, 1, 2, 3, 4, 5, 6, 7] rfl ?_
        exact X7_act_b179_t hX hF kqmr _ _ _ _ _ _ _ _ _ _ h
    · refine km_tableIn (off := 151) (tgt := 183) hX dX7_act_32 (by omega) (by omega) (by rw [c]; rfl) (by decide) ?_
      have h := h.2.2.2.2.2.2.2.2.2.2.2.2.1 c
      refine km_aload_n hX dX7_act_183 rfl rfl ?_
      refine km_getr (q := 98) hX fX7_act_43 shp_86 rfl dX7_act_184 (mrp_86_15 kqmr) ?_
      refine km_iload_n hX dX7_act_187 rfl ?_
      refine km_iload hX dX7_act_188 rfl ?_
      obtain ⟨hc, h⟩ := h
      refine km_iastN hX shp_98 hc dX7_act_190 (fun m190 e190 => ?_)
      have h := h m190 e190
      refine km_goto (tgt := 339) hX dX7_act_191 (by decide) ?_
      exact km_vret hX hF rfl dX7_act_339 ⟨rfl, rfl, rfl, h⟩ (Nat.le_refl _) (Nat.le_refl _)
    · refine km_tableIn (off := 162) (tgt := 194) hX dX7_act_32 (by omega) (by omega) (by rw [c]; rfl) (by decide) ?_
      have h := h.2.2.2.2.2.2.2.2.2.2.2.2.2.1 c
      refine km_aload_n hX dX7_act_194 rfl rfl ?_
      refine km_iload hX dX7_act_195 rfl ?_
      refine km_aload_n hX dX7_act_197 rfl rfl ?_
      refine km_getr (q := 100) hX fX7_act_49 shp_86 rfl dX7_act_198 (mrp_86_17 kqmr) ?_
      refine km_iload hX dX7_act_201 rfl ?_
      refine km_iload hX dX7_act_203 rfl ?_
      refine km_iadd hX dX7_act_205 ?_
      obtain ⟨hc, h⟩ := h
      refine km_iald hX shp_100 hc dX7_act_206 ?_
      refine km_callVv hX dX7_act_207 vX7_act_153 (X7_tell_c kqmr h) (by decide) shp_86 rfl rfl (Nat.le_of_ble_eq_true rfl) (fun m207 h => ?_)
      refine km_goto (tgt := 339) hX dX7_act_210 (by decide) ?_
      exact km_vret hX hF rfl dX7_act_339 ⟨rfl, rfl, rfl, h⟩ (Nat.le_refl _) (Nat.le_refl _)
    · refine km_tableIn (off := 181) (tgt := 213) hX dX7_act_32 (by omega) (by omega) (by rw [c]; rfl) (by decide) ?_
      have h := h.2.2.2.2.2.2.2.2.2.2.2.2.2.2.1 c
      refine km_aload_n hX dX7_act_213 rfl rfl ?_
      refine km_iload_n hX dX7_act_214 rfl ?_
      refine km_iload hX dX7_act_215 rfl ?_
      refine km_iload_n hX dX7_act_217 rfl ?_
      refine km_callVv hX dX7_act_218 vX7_act_156 (X7_calls_c kqmr h) (by decide) shp_86 rfl rfl (Nat.le_of_ble_eq_true rfl) (fun m218 h => ?_)
      refine km_goto (tgt := 339) hX dX7_act_221 (by decide) ?_
      exact km_vret hX hF rfl dX7_act_339 ⟨rfl, rfl, rfl, h⟩ (Nat.le_refl _) (Nat.le_refl _)
    · refine km_tableIn (off := 192) (tgt := 224) hX dX7_act_32 (by omega) (by omega) (by rw [c]; rfl) (by decide) ?_
      have h := h.2.2.2.2.2.2.2.2.2.2.2.2.2.2.2.1 c
      refine km_aload_n hX dX7_act_224 rfl rfl ?_
      refine km_aload_n hX dX7_act_225 rfl rfl ?_
      refine km_getr (q := 100) hX fX7_act_49 shp_86 rfl dX7_act_226 (mrp_86_17 kqmr) ?_
      refine km_iload hX dX7_act_229 rfl ?_
      refine km_iload hX dX7_act_231 rfl ?_
      refine km_iadd hX dX7_act_233 ?_
      obtain ⟨hc, h⟩ := h
      refine km_iald hX shp_100 hc dX7_act_234 ?_
      refine km_callVv hX dX7_act_235 vX7_act_160 (X7_returns_c kqmr h) (by decide) shp_86 rfl rfl (Nat.le_of_ble_eq_true rfl) (fun m235 h => ?_)
      refine km_goto (tgt := 339) hX dX7_act_238 (by decide) ?_
      exact km_vret hX hF rfl dX7_act_339 ⟨rfl, rfl, rfl, h⟩ (Nat.le_refl _) (Nat.le_refl _)
    · refine km_tableIn (off := 209) (tgt := 241) hX dX7_act_32 (by omega) (by omega) (by rw [c]; rfl) (by decide) ?_
      have h := h.2.2.2.2.2.2.2.2.2.2.2.2.2.2.2.2 c
      refine km_aload_n hX dX7_act_241 rfl rfl ?_
      refine km_iload hX dX7_act_242 rfl ?_
      refine km_aload_n hX dX7_act_244 rfl rfl ?_
      refine km_getr (q := 100) hX fX7_act_49 shp_86 rfl dX7_act_245 (mrp_86_17 kqmr) ?_
      refine km_iload hX dX7_act_248 rfl ?_
      refine km_iload hX dX7_act_250 rfl ?_
      refine km_iadd hX dX7_act_252 ?_
      obtain ⟨hc, h⟩ := h
      refine km_iald hX shp_100 hc dX7_act_253 ?_
      refine km_callVv hX dX7_act_254 vX7_act_135 (X7_throwsOut_c kqmr h) (by decide) shp_86 rfl rfl (Nat.le_of_ble_eq_true rfl) (fun m254 h => ?_)
      refine km_goto (tgt := 339) hX dX7_act_257 (by decide) ?_
      exact km_vret hX hF rfl dX7_act_339 ⟨rfl, rfl, rfl, h⟩ (Nat.le_refl _) (Nat.le_refl _)
def X7_play_b186 (x1 : Int32) (x2 : Int32) (x3 : Int32) (x4 : Int32) (x5 : Int32) (Z69 : Int32 → Int32 → Int32 → Int32 → Int32 → km_I → Prop) (y1 : Int32) (y2 : Int32) (y3 : Int32) (y4 : Int32) (y5 : Int32) (y6 : Int32) (y7 : Int32) (y8 : Int32) (mi : km_I) (K : km_I → Prop) : Prop := Z69 y1 y2 y3 y4 y5 mi
set_option maxHeartbeats 4000000 in
set_option maxRecDepth 100000 in
theorem X7_play_b186_t {E : km_E} {X : km_X} {mr : km_R} {K : km_I → Prop} {x1 : Int32} {x2 : Int32} {x3 : Int32} {x4 : Int32} {x5 : Int32} {Z69 : Int32 → Int32 → Int32 → Int32 → Int32 → km_I → Prop} (hX : km_ok E X rmX7_play cX7_play 9 wsX7_play RX7) (hF : km_fin E X none 0 0 (fun r sh' mi' mr' => sh' = SH ∧ mr' = mr ∧ r = none ∧ K mi')) (kqmr : km_MR mr) (hZ69 : ∀ (y1 : Int32) (y2 : Int32) (y3 : Int32) (y4 : Int32) (y5 : Int32) (m : km_I), Z69 y1 y2 y3 y4 y5 m → km_G E X 9 SH m mr 0 0 69 [(0, .ref 86), (1, .int y1), (2, .int y2), (3, .int y3), (4, .int y4), (5, .int y5)] []) : ∀ (y1 : Int32) (y2 : Int32) (y3 : Int32) (y4 : Int32) (y5 : Int32) (y6 : Int32) (y7 : Int32) (y8 : Int32) (mi : km_I), X7_play_b186 x1 x2 x3 x4 x5 Z69 y1 y2 y3 y4 y5 y6 y7 y8 mi K → km_G E X 9 SH mi mr 0 0 186 [(0, .ref 86), (1, .int y1), (2, .int y2), (3, .int y3), (4, .int y4), (5, .int y5), (6, .int y6), (7, .int y7), (8, .int y8)] [] := by
  intro y1 y2 y3 y4 y5 y6 y7 y8 mi h
  have h : Z69 y1 y2 y3 y4 y5 mi := h
  refine km_goto (tgt := 69) hX dX7_play_186 (by decide) ?_
  refine km_ren (ls' := [(0, .ref 86), (1, .int y1), (2, .int y2), (3, .int y3), (4, .int y4), (5, .int y5)]) [0, 1, 2, 3, 4, 5] rfl ?_
  exact hZ69 _ _ _ _ _ _ h
def X7_play_b69 (x1 : Int32) (x2 : Int32) (x3 : Int32) (x4 : Int32) (x5 : Int32) (n : Nat) (y1 : Int32) (y2 : Int32) (y3 : Int32) (y4 : Int32) (y5 : Int32) (mi : km_I) (K : km_I → Prop) : Prop := match n with
  | 0 => False
  | n + 1 => vp_in y1 3 ∧ ((0 ≤ (mi 101 (Int32.toNatClampNeg y1)) → K mi) ∧ (¬ 0 ≤ (mi 101 (Int32.toNatClampNeg y1)) → vp_in ((mi 86 13) - 1) 8 ∧ vp_in ((mi 86 13) - 1) 8 ∧ vp_in ((6 * y2) + (mi 97 (Int32.toNatClampNeg ((mi 86 13) - 1)))) 12 ∧ (((mi 98 (Int32.toNatClampNeg ((mi 86 13) - 1))) < (mi 88 (Int32.toNatClampNeg ((6 * y2) + (mi 97 (Int32.toNatClampNeg ((mi 86 13) - 1)))))) → vp_in y1 3 ∧ ((¬ (mi 104 (Int32.toNatClampNeg y1)) = 100 → vp_in y1 3 ∧ vp_in y1 3 ∧ (∀ m159, m159 = km_u mi 104 (Int32.toNatClampNeg y1) ((mi 104 (Int32.toNatClampNeg y1)) + 1) → vp_in ((mi 86 13) - 1) 8 ∧ (∀ m170, m170 = km_u m159 98 (Int32.toNatClampNeg ((mi 86 13) - 1)) ((mi 98 (Int32.toNatClampNeg ((mi 86 13) - 1))) + 1) → X7_act_w ((24 * ((6 * y2) + (mi 97 (Int32.toNatClampNeg ((mi 86 13) - 1))))) + (mi 98 (Int32.toNatClampNeg ((mi 86 13) - 1)))) ((mi 86 13) - 1) y2 m170 (fun m183 => X7_play_b186 x1 x2 x3 x4 x5 (fun v0 v1 v2 v3 v4 m => X7_play_b69 x1 x2 x3 x4 x5 n v0 v1 v2 v3 v4 m K) y1 y2 y3 y4 y5 ((mi 86 13) - 1) ((6 * y2) + (mi 97 (Int32.toNatClampNeg ((mi 86 13) - 1)))) (mi 98 (Int32.toNatClampNeg ((mi 86 13) - 1))) m183 K)))) ∧ ((mi 104 (Int32.toNatClampNeg y1)) = 100 → vp_in y1 3 ∧ (∀ m146, m146 = km_u mi 101 (Int32.toNatClampNeg y1) 2 → X7_play_b186 x1 x2 x3 x4 x5 (fun v0 v1 v2 v3 v4 m => X7_play_b69 x1 x2 x3 x4 x5 n v0 v1 v2 v3 v4 m K) y1 y2 y3 y4 y5 ((mi 86 13) - 1) ((6 * y2) + (mi 97 (Int32.toNatClampNeg ((mi 86 13) - 1)))) (mi 98 (Int32.toNatClampNeg ((mi 86 13) - 1))) m146 K)))) ∧ (¬ (mi 98 (Int32.toNatClampNeg ((mi 86 13) - 1))) < (mi 88 (Int32.toNatClampNeg ((6 * y2) + (mi 97 (Int32.toNatClampNeg ((mi 86 13) - 1)))))) → X7_returns_w 0 mi (fun m123 => X7_play_b186 x1 x2 x3 x4 x5 (fun v0 v1 v2 v3 v4 m => X7_play_b69 x1 x2 x3 x4 x5 n v0 v1 v2 v3 v4 m K) y1 y2 y3 y4 y5 ((mi 86 13) - 1) ((6 * y2) + (mi 97 (Int32.toNatClampNeg ((mi 86 13) - 1)))) (mi 98 (Int32.toNatClampNeg ((mi 86 13) - 1))) m123 K)))))
set_option maxHeartbeats 4000000 in
set_option maxRecDepth 100000 in
theorem X7_play_b69_t {E : km_E} {X : km_X} {mr : km_R} {K : km_I → Prop} {x1 : Int32} {x2 : Int32} {x3 : Int32} {x4 : Int32} {x5 : Int32} (hX : km_ok E X rmX7_play cX7_play 9 wsX7_play RX7) (hF : km_fin E X none 0 0 (fun r sh' mi' mr' => sh' = SH ∧ mr' = mr ∧ r = none ∧ K mi')) (kqmr : km_MR mr) : ∀ (n : Nat) (y1 : Int32) (y2 : Int32) (y3 : Int32) (y4 : Int32) (y5 : Int32) (mi : km_I), X7_play_b69 x1 x2 x3 x4 x5 n y1 y2 y3 y4 y5 mi K → km_G E X 9 SH mi mr 0 0 69 [(0, .ref 86), (1, .int y1), (2, .int y2), (3, .int y3), (4, .int y4), (5, .int y5)] [] := by
  intro n
  induction n with
  | zero => intro y1 y2 y3 y4 y5 mi h; exact h.elim
  | succ n ih =>
    intro y1 y2 y3 y4 y5 mi h
    have h : vp_in y1 3 ∧ ((0 ≤ (mi 101 (Int32.toNatClampNeg y1)) → K mi) ∧ (¬ 0 ≤ (mi 101 (Int32.toNatClampNeg y1)) → vp_in ((mi 86 13) - 1) 8 ∧ vp_in ((mi 86 13) - 1) 8 ∧ vp_in ((6 * y2) + (mi 97 (Int32.toNatClampNeg ((mi 86 13) - 1)))) 12 ∧ (((mi 98 (Int32.toNatClampNeg ((mi 86 13) - 1))) < (mi 88 (Int32.toNatClampNeg ((6 * y2) + (mi 97 (Int32.toNatClampNeg ((mi 86 13) - 1)))))) → vp_in y1 3 ∧ ((¬ (mi 104 (Int32.toNatClampNeg y1)) = 100 → vp_in y1 3 ∧ vp_in y1 3 ∧ (∀ m159, m159 = km_u mi 104 (Int32.toNatClampNeg y1) ((mi 104 (Int32.toNatClampNeg y1)) + 1) → vp_in ((mi 86 13) - 1) 8 ∧ (∀ m170, m170 = km_u m159 98 (Int32.toNatClampNeg ((mi 86 13) - 1)) ((mi 98 (Int32.toNatClampNeg ((mi 86 13) - 1))) + 1) → X7_act_w ((24 * ((6 * y2) + (mi 97 (Int32.toNatClampNeg ((mi 86 13) - 1))))) + (mi 98 (Int32.toNatClampNeg ((mi 86 13) - 1)))) ((mi 86 13) - 1) y2 m170 (fun m183 => X7_play_b186 x1 x2 x3 x4 x5 (fun v0 v1 v2 v3 v4 m => X7_play_b69 x1 x2 x3 x4 x5 n v0 v1 v2 v3 v4 m K) y1 y2 y3 y4 y5 ((mi 86 13) - 1) ((6 * y2) + (mi 97 (Int32.toNatClampNeg ((mi 86 13) - 1)))) (mi 98 (Int32.toNatClampNeg ((mi 86 13) - 1))) m183 K)))) ∧ ((mi 104 (Int32.toNatClampNeg y1)) = 100 → vp_in y1 3 ∧ (∀ m146, m146 = km_u mi 101 (Int32.toNatClampNeg y1) 2 → X7_play_b186 x1 x2 x3 x4 x5 (fun v0 v1 v2 v3 v4 m => X7_play_b69 x1 x2 x3 x4 x5 n v0 v1 v2 v3 v4 m K) y1 y2 y3 y4 y5 ((mi 86 13) - 1) ((6 * y2) + (mi 97 (Int32.toNatClampNeg ((mi 86 13) - 1)))) (mi 98 (Int32.toNatClampNeg ((mi 86 13) - 1))) m146 K)))) ∧ (¬ (mi 98 (Int32.toNatClampNeg ((mi 86 13) - 1))) < (mi 88 (Int32.toNatClampNeg ((6 * y2) + (mi 97 (Int32.toNatClampNeg ((mi 86 13) - 1)))))) → X7_returns_w 0 mi (fun m123 => X7_play_b186 x1 x2 x3 x4 x5 (fun v0 v1 v2 v3 v4 m => X7_play_b69 x1 x2 x3 x4 x5 n v0 v1 v2 v3 v4 m K) y1 y2 y3 y4 y5 ((mi 86 13) - 1) ((6 * y2) + (mi 97 (Int32.toNatClampNeg ((mi 86 13) - 1)))) (mi 98 (Int32.toNatClampNeg ((mi 86 13) - 1))) m123 K))))) := h
    refine km_aload_n hX dX7_play_69 rfl rfl ?_
    refine km_getr (q := 101) hX fX7_play_52 shp_86 rfl dX7_play_70 (mrp_86_22 kqmr) ?_
    refine km_iload_n hX dX7_play_73 rfl ?_
    obtain ⟨hc, h⟩ := h
    refine km_iald hX shp_101 hc dX7_play_74 ?_
    refine km_if_ge (tgt := 189) hX dX7_play_75 (by decide) (fun c => ?_) (fun c => ?_)
    · have h := h.1 c
      exact km_vret hX hF rfl dX7_play_189 ⟨rfl, rfl, rfl, h⟩ (Nat.le_refl _) (Nat.le_refl _)
    · have h := h.2 c
      refine km_aload_n hX dX7_play_78 rfl rfl ?_
      refine km_geti hX fX7_play_129 shp_86 rfl dX7_play_79 ?_
      refine km_iconst (v := 1) hX dX7_play_82 (by decide) ?_
      refine km_isub hX dX7_play_83 ?_
      refine km_istore hX dX7_play_84 (by decide) ?_
      refine km_bipush (v := 6) hX dX7_play_86 (by decide) ?_
      refine km_iload_n hX dX7_play_88 rfl ?_
      refine km_imul hX dX7_play_89 ?_
      refine km_aload_n hX dX7_play_90 rfl rfl ?_
      refine km_getr (q := 97) hX fX7_play_40 shp_86 rfl dX7_play_91 (mrp_86_14 kqmr) ?_
      refine km_iload hX dX7_play_94 rfl ?_
      obtain ⟨hc, h⟩ := h
      refine km_iald hX shp_97 hc dX7_play_96 ?_
      refine km_iadd hX dX7_play_97 ?_
      refine km_istore hX dX7_play_98 (by decide) ?_
      refine km_aload_n hX dX7_play_100 rfl rfl ?_
      refine km_getr (q := 98) hX fX7_play_43 shp_86 rfl dX7_play_101 (mrp_86_15 kqmr) ?_
      refine km_iload hX dX7_play_104 rfl ?_
      obtain ⟨hc, h⟩ := h
      refine km_iald hX shp_98 hc dX7_play_106 ?_
      refine km_istore hX dX7_play_107 (by decide) ?_
      refine km_iload hX dX7_play_109 rfl ?_
      refine km_aload_n hX dX7_play_111 rfl rfl ?_
      refine km_getr (q := 88) hX fX7_play_13 shp_86 rfl dX7_play_112 (mrp_86_3 kqmr) ?_
      refine km_iload hX dX7_play_115 rfl ?_
      obtain ⟨hc, h⟩ := h
      refine km_iald hX shp_88 hc dX7_play_117 ?_
      refine km_icmp_lt (tgt := 129) hX dX7_play_118 (by decide) (fun c => ?_) (fun c => ?_)
      · have h := h.1 c
        refine km_aload_n hX dX7_play_129 rfl rfl ?_
        refine km_getr (q := 104) hX fX7_play_61 shp_86 rfl dX7_play_130 (mrp_86_25 kqmr) ?_
        refine km_iload_n hX dX7_play_133 rfl ?_
        obtain ⟨hc, h⟩ := h
        refine km_iald hX shp_104 hc dX7_play_134 ?_
        refine km_bipush (v := 100) hX dX7_play_135 (by decide) ?_
        refine km_icmp_ne (tgt := 150) hX dX7_play_137 (by decide) (fun c => ?_) (fun c => ?_)
        · have h := h.1 c
          refine km_aload_n hX dX7_play_150 rfl rfl ?_
          refine km_getr (q := 104) hX fX7_play_61 shp_86 rfl dX7_play_151 (mrp_86_25 kqmr) ?_
          refine km_iload_n hX dX7_play_154 rfl ?_
          refine km_dup2 hX dX7_play_155 ?_
          obtain ⟨hc, h⟩ := h
          refine km_iald hX shp_104 hc dX7_play_156 ?_
          refine km_iconst (v := 1) hX dX7_play_157 (by decide) ?_
          refine km_iadd hX dX7_play_158 ?_
          obtain ⟨hc, h⟩ := h
          refine km_iastN hX shp_104 hc dX7_play_159 (fun m159 e159 => ?_)
          have h := h m159 e159
          refine km_aload_n hX dX7_play_160 rfl rfl ?_
          refine km_getr (q := 98) hX fX7_play_43 shp_86 rfl dX7_play_161 (mrp_86_15 kqmr) ?_
          refine km_iload hX dX7_play_164 rfl ?_
          refine km_iload hX dX7_play_166 rfl ?_
          refine km_iconst (v := 1) hX dX7_play_168 (by decide) ?_
          refine km_iadd hX dX7_play_169 ?_
          obtain ⟨hc, h⟩ := h
          refine km_iastN hX shp_98 hc dX7_play_170 (fun m170 e170 => ?_)
          have h := h m170 e170
          refine km_aload_n hX dX7_play_171 rfl rfl ?_
          refine km_bipush (v := 24) hX dX7_play_172 (by decide) ?_
          refine km_iload hX dX7_play_174 rfl ?_
          refine km_imul hX dX7_play_176 ?_
          refine km_iload hX dX7_play_177 rfl ?_
          refine km_iadd hX dX7_play_179 ?_
          refine km_iload hX dX7_play_180 rfl ?_
          refine km_iload_n hX dX7_play_182 rfl ?_
          refine km_callVv hX dX7_play_183 vX7_play_168 (X7_act_c kqmr h) (by decide) shp_86 rfl rfl (Nat.le_of_ble_eq_true rfl) (fun m183 h => ?_)
          refine km_ren (ls' := [(0, .ref 86), (1, .int y1), (2, .int y2), (3, .int y3), (4, .int y4), (5, .int y5), (6, .int ((mi 86 13) - 1)), (7, .int ((6 * y2) + (mi 97 (Int32.toNatClampNeg ((mi 86 13) - 1))))), (8, .int (mi 98 (Int32.toNatClampNeg ((mi 86 13) - 1))))]) [0, 1, 2, 3, 4, 5, 6, 7, 8] rfl ?_
          exact X7_play_b186_t hX hF kqmr (fun v0 v1 v2 v3 v4 m hh => ih v0 v1 v2 v3 v4 m hh) _ _ _ _ _ _ _ _ _ h
        · have h := h.2 c
          refine km_aload_n hX dX7_play_140 rfl rfl ?_
          refine km_getr (q := 101) hX fX7_play_52 shp_86 rfl dX7_play_141 (mrp_86_22 kqmr) ?_
          refine km_iload_n hX dX7_play_144 rfl ?_
          refine km_iconst (v := 2) hX dX7_play_145 (by decide) ?_
          obtain ⟨hc, h⟩ := h
          refine km_iastN hX shp_101 hc dX7_play_146 (fun m146 e146 => ?_)
          have h := h m146 e146
          refine km_goto (tgt := 186) hX dX7_play_147 (by decide) ?_
          refine km_ren (ls' := [(0, .ref 86), (1, .int y1), (2, .int y2), (3, .int y3), (4, .int y4), (5, .int y5), (6, .int ((mi 86 13) - 1)), (7, .int ((6 * y2) + (mi 97 (Int32.toNatClampNeg ((mi 86 13) - 1))))), (8, .int (mi 98 (Int32.toNatClampNeg ((mi 86 13) - 1))))]) [0, 1, 2, 3, 4, 5, 6, 7, 8] rfl ?_
          exact X7_play_b186_t hX hF kqmr (fun v0 v1 v2 v3 v4 m hh => ih v0 v1 v2 v3 v4 m hh) _ _ _ _ _ _ _ _ _ h
      · have h := h.2 c
        refine km_aload_n hX dX7_play_121 rfl rfl ?_
        refine km_iconst (v := 0) hX dX7_play_122 (by decide) ?_
        refine km_callVv hX dX7_play_123 vX7_play_160 (X7_returns_c kqmr h) (by decide) shp_86 rfl rfl (Nat.le_of_ble_eq_true rfl) (fun m123 h => ?_)
        refine km_goto (tgt := 186) hX dX7_play_126 (by decide) ?_
        refine km_ren (ls' := [(0, .ref 86), (1, .int y1), (2, .int y2), (3, .int y3), (4, .int y4), (5, .int y5), (6, .int ((mi 86 13) - 1)), (7, .int ((6 * y2) + (mi 97 (Int32.toNatClampNeg ((mi 86 13) - 1))))), (8, .int (mi 98 (Int32.toNatClampNeg ((mi 86 13) - 1))))]) [0, 1, 2, 3, 4, 5, 6, 7, 8] rfl ?_
        exact X7_play_b186_t hX hF kqmr (fun v0 v1 v2 v3 v4 m hh => ih v0 v1 v2 v3 v4 m hh) _ _ _ _ _ _ _ _ _ h
def X7_play_w (x1 : Int32) (x2 : Int32) (x3 : Int32) (x4 : Int32) (x5 : Int32) (mi : km_I) (K : km_I → Prop) : Prop := (∀ m2, m2 = km_u mi 86 18 x1 → (∀ m7, m7 = km_u m2 86 13 0 → vp_in x1 3 ∧ (∀ m16, m16 = km_u m7 101 (Int32.toNatClampNeg x1) (-1) → vp_in x1 3 ∧ (∀ m23, m23 = km_u m16 102 (Int32.toNatClampNeg x1) 0 → vp_in x1 3 ∧ (∀ m30, m30 = km_u m23 103 (Int32.toNatClampNeg x1) 0 → vp_in x1 3 ∧ (∀ m37, m37 = km_u m30 104 (Int32.toNatClampNeg x1) 0 → vp_in x1 3 ∧ (∀ m44, m44 = km_u m37 105 (Int32.toNatClampNeg x1) 0 → vp_in x1 3 ∧ (∀ m51, m51 = km_u m44 106 (Int32.toNatClampNeg x1) 0 → vp_in x1 3 ∧ (∀ m58, m58 = km_u m51 110 (Int32.toNatClampNeg x1) 0 → X7_enter_w x3 x4 x5 0 m58 (fun m66 => ∃ k, X7_play_b69 x1 x2 x3 x4 x5 k x1 x2 x3 x4 x5 m66 K))))))))))
set_option maxHeartbeats 4000000 in
set_option maxRecDepth 100000 in
theorem X7_play_c {E : km_E} {l : Launch} {mr : km_R} (kqmr : km_MR mr) {x1 : Int32} {x2 : Int32} {x3 : Int32} {x4 : Int32} {x5 : Int32} {mi : km_I} {K : km_I → Prop} (h : X7_play_w x1 x2 x3 x4 x5 mi K) : km_Cv E l yX7_play wsX7_play rmX7_play [.ref 86, .int x1, .int x2, .int x3, .int x4, .int x5] SH mi mr K := by
  refine km_start (cc := cX7_play) (maxL := 9) (ret := none) (by decide) rfl (Nat.le_of_ble_eq_true rfl) ?_
  intro X hl hX hF _
  subst hl

  have h : (∀ m2, m2 = km_u mi 86 18 x1 → (∀ m7, m7 = km_u m2 86 13 0 → vp_in x1 3 ∧ (∀ m16, m16 = km_u m7 101 (Int32.toNatClampNeg x1) (-1) → vp_in x1 3 ∧ (∀ m23, m23 = km_u m16 102 (Int32.toNatClampNeg x1) 0 → vp_in x1 3 ∧ (∀ m30, m30 = km_u m23 103 (Int32.toNatClampNeg x1) 0 → vp_in x1 3 ∧ (∀ m37, m37 = km_u m30 104 (Int32.toNatClampNeg x1) 0 → vp_in x1 3 ∧ (∀ m44, m44 = km_u m37 105 (Int32.toNatClampNeg x1) 0 → vp_in x1 3 ∧ (∀ m51, m51 = km_u m44 106 (Int32.toNatClampNeg x1) 0 → vp_in x1 3 ∧ (∀ m58, m58 = km_u m51 110 (Int32.toNatClampNeg x1) 0 → X7_enter_w x3 x4 x5 0 m58 (fun m66 => ∃ k, X7_play_b69 x1 x2 x3 x4 x5 k x1 x2 x3 x4 x5 m66 K)))))))))) := h
  refine km_aload_n hX dX7_play_0 rfl rfl ?_
  refine km_iload_n hX dX7_play_1 rfl ?_
  refine km_putiN hX pX7_play_132 shp_86 rfl dX7_play_2 (fun m2 e2 => ?_)
  have h := h m2 e2
  refine km_aload_n hX dX7_play_5 rfl rfl ?_
  refine km_iconst (v := 0) hX dX7_play_6 (by decide) ?_
  refine km_putiN hX pX7_play_129 shp_86 rfl dX7_play_7 (fun m7 e7 => ?_)
  have h := h m7 e7
  refine km_aload_n hX dX7_play_10 rfl rfl ?_
  refine km_getr (q := 101) hX fX7_play_52 shp_86 rfl dX7_play_11 (mrp_86_22 kqmr) ?_
  refine km_iload_n hX dX7_play_14 rfl ?_
  refine km_iconst (v := -1) hX dX7_play_15 (by decide) ?_
  obtain ⟨hc, h⟩ := h
  refine km_iastN hX shp_101 hc dX7_play_16 (fun m16 e16 => ?_)
  have h := h m16 e16
  refine km_aload_n hX dX7_play_17 rfl rfl ?_
  refine km_getr (q := 102) hX fX7_play_55 shp_86 rfl dX7_play_18 (mrp_86_23 kqmr) ?_
  refine km_iload_n hX dX7_play_21 rfl ?_
  refine km_iconst (v := 0) hX dX7_play_22 (by decide) ?_
  obtain ⟨hc, h⟩ := h
  refine km_iastN hX shp_102 hc dX7_play_23 (fun m23 e23 => ?_)
  have h := h m23 e23
  refine km_aload_n hX dX7_play_24 rfl rfl ?_
  refine km_getr (q := 103) hX fX7_play_58 shp_86 rfl dX7_play_25 (mrp_86_24 kqmr) ?_
  refine km_iload_n hX dX7_play_28 rfl ?_
  refine km_iconst (v := 0) hX dX7_play_29 (by decide) ?_
  obtain ⟨hc, h⟩ := h
  refine km_iastN hX shp_103 hc dX7_play_30 (fun m30 e30 => ?_)
  have h := h m30 e30
  refine km_aload_n hX dX7_play_31 rfl rfl ?_
  refine km_getr (q := 104) hX fX7_play_61 shp_86 rfl dX7_play_32 (mrp_86_25 kqmr) ?_
  refine km_iload_n hX dX7_play_35 rfl ?_
  refine km_iconst (v := 0) hX dX7_play_36 (by decide) ?_
  obtain ⟨hc, h⟩ := h
  refine km_iastN hX shp_104 hc dX7_play_37 (fun m37 e37 => ?_)
  have h := h m37 e37
  refine km_aload_n hX dX7_play_38 rfl rfl ?_
  refine km_getr (q := 105) hX fX7_play_64 shp_86 rfl dX7_play_39 (mrp_86_26 kqmr) ?_
  refine km_iload_n hX dX7_play_42 rfl ?_
  refine km_iconst (v := 0) hX dX7_play_43 (by decide) ?_
  obtain ⟨hc, h⟩ := h
  refine km_iastN hX shp_105 hc dX7_play_44 (fun m44 e44 => ?_)
  have h := h m44 e44
  refine km_aload_n hX dX7_play_45 rfl rfl ?_
  refine km_getr (q := 106) hX fX7_play_67 shp_86 rfl dX7_play_46 (mrp_86_27 kqmr) ?_
  refine km_iload_n hX dX7_play_49 rfl ?_
  refine km_iconst (v := 0) hX dX7_play_50 (by decide) ?_
  obtain ⟨hc, h⟩ := h
  refine km_iastN hX shp_106 hc dX7_play_51 (fun m51 e51 => ?_)
  have h := h m51 e51
  refine km_aload_n hX dX7_play_52 rfl rfl ?_
  refine km_getr (q := 110) hX fX7_play_79 shp_86 rfl dX7_play_53 (mrp_86_31 kqmr) ?_
  refine km_iload_n hX dX7_play_56 rfl ?_
  refine km_iconst (v := 0) hX dX7_play_57 (by decide) ?_
  obtain ⟨hc, h⟩ := h
  refine km_iastN hX shp_110 hc dX7_play_58 (fun m58 e58 => ?_)
  have h := h m58 e58
  refine km_aload_n hX dX7_play_59 rfl rfl ?_
  refine km_iload_n hX dX7_play_60 rfl ?_
  refine km_iload hX dX7_play_61 rfl ?_
  refine km_iload hX dX7_play_63 rfl ?_
  refine km_iconst (v := 0) hX dX7_play_65 (by decide) ?_
  refine km_callVv hX dX7_play_66 vX7_play_143 (X7_enter_c kqmr h) (by decide) shp_86 rfl rfl (Nat.le_of_ble_eq_true rfl) (fun m66 h => ?_)
  obtain ⟨n9, h⟩ := h
  refine km_ren (ls' := [(0, .ref 86), (1, .int x1), (2, .int x2), (3, .int x3), (4, .int x4), (5, .int x5)]) [0, 1, 2, 3, 4, 5] rfl ?_
  exact X7_play_b69_t hX hF kqmr n9 _ _ _ _ _ _ h
def X7_run_w (x1 : Int32) (x2 : Int32) (x3 : Int32) (x4 : Int32) (mi : km_I) (K : Int32 → km_I → Prop) : Prop := X7_isMethod_w x1 x2 mi (fun r3 m3 => ((¬ r3 = 0 → X7_isNumber_w x3 m3 (fun r14 m14 => ((r14 = 0 → K (-102) m14) ∧ (¬ r14 = 0 → X7_isNumber_w x4 m14 (fun r23 m23 => ((¬ r23 = 0 → (∀ m34, m34 = km_u m23 86 19 0 → X7_play_w 0 x1 x2 x3 x4 m34 (fun m44 => vp_in 0 3 ∧ K (m44 101 (Int32.toNatClampNeg 0)) m44))) ∧ (r23 = 0 → K (-102) m23))))))) ∧ (r3 = 0 → K (-101) m3)))
set_option maxHeartbeats 4000000 in
set_option maxRecDepth 100000 in
theorem X7_run_c {E : km_E} {l : Launch} {mr : km_R} (kqmr : km_MR mr) {x1 : Int32} {x2 : Int32} {x3 : Int32} {x4 : Int32} {mi : km_I} {K : Int32 → km_I → Prop} (h : X7_run_w x1 x2 x3 x4 mi K) : km_Ci E l yX7_run wsX7_run rmX7_run [.ref 86, .int x1, .int x2, .int x3, .int x4] SH mi mr K := by
  refine km_start (cc := cX7_run) (maxL := 5) (ret := (some .int)) (by decide) rfl (Nat.le_of_ble_eq_true rfl) ?_
  intro X hl hX hF _
  subst hl

  have h : X7_isMethod_w x1 x2 mi (fun r3 m3 => ((¬ r3 = 0 → X7_isNumber_w x3 m3 (fun r14 m14 => ((r14 = 0 → K (-102) m14) ∧ (¬ r14 = 0 → X7_isNumber_w x4 m14 (fun r23 m23 => ((¬ r23 = 0 → (∀ m34, m34 = km_u m23 86 19 0 → X7_play_w 0 x1 x2 x3 x4 m34 (fun m44 => vp_in 0 3 ∧ K (m44 101 (Int32.toNatClampNeg 0)) m44))) ∧ (r23 = 0 → K (-102) m23))))))) ∧ (r3 = 0 → K (-101) m3))) := h
  refine km_aload_n hX dX7_run_0 rfl rfl ?_
  refine km_iload_n hX dX7_run_1 rfl ?_
  refine km_iload_n hX dX7_run_2 rfl ?_
  refine km_callVi hX dX7_run_3 vX7_run_121 (X7_isMethod_c kqmr h) (by decide) shp_86 rfl rfl (Nat.le_of_ble_eq_true rfl) (fun r3 m3 h => ?_)
  refine km_if_ne (tgt := 12) hX dX7_run_6 (by decide) (fun c => ?_) (fun c => ?_)
  · have h := h.1 c
    refine km_aload_n hX dX7_run_12 rfl rfl ?_
    refine km_iload_n hX dX7_run_13 rfl ?_
    refine km_callVi hX dX7_run_14 vX7_run_118 (X7_isNumber_c kqmr h) (by decide) shp_86 rfl rfl (Nat.le_of_ble_eq_true rfl) (fun r14 m14 h => ?_)
    refine km_if_eq (tgt := 29) hX dX7_run_17 (by decide) (fun c => ?_) (fun c => ?_)
    · have h := h.1 c
      refine km_bipush (v := -102) hX dX7_run_29 (by decide) ?_
      exact km_iret hX hF rfl dX7_run_31 ⟨rfl, rfl, _, rfl, h⟩ (Nat.le_refl _) (Nat.le_refl _)
    · have h := h.2 c
      refine km_aload_n hX dX7_run_20 rfl rfl ?_
      refine km_iload hX dX7_run_21 rfl ?_
      refine km_callVi hX dX7_run_23 vX7_run_118 (X7_isNumber_c kqmr h) (by decide) shp_86 rfl rfl (Nat.le_of_ble_eq_true rfl) (fun r23 m23 h => ?_)
      refine km_if_ne (tgt := 32) hX dX7_run_26 (by decide) (fun c => ?_) (fun c => ?_)
      · have h := h.1 c
        refine km_aload_n hX dX7_run_32 rfl rfl ?_
        refine km_iconst (v := 0) hX dX7_run_33 (by decide) ?_
        refine km_putzN hX pX7_run_139 shp_86 rfl dX7_run_34 (Or.inl rfl) (fun m34 e34 => ?_)
        have h := h m34 e34
        refine km_aload_n hX dX7_run_37 rfl rfl ?_
        refine km_iconst (v := 0) hX dX7_run_38 (by decide) ?_
        refine km_iload_n hX dX7_run_39 rfl ?_
        refine km_iload_n hX dX7_run_40 rfl ?_
        refine km_iload_n hX dX7_run_41 rfl ?_
        refine km_iload hX dX7_run_42 rfl ?_
        refine km_callVv hX dX7_run_44 vX7_run_171 (X7_play_c kqmr h) (by decide) shp_86 rfl rfl (Nat.le_of_ble_eq_true rfl) (fun m44 h => ?_)
        refine km_aload_n hX dX7_run_47 rfl rfl ?_
        refine km_getr (q := 101) hX fX7_run_52 shp_86 rfl dX7_run_48 (mrp_86_22 kqmr) ?_
        refine km_iconst (v := 0) hX dX7_run_51 (by decide) ?_
        obtain ⟨hc, h⟩ := h
        refine km_iald hX shp_101 hc dX7_run_52 ?_
        exact km_iret hX hF rfl dX7_run_53 ⟨rfl, rfl, _, rfl, h⟩ (Nat.le_refl _) (Nat.le_refl _)
      · have h := h.2 c
        refine km_bipush (v := -102) hX dX7_run_29 (by decide) ?_
        exact km_iret hX hF rfl dX7_run_31 ⟨rfl, rfl, _, rfl, h⟩ (Nat.le_refl _) (Nat.le_refl _)
  · have h := h.2 c
    refine km_bipush (v := -101) hX dX7_run_9 (by decide) ?_
    exact km_iret hX hF rfl dX7_run_11 ⟨rfl, rfl, _, rfl, h⟩ (Nat.le_refl _) (Nat.le_refl _)
def X7_ran_w (x1 : Int32) (mi : km_I) (K : Int32 → km_I → Prop) : Prop := (((Int32.toInt (x1)) < 0 ∨ 4 < (Int32.toInt (x1)) → K (-101) mi) ∧ ((Int32.toInt (x1)) = 0 → vp_in 0 3 ∧ K (mi 103 (Int32.toNatClampNeg 0)) mi) ∧ ((Int32.toInt (x1)) = 1 → vp_in 0 3 ∧ K (mi 102 (Int32.toNatClampNeg 0)) mi) ∧ ((Int32.toInt (x1)) = 2 → vp_in 0 3 ∧ K (mi 104 (Int32.toNatClampNeg 0)) mi) ∧ ((Int32.toInt (x1)) = 3 → vp_in 0 3 ∧ K (mi 106 (Int32.toNatClampNeg 0)) mi) ∧ ((Int32.toInt (x1)) = 4 → vp_in 0 3 ∧ K (mi 105 (Int32.toNatClampNeg 0)) mi))
set_option maxHeartbeats 4000000 in
set_option maxRecDepth 100000 in
theorem X7_ran_c {E : km_E} {l : Launch} {mr : km_R} (kqmr : km_MR mr) {x1 : Int32} {mi : km_I} {K : Int32 → km_I → Prop} (h : X7_ran_w x1 mi K) : km_Ci E l yX7_ran wsX7_ran rmX7_ran [.ref 86, .int x1] SH mi mr K := by
  refine km_start (cc := cX7_ran) (maxL := 2) (ret := (some .int)) (by decide) rfl (Nat.le_of_ble_eq_true rfl) ?_
  intro X hl hX hF _
  subst hl

  have h : (((Int32.toInt (x1)) < 0 ∨ 4 < (Int32.toInt (x1)) → K (-101) mi) ∧ ((Int32.toInt (x1)) = 0 → vp_in 0 3 ∧ K (mi 103 (Int32.toNatClampNeg 0)) mi) ∧ ((Int32.toInt (x1)) = 1 → vp_in 0 3 ∧ K (mi 102 (Int32.toNatClampNeg 0)) mi) ∧ ((Int32.toInt (x1)) = 2 → vp_in 0 3 ∧ K (mi 104 (Int32.toNatClampNeg 0)) mi) ∧ ((Int32.toInt (x1)) = 3 → vp_in 0 3 ∧ K (mi 106 (Int32.toNatClampNeg 0)) mi) ∧ ((Int32.toInt (x1)) = 4 → vp_in 0 3 ∧ K (mi 105 (Int32.toNatClampNeg 0)) mi)) := h
  refine km_iload_n hX dX7_ran_0 rfl ?_
  by_cases cO : (Int32.toInt (x1)) < 0 ∨ 4 < (Int32.toInt (x1))
  · refine km_tableOut (tgt := 71) hX dX7_ran_1 cO (by decide) ?_
    have h := h.1 cO
    refine km_bipush (v := -101) hX dX7_ran_71 (by decide) ?_
    exact km_iret hX hF rfl dX7_ran_73 ⟨rfl, rfl, _, rfl, h⟩ (Nat.le_refl _) (Nat.le_refl _)
  · have cI : (Int32.toInt (x1)) = 0 ∨ (Int32.toInt (x1)) = 1 ∨ (Int32.toInt (x1)) = 2 ∨ (Int32.toInt (x1)) = 3 ∨ (Int32.toInt (x1)) = 4 := by omega
    rcases cI with c | c | c | c | c
    · refine km_tableIn (off := 35) (tgt := 36) hX dX7_ran_1 (by omega) (by omega) (by rw [c]; rfl) (by decide) ?_
      have h := h.2.1 c
      refine km_aload_n hX dX7_ran_36 rfl rfl ?_
      refine km_getr (q := 103) hX fX7_ran_58 shp_86 rfl dX7_ran_37 (mrp_86_24 kqmr) ?_
      refine km_iconst (v := 0) hX dX7_ran_40 (by decide) ?_
      obtain ⟨hc, h⟩ := h
      refine km_iald hX shp_103 hc dX7_ran_41 ?_
      exact km_iret hX hF rfl dX7_ran_42 ⟨rfl, rfl, _, rfl, h⟩ (Nat.le_refl _) (Nat.le_refl _)
    · refine km_tableIn (off := 42) (tgt := 43) hX dX7_ran_1 (by omega) (by omega) (by rw [c]; rfl) (by decide) ?_
      have h := h.2.2.1 c
      refine km_aload_n hX dX7_ran_43 rfl rfl ?_
      refine km_getr (q := 102) hX fX7_ran_55 shp_86 rfl dX7_ran_44 (mrp_86_23 kqmr) ?_
      refine km_iconst (v := 0) hX dX7_ran_47 (by decide) ?_
      obtain ⟨hc, h⟩ := h
      refine km_iald hX shp_102 hc dX7_ran_48 ?_
      exact km_iret hX hF rfl dX7_ran_49 ⟨rfl, rfl, _, rfl, h⟩ (Nat.le_refl _) (Nat.le_refl _)
    · refine km_tableIn (off := 49) (tgt := 50) hX dX7_ran_1 (by omega) (by omega) (by rw [c]; rfl) (by decide) ?_
      have h := h.2.2.2.1 c
      refine km_aload_n hX dX7_ran_50 rfl rfl ?_
      refine km_getr (q := 104) hX fX7_ran_61 shp_86 rfl dX7_ran_51 (mrp_86_25 kqmr) ?_
      refine km_iconst (v := 0) hX dX7_ran_54 (by decide) ?_
      obtain ⟨hc, h⟩ := h
      refine km_iald hX shp_104 hc dX7_ran_55 ?_
      exact km_iret hX hF rfl dX7_ran_56 ⟨rfl, rfl, _, rfl, h⟩ (Nat.le_refl _) (Nat.le_refl _)
    · refine km_tableIn (off := 56) (tgt := 57) hX dX7_ran_1 (by omega) (by omega) (by rw [c]; rfl) (by decide) ?_
      have h := h.2.2.2.2.1 c
      refine km_aload_n hX dX7_ran_57 rfl rfl ?_
      refine km_getr (q := 106) hX fX7_ran_67 shp_86 rfl dX7_ran_58 (mrp_86_27 kqmr) ?_
      refine km_iconst (v := 0) hX dX7_ran_61 (by decide) ?_
      obtain ⟨hc, h⟩ := h
      refine km_iald hX shp_106 hc dX7_ran_62 ?_
      exact km_iret hX hF rfl dX7_ran_63 ⟨rfl, rfl, _, rfl, h⟩ (Nat.le_refl _) (Nat.le_refl _)
    · refine km_tableIn (off := 63) (tgt := 64) hX dX7_ran_1 (by omega) (by omega) (by rw [c]; rfl) (by decide) ?_
      have h := h.2.2.2.2.2 c
      refine km_aload_n hX dX7_ran_64 rfl rfl ?_
      refine km_getr (q := 105) hX fX7_ran_64 shp_86 rfl dX7_ran_65 (mrp_86_26 kqmr) ?_
      refine km_iconst (v := 0) hX dX7_ran_68 (by decide) ?_
      obtain ⟨hc, h⟩ := h
      refine km_iald hX shp_105 hc dX7_ran_69 ?_
      exact km_iret hX hF rfl dX7_ran_70 ⟨rfl, rfl, _, rfl, h⟩ (Nat.le_refl _) (Nat.le_refl _)
def X7_told_w (x1 : Int32) (x2 : Int32) (mi : km_I) (K : Int32 → km_I → Prop) : Prop := X7_in_w x2 0 1 mi (fun r3 m3 => ((¬ r3 = 0 → vp_in 0 3 ∧ X7_in_w x1 0 ((m3 106 (Int32.toNatClampNeg 0)) - 1) m3 (fun r22 m22 => ((¬ r22 = 0 → ((¬ x2 = 0 → vp_in x1 120 ∧ K (m22 108 (Int32.toNatClampNeg x1)) m22) ∧ (x2 = 0 → vp_in x1 120 ∧ K (m22 107 (Int32.toNatClampNeg x1)) m22))) ∧ (r22 = 0 → K (-1) m22)))) ∧ (r3 = 0 → K (-101) m3)))
set_option maxHeartbeats 4000000 in
set_option maxRecDepth 100000 in
theorem X7_told_c {E : km_E} {l : Launch} {mr : km_R} (kqmr : km_MR mr) {x1 : Int32} {x2 : Int32} {mi : km_I} {K : Int32 → km_I → Prop} (h : X7_told_w x1 x2 mi K) : km_Ci E l yX7_told wsX7_told rmX7_told [.ref 86, .int x1, .int x2] SH mi mr K := by
  refine km_start (cc := cX7_told) (maxL := 3) (ret := (some .int)) (by decide) rfl (Nat.le_of_ble_eq_true rfl) ?_
  intro X hl hX hF _
  subst hl

  have h : X7_in_w x2 0 1 mi (fun r3 m3 => ((¬ r3 = 0 → vp_in 0 3 ∧ X7_in_w x1 0 ((m3 106 (Int32.toNatClampNeg 0)) - 1) m3 (fun r22 m22 => ((¬ r22 = 0 → ((¬ x2 = 0 → vp_in x1 120 ∧ K (m22 108 (Int32.toNatClampNeg x1)) m22) ∧ (x2 = 0 → vp_in x1 120 ∧ K (m22 107 (Int32.toNatClampNeg x1)) m22))) ∧ (r22 = 0 → K (-1) m22)))) ∧ (r3 = 0 → K (-101) m3))) := h
  refine km_iload_n hX dX7_told_0 rfl ?_
  refine km_iconst (v := 0) hX dX7_told_1 (by decide) ?_
  refine km_iconst (v := 1) hX dX7_told_2 (by decide) ?_
  refine km_callSi hX dX7_told_3 vX7_told_110 (X7_in_c kqmr h) (by decide) rfl rfl (Nat.le_of_ble_eq_true rfl) (fun r3 m3 h => ?_)
  refine km_if_ne (tgt := 12) hX dX7_told_6 (by decide) (fun c => ?_) (fun c => ?_)
  · have h := h.1 c
    refine km_iload_n hX dX7_told_12 rfl ?_
    refine km_iconst (v := 0) hX dX7_told_13 (by decide) ?_
    refine km_aload_n hX dX7_told_14 rfl rfl ?_
    refine km_getr (q := 106) hX fX7_told_67 shp_86 rfl dX7_told_15 (mrp_86_27 kqmr) ?_
    refine km_iconst (v := 0) hX dX7_told_18 (by decide) ?_
    obtain ⟨hc, h⟩ := h
    refine km_iald hX shp_106 hc dX7_told_19 ?_
    refine km_iconst (v := 1) hX dX7_told_20 (by decide) ?_
    refine km_isub hX dX7_told_21 ?_
    refine km_callSi hX dX7_told_22 vX7_told_110 (X7_in_c kqmr h) (by decide) rfl rfl (Nat.le_of_ble_eq_true rfl) (fun r22 m22 h => ?_)
    refine km_if_ne (tgt := 30) hX dX7_told_25 (by decide) (fun c => ?_) (fun c => ?_)
    · have h := h.1 c
      refine km_iload_n hX dX7_told_30 rfl ?_
      refine km_if_ne (tgt := 43) hX dX7_told_31 (by decide) (fun c => ?_) (fun c => ?_)
      · have h := h.1 c
        refine km_aload_n hX dX7_told_43 rfl rfl ?_
        refine km_getr (q := 108) hX fX7_told_73 shp_86 rfl dX7_told_44 (mrp_86_29 kqmr) ?_
        refine km_iload_n hX dX7_told_47 rfl ?_
        obtain ⟨hc, h⟩ := h
        refine km_iald hX shp_108 hc dX7_told_48 ?_
        exact km_iret hX hF rfl dX7_told_49 ⟨rfl, rfl, _, rfl, h⟩ (Nat.le_refl _) (Nat.le_refl _)
      · have h := h.2 c
        refine km_aload_n hX dX7_told_34 rfl rfl ?_
        refine km_getr (q := 107) hX fX7_told_70 shp_86 rfl dX7_told_35 (mrp_86_28 kqmr) ?_
        refine km_iload_n hX dX7_told_38 rfl ?_
        obtain ⟨hc, h⟩ := h
        refine km_iald hX shp_107 hc dX7_told_39 ?_
        refine km_goto (tgt := 49) hX dX7_told_40 (by decide) ?_
        exact km_iret hX hF rfl dX7_told_49 ⟨rfl, rfl, _, rfl, h⟩ (Nat.le_refl _) (Nat.le_refl _)
    · have h := h.2 c
      refine km_iconst (v := -1) hX dX7_told_28 (by decide) ?_
      exact km_iret hX hF rfl dX7_told_29 ⟨rfl, rfl, _, rfl, h⟩ (Nat.le_refl _) (Nat.le_refl _)
  · have h := h.2 c
    refine km_bipush (v := -101) hX dX7_told_9 (by decide) ?_
    exact km_iret hX hF rfl dX7_told_11 ⟨rfl, rfl, _, rfl, h⟩ (Nat.le_refl _) (Nat.le_refl _)
def X7_rename_b56 (x1 : Int32) (x2 : Int32) (Z31 : Int32 → Int32 → Int32 → Int32 → km_I → Prop) (y1 : Int32) (y2 : Int32) (y3 : Int32) (y4 : Int32) (mi : km_I) (K : Int32 → km_I → Prop) : Prop := Z31 y1 y2 y3 (y4 + 1) mi
set_option maxHeartbeats 4000000 in
set_option maxRecDepth 100000 in
theorem X7_rename_b56_t {E : km_E} {X : km_X} {mr : km_R} {K : Int32 → km_I → Prop} {x1 : Int32} {x2 : Int32} {Z31 : Int32 → Int32 → Int32 → Int32 → km_I → Prop} (hX : km_ok E X rmX7_rename cX7_rename 5 wsX7_rename RX7) (hF : km_fin E X (some .int) 0 0 (fun r sh' mi' mr' => sh' = SH ∧ mr' = mr ∧ ∃ i, r = some (.int i) ∧ K i mi')) (kqmr : km_MR mr) (hZ31 : ∀ (y1 : Int32) (y2 : Int32) (y3 : Int32) (y4 : Int32) (m : km_I), Z31 y1 y2 y3 y4 m → km_G E X 5 SH m mr 0 0 31 [(0, .ref 86), (1, .int y1), (2, .int y2), (3, .int y3), (4, .int y4)] []) : ∀ (y1 : Int32) (y2 : Int32) (y3 : Int32) (y4 : Int32) (mi : km_I), X7_rename_b56 x1 x2 Z31 y1 y2 y3 y4 mi K → km_G E X 5 SH mi mr 0 0 56 [(0, .ref 86), (1, .int y1), (2, .int y2), (3, .int y3), (4, .int y4)] [] := by
  intro y1 y2 y3 y4 mi h
  have h : Z31 y1 y2 y3 (y4 + 1) mi := h
  refine km_iinc (v := 1) hX dX7_rename_56 (by decide) rfl (by decide) ?_
  refine km_goto (tgt := 31) hX dX7_rename_59 (by decide) ?_
  refine km_ren (ls' := [(0, .ref 86), (1, .int y1), (2, .int y2), (3, .int y3), (4, .int (y4 + 1))]) [0, 1, 2, 3, 4] rfl ?_
  exact hZ31 _ _ _ _ _ h
def X7_rename_b31 (x1 : Int32) (x2 : Int32) (n : Nat) (y1 : Int32) (y2 : Int32) (y3 : Int32) (y4 : Int32) (mi : km_I) (K : Int32 → km_I → Prop) : Prop := match n with
  | 0 => False
  | n + 1 => ((4 ≤ y4 → vp_in y1 4 ∧ (∀ m68, m68 = km_u mi 93 (Int32.toNatClampNeg y1) y2 → K y3 m68)) ∧ (¬ 4 ≤ y4 → vp_in y4 4 ∧ ((¬ (mi 93 (Int32.toNatClampNeg y4)) = y2 → X7_rename_b56 x1 x2 (fun v0 v1 v2 v3 m => X7_rename_b31 x1 x2 n v0 v1 v2 v3 m K) y1 y2 y3 y4 mi K) ∧ ((mi 93 (Int32.toNatClampNeg y4)) = y2 → vp_in y4 4 ∧ (∀ m55, m55 = km_u mi 93 (Int32.toNatClampNeg y4) y3 → X7_rename_b56 x1 x2 (fun v0 v1 v2 v3 m => X7_rename_b31 x1 x2 n v0 v1 v2 v3 m K) y1 y2 y3 y4 m55 K)))))
set_option maxHeartbeats 4000000 in
set_option maxRecDepth 100000 in
theorem X7_rename_b31_t {E : km_E} {X : km_X} {mr : km_R} {K : Int32 → km_I → Prop} {x1 : Int32} {x2 : Int32} (hX : km_ok E X rmX7_rename cX7_rename 5 wsX7_rename RX7) (hF : km_fin E X (some .int) 0 0 (fun r sh' mi' mr' => sh' = SH ∧ mr' = mr ∧ ∃ i, r = some (.int i) ∧ K i mi')) (kqmr : km_MR mr) : ∀ (n : Nat) (y1 : Int32) (y2 : Int32) (y3 : Int32) (y4 : Int32) (mi : km_I), X7_rename_b31 x1 x2 n y1 y2 y3 y4 mi K → km_G E X 5 SH mi mr 0 0 31 [(0, .ref 86), (1, .int y1), (2, .int y2), (3, .int y3), (4, .int y4)] [] := by
  intro n
  induction n with
  | zero => intro y1 y2 y3 y4 mi h; exact h.elim
  | succ n ih =>
    intro y1 y2 y3 y4 mi h
    have h : ((4 ≤ y4 → vp_in y1 4 ∧ (∀ m68, m68 = km_u mi 93 (Int32.toNatClampNeg y1) y2 → K y3 m68)) ∧ (¬ 4 ≤ y4 → vp_in y4 4 ∧ ((¬ (mi 93 (Int32.toNatClampNeg y4)) = y2 → X7_rename_b56 x1 x2 (fun v0 v1 v2 v3 m => X7_rename_b31 x1 x2 n v0 v1 v2 v3 m K) y1 y2 y3 y4 mi K) ∧ ((mi 93 (Int32.toNatClampNeg y4)) = y2 → vp_in y4 4 ∧ (∀ m55, m55 = km_u mi 93 (Int32.toNatClampNeg y4) y3 → X7_rename_b56 x1 x2 (fun v0 v1 v2 v3 m => X7_rename_b31 x1 x2 n v0 v1 v2 v3 m K) y1 y2 y3 y4 m55 K))))) := h
    refine km_iload hX dX7_rename_31 rfl ?_
    refine km_iconst (v := 4) hX dX7_rename_33 (by decide) ?_
    refine km_icmp_ge (tgt := 62) hX dX7_rename_34 (by decide) (fun c => ?_) (fun c => ?_)
    · have h := h.1 c
      refine km_aload_n hX dX7_rename_62 rfl rfl ?_
      refine km_getr (q := 93) hX fX7_rename_28 shp_86 rfl dX7_rename_63 (mrp_86_8 kqmr) ?_
      refine km_iload_n hX dX7_rename_66 rfl ?_
      refine km_iload_n hX dX7_rename_67 rfl ?_
      obtain ⟨hc, h⟩ := h
      refine km_iastN hX shp_93 hc dX7_rename_68 (fun m68 e68 => ?_)
      have h := h m68 e68
      refine km_iload_n hX dX7_rename_69 rfl ?_
      exact km_iret hX hF rfl dX7_rename_70 ⟨rfl, rfl, _, rfl, h⟩ (Nat.le_refl _) (Nat.le_refl _)
    · have h := h.2 c
      refine km_aload_n hX dX7_rename_37 rfl rfl ?_
      refine km_getr (q := 93) hX fX7_rename_28 shp_86 rfl dX7_rename_38 (mrp_86_8 kqmr) ?_
      refine km_iload hX dX7_rename_41 rfl ?_
      obtain ⟨hc, h⟩ := h
      refine km_iald hX shp_93 hc dX7_rename_43 ?_
      refine km_iload_n hX dX7_rename_44 rfl ?_
      refine km_icmp_ne (tgt := 56) hX dX7_rename_45 (by decide) (fun c => ?_) (fun c => ?_)
      · have h := h.1 c
        refine km_ren (ls' := [(0, .ref 86), (1, .int y1), (2, .int y2), (3, .int y3), (4, .int y4)]) [0, 1, 2, 3, 4] rfl ?_
        exact X7_rename_b56_t hX hF kqmr (fun v0 v1 v2 v3 m hh => ih v0 v1 v2 v3 m hh) _ _ _ _ _ h
      · have h := h.2 c
        refine km_aload_n hX dX7_rename_48 rfl rfl ?_
        refine km_getr (q := 93) hX fX7_rename_28 shp_86 rfl dX7_rename_49 (mrp_86_8 kqmr) ?_
        refine km_iload hX dX7_rename_52 rfl ?_
        refine km_iload_n hX dX7_rename_54 rfl ?_
        obtain ⟨hc, h⟩ := h
        refine km_iastN hX shp_93 hc dX7_rename_55 (fun m55 e55 => ?_)
        have h := h m55 e55
        refine km_ren (ls' := [(0, .ref 86), (1, .int y1), (2, .int y2), (3, .int y3), (4, .int y4)]) [0, 1, 2, 3, 4] rfl ?_
        exact X7_rename_b56_t hX hF kqmr (fun v0 v1 v2 v3 m hh => ih v0 v1 v2 v3 m hh) _ _ _ _ _ h
def X7_rename_w (x1 : Int32) (x2 : Int32) (mi : km_I) (K : Int32 → km_I → Prop) : Prop := X7_in_w x1 0 3 mi (fun r3 m3 => ((r3 = 0 → K (-101) m3) ∧ (¬ r3 = 0 → X7_in_w x2 0 3 m3 (fun r12 m12 => ((¬ r12 = 0 → vp_in x1 4 ∧ ∃ k, X7_rename_b31 x1 x2 k x1 x2 (m12 93 (Int32.toNatClampNeg x1)) 0 m12 K) ∧ (r12 = 0 → K (-101) m12))))))
set_option maxHeartbeats 4000000 in
set_option maxRecDepth 100000 in
theorem X7_rename_c {E : km_E} {l : Launch} {mr : km_R} (kqmr : km_MR mr) {x1 : Int32} {x2 : Int32} {mi : km_I} {K : Int32 → km_I → Prop} (h : X7_rename_w x1 x2 mi K) : km_Ci E l yX7_rename wsX7_rename rmX7_rename [.ref 86, .int x1, .int x2] SH mi mr K := by
  refine km_start (cc := cX7_rename) (maxL := 5) (ret := (some .int)) (by decide) rfl (Nat.le_of_ble_eq_true rfl) ?_
  intro X hl hX hF _
  subst hl

  have h : X7_in_w x1 0 3 mi (fun r3 m3 => ((r3 = 0 → K (-101) m3) ∧ (¬ r3 = 0 → X7_in_w x2 0 3 m3 (fun r12 m12 => ((¬ r12 = 0 → vp_in x1 4 ∧ ∃ k, X7_rename_b31 x1 x2 k x1 x2 (m12 93 (Int32.toNatClampNeg x1)) 0 m12 K) ∧ (r12 = 0 → K (-101) m12)))))) := h
  refine km_iload_n hX dX7_rename_0 rfl ?_
  refine km_iconst (v := 0) hX dX7_rename_1 (by decide) ?_
  refine km_iconst (v := 3) hX dX7_rename_2 (by decide) ?_
  refine km_callSi hX dX7_rename_3 vX7_rename_110 (X7_in_c kqmr h) (by decide) rfl rfl (Nat.le_of_ble_eq_true rfl) (fun r3 m3 h => ?_)
  refine km_if_eq (tgt := 18) hX dX7_rename_6 (by decide) (fun c => ?_) (fun c => ?_)
  · have h := h.1 c
    refine km_bipush (v := -101) hX dX7_rename_18 (by decide) ?_
    exact km_iret hX hF rfl dX7_rename_20 ⟨rfl, rfl, _, rfl, h⟩ (Nat.le_refl _) (Nat.le_refl _)
  · have h := h.2 c
    refine km_iload_n hX dX7_rename_9 rfl ?_
    refine km_iconst (v := 0) hX dX7_rename_10 (by decide) ?_
    refine km_iconst (v := 3) hX dX7_rename_11 (by decide) ?_
    refine km_callSi hX dX7_rename_12 vX7_rename_110 (X7_in_c kqmr h) (by decide) rfl rfl (Nat.le_of_ble_eq_true rfl) (fun r12 m12 h => ?_)
    refine km_if_ne (tgt := 21) hX dX7_rename_15 (by decide) (fun c => ?_) (fun c => ?_)
    · have h := h.1 c
      refine km_aload_n hX dX7_rename_21 rfl rfl ?_
      refine km_getr (q := 93) hX fX7_rename_28 shp_86 rfl dX7_rename_22 (mrp_86_8 kqmr) ?_
      refine km_iload_n hX dX7_rename_25 rfl ?_
      obtain ⟨hc, h⟩ := h
      refine km_iald hX shp_93 hc dX7_rename_26 ?_
      refine km_istore_n hX dX7_rename_27 (by decide) ?_
      refine km_iconst (v := 0) hX dX7_rename_28 (by decide) ?_
      refine km_istore hX dX7_rename_29 (by decide) ?_
      obtain ⟨n9, h⟩ := h
      refine km_ren (ls' := [(0, .ref 86), (1, .int x1), (2, .int x2), (3, .int (m12 93 (Int32.toNatClampNeg x1))), (4, .int 0)]) [0, 1, 2, 3, 4] rfl ?_
      exact X7_rename_b31_t hX hF kqmr n9 _ _ _ _ _ h
    · have h := h.2 c
      refine km_bipush (v := -101) hX dX7_rename_18 (by decide) ?_
      exact km_iret hX hF rfl dX7_rename_20 ⟨rfl, rfl, _, rfl, h⟩ (Nat.le_refl _) (Nat.le_refl _)
def X7_group_w (x1 : Int32) (x2 : Int32) (mi : km_I) (K : Int32 → km_I → Prop) : Prop := X7_in_w x1 0 3 mi (fun r3 m3 => ((¬ r3 = 0 → X7_in_w x2 0 3 m3 (fun r15 m15 => ((¬ r15 = 0 → vp_in x1 4 ∧ vp_in x1 4 ∧ (∀ m37, m37 = km_u m15 94 (Int32.toNatClampNeg x1) x2 → K (m15 94 (Int32.toNatClampNeg x1)) m37)) ∧ (r15 = 0 → K (-102) m15)))) ∧ (r3 = 0 → K (-101) m3)))
set_option maxHeartbeats 4000000 in
set_option maxRecDepth 100000 in
theorem X7_group_c {E : km_E} {l : Launch} {mr : km_R} (kqmr : km_MR mr) {x1 : Int32} {x2 : Int32} {mi : km_I} {K : Int32 → km_I → Prop} (h : X7_group_w x1 x2 mi K) : km_Ci E l yX7_group wsX7_group rmX7_group [.ref 86, .int x1, .int x2] SH mi mr K := by
  refine km_start (cc := cX7_group) (maxL := 4) (ret := (some .int)) (by decide) rfl (Nat.le_of_ble_eq_true rfl) ?_
  intro X hl hX hF _
  subst hl

  have h : X7_in_w x1 0 3 mi (fun r3 m3 => ((¬ r3 = 0 → X7_in_w x2 0 3 m3 (fun r15 m15 => ((¬ r15 = 0 → vp_in x1 4 ∧ vp_in x1 4 ∧ (∀ m37, m37 = km_u m15 94 (Int32.toNatClampNeg x1) x2 → K (m15 94 (Int32.toNatClampNeg x1)) m37)) ∧ (r15 = 0 → K (-102) m15)))) ∧ (r3 = 0 → K (-101) m3))) := h
  refine km_iload_n hX dX7_group_0 rfl ?_
  refine km_iconst (v := 0) hX dX7_group_1 (by decide) ?_
  refine km_iconst (v := 3) hX dX7_group_2 (by decide) ?_
  refine km_callSi hX dX7_group_3 vX7_group_110 (X7_in_c kqmr h) (by decide) rfl rfl (Nat.le_of_ble_eq_true rfl) (fun r3 m3 h => ?_)
  refine km_if_ne (tgt := 12) hX dX7_group_6 (by decide) (fun c => ?_) (fun c => ?_)
  · have h := h.1 c
    refine km_iload_n hX dX7_group_12 rfl ?_
    refine km_iconst (v := 0) hX dX7_group_13 (by decide) ?_
    refine km_iconst (v := 3) hX dX7_group_14 (by decide) ?_
    refine km_callSi hX dX7_group_15 vX7_group_110 (X7_in_c kqmr h) (by decide) rfl rfl (Nat.le_of_ble_eq_true rfl) (fun r15 m15 h => ?_)
    refine km_if_ne (tgt := 24) hX dX7_group_18 (by decide) (fun c => ?_) (fun c => ?_)
    · have h := h.1 c
      refine km_aload_n hX dX7_group_24 rfl rfl ?_
      refine km_getr (q := 94) hX fX7_group_31 shp_86 rfl dX7_group_25 (mrp_86_9 kqmr) ?_
      refine km_iload_n hX dX7_group_28 rfl ?_
      obtain ⟨hc, h⟩ := h
      refine km_iald hX shp_94 hc dX7_group_29 ?_
      refine km_istore_n hX dX7_group_30 (by decide) ?_
      refine km_aload_n hX dX7_group_31 rfl rfl ?_
      refine km_getr (q := 94) hX fX7_group_31 shp_86 rfl dX7_group_32 (mrp_86_9 kqmr) ?_
      refine km_iload_n hX dX7_group_35 rfl ?_
      refine km_iload_n hX dX7_group_36 rfl ?_
      obtain ⟨hc, h⟩ := h
      refine km_iastN hX shp_94 hc dX7_group_37 (fun m37 e37 => ?_)
      have h := h m37 e37
      refine km_iload_n hX dX7_group_38 rfl ?_
      exact km_iret hX hF rfl dX7_group_39 ⟨rfl, rfl, _, rfl, h⟩ (Nat.le_refl _) (Nat.le_refl _)
    · have h := h.2 c
      refine km_bipush (v := -102) hX dX7_group_21 (by decide) ?_
      exact km_iret hX hF rfl dX7_group_23 ⟨rfl, rfl, _, rfl, h⟩ (Nat.le_refl _) (Nat.le_refl _)
  · have h := h.2 c
    refine km_bipush (v := -101) hX dX7_group_9 (by decide) ?_
    exact km_iret hX hF rfl dX7_group_11 ⟨rfl, rfl, _, rfl, h⟩ (Nat.le_refl _) (Nat.le_refl _)
def X7_portOf_b15 (x1 : Int32) (n : Nat) (y1 : Int32) (y2 : Int32) (mi : km_I) (K : Int32 → km_I → Prop) : Prop := match n with
  | 0 => False
  | n + 1 => vp_in y2 4 ∧ vp_in y1 120 ∧ (((mi 93 (Int32.toNatClampNeg y2)) = (mi 107 (Int32.toNatClampNeg y1)) → K y2 mi) ∧ (¬ (mi 93 (Int32.toNatClampNeg y2)) = (mi 107 (Int32.toNatClampNeg y1)) → X7_portOf_b15 x1 n y1 (y2 + 1) mi K))
set_option maxHeartbeats 4000000 in
set_option maxRecDepth 100000 in
theorem X7_portOf_b15_t {E : km_E} {X : km_X} {mr : km_R} {K : Int32 → km_I → Prop} {x1 : Int32} (hX : km_ok E X rmX7_portOf cX7_portOf 3 wsX7_portOf RX7) (hF : km_fin E X (some .int) 0 0 (fun r sh' mi' mr' => sh' = SH ∧ mr' = mr ∧ ∃ i, r = some (.int i) ∧ K i mi')) (kqmr : km_MR mr) : ∀ (n : Nat) (y1 : Int32) (y2 : Int32) (mi : km_I), X7_portOf_b15 x1 n y1 y2 mi K → km_G E X 3 SH mi mr 0 0 15 [(0, .ref 86), (1, .int y1), (2, .int y2)] [] := by
  intro n
  induction n with
  | zero => intro y1 y2 mi h; exact h.elim
  | succ n ih =>
    intro y1 y2 mi h
    have h : vp_in y2 4 ∧ vp_in y1 120 ∧ (((mi 93 (Int32.toNatClampNeg y2)) = (mi 107 (Int32.toNatClampNeg y1)) → K y2 mi) ∧ (¬ (mi 93 (Int32.toNatClampNeg y2)) = (mi 107 (Int32.toNatClampNeg y1)) → X7_portOf_b15 x1 n y1 (y2 + 1) mi K)) := h
    refine km_aload_n hX dX7_portOf_15 rfl rfl ?_
    refine km_getr (q := 93) hX fX7_portOf_28 shp_86 rfl dX7_portOf_16 (mrp_86_8 kqmr) ?_
    refine km_iload_n hX dX7_portOf_19 rfl ?_
    obtain ⟨hc, h⟩ := h
    refine km_iald hX shp_93 hc dX7_portOf_20 ?_
    refine km_aload_n hX dX7_portOf_21 rfl rfl ?_
    refine km_getr (q := 107) hX fX7_portOf_70 shp_86 rfl dX7_portOf_22 (mrp_86_28 kqmr) ?_
    refine km_iload_n hX dX7_portOf_25 rfl ?_
    obtain ⟨hc, h⟩ := h
    refine km_iald hX shp_107 hc dX7_portOf_26 ?_
    refine km_icmp_eq (tgt := 36) hX dX7_portOf_27 (by decide) (fun c => ?_) (fun c => ?_)
    · have h := h.1 c
      refine km_iload_n hX dX7_portOf_36 rfl ?_
      exact km_iret hX hF rfl dX7_portOf_37 ⟨rfl, rfl, _, rfl, h⟩ (Nat.le_refl _) (Nat.le_refl _)
    · have h := h.2 c
      refine km_iinc (v := 1) hX dX7_portOf_30 (by decide) rfl (by decide) ?_
      refine km_goto (tgt := 15) hX dX7_portOf_33 (by decide) ?_
      refine km_ren (ls' := [(0, .ref 86), (1, .int y1), (2, .int (y2 + 1))]) [0, 1, 2] rfl ?_
      exact ih _ _ _ h
def X7_portOf_w (x1 : Int32) (mi : km_I) (K : Int32 → km_I → Prop) : Prop := ((80 ≤ x1 → ∃ k, X7_portOf_b15 x1 k x1 0 mi K) ∧ (¬ 80 ≤ x1 → vp_in x1 120 ∧ K (mi 107 (Int32.toNatClampNeg x1)) mi))
set_option maxHeartbeats 4000000 in
set_option maxRecDepth 100000 in
theorem X7_portOf_c {E : km_E} {l : Launch} {mr : km_R} (kqmr : km_MR mr) {x1 : Int32} {mi : km_I} {K : Int32 → km_I → Prop} (h : X7_portOf_w x1 mi K) : km_Ci E l yX7_portOf wsX7_portOf rmX7_portOf [.ref 86, .int x1] SH mi mr K := by
  refine km_start (cc := cX7_portOf) (maxL := 3) (ret := (some .int)) (by decide) rfl (Nat.le_of_ble_eq_true rfl) ?_
  intro X hl hX hF _
  subst hl

  have h : ((80 ≤ x1 → ∃ k, X7_portOf_b15 x1 k x1 0 mi K) ∧ (¬ 80 ≤ x1 → vp_in x1 120 ∧ K (mi 107 (Int32.toNatClampNeg x1)) mi)) := h
  refine km_iload_n hX dX7_portOf_0 rfl ?_
  refine km_bipush (v := 80) hX dX7_portOf_1 (by decide) ?_
  refine km_icmp_ge (tgt := 13) hX dX7_portOf_3 (by decide) (fun c => ?_) (fun c => ?_)
  · have h := h.1 c
    refine km_iconst (v := 0) hX dX7_portOf_13 (by decide) ?_
    refine km_istore_n hX dX7_portOf_14 (by decide) ?_
    obtain ⟨n9, h⟩ := h
    refine km_ren (ls' := [(0, .ref 86), (1, .int x1), (2, .int 0)]) [0, 1, 2] rfl ?_
    exact X7_portOf_b15_t hX hF kqmr n9 _ _ _ h
  · have h := h.2 c
    refine km_aload_n hX dX7_portOf_6 rfl rfl ?_
    refine km_getr (q := 107) hX fX7_portOf_70 shp_86 rfl dX7_portOf_7 (mrp_86_28 kqmr) ?_
    refine km_iload_n hX dX7_portOf_10 rfl ?_
    obtain ⟨hc, h⟩ := h
    refine km_iald hX shp_107 hc dX7_portOf_11 ?_
    exact km_iret hX hF rfl dX7_portOf_12 ⟨rfl, rfl, _, rfl, h⟩ (Nat.le_refl _) (Nat.le_refl _)
def X7_next_b51 (x1 : Int32) (x2 : Int32) (x3 : Int32) (x4 : Int32) (Z3 : Int32 → Int32 → Int32 → Int32 → Int32 → km_I → Prop) (y1 : Int32) (y2 : Int32) (y3 : Int32) (y4 : Int32) (y5 : Int32) (mi : km_I) (K : Int32 → km_I → Prop) : Prop := Z3 y1 y2 y3 y4 (y5 + 1) mi
set_option maxHeartbeats 4000000 in
set_option maxRecDepth 100000 in
theorem X7_next_b51_t {E : km_E} {X : km_X} {mr : km_R} {K : Int32 → km_I → Prop} {x1 : Int32} {x2 : Int32} {x3 : Int32} {x4 : Int32} {Z3 : Int32 → Int32 → Int32 → Int32 → Int32 → km_I → Prop} (hX : km_ok E X rmX7_next cX7_next 6 wsX7_next RX7) (hF : km_fin E X (some .int) 0 0 (fun r sh' mi' mr' => sh' = SH ∧ mr' = mr ∧ ∃ i, r = some (.int i) ∧ K i mi')) (kqmr : km_MR mr) (hZ3 : ∀ (y1 : Int32) (y2 : Int32) (y3 : Int32) (y4 : Int32) (y5 : Int32) (m : km_I), Z3 y1 y2 y3 y4 y5 m → km_G E X 6 SH m mr 0 0 3 [(0, .ref 86), (1, .int y1), (2, .int y2), (3, .int y3), (4, .int y4), (5, .int y5)] []) : ∀ (y1 : Int32) (y2 : Int32) (y3 : Int32) (y4 : Int32) (y5 : Int32) (mi : km_I), X7_next_b51 x1 x2 x3 x4 Z3 y1 y2 y3 y4 y5 mi K → km_G E X 6 SH mi mr 0 0 51 [(0, .ref 86), (1, .int y1), (2, .int y2), (3, .int y3), (4, .int y4), (5, .int y5)] [] := by
  intro y1 y2 y3 y4 y5 mi h
  have h : Z3 y1 y2 y3 y4 (y5 + 1) mi := h
  refine km_iinc (v := 1) hX dX7_next_51 (by decide) rfl (by decide) ?_
  refine km_goto (tgt := 3) hX dX7_next_54 (by decide) ?_
  refine km_ren (ls' := [(0, .ref 86), (1, .int y1), (2, .int y2), (3, .int y3), (4, .int y4), (5, .int (y5 + 1))]) [0, 1, 2, 3, 4, 5] rfl ?_
  exact hZ3 _ _ _ _ _ _ h
def X7_next_b3 (x1 : Int32) (x2 : Int32) (x3 : Int32) (x4 : Int32) (n : Nat) (y1 : Int32) (y2 : Int32) (y3 : Int32) (y4 : Int32) (y5 : Int32) (mi : km_I) (K : Int32 → km_I → Prop) : Prop := match n with
  | 0 => False
  | n + 1 => vp_in y1 3 ∧ (((mi 106 (Int32.toNatClampNeg y1)) ≤ y5 → K y5 mi) ∧ (¬ (mi 106 (Int32.toNatClampNeg y1)) ≤ y5 → vp_in ((40 * y1) + y5) 120 ∧ ((¬ (mi 109 (Int32.toNatClampNeg ((40 * y1) + y5))) = y4 → X7_next_b51 x1 x2 x3 x4 (fun v0 v1 v2 v3 v4 m => X7_next_b3 x1 x2 x3 x4 n v0 v1 v2 v3 v4 m K) y1 y2 y3 y4 y5 mi K) ∧ ((mi 109 (Int32.toNatClampNeg ((40 * y1) + y5))) = y4 → X7_portOf_w ((40 * y1) + y5) mi (fun r43 m43 => vp_in r43 4 ∧ (((m43 94 (Int32.toNatClampNeg r43)) = y3 → K y5 m43) ∧ (¬ (m43 94 (Int32.toNatClampNeg r43)) = y3 → X7_next_b51 x1 x2 x3 x4 (fun v0 v1 v2 v3 v4 m => X7_next_b3 x1 x2 x3 x4 n v0 v1 v2 v3 v4 m K) y1 y2 y3 y4 y5 m43 K)))))))
set_option maxHeartbeats 4000000 in
set_option maxRecDepth 100000 in
theorem X7_next_b3_t {E : km_E} {X : km_X} {mr : km_R} {K : Int32 → km_I → Prop} {x1 : Int32} {x2 : Int32} {x3 : Int32} {x4 : Int32} (hX : km_ok E X rmX7_next cX7_next 6 wsX7_next RX7) (hF : km_fin E X (some .int) 0 0 (fun r sh' mi' mr' => sh' = SH ∧ mr' = mr ∧ ∃ i, r = some (.int i) ∧ K i mi')) (kqmr : km_MR mr) : ∀ (n : Nat) (y1 : Int32) (y2 : Int32) (y3 : Int32) (y4 : Int32) (y5 : Int32) (mi : km_I), X7_next_b3 x1 x2 x3 x4 n y1 y2 y3 y4 y5 mi K → km_G E X 6 SH mi mr 0 0 3 [(0, .ref 86), (1, .int y1), (2, .int y2), (3, .int y3), (4, .int y4), (5, .int y5)] [] := by
  intro n
  induction n with
  | zero => intro y1 y2 y3 y4 y5 mi h; exact h.elim
  | succ n ih =>
    intro y1 y2 y3 y4 y5 mi h
    have h : vp_in y1 3 ∧ (((mi 106 (Int32.toNatClampNeg y1)) ≤ y5 → K y5 mi) ∧ (¬ (mi 106 (Int32.toNatClampNeg y1)) ≤ y5 → vp_in ((40 * y1) + y5) 120 ∧ ((¬ (mi 109 (Int32.toNatClampNeg ((40 * y1) + y5))) = y4 → X7_next_b51 x1 x2 x3 x4 (fun v0 v1 v2 v3 v4 m => X7_next_b3 x1 x2 x3 x4 n v0 v1 v2 v3 v4 m K) y1 y2 y3 y4 y5 mi K) ∧ ((mi 109 (Int32.toNatClampNeg ((40 * y1) + y5))) = y4 → X7_portOf_w ((40 * y1) + y5) mi (fun r43 m43 => vp_in r43 4 ∧ (((m43 94 (Int32.toNatClampNeg r43)) = y3 → K y5 m43) ∧ (¬ (m43 94 (Int32.toNatClampNeg r43)) = y3 → X7_next_b51 x1 x2 x3 x4 (fun v0 v1 v2 v3 v4 m => X7_next_b3 x1 x2 x3 x4 n v0 v1 v2 v3 v4 m K) y1 y2 y3 y4 y5 m43 K))))))) := h
    refine km_iload hX dX7_next_3 rfl ?_
    refine km_aload_n hX dX7_next_5 rfl rfl ?_
    refine km_getr (q := 106) hX fX7_next_67 shp_86 rfl dX7_next_6 (mrp_86_27 kqmr) ?_
    refine km_iload_n hX dX7_next_9 rfl ?_
    obtain ⟨hc, h⟩ := h
    refine km_iald hX shp_106 hc dX7_next_10 ?_
    refine km_icmp_ge (tgt := 57) hX dX7_next_11 (by decide) (fun c => ?_) (fun c => ?_)
    · have h := h.1 c
      refine km_iload hX dX7_next_57 rfl ?_
      exact km_iret hX hF rfl dX7_next_59 ⟨rfl, rfl, _, rfl, h⟩ (Nat.le_refl _) (Nat.le_refl _)
    · have h := h.2 c
      refine km_aload_n hX dX7_next_14 rfl rfl ?_
      refine km_getr (q := 109) hX fX7_next_76 shp_86 rfl dX7_next_15 (mrp_86_30 kqmr) ?_
      refine km_bipush (v := 40) hX dX7_next_18 (by decide) ?_
      refine km_iload_n hX dX7_next_20 rfl ?_
      refine km_imul hX dX7_next_21 ?_
      refine km_iload hX dX7_next_22 rfl ?_
      refine km_iadd hX dX7_next_24 ?_
      obtain ⟨hc, h⟩ := h
      refine km_iald hX shp_109 hc dX7_next_25 ?_
      refine km_iload hX dX7_next_26 rfl ?_
      refine km_icmp_ne (tgt := 51) hX dX7_next_28 (by decide) (fun c => ?_) (fun c => ?_)
      · have h := h.1 c
        refine km_ren (ls' := [(0, .ref 86), (1, .int y1), (2, .int y2), (3, .int y3), (4, .int y4), (5, .int y5)]) [0, 1, 2, 3, 4, 5] rfl ?_
        exact X7_next_b51_t hX hF kqmr (fun v0 v1 v2 v3 v4 m hh => ih v0 v1 v2 v3 v4 m hh) _ _ _ _ _ _ h
      · have h := h.2 c
        refine km_aload_n hX dX7_next_31 rfl rfl ?_
        refine km_getr (q := 94) hX fX7_next_31 shp_86 rfl dX7_next_32 (mrp_86_9 kqmr) ?_
        refine km_aload_n hX dX7_next_35 rfl rfl ?_
        refine km_bipush (v := 40) hX dX7_next_36 (by decide) ?_
        refine km_iload_n hX dX7_next_38 rfl ?_
        refine km_imul hX dX7_next_39 ?_
        refine km_iload hX dX7_next_40 rfl ?_
        refine km_iadd hX dX7_next_42 ?_
        refine km_callVi hX dX7_next_43 vX7_next_175 (X7_portOf_c kqmr h) (by decide) shp_86 rfl rfl (Nat.le_of_ble_eq_true rfl) (fun r43 m43 h => ?_)
        obtain ⟨hc, h⟩ := h
        refine km_iald hX shp_94 hc dX7_next_46 ?_
        refine km_iload_n hX dX7_next_47 rfl ?_
        refine km_icmp_eq (tgt := 57) hX dX7_next_48 (by decide) (fun c => ?_) (fun c => ?_)
        · have h := h.1 c
          refine km_iload hX dX7_next_57 rfl ?_
          exact km_iret hX hF rfl dX7_next_59 ⟨rfl, rfl, _, rfl, h⟩ (Nat.le_refl _) (Nat.le_refl _)
        · have h := h.2 c
          refine km_ren (ls' := [(0, .ref 86), (1, .int y1), (2, .int y2), (3, .int y3), (4, .int y4), (5, .int y5)]) [0, 1, 2, 3, 4, 5] rfl ?_
          exact X7_next_b51_t hX hF kqmr (fun v0 v1 v2 v3 v4 m hh => ih v0 v1 v2 v3 v4 m hh) _ _ _ _ _ _ h
def X7_next_w (x1 : Int32) (x2 : Int32) (x3 : Int32) (x4 : Int32) (mi : km_I) (K : Int32 → km_I → Prop) : Prop := ∃ k, X7_next_b3 x1 x2 x3 x4 k x1 x2 x3 x4 x2 mi K
set_option maxHeartbeats 4000000 in
set_option maxRecDepth 100000 in
theorem X7_next_c {E : km_E} {l : Launch} {mr : km_R} (kqmr : km_MR mr) {x1 : Int32} {x2 : Int32} {x3 : Int32} {x4 : Int32} {mi : km_I} {K : Int32 → km_I → Prop} (h : X7_next_w x1 x2 x3 x4 mi K) : km_Ci E l yX7_next wsX7_next rmX7_next [.ref 86, .int x1, .int x2, .int x3, .int x4] SH mi mr K := by
  refine km_start (cc := cX7_next) (maxL := 6) (ret := (some .int)) (by decide) rfl (Nat.le_of_ble_eq_true rfl) ?_
  intro X hl hX hF _
  subst hl

  have h : ∃ k, X7_next_b3 x1 x2 x3 x4 k x1 x2 x3 x4 x2 mi K := h
  refine km_iload_n hX dX7_next_0 rfl ?_
  refine km_istore hX dX7_next_1 (by decide) ?_
  obtain ⟨n9, h⟩ := h
  refine km_ren (ls' := [(0, .ref 86), (1, .int x1), (2, .int x2), (3, .int x3), (4, .int x4), (5, .int x2)]) [0, 1, 2, 3, 4, 5] rfl ?_
  exact X7_next_b3_t hX hF kqmr n9 _ _ _ _ _ _ h
def X7_areTellsLike_b111 (x1 : Int32) (x2 : Int32) (y1 : Int32) (y2 : Int32) (y3 : Int32) (y4 : Int32) (mi : km_I) (K : Int32 → km_I → Prop) : Prop := vp_in 1 3 ∧ ((y3 < (mi 106 (Int32.toNatClampNeg 1)) → K 0 mi) ∧ (¬ y3 < (mi 106 (Int32.toNatClampNeg 1)) → vp_in 2 3 ∧ ((y4 < (mi 106 (Int32.toNatClampNeg 2)) → K 0 mi) ∧ (¬ y4 < (mi 106 (Int32.toNatClampNeg 2)) → K 1 mi))))
set_option maxHeartbeats 4000000 in
set_option maxRecDepth 100000 in
theorem X7_areTellsLike_b111_t {E : km_E} {X : km_X} {mr : km_R} {K : Int32 → km_I → Prop} {x1 : Int32} {x2 : Int32} (hX : km_ok E X rmX7_areTellsLike cX7_areTellsLike 5 wsX7_areTellsLike RX7) (hF : km_fin E X (some .boolean) 0 0 (fun r sh' mi' mr' => sh' = SH ∧ mr' = mr ∧ ∃ i, r = some (.int i) ∧ K i mi')) (kqmr : km_MR mr) : ∀ (y1 : Int32) (y2 : Int32) (y3 : Int32) (y4 : Int32) (mi : km_I), X7_areTellsLike_b111 x1 x2 y1 y2 y3 y4 mi K → km_G E X 5 SH mi mr 0 0 111 [(0, .ref 86), (1, .int y1), (2, .int y2), (3, .int y3), (4, .int y4)] [] := by
  intro y1 y2 y3 y4 mi h
  have h : vp_in 1 3 ∧ ((y3 < (mi 106 (Int32.toNatClampNeg 1)) → K 0 mi) ∧ (¬ y3 < (mi 106 (Int32.toNatClampNeg 1)) → vp_in 2 3 ∧ ((y4 < (mi 106 (Int32.toNatClampNeg 2)) → K 0 mi) ∧ (¬ y4 < (mi 106 (Int32.toNatClampNeg 2)) → K 1 mi)))) := h
  refine km_iload_n hX dX7_areTellsLike_111 rfl ?_
  refine km_aload_n hX dX7_areTellsLike_112 rfl rfl ?_
  refine km_getr (q := 106) hX fX7_areTellsLike_67 shp_86 rfl dX7_areTellsLike_113 (mrp_86_27 kqmr) ?_
  refine km_iconst (v := 1) hX dX7_areTellsLike_116 (by decide) ?_
  obtain ⟨hc, h⟩ := h
  refine km_iald hX shp_106 hc dX7_areTellsLike_117 ?_
  refine km_icmp_lt (tgt := 136) hX dX7_areTellsLike_118 (by decide) (fun c => ?_) (fun c => ?_)
  · have h := h.1 c
    refine km_iconst (v := 0) hX dX7_areTellsLike_136 (by decide) ?_
    exact km_zret hX hF rfl dX7_areTellsLike_137 (Or.inl rfl) ⟨rfl, rfl, _, rfl, h⟩ (Nat.le_refl _) (Nat.le_refl _)
  · have h := h.2 c
    refine km_iload hX dX7_areTellsLike_121 rfl ?_
    refine km_aload_n hX dX7_areTellsLike_123 rfl rfl ?_
    refine km_getr (q := 106) hX fX7_areTellsLike_67 shp_86 rfl dX7_areTellsLike_124 (mrp_86_27 kqmr) ?_
    refine km_iconst (v := 2) hX dX7_areTellsLike_127 (by decide) ?_
    obtain ⟨hc, h⟩ := h
    refine km_iald hX shp_106 hc dX7_areTellsLike_128 ?_
    refine km_icmp_lt (tgt := 136) hX dX7_areTellsLike_129 (by decide) (fun c => ?_) (fun c => ?_)
    · have h := h.1 c
      refine km_iconst (v := 0) hX dX7_areTellsLike_136 (by decide) ?_
      exact km_zret hX hF rfl dX7_areTellsLike_137 (Or.inl rfl) ⟨rfl, rfl, _, rfl, h⟩ (Nat.le_refl _) (Nat.le_refl _)
    · have h := h.2 c
      refine km_iconst (v := 1) hX dX7_areTellsLike_132 (by decide) ?_
      refine km_goto (tgt := 137) hX dX7_areTellsLike_133 (by decide) ?_
      exact km_zret hX hF rfl dX7_areTellsLike_137 (Or.inr rfl) ⟨rfl, rfl, _, rfl, h⟩ (Nat.le_refl _) (Nat.le_refl _)
def X7_areTellsLike_b19 (x1 : Int32) (x2 : Int32) (n : Nat) (y1 : Int32) (y2 : Int32) (y3 : Int32) (y4 : Int32) (mi : km_I) (K : Int32 → km_I → Prop) : Prop := match n with
  | 0 => False
  | n + 1 => vp_in 1 3 ∧ (((mi 106 (Int32.toNatClampNeg 1)) ≤ y3 → X7_areTellsLike_b111 x1 x2 y1 y2 y3 y4 mi K) ∧ (¬ (mi 106 (Int32.toNatClampNeg 1)) ≤ y3 → vp_in 2 3 ∧ (((mi 106 (Int32.toNatClampNeg 2)) ≤ y4 → X7_areTellsLike_b111 x1 x2 y1 y2 y3 y4 mi K) ∧ (¬ (mi 106 (Int32.toNatClampNeg 2)) ≤ y4 → X7_portOf_w (40 + y3) mi (fun r45 m45 => X7_portOf_w (80 + y4) m45 (fun r54 m54 => ((¬ r45 = r54 → K 0 m54) ∧ (r45 = r54 → vp_in (40 + y3) 120 ∧ vp_in (80 + y4) 120 ∧ (((m54 108 (Int32.toNatClampNeg (40 + y3))) = (m54 108 (Int32.toNatClampNeg (80 + y4))) → X7_next_w 1 (y3 + 1) y1 y2 m54 (fun r91 m91 => X7_next_w 2 (y4 + 1) y1 y2 m91 (fun r103 m103 => X7_areTellsLike_b19 x1 x2 n y1 y2 r91 r103 m103 K))) ∧ (¬ (m54 108 (Int32.toNatClampNeg (40 + y3))) = (m54 108 (Int32.toNatClampNeg (80 + y4))) → K 0 m54))))))))))
set_option maxHeartbeats 4000000 in
set_option maxRecDepth 100000 in
theorem X7_areTellsLike_b19_t {E : km_E} {X : km_X} {mr : km_R} {K : Int32 → km_I → Prop} {x1 : Int32} {x2 : Int32} (hX : km_ok E X rmX7_areTellsLike cX7_areTellsLike 5 wsX7_areTellsLike RX7) (hF : km_fin E X (some .boolean) 0 0 (fun r sh' mi' mr' => sh' = SH ∧ mr' = mr ∧ ∃ i, r = some (.int i) ∧ K i mi')) (kqmr : km_MR mr) : ∀ (n : Nat) (y1 : Int32) (y2 : Int32) (y3 : Int32) (y4 : Int32) (mi : km_I), X7_areTellsLike_b19 x1 x2 n y1 y2 y3 y4 mi K → km_G E X 5 SH mi mr 0 0 19 [(0, .ref 86), (1, .int y1), (2, .int y2), (3, .int y3), (4, .int y4)] [] := by
  intro n
  induction n with
  | zero => intro y1 y2 y3 y4 mi h; exact h.elim
  | succ n ih =>
    intro y1 y2 y3 y4 mi h
    have h : vp_in 1 3 ∧ (((mi 106 (Int32.toNatClampNeg 1)) ≤ y3 → X7_areTellsLike_b111 x1 x2 y1 y2 y3 y4 mi K) ∧ (¬ (mi 106 (Int32.toNatClampNeg 1)) ≤ y3 → vp_in 2 3 ∧ (((mi 106 (Int32.toNatClampNeg 2)) ≤ y4 → X7_areTellsLike_b111 x1 x2 y1 y2 y3 y4 mi K) ∧ (¬ (mi 106 (Int32.toNatClampNeg 2)) ≤ y4 → X7_portOf_w (40 + y3) mi (fun r45 m45 => X7_portOf_w (80 + y4) m45 (fun r54 m54 => ((¬ r45 = r54 → K 0 m54) ∧ (r45 = r54 → vp_in (40 + y3) 120 ∧ vp_in (80 + y4) 120 ∧ (((m54 108 (Int32.toNatClampNeg (40 + y3))) = (m54 108 (Int32.toNatClampNeg (80 + y4))) → X7_next_w 1 (y3 + 1) y1 y2 m54 (fun r91 m91 => X7_next_w 2 (y4 + 1) y1 y2 m91 (fun r103 m103 => X7_areTellsLike_b19 x1 x2 n y1 y2 r91 r103 m103 K))) ∧ (¬ (m54 108 (Int32.toNatClampNeg (40 + y3))) = (m54 108 (Int32.toNatClampNeg (80 + y4))) → K 0 m54)))))))))) := h
    refine km_iload_n hX dX7_areTellsLike_19 rfl ?_
    refine km_aload_n hX dX7_areTellsLike_20 rfl rfl ?_
    refine km_getr (q := 106) hX fX7_areTellsLike_67 shp_86 rfl dX7_areTellsLike_21 (mrp_86_27 kqmr) ?_
    refine km_iconst (v := 1) hX dX7_areTellsLike_24 (by decide) ?_
    obtain ⟨hc, h⟩ := h
    refine km_iald hX shp_106 hc dX7_areTellsLike_25 ?_
    refine km_icmp_ge (tgt := 111) hX dX7_areTellsLike_26 (by decide) (fun c => ?_) (fun c => ?_)
    · have h := h.1 c
      refine km_ren (ls' := [(0, .ref 86), (1, .int y1), (2, .int y2), (3, .int y3), (4, .int y4)]) [0, 1, 2, 3, 4] rfl ?_
      exact X7_areTellsLike_b111_t hX hF kqmr _ _ _ _ _ h
    · have h := h.2 c
      refine km_iload hX dX7_areTellsLike_29 rfl ?_
      refine km_aload_n hX dX7_areTellsLike_31 rfl rfl ?_
      refine km_getr (q := 106) hX fX7_areTellsLike_67 shp_86 rfl dX7_areTellsLike_32 (mrp_86_27 kqmr) ?_
      refine km_iconst (v := 2) hX dX7_areTellsLike_35 (by decide) ?_
      obtain ⟨hc, h⟩ := h
      refine km_iald hX shp_106 hc dX7_areTellsLike_36 ?_
      refine km_icmp_ge (tgt := 111) hX dX7_areTellsLike_37 (by decide) (fun c => ?_) (fun c => ?_)
      · have h := h.1 c
        refine km_ren (ls' := [(0, .ref 86), (1, .int y1), (2, .int y2), (3, .int y3), (4, .int y4)]) [0, 1, 2, 3, 4] rfl ?_
        exact X7_areTellsLike_b111_t hX hF kqmr _ _ _ _ _ h
      · have h := h.2 c
        refine km_aload_n hX dX7_areTellsLike_40 rfl rfl ?_
        refine km_bipush (v := 40) hX dX7_areTellsLike_41 (by decide) ?_
        refine km_iload_n hX dX7_areTellsLike_43 rfl ?_
        refine km_iadd hX dX7_areTellsLike_44 ?_
        refine km_callVi hX dX7_areTellsLike_45 vX7_areTellsLike_175 (X7_portOf_c kqmr h) (by decide) shp_86 rfl rfl (Nat.le_of_ble_eq_true rfl) (fun r45 m45 h => ?_)
        refine km_aload_n hX dX7_areTellsLike_48 rfl rfl ?_
        refine km_bipush (v := 80) hX dX7_areTellsLike_49 (by decide) ?_
        refine km_iload hX dX7_areTellsLike_51 rfl ?_
        refine km_iadd hX dX7_areTellsLike_53 ?_
        refine km_callVi hX dX7_areTellsLike_54 vX7_areTellsLike_175 (X7_portOf_c kqmr h) (by decide) shp_86 rfl rfl (Nat.le_of_ble_eq_true rfl) (fun r54 m54 h => ?_)
        refine km_icmp_ne (tgt := 82) hX dX7_areTellsLike_57 (by decide) (fun c => ?_) (fun c => ?_)
        · have h := h.1 c
          refine km_iconst (v := 0) hX dX7_areTellsLike_82 (by decide) ?_
          exact km_zret hX hF rfl dX7_areTellsLike_83 (Or.inl rfl) ⟨rfl, rfl, _, rfl, h⟩ (Nat.le_refl _) (Nat.le_refl _)
        · have h := h.2 c
          refine km_aload_n hX dX7_areTellsLike_60 rfl rfl ?_
          refine km_getr (q := 108) hX fX7_areTellsLike_73 shp_86 rfl dX7_areTellsLike_61 (mrp_86_29 kqmr) ?_
          refine km_bipush (v := 40) hX dX7_areTellsLike_64 (by decide) ?_
          refine km_iload_n hX dX7_areTellsLike_66 rfl ?_
          refine km_iadd hX dX7_areTellsLike_67 ?_
          obtain ⟨hc, h⟩ := h
          refine km_iald hX shp_108 hc dX7_areTellsLike_68 ?_
          refine km_aload_n hX dX7_areTellsLike_69 rfl rfl ?_
          refine km_getr (q := 108) hX fX7_areTellsLike_73 shp_86 rfl dX7_areTellsLike_70 (mrp_86_29 kqmr) ?_
          refine km_bipush (v := 80) hX dX7_areTellsLike_73 (by decide) ?_
          refine km_iload hX dX7_areTellsLike_75 rfl ?_
          refine km_iadd hX dX7_areTellsLike_77 ?_
          obtain ⟨hc, h⟩ := h
          refine km_iald hX shp_108 hc dX7_areTellsLike_78 ?_
          refine km_icmp_eq (tgt := 84) hX dX7_areTellsLike_79 (by decide) (fun c => ?_) (fun c => ?_)
          · have h := h.1 c
            refine km_aload_n hX dX7_areTellsLike_84 rfl rfl ?_
            refine km_iconst (v := 1) hX dX7_areTellsLike_85 (by decide) ?_
            refine km_iload_n hX dX7_areTellsLike_86 rfl ?_
            refine km_iconst (v := 1) hX dX7_areTellsLike_87 (by decide) ?_
            refine km_iadd hX dX7_areTellsLike_88 ?_
            refine km_iload_n hX dX7_areTellsLike_89 rfl ?_
            refine km_iload_n hX dX7_areTellsLike_90 rfl ?_
            refine km_callVi hX dX7_areTellsLike_91 vX7_areTellsLike_179 (X7_next_c kqmr h) (by decide) shp_86 rfl rfl (Nat.le_of_ble_eq_true rfl) (fun r91 m91 h => ?_)
            refine km_istore_n hX dX7_areTellsLike_94 (by decide) ?_
            refine km_aload_n hX dX7_areTellsLike_95 rfl rfl ?_
            refine km_iconst (v := 2) hX dX7_areTellsLike_96 (by decide) ?_
            refine km_iload hX dX7_areTellsLike_97 rfl ?_
            refine km_iconst (v := 1) hX dX7_areTellsLike_99 (by decide) ?_
            refine km_iadd hX dX7_areTellsLike_100 ?_
            refine km_iload_n hX dX7_areTellsLike_101 rfl ?_
            refine km_iload_n hX dX7_areTellsLike_102 rfl ?_
            refine km_callVi hX dX7_areTellsLike_103 vX7_areTellsLike_179 (X7_next_c kqmr h) (by decide) shp_86 rfl rfl (Nat.le_of_ble_eq_true rfl) (fun r103 m103 h => ?_)
            refine km_istore hX dX7_areTellsLike_106 (by decide) ?_
            refine km_goto (tgt := 19) hX dX7_areTellsLike_108 (by decide) ?_
            refine km_ren (ls' := [(0, .ref 86), (1, .int y1), (2, .int y2), (3, .int r91), (4, .int r103)]) [0, 1, 2, 3, 4] rfl ?_
            exact ih _ _ _ _ _ h
          · have h := h.2 c
            refine km_iconst (v := 0) hX dX7_areTellsLike_82 (by decide) ?_
            exact km_zret hX hF rfl dX7_areTellsLike_83 (Or.inl rfl) ⟨rfl, rfl, _, rfl, h⟩ (Nat.le_refl _) (Nat.le_refl _)
def X7_areTellsLike_w (x1 : Int32) (x2 : Int32) (mi : km_I) (K : Int32 → km_I → Prop) : Prop := X7_next_w 1 0 x1 x2 mi (fun r5 m5 => X7_next_w 2 0 x1 x2 m5 (fun r14 m14 => ∃ k, X7_areTellsLike_b19 x1 x2 k x1 x2 r5 r14 m14 K))
set_option maxHeartbeats 4000000 in
set_option maxRecDepth 100000 in
theorem X7_areTellsLike_c {E : km_E} {l : Launch} {mr : km_R} (kqmr : km_MR mr) {x1 : Int32} {x2 : Int32} {mi : km_I} {K : Int32 → km_I → Prop} (h : X7_areTellsLike_w x1 x2 mi K) : km_Ci E l yX7_areTellsLike wsX7_areTellsLike rmX7_areTellsLike [.ref 86, .int x1, .int x2] SH mi mr K := by
  refine km_start (cc := cX7_areTellsLike) (maxL := 5) (ret := (some .boolean)) (by decide) rfl (Nat.le_of_ble_eq_true rfl) ?_
  intro X hl hX hF _
  subst hl

  have h : X7_next_w 1 0 x1 x2 mi (fun r5 m5 => X7_next_w 2 0 x1 x2 m5 (fun r14 m14 => ∃ k, X7_areTellsLike_b19 x1 x2 k x1 x2 r5 r14 m14 K)) := h
  refine km_aload_n hX dX7_areTellsLike_0 rfl rfl ?_
  refine km_iconst (v := 1) hX dX7_areTellsLike_1 (by decide) ?_
  refine km_iconst (v := 0) hX dX7_areTellsLike_2 (by decide) ?_
  refine km_iload_n hX dX7_areTellsLike_3 rfl ?_
  refine km_iload_n hX dX7_areTellsLike_4 rfl ?_
  refine km_callVi hX dX7_areTellsLike_5 vX7_areTellsLike_179 (X7_next_c kqmr h) (by decide) shp_86 rfl rfl (Nat.le_of_ble_eq_true rfl) (fun r5 m5 h => ?_)
  refine km_istore_n hX dX7_areTellsLike_8 (by decide) ?_
  refine km_aload_n hX dX7_areTellsLike_9 rfl rfl ?_
  refine km_iconst (v := 2) hX dX7_areTellsLike_10 (by decide) ?_
  refine km_iconst (v := 0) hX dX7_areTellsLike_11 (by decide) ?_
  refine km_iload_n hX dX7_areTellsLike_12 rfl ?_
  refine km_iload_n hX dX7_areTellsLike_13 rfl ?_
  refine km_callVi hX dX7_areTellsLike_14 vX7_areTellsLike_179 (X7_next_c kqmr h) (by decide) shp_86 rfl rfl (Nat.le_of_ble_eq_true rfl) (fun r14 m14 h => ?_)
  refine km_istore hX dX7_areTellsLike_17 (by decide) ?_
  obtain ⟨n9, h⟩ := h
  refine km_ren (ls' := [(0, .ref 86), (1, .int x1), (2, .int x2), (3, .int r5), (4, .int r14)]) [0, 1, 2, 3, 4] rfl ?_
  exact X7_areTellsLike_b19_t hX hF kqmr n9 _ _ _ _ _ h
def X7_isPair_b45 (x1 : Int32) (x2 : Int32) (Z5 : Int32 → Int32 → Int32 → Int32 → km_I → Prop) (y1 : Int32) (y2 : Int32) (y3 : Int32) (y4 : Int32) (z0 : Int32) (mi : km_I) (K : Int32 → km_I → Prop) : Prop := Z5 y1 y2 z0 (y4 + 1) mi
set_option maxHeartbeats 4000000 in
set_option maxRecDepth 100000 in
theorem X7_isPair_b45_t {E : km_E} {X : km_X} {mr : km_R} {K : Int32 → km_I → Prop} {x1 : Int32} {x2 : Int32} {Z5 : Int32 → Int32 → Int32 → Int32 → km_I → Prop} (hX : km_ok E X rmX7_isPair cX7_isPair 5 wsX7_isPair RX7) (hF : km_fin E X (some .boolean) 0 0 (fun r sh' mi' mr' => sh' = SH ∧ mr' = mr ∧ ∃ i, r = some (.int i) ∧ K i mi')) (kqmr : km_MR mr) (hZ5 : ∀ (y1 : Int32) (y2 : Int32) (y3 : Int32) (y4 : Int32) (m : km_I), Z5 y1 y2 y3 y4 m → km_G E X 5 SH m mr 0 0 5 [(0, .ref 86), (1, .int y1), (2, .int y2), (3, .int y3), (4, .int y4)] []) : ∀ (y1 : Int32) (y2 : Int32) (y3 : Int32) (y4 : Int32) (z0 : Int32) (mi : km_I), X7_isPair_b45 x1 x2 Z5 y1 y2 y3 y4 z0 mi K → km_G E X 5 SH mi mr 0 0 45 [(0, .ref 86), (1, .int y1), (2, .int y2), (3, .int y3), (4, .int y4)] [.int z0] := by
  intro y1 y2 y3 y4 z0 mi h
  have h : Z5 y1 y2 z0 (y4 + 1) mi := h
  refine km_istore_n hX dX7_isPair_45 (by decide) ?_
  refine km_iinc (v := 1) hX dX7_isPair_46 (by decide) rfl (by decide) ?_
  refine km_goto (tgt := 5) hX dX7_isPair_49 (by decide) ?_
  refine km_ren (ls' := [(0, .ref 86), (1, .int y1), (2, .int y2), (3, .int z0), (4, .int (y4 + 1))]) [0, 1, 2, 3, 4] rfl ?_
  exact hZ5 _ _ _ _ _ h
def X7_isPair_b40 (x1 : Int32) (x2 : Int32) (Z5 : Int32 → Int32 → Int32 → Int32 → km_I → Prop) (y1 : Int32) (y2 : Int32) (y3 : Int32) (y4 : Int32) (mi : km_I) (K : Int32 → km_I → Prop) : Prop := X7_isPair_b45 x1 x2 Z5 y1 y2 y3 y4 1 mi K
set_option maxHeartbeats 4000000 in
set_option maxRecDepth 100000 in
theorem X7_isPair_b40_t {E : km_E} {X : km_X} {mr : km_R} {K : Int32 → km_I → Prop} {x1 : Int32} {x2 : Int32} {Z5 : Int32 → Int32 → Int32 → Int32 → km_I → Prop} (hX : km_ok E X rmX7_isPair cX7_isPair 5 wsX7_isPair RX7) (hF : km_fin E X (some .boolean) 0 0 (fun r sh' mi' mr' => sh' = SH ∧ mr' = mr ∧ ∃ i, r = some (.int i) ∧ K i mi')) (kqmr : km_MR mr) (hZ5 : ∀ (y1 : Int32) (y2 : Int32) (y3 : Int32) (y4 : Int32) (m : km_I), Z5 y1 y2 y3 y4 m → km_G E X 5 SH m mr 0 0 5 [(0, .ref 86), (1, .int y1), (2, .int y2), (3, .int y3), (4, .int y4)] []) : ∀ (y1 : Int32) (y2 : Int32) (y3 : Int32) (y4 : Int32) (mi : km_I), X7_isPair_b40 x1 x2 Z5 y1 y2 y3 y4 mi K → km_G E X 5 SH mi mr 0 0 40 [(0, .ref 86), (1, .int y1), (2, .int y2), (3, .int y3), (4, .int y4)] [] := by
  intro y1 y2 y3 y4 mi h
  have h : X7_isPair_b45 x1 x2 Z5 y1 y2 y3 y4 1 mi K := h
  refine km_iconst (v := 1) hX dX7_isPair_40 (by decide) ?_
  refine km_goto (tgt := 45) hX dX7_isPair_41 (by decide) ?_
  refine km_ren (ls' := [(0, .ref 86), (1, .int y1), (2, .int y2), (3, .int y3), (4, .int y4)]) [0, 1, 2, 3, 4] rfl ?_
  exact X7_isPair_b45_t hX hF kqmr hZ5 _ _ _ _ _ _ h
def X7_isPair_b44 (x1 : Int32) (x2 : Int32) (Z5 : Int32 → Int32 → Int32 → Int32 → km_I → Prop) (y1 : Int32) (y2 : Int32) (y3 : Int32) (y4 : Int32) (mi : km_I) (K : Int32 → km_I → Prop) : Prop := X7_isPair_b45 x1 x2 Z5 y1 y2 y3 y4 0 mi K
set_option maxHeartbeats 4000000 in
set_option maxRecDepth 100000 in
theorem X7_isPair_b44_t {E : km_E} {X : km_X} {mr : km_R} {K : Int32 → km_I → Prop} {x1 : Int32} {x2 : Int32} {Z5 : Int32 → Int32 → Int32 → Int32 → km_I → Prop} (hX : km_ok E X rmX7_isPair cX7_isPair 5 wsX7_isPair RX7) (hF : km_fin E X (some .boolean) 0 0 (fun r sh' mi' mr' => sh' = SH ∧ mr' = mr ∧ ∃ i, r = some (.int i) ∧ K i mi')) (kqmr : km_MR mr) (hZ5 : ∀ (y1 : Int32) (y2 : Int32) (y3 : Int32) (y4 : Int32) (m : km_I), Z5 y1 y2 y3 y4 m → km_G E X 5 SH m mr 0 0 5 [(0, .ref 86), (1, .int y1), (2, .int y2), (3, .int y3), (4, .int y4)] []) : ∀ (y1 : Int32) (y2 : Int32) (y3 : Int32) (y4 : Int32) (mi : km_I), X7_isPair_b44 x1 x2 Z5 y1 y2 y3 y4 mi K → km_G E X 5 SH mi mr 0 0 44 [(0, .ref 86), (1, .int y1), (2, .int y2), (3, .int y3), (4, .int y4)] [] := by
  intro y1 y2 y3 y4 mi h
  have h : X7_isPair_b45 x1 x2 Z5 y1 y2 y3 y4 0 mi K := h
  refine km_iconst (v := 0) hX dX7_isPair_44 (by decide) ?_
  refine km_ren (ls' := [(0, .ref 86), (1, .int y1), (2, .int y2), (3, .int y3), (4, .int y4)]) [0, 1, 2, 3, 4] rfl ?_
  exact X7_isPair_b45_t hX hF kqmr hZ5 _ _ _ _ _ _ h
def X7_isPair_b5 (x1 : Int32) (x2 : Int32) (n : Nat) (y1 : Int32) (y2 : Int32) (y3 : Int32) (y4 : Int32) (mi : km_I) (K : Int32 → km_I → Prop) : Prop := match n with
  | 0 => False
  | n + 1 => (((mi 86 10) ≤ y4 → (y3 = 0 ∨ y3 = 1) ∧ K y3 mi) ∧ (¬ (mi 86 10) ≤ y4 → ((¬ y3 = 0 → X7_isPair_b40 x1 x2 (fun v0 v1 v2 v3 m => X7_isPair_b5 x1 x2 n v0 v1 v2 v3 m K) y1 y2 y3 y4 mi K) ∧ (y3 = 0 → vp_in y4 6 ∧ ((¬ (mi 95 (Int32.toNatClampNeg y4)) = y1 → X7_isPair_b44 x1 x2 (fun v0 v1 v2 v3 m => X7_isPair_b5 x1 x2 n v0 v1 v2 v3 m K) y1 y2 y3 y4 mi K) ∧ ((mi 95 (Int32.toNatClampNeg y4)) = y1 → vp_in y4 6 ∧ ((¬ (mi 96 (Int32.toNatClampNeg y4)) = y2 → X7_isPair_b44 x1 x2 (fun v0 v1 v2 v3 m => X7_isPair_b5 x1 x2 n v0 v1 v2 v3 m K) y1 y2 y3 y4 mi K) ∧ ((mi 96 (Int32.toNatClampNeg y4)) = y2 → X7_isPair_b40 x1 x2 (fun v0 v1 v2 v3 m => X7_isPair_b5 x1 x2 n v0 v1 v2 v3 m K) y1 y2 y3 y4 mi K))))))))
set_option maxHeartbeats 4000000 in
set_option maxRecDepth 100000 in
theorem X7_isPair_b5_t {E : km_E} {X : km_X} {mr : km_R} {K : Int32 → km_I → Prop} {x1 : Int32} {x2 : Int32} (hX : km_ok E X rmX7_isPair cX7_isPair 5 wsX7_isPair RX7) (hF : km_fin E X (some .boolean) 0 0 (fun r sh' mi' mr' => sh' = SH ∧ mr' = mr ∧ ∃ i, r = some (.int i) ∧ K i mi')) (kqmr : km_MR mr) : ∀ (n : Nat) (y1 : Int32) (y2 : Int32) (y3 : Int32) (y4 : Int32) (mi : km_I), X7_isPair_b5 x1 x2 n y1 y2 y3 y4 mi K → km_G E X 5 SH mi mr 0 0 5 [(0, .ref 86), (1, .int y1), (2, .int y2), (3, .int y3), (4, .int y4)] [] := by
  intro n
  induction n with
  | zero => intro y1 y2 y3 y4 mi h; exact h.elim
  | succ n ih =>
    intro y1 y2 y3 y4 mi h
    have h : (((mi 86 10) ≤ y4 → (y3 = 0 ∨ y3 = 1) ∧ K y3 mi) ∧ (¬ (mi 86 10) ≤ y4 → ((¬ y3 = 0 → X7_isPair_b40 x1 x2 (fun v0 v1 v2 v3 m => X7_isPair_b5 x1 x2 n v0 v1 v2 v3 m K) y1 y2 y3 y4 mi K) ∧ (y3 = 0 → vp_in y4 6 ∧ ((¬ (mi 95 (Int32.toNatClampNeg y4)) = y1 → X7_isPair_b44 x1 x2 (fun v0 v1 v2 v3 m => X7_isPair_b5 x1 x2 n v0 v1 v2 v3 m K) y1 y2 y3 y4 mi K) ∧ ((mi 95 (Int32.toNatClampNeg y4)) = y1 → vp_in y4 6 ∧ ((¬ (mi 96 (Int32.toNatClampNeg y4)) = y2 → X7_isPair_b44 x1 x2 (fun v0 v1 v2 v3 m => X7_isPair_b5 x1 x2 n v0 v1 v2 v3 m K) y1 y2 y3 y4 mi K) ∧ ((mi 96 (Int32.toNatClampNeg y4)) = y2 → X7_isPair_b40 x1 x2 (fun v0 v1 v2 v3 m => X7_isPair_b5 x1 x2 n v0 v1 v2 v3 m K) y1 y2 y3 y4 mi K)))))))) := h
    refine km_iload hX dX7_isPair_5 rfl ?_
    refine km_aload_n hX dX7_isPair_7 rfl rfl ?_
    refine km_geti hX fX7_isPair_183 shp_86 rfl dX7_isPair_8 ?_
    refine km_icmp_ge (tgt := 52) hX dX7_isPair_11 (by decide) (fun c => ?_) (fun c => ?_)
    · have h := h.1 c
      refine km_iload_n hX dX7_isPair_52 rfl ?_
      obtain ⟨hc, h⟩ := h
      exact km_zret hX hF rfl dX7_isPair_53 hc ⟨rfl, rfl, _, rfl, h⟩ (Nat.le_refl _) (Nat.le_refl _)
    · have h := h.2 c
      refine km_iload_n hX dX7_isPair_14 rfl ?_
      refine km_if_ne (tgt := 40) hX dX7_isPair_15 (by decide) (fun c => ?_) (fun c => ?_)
      · have h := h.1 c
        refine km_ren (ls' := [(0, .ref 86), (1, .int y1), (2, .int y2), (3, .int y3), (4, .int y4)]) [0, 1, 2, 3, 4] rfl ?_
        exact X7_isPair_b40_t hX hF kqmr (fun v0 v1 v2 v3 m hh => ih v0 v1 v2 v3 m hh) _ _ _ _ _ h
      · have h := h.2 c
        refine km_aload_n hX dX7_isPair_18 rfl rfl ?_
        refine km_getr (q := 95) hX fX7_isPair_34 shp_86 rfl dX7_isPair_19 (mrp_86_11 kqmr) ?_
        refine km_iload hX dX7_isPair_22 rfl ?_
        obtain ⟨hc, h⟩ := h
        refine km_iald hX shp_95 hc dX7_isPair_24 ?_
        refine km_iload_n hX dX7_isPair_25 rfl ?_
        refine km_icmp_ne (tgt := 44) hX dX7_isPair_26 (by decide) (fun c => ?_) (fun c => ?_)
        · have h := h.1 c
          refine km_ren (ls' := [(0, .ref 86), (1, .int y1), (2, .int y2), (3, .int y3), (4, .int y4)]) [0, 1, 2, 3, 4] rfl ?_
          exact X7_isPair_b44_t hX hF kqmr (fun v0 v1 v2 v3 m hh => ih v0 v1 v2 v3 m hh) _ _ _ _ _ h
        · have h := h.2 c
          refine km_aload_n hX dX7_isPair_29 rfl rfl ?_
          refine km_getr (q := 96) hX fX7_isPair_37 shp_86 rfl dX7_isPair_30 (mrp_86_12 kqmr) ?_
          refine km_iload hX dX7_isPair_33 rfl ?_
          obtain ⟨hc, h⟩ := h
          refine km_iald hX shp_96 hc dX7_isPair_35 ?_
          refine km_iload_n hX dX7_isPair_36 rfl ?_
          refine km_icmp_ne (tgt := 44) hX dX7_isPair_37 (by decide) (fun c => ?_) (fun c => ?_)
          · have h := h.1 c
            refine km_ren (ls' := [(0, .ref 86), (1, .int y1), (2, .int y2), (3, .int y3), (4, .int y4)]) [0, 1, 2, 3, 4] rfl ?_
            exact X7_isPair_b44_t hX hF kqmr (fun v0 v1 v2 v3 m hh => ih v0 v1 v2 v3 m hh) _ _ _ _ _ h
          · have h := h.2 c
            refine km_ren (ls' := [(0, .ref 86), (1, .int y1), (2, .int y2), (3, .int y3), (4, .int y4)]) [0, 1, 2, 3, 4] rfl ?_
            exact X7_isPair_b40_t hX hF kqmr (fun v0 v1 v2 v3 m hh => ih v0 v1 v2 v3 m hh) _ _ _ _ _ h
def X7_isPair_w (x1 : Int32) (x2 : Int32) (mi : km_I) (K : Int32 → km_I → Prop) : Prop := ∃ k, X7_isPair_b5 x1 x2 k x1 x2 0 0 mi K
set_option maxHeartbeats 4000000 in
set_option maxRecDepth 100000 in
theorem X7_isPair_c {E : km_E} {l : Launch} {mr : km_R} (kqmr : km_MR mr) {x1 : Int32} {x2 : Int32} {mi : km_I} {K : Int32 → km_I → Prop} (h : X7_isPair_w x1 x2 mi K) : km_Ci E l yX7_isPair wsX7_isPair rmX7_isPair [.ref 86, .int x1, .int x2] SH mi mr K := by
  refine km_start (cc := cX7_isPair) (maxL := 5) (ret := (some .boolean)) (by decide) rfl (Nat.le_of_ble_eq_true rfl) ?_
  intro X hl hX hF _
  subst hl

  have h : ∃ k, X7_isPair_b5 x1 x2 k x1 x2 0 0 mi K := h
  refine km_iconst (v := 0) hX dX7_isPair_0 (by decide) ?_
  refine km_istore_n hX dX7_isPair_1 (by decide) ?_
  refine km_iconst (v := 0) hX dX7_isPair_2 (by decide) ?_
  refine km_istore hX dX7_isPair_3 (by decide) ?_
  obtain ⟨n9, h⟩ := h
  refine km_ren (ls' := [(0, .ref 86), (1, .int x1), (2, .int x2), (3, .int 0), (4, .int 0)]) [0, 1, 2, 3, 4] rfl ?_
  exact X7_isPair_b5_t hX hF kqmr n9 _ _ _ _ _ h
def X7_areLike_b148 (Z68 : Int32 → Int32 → km_I → Prop) (y1 : Int32) (y2 : Int32) (z0 : Int32) (mi : km_I) (K : Int32 → km_I → Prop) : Prop := Z68 z0 (y2 + 1) mi
set_option maxHeartbeats 4000000 in
set_option maxRecDepth 100000 in
theorem X7_areLike_b148_t {E : km_E} {X : km_X} {mr : km_R} {K : Int32 → km_I → Prop} {Z68 : Int32 → Int32 → km_I → Prop} (hX : km_ok E X rmX7_areLike cX7_areLike 4 wsX7_areLike RX7) (hF : km_fin E X (some .boolean) 0 0 (fun r sh' mi' mr' => sh' = SH ∧ mr' = mr ∧ ∃ i, r = some (.int i) ∧ K i mi')) (kqmr : km_MR mr) (hZ68 : ∀ (y1 : Int32) (y2 : Int32) (m : km_I), Z68 y1 y2 m → km_G E X 4 SH m mr 0 0 68 [(0, .ref 86), (1, .int y1), (2, .int y2)] []) : ∀ (y1 : Int32) (y2 : Int32) (z0 : Int32) (mi : km_I), X7_areLike_b148 Z68 y1 y2 z0 mi K → km_G E X 4 SH mi mr 0 0 148 [(0, .ref 86), (1, .int y1), (2, .int y2)] [.int z0] := by
  intro y1 y2 z0 mi h
  have h : Z68 z0 (y2 + 1) mi := h
  refine km_istore_n hX dX7_areLike_148 (by decide) ?_
  refine km_iinc (v := 1) hX dX7_areLike_149 (by decide) rfl (by decide) ?_
  refine km_goto (tgt := 68) hX dX7_areLike_152 (by decide) ?_
  refine km_ren (ls' := [(0, .ref 86), (1, .int z0), (2, .int (y2 + 1))]) [0, 1, 2] rfl ?_
  exact hZ68 _ _ _ h
def X7_areLike_b147 (Z68 : Int32 → Int32 → km_I → Prop) (y1 : Int32) (y2 : Int32) (mi : km_I) (K : Int32 → km_I → Prop) : Prop := X7_areLike_b148 Z68 y1 y2 0 mi K
set_option maxHeartbeats 4000000 in
set_option maxRecDepth 100000 in
theorem X7_areLike_b147_t {E : km_E} {X : km_X} {mr : km_R} {K : Int32 → km_I → Prop} {Z68 : Int32 → Int32 → km_I → Prop} (hX : km_ok E X rmX7_areLike cX7_areLike 4 wsX7_areLike RX7) (hF : km_fin E X (some .boolean) 0 0 (fun r sh' mi' mr' => sh' = SH ∧ mr' = mr ∧ ∃ i, r = some (.int i) ∧ K i mi')) (kqmr : km_MR mr) (hZ68 : ∀ (y1 : Int32) (y2 : Int32) (m : km_I), Z68 y1 y2 m → km_G E X 4 SH m mr 0 0 68 [(0, .ref 86), (1, .int y1), (2, .int y2)] []) : ∀ (y1 : Int32) (y2 : Int32) (mi : km_I), X7_areLike_b147 Z68 y1 y2 mi K → km_G E X 4 SH mi mr 0 0 147 [(0, .ref 86), (1, .int y1), (2, .int y2)] [] := by
  intro y1 y2 mi h
  have h : X7_areLike_b148 Z68 y1 y2 0 mi K := h
  refine km_iconst (v := 0) hX dX7_areLike_147 (by decide) ?_
  refine km_ren (ls' := [(0, .ref 86), (1, .int y1), (2, .int y2)]) [0, 1, 2] rfl ?_
  exact X7_areLike_b148_t hX hF kqmr hZ68 _ _ _ _ h
def X7_areLike_b190 (Z157 : Int32 → Int32 → km_I → Prop) (y1 : Int32) (y2 : Int32) (y3 : Int32) (mi : km_I) (K : Int32 → km_I → Prop) : Prop := Z157 y1 (y2 + 1) mi
set_option maxHeartbeats 4000000 in
set_option maxRecDepth 100000 in
theorem X7_areLike_b190_t {E : km_E} {X : km_X} {mr : km_R} {K : Int32 → km_I → Prop} {Z157 : Int32 → Int32 → km_I → Prop} (hX : km_ok E X rmX7_areLike cX7_areLike 4 wsX7_areLike RX7) (hF : km_fin E X (some .boolean) 0 0 (fun r sh' mi' mr' => sh' = SH ∧ mr' = mr ∧ ∃ i, r = some (.int i) ∧ K i mi')) (kqmr : km_MR mr) (hZ157 : ∀ (y1 : Int32) (y2 : Int32) (m : km_I), Z157 y1 y2 m → km_G E X 4 SH m mr 0 0 157 [(0, .ref 86), (1, .int y1), (2, .int y2)] []) : ∀ (y1 : Int32) (y2 : Int32) (y3 : Int32) (mi : km_I), X7_areLike_b190 Z157 y1 y2 y3 mi K → km_G E X 4 SH mi mr 0 0 190 [(0, .ref 86), (1, .int y1), (2, .int y2), (3, .int y3)] [] := by
  intro y1 y2 y3 mi h
  have h : Z157 y1 (y2 + 1) mi := h
  refine km_iinc (v := 1) hX dX7_areLike_190 (by decide) rfl (by decide) ?_
  refine km_goto (tgt := 157) hX dX7_areLike_193 (by decide) ?_
  refine km_ren (ls' := [(0, .ref 86), (1, .int y1), (2, .int (y2 + 1))]) [0, 1, 2] rfl ?_
  exact hZ157 _ _ _ h
def X7_areLike_b168 (Z157 : Int32 → Int32 → km_I → Prop) (n : Nat) (y1 : Int32) (y2 : Int32) (y3 : Int32) (mi : km_I) (K : Int32 → km_I → Prop) : Prop := match n with
  | 0 => False
  | n + 1 => ((3 ≤ y3 → X7_areLike_b190 Z157 y1 y2 y3 mi K) ∧ (¬ 3 ≤ y3 → ((y1 = 0 → X7_areLike_b190 Z157 y1 y2 y3 mi K) ∧ (¬ y1 = 0 → X7_areTellsLike_w y2 y3 mi (fun r180 m180 => X7_areLike_b168 Z157 n r180 y2 (y3 + 1) m180 K)))))
set_option maxHeartbeats 4000000 in
set_option maxRecDepth 100000 in
theorem X7_areLike_b168_t {E : km_E} {X : km_X} {mr : km_R} {K : Int32 → km_I → Prop} {Z157 : Int32 → Int32 → km_I → Prop} (hX : km_ok E X rmX7_areLike cX7_areLike 4 wsX7_areLike RX7) (hF : km_fin E X (some .boolean) 0 0 (fun r sh' mi' mr' => sh' = SH ∧ mr' = mr ∧ ∃ i, r = some (.int i) ∧ K i mi')) (kqmr : km_MR mr) (hZ157 : ∀ (y1 : Int32) (y2 : Int32) (m : km_I), Z157 y1 y2 m → km_G E X 4 SH m mr 0 0 157 [(0, .ref 86), (1, .int y1), (2, .int y2)] []) : ∀ (n : Nat) (y1 : Int32) (y2 : Int32) (y3 : Int32) (mi : km_I), X7_areLike_b168 Z157 n y1 y2 y3 mi K → km_G E X 4 SH mi mr 0 0 168 [(0, .ref 86), (1, .int y1), (2, .int y2), (3, .int y3)] [] := by
  intro n
  induction n with
  | zero => intro y1 y2 y3 mi h; exact h.elim
  | succ n ih =>
    intro y1 y2 y3 mi h
    have h : ((3 ≤ y3 → X7_areLike_b190 Z157 y1 y2 y3 mi K) ∧ (¬ 3 ≤ y3 → ((y1 = 0 → X7_areLike_b190 Z157 y1 y2 y3 mi K) ∧ (¬ y1 = 0 → X7_areTellsLike_w y2 y3 mi (fun r180 m180 => X7_areLike_b168 Z157 n r180 y2 (y3 + 1) m180 K))))) := h
    refine km_iload_n hX dX7_areLike_168 rfl ?_
    refine km_iconst (v := 3) hX dX7_areLike_169 (by decide) ?_
    refine km_icmp_ge (tgt := 190) hX dX7_areLike_170 (by decide) (fun c => ?_) (fun c => ?_)
    · have h := h.1 c
      refine km_ren (ls' := [(0, .ref 86), (1, .int y1), (2, .int y2), (3, .int y3)]) [0, 1, 2, 3] rfl ?_
      exact X7_areLike_b190_t hX hF kqmr hZ157 _ _ _ _ h
    · have h := h.2 c
      refine km_iload_n hX dX7_areLike_173 rfl ?_
      refine km_if_eq (tgt := 190) hX dX7_areLike_174 (by decide) (fun c => ?_) (fun c => ?_)
      · have h := h.1 c
        refine km_ren (ls' := [(0, .ref 86), (1, .int y1), (2, .int y2), (3, .int y3)]) [0, 1, 2, 3] rfl ?_
        exact X7_areLike_b190_t hX hF kqmr hZ157 _ _ _ _ h
      · have h := h.2 c
        refine km_aload_n hX dX7_areLike_177 rfl rfl ?_
        refine km_iload_n hX dX7_areLike_178 rfl ?_
        refine km_iload_n hX dX7_areLike_179 rfl ?_
        refine km_callVi hX dX7_areLike_180 vX7_areLike_189 (X7_areTellsLike_c kqmr h) (by decide) shp_86 rfl rfl (Nat.le_of_ble_eq_true rfl) (fun r180 m180 h => ?_)
        refine km_istore_n hX dX7_areLike_183 (by decide) ?_
        refine km_iinc (v := 1) hX dX7_areLike_184 (by decide) rfl (by decide) ?_
        refine km_goto (tgt := 168) hX dX7_areLike_187 (by decide) ?_
        refine km_ren (ls' := [(0, .ref 86), (1, .int r180), (2, .int y2), (3, .int (y3 + 1))]) [0, 1, 2, 3] rfl ?_
        exact ih _ _ _ _ h
def X7_areLike_b157 (n : Nat) (y1 : Int32) (y2 : Int32) (mi : km_I) (K : Int32 → km_I → Prop) : Prop := match n with
  | 0 => False
  | n + 1 => ((4 ≤ y2 → (y1 = 0 ∨ y1 = 1) ∧ K y1 mi) ∧ (¬ 4 ≤ y2 → ((y1 = 0 → (y1 = 0 ∨ y1 = 1) ∧ K y1 mi) ∧ (¬ y1 = 0 → ∃ k, X7_areLike_b168 (fun v0 v1 m => X7_areLike_b157 n v0 v1 m K) k y1 y2 0 mi K))))
set_option maxHeartbeats 4000000 in
set_option maxRecDepth 100000 in
theorem X7_areLike_b157_t {E : km_E} {X : km_X} {mr : km_R} {K : Int32 → km_I → Prop} (hX : km_ok E X rmX7_areLike cX7_areLike 4 wsX7_areLike RX7) (hF : km_fin E X (some .boolean) 0 0 (fun r sh' mi' mr' => sh' = SH ∧ mr' = mr ∧ ∃ i, r = some (.int i) ∧ K i mi')) (kqmr : km_MR mr) : ∀ (n : Nat) (y1 : Int32) (y2 : Int32) (mi : km_I), X7_areLike_b157 n y1 y2 mi K → km_G E X 4 SH mi mr 0 0 157 [(0, .ref 86), (1, .int y1), (2, .int y2)] [] := by
  intro n
  induction n with
  | zero => intro y1 y2 mi h; exact h.elim
  | succ n ih =>
    intro y1 y2 mi h
    have h : ((4 ≤ y2 → (y1 = 0 ∨ y1 = 1) ∧ K y1 mi) ∧ (¬ 4 ≤ y2 → ((y1 = 0 → (y1 = 0 ∨ y1 = 1) ∧ K y1 mi) ∧ (¬ y1 = 0 → ∃ k, X7_areLike_b168 (fun v0 v1 m => X7_areLike_b157 n v0 v1 m K) k y1 y2 0 mi K)))) := h
    refine km_iload_n hX dX7_areLike_157 rfl ?_
    refine km_iconst (v := 4) hX dX7_areLike_158 (by decide) ?_
    refine km_icmp_ge (tgt := 196) hX dX7_areLike_159 (by decide) (fun c => ?_) (fun c => ?_)
    · have h := h.1 c
      refine km_iload_n hX dX7_areLike_196 rfl ?_
      obtain ⟨hc, h⟩ := h
      exact km_zret hX hF rfl dX7_areLike_197 hc ⟨rfl, rfl, _, rfl, h⟩ (Nat.le_refl _) (Nat.le_refl _)
    · have h := h.2 c
      refine km_iload_n hX dX7_areLike_162 rfl ?_
      refine km_if_eq (tgt := 196) hX dX7_areLike_163 (by decide) (fun c => ?_) (fun c => ?_)
      · have h := h.1 c
        refine km_iload_n hX dX7_areLike_196 rfl ?_
        obtain ⟨hc, h⟩ := h
        exact km_zret hX hF rfl dX7_areLike_197 hc ⟨rfl, rfl, _, rfl, h⟩ (Nat.le_refl _) (Nat.le_refl _)
      · have h := h.2 c
        refine km_iconst (v := 0) hX dX7_areLike_166 (by decide) ?_
        refine km_istore_n hX dX7_areLike_167 (by decide) ?_
        obtain ⟨n9, h⟩ := h
        refine km_ren (ls' := [(0, .ref 86), (1, .int y1), (2, .int y2), (3, .int 0)]) [0, 1, 2, 3] rfl ?_
        exact X7_areLike_b168_t hX hF kqmr (fun v0 v1 m hh => ih v0 v1 m hh) n9 _ _ _ _ h
def X7_areLike_b155 (y1 : Int32) (y2 : Int32) (mi : km_I) (K : Int32 → km_I → Prop) : Prop := ∃ k, X7_areLike_b157 k y1 0 mi K
set_option maxHeartbeats 4000000 in
set_option maxRecDepth 100000 in
theorem X7_areLike_b155_t {E : km_E} {X : km_X} {mr : km_R} {K : Int32 → km_I → Prop} (hX : km_ok E X rmX7_areLike cX7_areLike 4 wsX7_areLike RX7) (hF : km_fin E X (some .boolean) 0 0 (fun r sh' mi' mr' => sh' = SH ∧ mr' = mr ∧ ∃ i, r = some (.int i) ∧ K i mi')) (kqmr : km_MR mr) : ∀ (y1 : Int32) (y2 : Int32) (mi : km_I), X7_areLike_b155 y1 y2 mi K → km_G E X 4 SH mi mr 0 0 155 [(0, .ref 86), (1, .int y1), (2, .int y2)] [] := by
  intro y1 y2 mi h
  have h : ∃ k, X7_areLike_b157 k y1 0 mi K := h
  refine km_iconst (v := 0) hX dX7_areLike_155 (by decide) ?_
  refine km_istore_n hX dX7_areLike_156 (by decide) ?_
  obtain ⟨n9, h⟩ := h
  refine km_ren (ls' := [(0, .ref 86), (1, .int y1), (2, .int 0)]) [0, 1, 2] rfl ?_
  exact X7_areLike_b157_t hX hF kqmr n9 _ _ _ h
def X7_areLike_b68 (n : Nat) (y1 : Int32) (y2 : Int32) (mi : km_I) (K : Int32 → km_I → Prop) : Prop := match n with
  | 0 => False
  | n + 1 => vp_in 1 3 ∧ (((mi 110 (Int32.toNatClampNeg 1)) ≤ y2 → X7_areLike_b155 y1 y2 mi K) ∧ (¬ (mi 110 (Int32.toNatClampNeg 1)) ≤ y2 → ((y1 = 0 → X7_areLike_b155 y1 y2 mi K) ∧ (¬ y1 = 0 → vp_in (2 + y2) 6 ∧ vp_in (4 + y2) 6 ∧ X7_isPair_w (mi 111 (Int32.toNatClampNeg (2 + y2))) (mi 111 (Int32.toNatClampNeg (4 + y2))) mi (fun r99 m99 => ((r99 = 0 → X7_areLike_b147 (fun v0 v1 m => X7_areLike_b68 n v0 v1 m K) y1 y2 m99 K) ∧ (¬ r99 = 0 → vp_in (2 + y2) 6 ∧ vp_in (4 + y2) 6 ∧ ((¬ (m99 112 (Int32.toNatClampNeg (2 + y2))) = (m99 112 (Int32.toNatClampNeg (4 + y2))) → X7_areLike_b147 (fun v0 v1 m => X7_areLike_b68 n v0 v1 m K) y1 y2 m99 K) ∧ ((m99 112 (Int32.toNatClampNeg (2 + y2))) = (m99 112 (Int32.toNatClampNeg (4 + y2))) → vp_in (2 + y2) 6 ∧ vp_in (4 + y2) 6 ∧ ((¬ (m99 113 (Int32.toNatClampNeg (2 + y2))) = (m99 113 (Int32.toNatClampNeg (4 + y2))) → X7_areLike_b147 (fun v0 v1 m => X7_areLike_b68 n v0 v1 m K) y1 y2 m99 K) ∧ ((m99 113 (Int32.toNatClampNeg (2 + y2))) = (m99 113 (Int32.toNatClampNeg (4 + y2))) → X7_areLike_b148 (fun v0 v1 m => X7_areLike_b68 n v0 v1 m K) y1 y2 1 m99 K)))))))))))
set_option maxHeartbeats 4000000 in
set_option maxRecDepth 100000 in
theorem X7_areLike_b68_t {E : km_E} {X : km_X} {mr : km_R} {K : Int32 → km_I → Prop} (hX : km_ok E X rmX7_areLike cX7_areLike 4 wsX7_areLike RX7) (hF : km_fin E X (some .boolean) 0 0 (fun r sh' mi' mr' => sh' = SH ∧ mr' = mr ∧ ∃ i, r = some (.int i) ∧ K i mi')) (kqmr : km_MR mr) : ∀ (n : Nat) (y1 : Int32) (y2 : Int32) (mi : km_I), X7_areLike_b68 n y1 y2 mi K → km_G E X 4 SH mi mr 0 0 68 [(0, .ref 86), (1, .int y1), (2, .int y2)] [] := by
  intro n
  induction n with
  | zero => intro y1 y2 mi h; exact h.elim
  | succ n ih =>
    intro y1 y2 mi h
    have h : vp_in 1 3 ∧ (((mi 110 (Int32.toNatClampNeg 1)) ≤ y2 → X7_areLike_b155 y1 y2 mi K) ∧ (¬ (mi 110 (Int32.toNatClampNeg 1)) ≤ y2 → ((y1 = 0 → X7_areLike_b155 y1 y2 mi K) ∧ (¬ y1 = 0 → vp_in (2 + y2) 6 ∧ vp_in (4 + y2) 6 ∧ X7_isPair_w (mi 111 (Int32.toNatClampNeg (2 + y2))) (mi 111 (Int32.toNatClampNeg (4 + y2))) mi (fun r99 m99 => ((r99 = 0 → X7_areLike_b147 (fun v0 v1 m => X7_areLike_b68 n v0 v1 m K) y1 y2 m99 K) ∧ (¬ r99 = 0 → vp_in (2 + y2) 6 ∧ vp_in (4 + y2) 6 ∧ ((¬ (m99 112 (Int32.toNatClampNeg (2 + y2))) = (m99 112 (Int32.toNatClampNeg (4 + y2))) → X7_areLike_b147 (fun v0 v1 m => X7_areLike_b68 n v0 v1 m K) y1 y2 m99 K) ∧ ((m99 112 (Int32.toNatClampNeg (2 + y2))) = (m99 112 (Int32.toNatClampNeg (4 + y2))) → vp_in (2 + y2) 6 ∧ vp_in (4 + y2) 6 ∧ ((¬ (m99 113 (Int32.toNatClampNeg (2 + y2))) = (m99 113 (Int32.toNatClampNeg (4 + y2))) → X7_areLike_b147 (fun v0 v1 m => X7_areLike_b68 n v0 v1 m K) y1 y2 m99 K) ∧ ((m99 113 (Int32.toNatClampNeg (2 + y2))) = (m99 113 (Int32.toNatClampNeg (4 + y2))) → X7_areLike_b148 (fun v0 v1 m => X7_areLike_b68 n v0 v1 m K) y1 y2 1 m99 K))))))))))) := h
    refine km_iload_n hX dX7_areLike_68 rfl ?_
    refine km_aload_n hX dX7_areLike_69 rfl rfl ?_
    refine km_getr (q := 110) hX fX7_areLike_79 shp_86 rfl dX7_areLike_70 (mrp_86_31 kqmr) ?_
    refine km_iconst (v := 1) hX dX7_areLike_73 (by decide) ?_
    obtain ⟨hc, h⟩ := h
    refine km_iald hX shp_110 hc dX7_areLike_74 ?_
    refine km_icmp_ge (tgt := 155) hX dX7_areLike_75 (by decide) (fun c => ?_) (fun c => ?_)
    · have h := h.1 c
      refine km_ren (ls' := [(0, .ref 86), (1, .int y1), (2, .int y2)]) [0, 1, 2] rfl ?_
      exact X7_areLike_b155_t hX hF kqmr _ _ _ h
    · have h := h.2 c
      refine km_iload_n hX dX7_areLike_78 rfl ?_
      refine km_if_eq (tgt := 155) hX dX7_areLike_79 (by decide) (fun c => ?_) (fun c => ?_)
      · have h := h.1 c
        refine km_ren (ls' := [(0, .ref 86), (1, .int y1), (2, .int y2)]) [0, 1, 2] rfl ?_
        exact X7_areLike_b155_t hX hF kqmr _ _ _ h
      · have h := h.2 c
        refine km_aload_n hX dX7_areLike_82 rfl rfl ?_
        refine km_aload_n hX dX7_areLike_83 rfl rfl ?_
        refine km_getr (q := 111) hX fX7_areLike_82 shp_86 rfl dX7_areLike_84 (mrp_86_32 kqmr) ?_
        refine km_iconst (v := 2) hX dX7_areLike_87 (by decide) ?_
        refine km_iload_n hX dX7_areLike_88 rfl ?_
        refine km_iadd hX dX7_areLike_89 ?_
        obtain ⟨hc, h⟩ := h
        refine km_iald hX shp_111 hc dX7_areLike_90 ?_
        refine km_aload_n hX dX7_areLike_91 rfl rfl ?_
        refine km_getr (q := 111) hX fX7_areLike_82 shp_86 rfl dX7_areLike_92 (mrp_86_32 kqmr) ?_
        refine km_iconst (v := 4) hX dX7_areLike_95 (by decide) ?_
        refine km_iload_n hX dX7_areLike_96 rfl ?_
        refine km_iadd hX dX7_areLike_97 ?_
        obtain ⟨hc, h⟩ := h
        refine km_iald hX shp_111 hc dX7_areLike_98 ?_
        refine km_callVi hX dX7_areLike_99 vX7_areLike_186 (X7_isPair_c kqmr h) (by decide) shp_86 rfl rfl (Nat.le_of_ble_eq_true rfl) (fun r99 m99 h => ?_)
        refine km_if_eq (tgt := 147) hX dX7_areLike_102 (by decide) (fun c => ?_) (fun c => ?_)
        · have h := h.1 c
          refine km_ren (ls' := [(0, .ref 86), (1, .int y1), (2, .int y2)]) [0, 1, 2] rfl ?_
          exact X7_areLike_b147_t hX hF kqmr (fun v0 v1 m hh => ih v0 v1 m hh) _ _ _ h
        · have h := h.2 c
          refine km_aload_n hX dX7_areLike_105 rfl rfl ?_
          refine km_getr (q := 112) hX fX7_areLike_85 shp_86 rfl dX7_areLike_106 (mrp_86_33 kqmr) ?_
          refine km_iconst (v := 2) hX dX7_areLike_109 (by decide) ?_
          refine km_iload_n hX dX7_areLike_110 rfl ?_
          refine km_iadd hX dX7_areLike_111 ?_
          obtain ⟨hc, h⟩ := h
          refine km_iald hX shp_112 hc dX7_areLike_112 ?_
          refine km_aload_n hX dX7_areLike_113 rfl rfl ?_
          refine km_getr (q := 112) hX fX7_areLike_85 shp_86 rfl dX7_areLike_114 (mrp_86_33 kqmr) ?_
          refine km_iconst (v := 4) hX dX7_areLike_117 (by decide) ?_
          refine km_iload_n hX dX7_areLike_118 rfl ?_
          refine km_iadd hX dX7_areLike_119 ?_
          obtain ⟨hc, h⟩ := h
          refine km_iald hX shp_112 hc dX7_areLike_120 ?_
          refine km_icmp_ne (tgt := 147) hX dX7_areLike_121 (by decide) (fun c => ?_) (fun c => ?_)
          · have h := h.1 c
            refine km_ren (ls' := [(0, .ref 86), (1, .int y1), (2, .int y2)]) [0, 1, 2] rfl ?_
            exact X7_areLike_b147_t hX hF kqmr (fun v0 v1 m hh => ih v0 v1 m hh) _ _ _ h
          · have h := h.2 c
            refine km_aload_n hX dX7_areLike_124 rfl rfl ?_
            refine km_getr (q := 113) hX fX7_areLike_88 shp_86 rfl dX7_areLike_125 (mrp_86_34 kqmr) ?_
            refine km_iconst (v := 2) hX dX7_areLike_128 (by decide) ?_
            refine km_iload_n hX dX7_areLike_129 rfl ?_
            refine km_iadd hX dX7_areLike_130 ?_
            obtain ⟨hc, h⟩ := h
            refine km_iald hX shp_113 hc dX7_areLike_131 ?_
            refine km_aload_n hX dX7_areLike_132 rfl rfl ?_
            refine km_getr (q := 113) hX fX7_areLike_88 shp_86 rfl dX7_areLike_133 (mrp_86_34 kqmr) ?_
            refine km_iconst (v := 4) hX dX7_areLike_136 (by decide) ?_
            refine km_iload_n hX dX7_areLike_137 rfl ?_
            refine km_iadd hX dX7_areLike_138 ?_
            obtain ⟨hc, h⟩ := h
            refine km_iald hX shp_113 hc dX7_areLike_139 ?_
            refine km_icmp_ne (tgt := 147) hX dX7_areLike_140 (by decide) (fun c => ?_) (fun c => ?_)
            · have h := h.1 c
              refine km_ren (ls' := [(0, .ref 86), (1, .int y1), (2, .int y2)]) [0, 1, 2] rfl ?_
              exact X7_areLike_b147_t hX hF kqmr (fun v0 v1 m hh => ih v0 v1 m hh) _ _ _ h
            · have h := h.2 c
              refine km_iconst (v := 1) hX dX7_areLike_143 (by decide) ?_
              refine km_goto (tgt := 148) hX dX7_areLike_144 (by decide) ?_
              refine km_ren (ls' := [(0, .ref 86), (1, .int y1), (2, .int y2)]) [0, 1, 2] rfl ?_
              exact X7_areLike_b148_t hX hF kqmr (fun v0 v1 m hh => ih v0 v1 m hh) _ _ _ _ h
def X7_areLike_b65 (z0 : Int32) (mi : km_I) (K : Int32 → km_I → Prop) : Prop := ∃ k, X7_areLike_b68 k z0 0 mi K
set_option maxHeartbeats 4000000 in
set_option maxRecDepth 100000 in
theorem X7_areLike_b65_t {E : km_E} {X : km_X} {mr : km_R} {K : Int32 → km_I → Prop} (hX : km_ok E X rmX7_areLike cX7_areLike 4 wsX7_areLike RX7) (hF : km_fin E X (some .boolean) 0 0 (fun r sh' mi' mr' => sh' = SH ∧ mr' = mr ∧ ∃ i, r = some (.int i) ∧ K i mi')) (kqmr : km_MR mr) : ∀ (z0 : Int32) (mi : km_I), X7_areLike_b65 z0 mi K → km_G E X 4 SH mi mr 0 0 65 [(0, .ref 86)] [.int z0] := by
  intro z0 mi h
  have h : ∃ k, X7_areLike_b68 k z0 0 mi K := h
  refine km_istore_n hX dX7_areLike_65 (by decide) ?_
  refine km_iconst (v := 0) hX dX7_areLike_66 (by decide) ?_
  refine km_istore_n hX dX7_areLike_67 (by decide) ?_
  obtain ⟨n9, h⟩ := h
  refine km_ren (ls' := [(0, .ref 86), (1, .int z0), (2, .int 0)]) [0, 1, 2] rfl ?_
  exact X7_areLike_b68_t hX hF kqmr n9 _ _ _ h
def X7_areLike_b64 (mi : km_I) (K : Int32 → km_I → Prop) : Prop := X7_areLike_b65 0 mi K
set_option maxHeartbeats 4000000 in
set_option maxRecDepth 100000 in
theorem X7_areLike_b64_t {E : km_E} {X : km_X} {mr : km_R} {K : Int32 → km_I → Prop} (hX : km_ok E X rmX7_areLike cX7_areLike 4 wsX7_areLike RX7) (hF : km_fin E X (some .boolean) 0 0 (fun r sh' mi' mr' => sh' = SH ∧ mr' = mr ∧ ∃ i, r = some (.int i) ∧ K i mi')) (kqmr : km_MR mr) : ∀ (mi : km_I), X7_areLike_b64 mi K → km_G E X 4 SH mi mr 0 0 64 [(0, .ref 86)] [] := by
  intro mi h
  have h : X7_areLike_b65 0 mi K := h
  refine km_iconst (v := 0) hX dX7_areLike_64 (by decide) ?_
  refine km_ren (ls' := [(0, .ref 86)]) [0] rfl ?_
  exact X7_areLike_b65_t hX hF kqmr _ _ h
def X7_areLike_w (mi : km_I) (K : Int32 → km_I → Prop) : Prop := vp_in 1 3 ∧ vp_in 2 3 ∧ ((¬ (mi 101 (Int32.toNatClampNeg 1)) = (mi 101 (Int32.toNatClampNeg 2)) → X7_areLike_b64 mi K) ∧ ((mi 101 (Int32.toNatClampNeg 1)) = (mi 101 (Int32.toNatClampNeg 2)) → vp_in 1 3 ∧ vp_in 2 3 ∧ ((¬ (mi 102 (Int32.toNatClampNeg 1)) = (mi 102 (Int32.toNatClampNeg 2)) → X7_areLike_b64 mi K) ∧ ((mi 102 (Int32.toNatClampNeg 1)) = (mi 102 (Int32.toNatClampNeg 2)) → vp_in 1 3 ∧ vp_in 2 3 ∧ ((¬ (mi 103 (Int32.toNatClampNeg 1)) = (mi 103 (Int32.toNatClampNeg 2)) → X7_areLike_b64 mi K) ∧ ((mi 103 (Int32.toNatClampNeg 1)) = (mi 103 (Int32.toNatClampNeg 2)) → vp_in 1 3 ∧ vp_in 2 3 ∧ ((¬ (mi 110 (Int32.toNatClampNeg 1)) = (mi 110 (Int32.toNatClampNeg 2)) → X7_areLike_b64 mi K) ∧ ((mi 110 (Int32.toNatClampNeg 1)) = (mi 110 (Int32.toNatClampNeg 2)) → X7_areLike_b65 1 mi K))))))))
set_option maxHeartbeats 4000000 in
set_option maxRecDepth 100000 in
theorem X7_areLike_c {E : km_E} {l : Launch} {mr : km_R} (kqmr : km_MR mr) {mi : km_I} {K : Int32 → km_I → Prop} (h : X7_areLike_w mi K) : km_Ci E l yX7_areLike wsX7_areLike rmX7_areLike [.ref 86] SH mi mr K := by
  refine km_start (cc := cX7_areLike) (maxL := 4) (ret := (some .boolean)) (by decide) rfl (Nat.le_of_ble_eq_true rfl) ?_
  intro X hl hX hF _
  subst hl

  have h : vp_in 1 3 ∧ vp_in 2 3 ∧ ((¬ (mi 101 (Int32.toNatClampNeg 1)) = (mi 101 (Int32.toNatClampNeg 2)) → X7_areLike_b64 mi K) ∧ ((mi 101 (Int32.toNatClampNeg 1)) = (mi 101 (Int32.toNatClampNeg 2)) → vp_in 1 3 ∧ vp_in 2 3 ∧ ((¬ (mi 102 (Int32.toNatClampNeg 1)) = (mi 102 (Int32.toNatClampNeg 2)) → X7_areLike_b64 mi K) ∧ ((mi 102 (Int32.toNatClampNeg 1)) = (mi 102 (Int32.toNatClampNeg 2)) → vp_in 1 3 ∧ vp_in 2 3 ∧ ((¬ (mi 103 (Int32.toNatClampNeg 1)) = (mi 103 (Int32.toNatClampNeg 2)) → X7_areLike_b64 mi K) ∧ ((mi 103 (Int32.toNatClampNeg 1)) = (mi 103 (Int32.toNatClampNeg 2)) → vp_in 1 3 ∧ vp_in 2 3 ∧ ((¬ (mi 110 (Int32.toNatClampNeg 1)) = (mi 110 (Int32.toNatClampNeg 2)) → X7_areLike_b64 mi K) ∧ ((mi 110 (Int32.toNatClampNeg 1)) = (mi 110 (Int32.toNatClampNeg 2)) → X7_areLike_b65 1 mi K)))))))) := h
  refine km_aload_n hX dX7_areLike_0 rfl rfl ?_
  refine km_getr (q := 101) hX fX7_areLike_52 shp_86 rfl dX7_areLike_1 (mrp_86_22 kqmr) ?_
  refine km_iconst (v := 1) hX dX7_areLike_4 (by decide) ?_
  obtain ⟨hc, h⟩ := h
  refine km_iald hX shp_101 hc dX7_areLike_5 ?_
  refine km_aload_n hX dX7_areLike_6 rfl rfl ?_
  refine km_getr (q := 101) hX fX7_areLike_52 shp_86 rfl dX7_areLike_7 (mrp_86_22 kqmr) ?_
  refine km_iconst (v := 2) hX dX7_areLike_10 (by decide) ?_
  obtain ⟨hc, h⟩ := h
  refine km_iald hX shp_101 hc dX7_areLike_11 ?_
  refine km_icmp_ne (tgt := 64) hX dX7_areLike_12 (by decide) (fun c => ?_) (fun c => ?_)
  · have h := h.1 c
    refine km_ren (ls' := [(0, .ref 86)]) [0] rfl ?_
    exact X7_areLike_b64_t hX hF kqmr _ h
  · have h := h.2 c
    refine km_aload_n hX dX7_areLike_15 rfl rfl ?_
    refine km_getr (q := 102) hX fX7_areLike_55 shp_86 rfl dX7_areLike_16 (mrp_86_23 kqmr) ?_
    refine km_iconst (v := 1) hX dX7_areLike_19 (by decide) ?_
    obtain ⟨hc, h⟩ := h
    refine km_iald hX shp_102 hc dX7_areLike_20 ?_
    refine km_aload_n hX dX7_areLike_21 rfl rfl ?_
    refine km_getr (q := 102) hX fX7_areLike_55 shp_86 rfl dX7_areLike_22 (mrp_86_23 kqmr) ?_
    refine km_iconst (v := 2) hX dX7_areLike_25 (by decide) ?_
    obtain ⟨hc, h⟩ := h
    refine km_iald hX shp_102 hc dX7_areLike_26 ?_
    refine km_icmp_ne (tgt := 64) hX dX7_areLike_27 (by decide) (fun c => ?_) (fun c => ?_)
    · have h := h.1 c
      refine km_ren (ls' := [(0, .ref 86)]) [0] rfl ?_
      exact X7_areLike_b64_t hX hF kqmr _ h
    · have h := h.2 c
      refine km_aload_n hX dX7_areLike_30 rfl rfl ?_
      refine km_getr (q := 103) hX fX7_areLike_58 shp_86 rfl dX7_areLike_31 (mrp_86_24 kqmr) ?_
      refine km_iconst (v := 1) hX dX7_areLike_34 (by decide) ?_
      obtain ⟨hc, h⟩ := h
      refine km_iald hX shp_103 hc dX7_areLike_35 ?_
      refine km_aload_n hX dX7_areLike_36 rfl rfl ?_
      refine km_getr (q := 103) hX fX7_areLike_58 shp_86 rfl dX7_areLike_37 (mrp_86_24 kqmr) ?_
      refine km_iconst (v := 2) hX dX7_areLike_40 (by decide) ?_
      obtain ⟨hc, h⟩ := h
      refine km_iald hX shp_103 hc dX7_areLike_41 ?_
      refine km_icmp_ne (tgt := 64) hX dX7_areLike_42 (by decide) (fun c => ?_) (fun c => ?_)
      · have h := h.1 c
        refine km_ren (ls' := [(0, .ref 86)]) [0] rfl ?_
        exact X7_areLike_b64_t hX hF kqmr _ h
      · have h := h.2 c
        refine km_aload_n hX dX7_areLike_45 rfl rfl ?_
        refine km_getr (q := 110) hX fX7_areLike_79 shp_86 rfl dX7_areLike_46 (mrp_86_31 kqmr) ?_
        refine km_iconst (v := 1) hX dX7_areLike_49 (by decide) ?_
        obtain ⟨hc, h⟩ := h
        refine km_iald hX shp_110 hc dX7_areLike_50 ?_
        refine km_aload_n hX dX7_areLike_51 rfl rfl ?_
        refine km_getr (q := 110) hX fX7_areLike_79 shp_86 rfl dX7_areLike_52 (mrp_86_31 kqmr) ?_
        refine km_iconst (v := 2) hX dX7_areLike_55 (by decide) ?_
        obtain ⟨hc, h⟩ := h
        refine km_iald hX shp_110 hc dX7_areLike_56 ?_
        refine km_icmp_ne (tgt := 64) hX dX7_areLike_57 (by decide) (fun c => ?_) (fun c => ?_)
        · have h := h.1 c
          refine km_ren (ls' := [(0, .ref 86)]) [0] rfl ?_
          exact X7_areLike_b64_t hX hF kqmr _ h
        · have h := h.2 c
          refine km_iconst (v := 1) hX dX7_areLike_60 (by decide) ?_
          refine km_goto (tgt := 65) hX dX7_areLike_61 (by decide) ?_
          refine km_ren (ls' := [(0, .ref 86)]) [0] rfl ?_
          exact X7_areLike_b65_t hX hF kqmr _ _ h
def X7_held_b99 (x1 : Int32) (x2 : Int32) (Z10 : Int32 → Int32 → Int32 → Int32 → km_I → Prop) (Z22 : Int32 → Int32 → Int32 → Int32 → Int32 → km_I → Prop) (y1 : Int32) (y2 : Int32) (y3 : Int32) (y4 : Int32) (y5 : Int32) (mi : km_I) (K : Int32 → km_I → Prop) : Prop := Z22 y1 y2 y3 y4 (y5 + 1) mi
set_option maxHeartbeats 4000000 in
set_option maxRecDepth 100000 in
theorem X7_held_b99_t {E : km_E} {X : km_X} {mr : km_R} {K : Int32 → km_I → Prop} {x1 : Int32} {x2 : Int32} {Z10 : Int32 → Int32 → Int32 → Int32 → km_I → Prop} {Z22 : Int32 → Int32 → Int32 → Int32 → Int32 → km_I → Prop} (hX : km_ok E X rmX7_held cX7_held 6 wsX7_held RX7) (hF : km_fin E X (some .int) 0 0 (fun r sh' mi' mr' => sh' = SH ∧ mr' = mr ∧ ∃ i, r = some (.int i) ∧ K i mi')) (kqmr : km_MR mr) (hZ10 : ∀ (y1 : Int32) (y2 : Int32) (y3 : Int32) (y4 : Int32) (m : km_I), Z10 y1 y2 y3 y4 m → km_G E X 6 SH m mr 0 0 10 [(0, .ref 86), (1, .int y1), (2, .int y2), (3, .int y3), (4, .int y4)] []) (hZ22 : ∀ (y1 : Int32) (y2 : Int32) (y3 : Int32) (y4 : Int32) (y5 : Int32) (m : km_I), Z22 y1 y2 y3 y4 y5 m → km_G E X 6 SH m mr 0 0 22 [(0, .ref 86), (1, .int y1), (2, .int y2), (3, .int y3), (4, .int y4), (5, .int y5)] []) : ∀ (y1 : Int32) (y2 : Int32) (y3 : Int32) (y4 : Int32) (y5 : Int32) (mi : km_I), X7_held_b99 x1 x2 Z10 Z22 y1 y2 y3 y4 y5 mi K → km_G E X 6 SH mi mr 0 0 99 [(0, .ref 86), (1, .int y1), (2, .int y2), (3, .int y3), (4, .int y4), (5, .int y5)] [] := by
  intro y1 y2 y3 y4 y5 mi h
  have h : Z22 y1 y2 y3 y4 (y5 + 1) mi := h
  refine km_iinc (v := 1) hX dX7_held_99 (by decide) rfl (by decide) ?_
  refine km_goto (tgt := 22) hX dX7_held_102 (by decide) ?_
  refine km_ren (ls' := [(0, .ref 86), (1, .int y1), (2, .int y2), (3, .int y3), (4, .int y4), (5, .int (y5 + 1))]) [0, 1, 2, 3, 4, 5] rfl ?_
  exact hZ22 _ _ _ _ _ _ h
def X7_held_b73 (x1 : Int32) (x2 : Int32) (Z10 : Int32 → Int32 → Int32 → Int32 → km_I → Prop) (Z22 : Int32 → Int32 → Int32 → Int32 → Int32 → km_I → Prop) (y1 : Int32) (y2 : Int32) (y3 : Int32) (y4 : Int32) (y5 : Int32) (mi : km_I) (K : Int32 → km_I → Prop) : Prop := X7_held_b99 x1 x2 Z10 Z22 y1 y2 2 y4 y5 mi K
set_option maxHeartbeats 4000000 in
set_option maxRecDepth 100000 in
theorem X7_held_b73_t {E : km_E} {X : km_X} {mr : km_R} {K : Int32 → km_I → Prop} {x1 : Int32} {x2 : Int32} {Z10 : Int32 → Int32 → Int32 → Int32 → km_I → Prop} {Z22 : Int32 → Int32 → Int32 → Int32 → Int32 → km_I → Prop} (hX : km_ok E X rmX7_held cX7_held 6 wsX7_held RX7) (hF : km_fin E X (some .int) 0 0 (fun r sh' mi' mr' => sh' = SH ∧ mr' = mr ∧ ∃ i, r = some (.int i) ∧ K i mi')) (kqmr : km_MR mr) (hZ10 : ∀ (y1 : Int32) (y2 : Int32) (y3 : Int32) (y4 : Int32) (m : km_I), Z10 y1 y2 y3 y4 m → km_G E X 6 SH m mr 0 0 10 [(0, .ref 86), (1, .int y1), (2, .int y2), (3, .int y3), (4, .int y4)] []) (hZ22 : ∀ (y1 : Int32) (y2 : Int32) (y3 : Int32) (y4 : Int32) (y5 : Int32) (m : km_I), Z22 y1 y2 y3 y4 y5 m → km_G E X 6 SH m mr 0 0 22 [(0, .ref 86), (1, .int y1), (2, .int y2), (3, .int y3), (4, .int y4), (5, .int y5)] []) : ∀ (y1 : Int32) (y2 : Int32) (y3 : Int32) (y4 : Int32) (y5 : Int32) (mi : km_I), X7_held_b73 x1 x2 Z10 Z22 y1 y2 y3 y4 y5 mi K → km_G E X 6 SH mi mr 0 0 73 [(0, .ref 86), (1, .int y1), (2, .int y2), (3, .int y3), (4, .int y4), (5, .int y5)] [] := by
  intro y1 y2 y3 y4 y5 mi h
  have h : X7_held_b99 x1 x2 Z10 Z22 y1 y2 2 y4 y5 mi K := h
  refine km_iconst (v := 2) hX dX7_held_73 (by decide) ?_
  refine km_istore_n hX dX7_held_74 (by decide) ?_
  refine km_goto (tgt := 99) hX dX7_held_75 (by decide) ?_
  refine km_ren (ls' := [(0, .ref 86), (1, .int y1), (2, .int y2), (3, .int 2), (4, .int y4), (5, .int y5)]) [0, 1, 2, 3, 4, 5] rfl ?_
  exact X7_held_b99_t hX hF kqmr hZ10 hZ22 _ _ _ _ _ _ h
def X7_held_b22 (x1 : Int32) (x2 : Int32) (Z10 : Int32 → Int32 → Int32 → Int32 → km_I → Prop) (n : Nat) (y1 : Int32) (y2 : Int32) (y3 : Int32) (y4 : Int32) (y5 : Int32) (mi : km_I) (K : Int32 → km_I → Prop) : Prop := match n with
  | 0 => False
  | n + 1 => (((mi 86 1) < y5 → Z10 y1 y2 y3 (y4 + 1) mi) ∧ (¬ (mi 86 1) < y5 → X7_play_w 1 0 y1 y4 y5 mi (fun m39 => X7_play_w 2 1 y2 y4 y5 m39 (fun m50 => vp_in 1 3 ∧ (((m50 101 (Int32.toNatClampNeg 1)) = 2 → X7_held_b73 x1 x2 Z10 (fun v0 v1 v2 v3 v4 m => X7_held_b22 x1 x2 Z10 n v0 v1 v2 v3 v4 m K) y1 y2 y3 y4 y5 m50 K) ∧ (¬ (m50 101 (Int32.toNatClampNeg 1)) = 2 → vp_in 2 3 ∧ ((¬ (m50 101 (Int32.toNatClampNeg 2)) = 2 → X7_areLike_w m50 (fun r79 m79 => ((¬ r79 = 0 → X7_held_b99 x1 x2 Z10 (fun v0 v1 v2 v3 v4 m => X7_held_b22 x1 x2 Z10 n v0 v1 v2 v3 v4 m K) y1 y2 y3 y4 y5 m79 K) ∧ (r79 = 0 → (∀ m88, m88 = km_u m79 86 35 y4 → (∀ m94, m94 = km_u m88 86 36 y5 → K 0 m94)))))) ∧ ((m50 101 (Int32.toNatClampNeg 2)) = 2 → X7_held_b73 x1 x2 Z10 (fun v0 v1 v2 v3 v4 m => X7_held_b22 x1 x2 Z10 n v0 v1 v2 v3 v4 m K) y1 y2 y3 y4 y5 m50 K))))))))
set_option maxHeartbeats 4000000 in
set_option maxRecDepth 100000 in
theorem X7_held_b22_t {E : km_E} {X : km_X} {mr : km_R} {K : Int32 → km_I → Prop} {x1 : Int32} {x2 : Int32} {Z10 : Int32 → Int32 → Int32 → Int32 → km_I → Prop} (hX : km_ok E X rmX7_held cX7_held 6 wsX7_held RX7) (hF : km_fin E X (some .int) 0 0 (fun r sh' mi' mr' => sh' = SH ∧ mr' = mr ∧ ∃ i, r = some (.int i) ∧ K i mi')) (kqmr : km_MR mr) (hZ10 : ∀ (y1 : Int32) (y2 : Int32) (y3 : Int32) (y4 : Int32) (m : km_I), Z10 y1 y2 y3 y4 m → km_G E X 6 SH m mr 0 0 10 [(0, .ref 86), (1, .int y1), (2, .int y2), (3, .int y3), (4, .int y4)] []) : ∀ (n : Nat) (y1 : Int32) (y2 : Int32) (y3 : Int32) (y4 : Int32) (y5 : Int32) (mi : km_I), X7_held_b22 x1 x2 Z10 n y1 y2 y3 y4 y5 mi K → km_G E X 6 SH mi mr 0 0 22 [(0, .ref 86), (1, .int y1), (2, .int y2), (3, .int y3), (4, .int y4), (5, .int y5)] [] := by
  intro n
  induction n with
  | zero => intro y1 y2 y3 y4 y5 mi h; exact h.elim
  | succ n ih =>
    intro y1 y2 y3 y4 y5 mi h
    have h : (((mi 86 1) < y5 → Z10 y1 y2 y3 (y4 + 1) mi) ∧ (¬ (mi 86 1) < y5 → X7_play_w 1 0 y1 y4 y5 mi (fun m39 => X7_play_w 2 1 y2 y4 y5 m39 (fun m50 => vp_in 1 3 ∧ (((m50 101 (Int32.toNatClampNeg 1)) = 2 → X7_held_b73 x1 x2 Z10 (fun v0 v1 v2 v3 v4 m => X7_held_b22 x1 x2 Z10 n v0 v1 v2 v3 v4 m K) y1 y2 y3 y4 y5 m50 K) ∧ (¬ (m50 101 (Int32.toNatClampNeg 1)) = 2 → vp_in 2 3 ∧ ((¬ (m50 101 (Int32.toNatClampNeg 2)) = 2 → X7_areLike_w m50 (fun r79 m79 => ((¬ r79 = 0 → X7_held_b99 x1 x2 Z10 (fun v0 v1 v2 v3 v4 m => X7_held_b22 x1 x2 Z10 n v0 v1 v2 v3 v4 m K) y1 y2 y3 y4 y5 m79 K) ∧ (r79 = 0 → (∀ m88, m88 = km_u m79 86 35 y4 → (∀ m94, m94 = km_u m88 86 36 y5 → K 0 m94)))))) ∧ ((m50 101 (Int32.toNatClampNeg 2)) = 2 → X7_held_b73 x1 x2 Z10 (fun v0 v1 v2 v3 v4 m => X7_held_b22 x1 x2 Z10 n v0 v1 v2 v3 v4 m K) y1 y2 y3 y4 y5 m50 K)))))))) := h
    refine km_iload hX dX7_held_22 rfl ?_
    refine km_aload_n hX dX7_held_24 rfl rfl ?_
    refine km_geti hX fX7_held_107 shp_86 rfl dX7_held_25 ?_
    refine km_icmp_gt (tgt := 105) hX dX7_held_28 (by decide) (fun c => ?_) (fun c => ?_)
    · have h := h.1 c
      refine km_iinc (v := 1) hX dX7_held_105 (by decide) rfl (by decide) ?_
      refine km_goto (tgt := 10) hX dX7_held_108 (by decide) ?_
      refine km_ren (ls' := [(0, .ref 86), (1, .int y1), (2, .int y2), (3, .int y3), (4, .int (y4 + 1))]) [0, 1, 2, 3, 4] rfl ?_
      exact hZ10 _ _ _ _ _ h
    · have h := h.2 c
      refine km_aload_n hX dX7_held_31 rfl rfl ?_
      refine km_iconst (v := 1) hX dX7_held_32 (by decide) ?_
      refine km_iconst (v := 0) hX dX7_held_33 (by decide) ?_
      refine km_iload_n hX dX7_held_34 rfl ?_
      refine km_iload hX dX7_held_35 rfl ?_
      refine km_iload hX dX7_held_37 rfl ?_
      refine km_callVv hX dX7_held_39 vX7_held_171 (X7_play_c kqmr h) (by decide) shp_86 rfl rfl (Nat.le_of_ble_eq_true rfl) (fun m39 h => ?_)
      refine km_aload_n hX dX7_held_42 rfl rfl ?_
      refine km_iconst (v := 2) hX dX7_held_43 (by decide) ?_
      refine km_iconst (v := 1) hX dX7_held_44 (by decide) ?_
      refine km_iload_n hX dX7_held_45 rfl ?_
      refine km_iload hX dX7_held_46 rfl ?_
      refine km_iload hX dX7_held_48 rfl ?_
      refine km_callVv hX dX7_held_50 vX7_held_171 (X7_play_c kqmr h) (by decide) shp_86 rfl rfl (Nat.le_of_ble_eq_true rfl) (fun m50 h => ?_)
      refine km_aload_n hX dX7_held_53 rfl rfl ?_
      refine km_getr (q := 101) hX fX7_held_52 shp_86 rfl dX7_held_54 (mrp_86_22 kqmr) ?_
      refine km_iconst (v := 1) hX dX7_held_57 (by decide) ?_
      obtain ⟨hc, h⟩ := h
      refine km_iald hX shp_101 hc dX7_held_58 ?_
      refine km_iconst (v := 2) hX dX7_held_59 (by decide) ?_
      refine km_icmp_eq (tgt := 73) hX dX7_held_60 (by decide) (fun c => ?_) (fun c => ?_)
      · have h := h.1 c
        refine km_ren (ls' := [(0, .ref 86), (1, .int y1), (2, .int y2), (3, .int y3), (4, .int y4), (5, .int y5)]) [0, 1, 2, 3, 4, 5] rfl ?_
        exact X7_held_b73_t hX hF kqmr hZ10 (fun v0 v1 v2 v3 v4 m hh => ih v0 v1 v2 v3 v4 m hh) _ _ _ _ _ _ h
      · have h := h.2 c
        refine km_aload_n hX dX7_held_63 rfl rfl ?_
        refine km_getr (q := 101) hX fX7_held_52 shp_86 rfl dX7_held_64 (mrp_86_22 kqmr) ?_
        refine km_iconst (v := 2) hX dX7_held_67 (by decide) ?_
        obtain ⟨hc, h⟩ := h
        refine km_iald hX shp_101 hc dX7_held_68 ?_
        refine km_iconst (v := 2) hX dX7_held_69 (by decide) ?_
        refine km_icmp_ne (tgt := 78) hX dX7_held_70 (by decide) (fun c => ?_) (fun c => ?_)
        · have h := h.1 c
          refine km_aload_n hX dX7_held_78 rfl rfl ?_
          refine km_callVi hX dX7_held_79 vX7_held_192 (X7_areLike_c kqmr h) (by decide) shp_86 rfl rfl (Nat.le_of_ble_eq_true rfl) (fun r79 m79 h => ?_)
          refine km_if_ne (tgt := 99) hX dX7_held_82 (by decide) (fun c => ?_) (fun c => ?_)
          · have h := h.1 c
            refine km_ren (ls' := [(0, .ref 86), (1, .int y1), (2, .int y2), (3, .int y3), (4, .int y4), (5, .int y5)]) [0, 1, 2, 3, 4, 5] rfl ?_
            exact X7_held_b99_t hX hF kqmr hZ10 (fun v0 v1 v2 v3 v4 m hh => ih v0 v1 v2 v3 v4 m hh) _ _ _ _ _ _ h
          · have h := h.2 c
            refine km_aload_n hX dX7_held_85 rfl rfl ?_
            refine km_iload hX dX7_held_86 rfl ?_
            refine km_putiN hX pX7_held_196 shp_86 rfl dX7_held_88 (fun m88 e88 => ?_)
            have h := h m88 e88
            refine km_aload_n hX dX7_held_91 rfl rfl ?_
            refine km_iload hX dX7_held_92 rfl ?_
            refine km_putiN hX pX7_held_199 shp_86 rfl dX7_held_94 (fun m94 e94 => ?_)
            have h := h m94 e94
            refine km_iconst (v := 0) hX dX7_held_97 (by decide) ?_
            exact km_iret hX hF rfl dX7_held_98 ⟨rfl, rfl, _, rfl, h⟩ (Nat.le_refl _) (Nat.le_refl _)
        · have h := h.2 c
          refine km_ren (ls' := [(0, .ref 86), (1, .int y1), (2, .int y2), (3, .int y3), (4, .int y4), (5, .int y5)]) [0, 1, 2, 3, 4, 5] rfl ?_
          exact X7_held_b73_t hX hF kqmr hZ10 (fun v0 v1 v2 v3 v4 m hh => ih v0 v1 v2 v3 v4 m hh) _ _ _ _ _ _ h
def X7_held_b10 (x1 : Int32) (x2 : Int32) (n : Nat) (y1 : Int32) (y2 : Int32) (y3 : Int32) (y4 : Int32) (mi : km_I) (K : Int32 → km_I → Prop) : Prop := match n with
  | 0 => False
  | n + 1 => (((mi 86 1) < y4 → K y3 mi) ∧ (¬ (mi 86 1) < y4 → ∃ k, X7_held_b22 x1 x2 (fun v0 v1 v2 v3 m => X7_held_b10 x1 x2 n v0 v1 v2 v3 m K) k y1 y2 y3 y4 0 mi K))
set_option maxHeartbeats 4000000 in
set_option maxRecDepth 100000 in
theorem X7_held_b10_t {E : km_E} {X : km_X} {mr : km_R} {K : Int32 → km_I → Prop} {x1 : Int32} {x2 : Int32} (hX : km_ok E X rmX7_held cX7_held 6 wsX7_held RX7) (hF : km_fin E X (some .int) 0 0 (fun r sh' mi' mr' => sh' = SH ∧ mr' = mr ∧ ∃ i, r = some (.int i) ∧ K i mi')) (kqmr : km_MR mr) : ∀ (n : Nat) (y1 : Int32) (y2 : Int32) (y3 : Int32) (y4 : Int32) (mi : km_I), X7_held_b10 x1 x2 n y1 y2 y3 y4 mi K → km_G E X 6 SH mi mr 0 0 10 [(0, .ref 86), (1, .int y1), (2, .int y2), (3, .int y3), (4, .int y4)] [] := by
  intro n
  induction n with
  | zero => intro y1 y2 y3 y4 mi h; exact h.elim
  | succ n ih =>
    intro y1 y2 y3 y4 mi h
    have h : (((mi 86 1) < y4 → K y3 mi) ∧ (¬ (mi 86 1) < y4 → ∃ k, X7_held_b22 x1 x2 (fun v0 v1 v2 v3 m => X7_held_b10 x1 x2 n v0 v1 v2 v3 m K) k y1 y2 y3 y4 0 mi K)) := h
    refine km_iload hX dX7_held_10 rfl ?_
    refine km_aload_n hX dX7_held_12 rfl rfl ?_
    refine km_geti hX fX7_held_107 shp_86 rfl dX7_held_13 ?_
    refine km_icmp_gt (tgt := 111) hX dX7_held_16 (by decide) (fun c => ?_) (fun c => ?_)
    · have h := h.1 c
      refine km_iload_n hX dX7_held_111 rfl ?_
      exact km_iret hX hF rfl dX7_held_112 ⟨rfl, rfl, _, rfl, h⟩ (Nat.le_refl _) (Nat.le_refl _)
    · have h := h.2 c
      refine km_iconst (v := 0) hX dX7_held_19 (by decide) ?_
      refine km_istore hX dX7_held_20 (by decide) ?_
      obtain ⟨n9, h⟩ := h
      refine km_ren (ls' := [(0, .ref 86), (1, .int y1), (2, .int y2), (3, .int y3), (4, .int y4), (5, .int 0)]) [0, 1, 2, 3, 4, 5] rfl ?_
      exact X7_held_b22_t hX hF kqmr (fun v0 v1 v2 v3 m hh => ih v0 v1 v2 v3 m hh) n9 _ _ _ _ _ _ h
def X7_held_w (x1 : Int32) (x2 : Int32) (mi : km_I) (K : Int32 → km_I → Prop) : Prop := (∀ m4, m4 = km_u mi 86 19 0 → ∃ k, X7_held_b10 x1 x2 k x1 x2 1 0 m4 K)
set_option maxHeartbeats 4000000 in
set_option maxRecDepth 100000 in
theorem X7_held_c {E : km_E} {l : Launch} {mr : km_R} (kqmr : km_MR mr) {x1 : Int32} {x2 : Int32} {mi : km_I} {K : Int32 → km_I → Prop} (h : X7_held_w x1 x2 mi K) : km_Ci E l yX7_held wsX7_held rmX7_held [.ref 86, .int x1, .int x2] SH mi mr K := by
  refine km_start (cc := cX7_held) (maxL := 6) (ret := (some .int)) (by decide) rfl (Nat.le_of_ble_eq_true rfl) ?_
  intro X hl hX hF _
  subst hl

  have h : (∀ m4, m4 = km_u mi 86 19 0 → ∃ k, X7_held_b10 x1 x2 k x1 x2 1 0 m4 K) := h
  refine km_iconst (v := 1) hX dX7_held_0 (by decide) ?_
  refine km_istore_n hX dX7_held_1 (by decide) ?_
  refine km_aload_n hX dX7_held_2 rfl rfl ?_
  refine km_iconst (v := 0) hX dX7_held_3 (by decide) ?_
  refine km_putzN hX pX7_held_139 shp_86 rfl dX7_held_4 (Or.inl rfl) (fun m4 e4 => ?_)
  have h := h m4 e4
  refine km_iconst (v := 0) hX dX7_held_7 (by decide) ?_
  refine km_istore hX dX7_held_8 (by decide) ?_
  obtain ⟨n9, h⟩ := h
  refine km_ren (ls' := [(0, .ref 86), (1, .int x1), (2, .int x2), (3, .int 1), (4, .int 0)]) [0, 1, 2, 3, 4] rfl ?_
  exact X7_held_b10_t hX hF kqmr n9 _ _ _ _ _ h
def X7_hold_b57 (x1 : Int32) (x2 : Int32) (y1 : Int32) (y2 : Int32) (y3 : Int32) (z0 : Int32) (mi : km_I) (K : Int32 → km_I → Prop) : Prop := (∀ m57, m57 = km_u mi 86 38 z0 → K y3 m57)
set_option maxHeartbeats 4000000 in
set_option maxRecDepth 100000 in
theorem X7_hold_b57_t {E : km_E} {X : km_X} {mr : km_R} {K : Int32 → km_I → Prop} {x1 : Int32} {x2 : Int32} (hX : km_ok E X rmX7_hold cX7_hold 4 wsX7_hold RX7) (hF : km_fin E X (some .int) 0 0 (fun r sh' mi' mr' => sh' = SH ∧ mr' = mr ∧ ∃ i, r = some (.int i) ∧ K i mi')) (kqmr : km_MR mr) : ∀ (y1 : Int32) (y2 : Int32) (y3 : Int32) (z0 : Int32) (mi : km_I), X7_hold_b57 x1 x2 y1 y2 y3 z0 mi K → km_G E X 4 SH mi mr 0 0 57 [(0, .ref 86), (1, .int y1), (2, .int y2), (3, .int y3)] [.int z0, .ref 86] := by
  intro y1 y2 y3 z0 mi h
  have h : (∀ m57, m57 = km_u mi 86 38 z0 → K y3 m57) := h
  refine km_putiN hX pX7_hold_95 shp_86 rfl dX7_hold_57 (fun m57 e57 => ?_)
  have h := h m57 e57
  refine km_iload_n hX dX7_hold_60 rfl ?_
  exact km_iret hX hF rfl dX7_hold_61 ⟨rfl, rfl, _, rfl, h⟩ (Nat.le_refl _) (Nat.le_refl _)
def X7_hold_b41 (x1 : Int32) (x2 : Int32) (y1 : Int32) (y2 : Int32) (y3 : Int32) (z0 : Int32) (mi : km_I) (K : Int32 → km_I → Prop) : Prop := (∀ m41, m41 = km_u mi 86 37 z0 → ((¬ y3 = 0 → X7_hold_b57 x1 x2 y1 y2 y3 (-1) m41 K) ∧ (y3 = 0 → X7_hold_b57 x1 x2 y1 y2 y3 (m41 86 36) m41 K)))
set_option maxHeartbeats 4000000 in
set_option maxRecDepth 100000 in
theorem X7_hold_b41_t {E : km_E} {X : km_X} {mr : km_R} {K : Int32 → km_I → Prop} {x1 : Int32} {x2 : Int32} (hX : km_ok E X rmX7_hold cX7_hold 4 wsX7_hold RX7) (hF : km_fin E X (some .int) 0 0 (fun r sh' mi' mr' => sh' = SH ∧ mr' = mr ∧ ∃ i, r = some (.int i) ∧ K i mi')) (kqmr : km_MR mr) : ∀ (y1 : Int32) (y2 : Int32) (y3 : Int32) (z0 : Int32) (mi : km_I), X7_hold_b41 x1 x2 y1 y2 y3 z0 mi K → km_G E X 4 SH mi mr 0 0 41 [(0, .ref 86), (1, .int y1), (2, .int y2), (3, .int y3)] [.int z0, .ref 86] := by
  intro y1 y2 y3 z0 mi h
  have h : (∀ m41, m41 = km_u mi 86 37 z0 → ((¬ y3 = 0 → X7_hold_b57 x1 x2 y1 y2 y3 (-1) m41 K) ∧ (y3 = 0 → X7_hold_b57 x1 x2 y1 y2 y3 (m41 86 36) m41 K))) := h
  refine km_putiN hX pX7_hold_91 shp_86 rfl dX7_hold_41 (fun m41 e41 => ?_)
  have h := h m41 e41
  refine km_aload_n hX dX7_hold_44 rfl rfl ?_
  refine km_iload_n hX dX7_hold_45 rfl ?_
  refine km_if_ne (tgt := 56) hX dX7_hold_46 (by decide) (fun c => ?_) (fun c => ?_)
  · have h := h.1 c
    refine km_iconst (v := -1) hX dX7_hold_56 (by decide) ?_
    refine km_ren (ls' := [(0, .ref 86), (1, .int y1), (2, .int y2), (3, .int y3)]) [0, 1, 2, 3] rfl ?_
    exact X7_hold_b57_t hX hF kqmr _ _ _ _ _ h
  · have h := h.2 c
    refine km_aload_n hX dX7_hold_49 rfl rfl ?_
    refine km_geti hX fX7_hold_199 shp_86 rfl dX7_hold_50 ?_
    refine km_goto (tgt := 57) hX dX7_hold_53 (by decide) ?_
    refine km_ren (ls' := [(0, .ref 86), (1, .int y1), (2, .int y2), (3, .int y3)]) [0, 1, 2, 3] rfl ?_
    exact X7_hold_b57_t hX hF kqmr _ _ _ _ _ h
def X7_hold_w (x1 : Int32) (x2 : Int32) (mi : km_I) (K : Int32 → km_I → Prop) : Prop := X7_isMethod_w 0 x1 mi (fun r3 m3 => ((r3 = 0 → K (-101) m3) ∧ (¬ r3 = 0 → X7_isMethod_w 1 x2 m3 (fun r12 m12 => ((¬ r12 = 0 → X7_held_w x1 x2 m12 (fun r24 m24 => ((¬ r24 = 0 → X7_hold_b41 x1 x2 x1 x2 r24 (-1) m24 K) ∧ (r24 = 0 → X7_hold_b41 x1 x2 x1 x2 r24 (m24 86 35) m24 K)))) ∧ (r12 = 0 → K (-101) m12))))))
set_option maxHeartbeats 4000000 in
set_option maxRecDepth 100000 in
theorem X7_hold_c {E : km_E} {l : Launch} {mr : km_R} (kqmr : km_MR mr) {x1 : Int32} {x2 : Int32} {mi : km_I} {K : Int32 → km_I → Prop} (h : X7_hold_w x1 x2 mi K) : km_Ci E l yX7_hold wsX7_hold rmX7_hold [.ref 86, .int x1, .int x2] SH mi mr K := by
  refine km_start (cc := cX7_hold) (maxL := 4) (ret := (some .int)) (by decide) rfl (Nat.le_of_ble_eq_true rfl) ?_
  intro X hl hX hF _
  subst hl

  have h : X7_isMethod_w 0 x1 mi (fun r3 m3 => ((r3 = 0 → K (-101) m3) ∧ (¬ r3 = 0 → X7_isMethod_w 1 x2 m3 (fun r12 m12 => ((¬ r12 = 0 → X7_held_w x1 x2 m12 (fun r24 m24 => ((¬ r24 = 0 → X7_hold_b41 x1 x2 x1 x2 r24 (-1) m24 K) ∧ (r24 = 0 → X7_hold_b41 x1 x2 x1 x2 r24 (m24 86 35) m24 K)))) ∧ (r12 = 0 → K (-101) m12)))))) := h
  refine km_aload_n hX dX7_hold_0 rfl rfl ?_
  refine km_iconst (v := 0) hX dX7_hold_1 (by decide) ?_
  refine km_iload_n hX dX7_hold_2 rfl ?_
  refine km_callVi hX dX7_hold_3 vX7_hold_121 (X7_isMethod_c kqmr h) (by decide) shp_86 rfl rfl (Nat.le_of_ble_eq_true rfl) (fun r3 m3 h => ?_)
  refine km_if_eq (tgt := 18) hX dX7_hold_6 (by decide) (fun c => ?_) (fun c => ?_)
  · have h := h.1 c
    refine km_bipush (v := -101) hX dX7_hold_18 (by decide) ?_
    exact km_iret hX hF rfl dX7_hold_20 ⟨rfl, rfl, _, rfl, h⟩ (Nat.le_refl _) (Nat.le_refl _)
  · have h := h.2 c
    refine km_aload_n hX dX7_hold_9 rfl rfl ?_
    refine km_iconst (v := 1) hX dX7_hold_10 (by decide) ?_
    refine km_iload_n hX dX7_hold_11 rfl ?_
    refine km_callVi hX dX7_hold_12 vX7_hold_121 (X7_isMethod_c kqmr h) (by decide) shp_86 rfl rfl (Nat.le_of_ble_eq_true rfl) (fun r12 m12 h => ?_)
    refine km_if_ne (tgt := 21) hX dX7_hold_15 (by decide) (fun c => ?_) (fun c => ?_)
    · have h := h.1 c
      refine km_aload_n hX dX7_hold_21 rfl rfl ?_
      refine km_iload_n hX dX7_hold_22 rfl ?_
      refine km_iload_n hX dX7_hold_23 rfl ?_
      refine km_callVi hX dX7_hold_24 vX7_hold_202 (X7_held_c kqmr h) (by decide) shp_86 rfl rfl (Nat.le_of_ble_eq_true rfl) (fun r24 m24 h => ?_)
      refine km_istore_n hX dX7_hold_27 (by decide) ?_
      refine km_aload_n hX dX7_hold_28 rfl rfl ?_
      refine km_iload_n hX dX7_hold_29 rfl ?_
      refine km_if_ne (tgt := 40) hX dX7_hold_30 (by decide) (fun c => ?_) (fun c => ?_)
      · have h := h.1 c
        refine km_iconst (v := -1) hX dX7_hold_40 (by decide) ?_
        refine km_ren (ls' := [(0, .ref 86), (1, .int x1), (2, .int x2), (3, .int r24)]) [0, 1, 2, 3] rfl ?_
        exact X7_hold_b41_t hX hF kqmr _ _ _ _ _ h
      · have h := h.2 c
        refine km_aload_n hX dX7_hold_33 rfl rfl ?_
        refine km_geti hX fX7_hold_196 shp_86 rfl dX7_hold_34 ?_
        refine km_goto (tgt := 41) hX dX7_hold_37 (by decide) ?_
        refine km_ren (ls' := [(0, .ref 86), (1, .int x1), (2, .int x2), (3, .int r24)]) [0, 1, 2, 3] rfl ?_
        exact X7_hold_b41_t hX hF kqmr _ _ _ _ _ h
    · have h := h.2 c
      refine km_bipush (v := -101) hX dX7_hold_18 (by decide) ?_
      exact km_iret hX hF rfl dX7_hold_20 ⟨rfl, rfl, _, rfl, h⟩ (Nat.le_refl _) (Nat.le_refl _)
def X7_first_w (x1 : Int32) (mi : km_I) (K : Int32 → km_I → Prop) : Prop := ((¬ x1 = 0 → ((¬ x1 = 1 → K (-101) mi) ∧ (x1 = 1 → K (mi 86 38) mi))) ∧ (x1 = 0 → K (mi 86 37) mi))
set_option maxHeartbeats 4000000 in
set_option maxRecDepth 100000 in
theorem X7_first_c {E : km_E} {l : Launch} {mr : km_R} (kqmr : km_MR mr) {x1 : Int32} {mi : km_I} {K : Int32 → km_I → Prop} (h : X7_first_w x1 mi K) : km_Ci E l yX7_first wsX7_first rmX7_first [.ref 86, .int x1] SH mi mr K := by
  refine km_start (cc := cX7_first) (maxL := 2) (ret := (some .int)) (by decide) rfl (Nat.le_of_ble_eq_true rfl) ?_
  intro X hl hX hF _
  subst hl

  have h : ((¬ x1 = 0 → ((¬ x1 = 1 → K (-101) mi) ∧ (x1 = 1 → K (mi 86 38) mi))) ∧ (x1 = 0 → K (mi 86 37) mi)) := h
  refine km_iload_n hX dX7_first_0 rfl ?_
  refine km_if_ne (tgt := 11) hX dX7_first_1 (by decide) (fun c => ?_) (fun c => ?_)
  · have h := h.1 c
    refine km_iload_n hX dX7_first_11 rfl ?_
    refine km_iconst (v := 1) hX dX7_first_12 (by decide) ?_
    refine km_icmp_ne (tgt := 23) hX dX7_first_13 (by decide) (fun c => ?_) (fun c => ?_)
    · have h := h.1 c
      refine km_bipush (v := -101) hX dX7_first_23 (by decide) ?_
      exact km_iret hX hF rfl dX7_first_25 ⟨rfl, rfl, _, rfl, h⟩ (Nat.le_refl _) (Nat.le_refl _)
    · have h := h.2 c
      refine km_aload_n hX dX7_first_16 rfl rfl ?_
      refine km_geti hX fX7_first_95 shp_86 rfl dX7_first_17 ?_
      refine km_goto (tgt := 25) hX dX7_first_20 (by decide) ?_
      exact km_iret hX hF rfl dX7_first_25 ⟨rfl, rfl, _, rfl, h⟩ (Nat.le_refl _) (Nat.le_refl _)
  · have h := h.2 c
    refine km_aload_n hX dX7_first_4 rfl rfl ?_
    refine km_geti hX fX7_first_91 shp_86 rfl dX7_first_5 ?_
    refine km_goto (tgt := 25) hX dX7_first_8 (by decide) ?_
    exact km_iret hX hF rfl dX7_first_25 ⟨rfl, rfl, _, rfl, h⟩ (Nat.le_refl _) (Nat.le_refl _)
def X7_match_b14 (x1 : Int32) (n : Nat) (y1 : Int32) (y2 : Int32) (mi : km_I) (K : Int32 → km_I → Prop) : Prop := match n with
  | 0 => False
  | n + 1 => vp_in 1 2 ∧ (((mi 87 (Int32.toNatClampNeg 1)) ≤ y2 → K (-1) mi) ∧ (¬ (mi 87 (Int32.toNatClampNeg 1)) ≤ y2 → X7_held_w y1 y2 mi (fun r27 m27 => ((¬ r27 = 1 → X7_match_b14 x1 n y1 (y2 + 1) m27 K) ∧ (r27 = 1 → K y2 m27)))))
set_option maxHeartbeats 4000000 in
set_option maxRecDepth 100000 in
theorem X7_match_b14_t {E : km_E} {X : km_X} {mr : km_R} {K : Int32 → km_I → Prop} {x1 : Int32} (hX : km_ok E X rmX7_match cX7_match 3 wsX7_match RX7) (hF : km_fin E X (some .int) 0 0 (fun r sh' mi' mr' => sh' = SH ∧ mr' = mr ∧ ∃ i, r = some (.int i) ∧ K i mi')) (kqmr : km_MR mr) : ∀ (n : Nat) (y1 : Int32) (y2 : Int32) (mi : km_I), X7_match_b14 x1 n y1 y2 mi K → km_G E X 3 SH mi mr 0 0 14 [(0, .ref 86), (1, .int y1), (2, .int y2)] [] := by
  intro n
  induction n with
  | zero => intro y1 y2 mi h; exact h.elim
  | succ n ih =>
    intro y1 y2 mi h
    have h : vp_in 1 2 ∧ (((mi 87 (Int32.toNatClampNeg 1)) ≤ y2 → K (-1) mi) ∧ (¬ (mi 87 (Int32.toNatClampNeg 1)) ≤ y2 → X7_held_w y1 y2 mi (fun r27 m27 => ((¬ r27 = 1 → X7_match_b14 x1 n y1 (y2 + 1) m27 K) ∧ (r27 = 1 → K y2 m27))))) := h
    refine km_iload_n hX dX7_match_14 rfl ?_
    refine km_aload_n hX dX7_match_15 rfl rfl ?_
    refine km_getr (q := 87) hX fX7_match_7 shp_86 rfl dX7_match_16 (mrp_86_2 kqmr) ?_
    refine km_iconst (v := 1) hX dX7_match_19 (by decide) ?_
    obtain ⟨hc, h⟩ := h
    refine km_iald hX shp_87 hc dX7_match_20 ?_
    refine km_icmp_ge (tgt := 42) hX dX7_match_21 (by decide) (fun c => ?_) (fun c => ?_)
    · have h := h.1 c
      refine km_iconst (v := -1) hX dX7_match_42 (by decide) ?_
      exact km_iret hX hF rfl dX7_match_43 ⟨rfl, rfl, _, rfl, h⟩ (Nat.le_refl _) (Nat.le_refl _)
    · have h := h.2 c
      refine km_aload_n hX dX7_match_24 rfl rfl ?_
      refine km_iload_n hX dX7_match_25 rfl ?_
      refine km_iload_n hX dX7_match_26 rfl ?_
      refine km_callVi hX dX7_match_27 vX7_match_202 (X7_held_c kqmr h) (by decide) shp_86 rfl rfl (Nat.le_of_ble_eq_true rfl) (fun r27 m27 h => ?_)
      refine km_iconst (v := 1) hX dX7_match_30 (by decide) ?_
      refine km_icmp_ne (tgt := 36) hX dX7_match_31 (by decide) (fun c => ?_) (fun c => ?_)
      · have h := h.1 c
        refine km_iinc (v := 1) hX dX7_match_36 (by decide) rfl (by decide) ?_
        refine km_goto (tgt := 14) hX dX7_match_39 (by decide) ?_
        refine km_ren (ls' := [(0, .ref 86), (1, .int y1), (2, .int (y2 + 1))]) [0, 1, 2] rfl ?_
        exact ih _ _ _ h
      · have h := h.2 c
        refine km_iload_n hX dX7_match_34 rfl ?_
        exact km_iret hX hF rfl dX7_match_35 ⟨rfl, rfl, _, rfl, h⟩ (Nat.le_refl _) (Nat.le_refl _)
def X7_match_w (x1 : Int32) (mi : km_I) (K : Int32 → km_I → Prop) : Prop := X7_isMethod_w 0 x1 mi (fun r3 m3 => ((¬ r3 = 0 → ∃ k, X7_match_b14 x1 k x1 0 m3 K) ∧ (r3 = 0 → K (-101) m3)))
set_option maxHeartbeats 4000000 in
set_option maxRecDepth 100000 in
theorem X7_match_c {E : km_E} {l : Launch} {mr : km_R} (kqmr : km_MR mr) {x1 : Int32} {mi : km_I} {K : Int32 → km_I → Prop} (h : X7_match_w x1 mi K) : km_Ci E l yX7_match wsX7_match rmX7_match [.ref 86, .int x1] SH mi mr K := by
  refine km_start (cc := cX7_match) (maxL := 3) (ret := (some .int)) (by decide) rfl (Nat.le_of_ble_eq_true rfl) ?_
  intro X hl hX hF _
  subst hl

  have h : X7_isMethod_w 0 x1 mi (fun r3 m3 => ((¬ r3 = 0 → ∃ k, X7_match_b14 x1 k x1 0 m3 K) ∧ (r3 = 0 → K (-101) m3))) := h
  refine km_aload_n hX dX7_match_0 rfl rfl ?_
  refine km_iconst (v := 0) hX dX7_match_1 (by decide) ?_
  refine km_iload_n hX dX7_match_2 rfl ?_
  refine km_callVi hX dX7_match_3 vX7_match_121 (X7_isMethod_c kqmr h) (by decide) shp_86 rfl rfl (Nat.le_of_ble_eq_true rfl) (fun r3 m3 h => ?_)
  refine km_if_ne (tgt := 12) hX dX7_match_6 (by decide) (fun c => ?_) (fun c => ?_)
  · have h := h.1 c
    refine km_iconst (v := 0) hX dX7_match_12 (by decide) ?_
    refine km_istore_n hX dX7_match_13 (by decide) ?_
    obtain ⟨n9, h⟩ := h
    refine km_ren (ls' := [(0, .ref 86), (1, .int x1), (2, .int 0)]) [0, 1, 2] rfl ?_
    exact X7_match_b14_t hX hF kqmr n9 _ _ _ h
  · have h := h.2 c
    refine km_bipush (v := -101) hX dX7_match_9 (by decide) ?_
    exact km_iret hX hF rfl dX7_match_11 ⟨rfl, rfl, _, rfl, h⟩ (Nat.le_refl _) (Nat.le_refl _)
def X7_renames_b4 (x1 : Int32) (n : Nat) (y1 : Int32) (y2 : Int32) (y3 : Int32) (mi : km_I) (K : Int32 → km_I → Prop) : Prop := match n with
  | 0 => False
  | n + 1 => ((4 ≤ y3 → ((¬ y2 = 15 → K 0 mi) ∧ (y2 = 15 → K 1 mi))) ∧ (¬ 4 ≤ y3 → vp_in y3 4 ∧ (∀ m24, m24 = km_u mi 93 (Int32.toNatClampNeg y3) ((y1 >>> ((6 - (2 * y3)) &&& 31)) &&& 3) → vp_in y3 4 ∧ X7_renames_b4 x1 n y1 (y2 ||| (1 <<< ((m24 93 (Int32.toNatClampNeg y3)) &&& 31))) (y3 + 1) m24 K)))
set_option maxHeartbeats 4000000 in
set_option maxRecDepth 100000 in
theorem X7_renames_b4_t {E : km_E} {X : km_X} {mr : km_R} {K : Int32 → km_I → Prop} {x1 : Int32} (hX : km_ok E X rmX7_renames cX7_renames 4 wsX7_renames RX7) (hF : km_fin E X (some .boolean) 0 0 (fun r sh' mi' mr' => sh' = SH ∧ mr' = mr ∧ ∃ i, r = some (.int i) ∧ K i mi')) (kqmr : km_MR mr) : ∀ (n : Nat) (y1 : Int32) (y2 : Int32) (y3 : Int32) (mi : km_I), X7_renames_b4 x1 n y1 y2 y3 mi K → km_G E X 4 SH mi mr 0 0 4 [(0, .ref 86), (1, .int y1), (2, .int y2), (3, .int y3)] [] := by
  intro n
  induction n with
  | zero => intro y1 y2 y3 mi h; exact h.elim
  | succ n ih =>
    intro y1 y2 y3 mi h
    have h : ((4 ≤ y3 → ((¬ y2 = 15 → K 0 mi) ∧ (y2 = 15 → K 1 mi))) ∧ (¬ 4 ≤ y3 → vp_in y3 4 ∧ (∀ m24, m24 = km_u mi 93 (Int32.toNatClampNeg y3) ((y1 >>> ((6 - (2 * y3)) &&& 31)) &&& 3) → vp_in y3 4 ∧ X7_renames_b4 x1 n y1 (y2 ||| (1 <<< ((m24 93 (Int32.toNatClampNeg y3)) &&& 31))) (y3 + 1) m24 K))) := h
    refine km_iload_n hX dX7_renames_4 rfl ?_
    refine km_iconst (v := 4) hX dX7_renames_5 (by decide) ?_
    refine km_icmp_ge (tgt := 42) hX dX7_renames_6 (by decide) (fun c => ?_) (fun c => ?_)
    · have h := h.1 c
      refine km_iload_n hX dX7_renames_42 rfl ?_
      refine km_bipush (v := 15) hX dX7_renames_43 (by decide) ?_
      refine km_icmp_ne (tgt := 52) hX dX7_renames_45 (by decide) (fun c => ?_) (fun c => ?_)
      · have h := h.1 c
        refine km_iconst (v := 0) hX dX7_renames_52 (by decide) ?_
        exact km_zret hX hF rfl dX7_renames_53 (Or.inl rfl) ⟨rfl, rfl, _, rfl, h⟩ (Nat.le_refl _) (Nat.le_refl _)
      · have h := h.2 c
        refine km_iconst (v := 1) hX dX7_renames_48 (by decide) ?_
        refine km_goto (tgt := 53) hX dX7_renames_49 (by decide) ?_
        exact km_zret hX hF rfl dX7_renames_53 (Or.inr rfl) ⟨rfl, rfl, _, rfl, h⟩ (Nat.le_refl _) (Nat.le_refl _)
    · have h := h.2 c
      refine km_aload_n hX dX7_renames_9 rfl rfl ?_
      refine km_getr (q := 93) hX fX7_renames_28 shp_86 rfl dX7_renames_10 (mrp_86_8 kqmr) ?_
      refine km_iload_n hX dX7_renames_13 rfl ?_
      refine km_iload_n hX dX7_renames_14 rfl ?_
      refine km_bipush (v := 6) hX dX7_renames_15 (by decide) ?_
      refine km_iconst (v := 2) hX dX7_renames_17 (by decide) ?_
      refine km_iload_n hX dX7_renames_18 rfl ?_
      refine km_imul hX dX7_renames_19 ?_
      refine km_isub hX dX7_renames_20 ?_
      refine km_ishr hX dX7_renames_21 ?_
      refine km_iconst (v := 3) hX dX7_renames_22 (by decide) ?_
      refine km_iand hX dX7_renames_23 ?_
      obtain ⟨hc, h⟩ := h
      refine km_iastN hX shp_93 hc dX7_renames_24 (fun m24 e24 => ?_)
      have h := h m24 e24
      refine km_iload_n hX dX7_renames_25 rfl ?_
      refine km_iconst (v := 1) hX dX7_renames_26 (by decide) ?_
      refine km_aload_n hX dX7_renames_27 rfl rfl ?_
      refine km_getr (q := 93) hX fX7_renames_28 shp_86 rfl dX7_renames_28 (mrp_86_8 kqmr) ?_
      refine km_iload_n hX dX7_renames_31 rfl ?_
      obtain ⟨hc, h⟩ := h
      refine km_iald hX shp_93 hc dX7_renames_32 ?_
      refine km_ishl hX dX7_renames_33 ?_
      refine km_ior hX dX7_renames_34 ?_
      refine km_istore_n hX dX7_renames_35 (by decide) ?_
      refine km_iinc (v := 1) hX dX7_renames_36 (by decide) rfl (by decide) ?_
      refine km_goto (tgt := 4) hX dX7_renames_39 (by decide) ?_
      refine km_ren (ls' := [(0, .ref 86), (1, .int y1), (2, .int (y2 ||| (1 <<< ((m24 93 (Int32.toNatClampNeg y3)) &&& 31)))), (3, .int (y3 + 1))]) [0, 1, 2, 3] rfl ?_
      exact ih _ _ _ _ h
def X7_renames_w (x1 : Int32) (mi : km_I) (K : Int32 → km_I → Prop) : Prop := ∃ k, X7_renames_b4 x1 k x1 0 0 mi K
set_option maxHeartbeats 4000000 in
set_option maxRecDepth 100000 in
theorem X7_renames_c {E : km_E} {l : Launch} {mr : km_R} (kqmr : km_MR mr) {x1 : Int32} {mi : km_I} {K : Int32 → km_I → Prop} (h : X7_renames_w x1 mi K) : km_Ci E l yX7_renames wsX7_renames rmX7_renames [.ref 86, .int x1] SH mi mr K := by
  refine km_start (cc := cX7_renames) (maxL := 4) (ret := (some .boolean)) (by decide) rfl (Nat.le_of_ble_eq_true rfl) ?_
  intro X hl hX hF _
  subst hl

  have h : ∃ k, X7_renames_b4 x1 k x1 0 0 mi K := h
  refine km_iconst (v := 0) hX dX7_renames_0 (by decide) ?_
  refine km_istore_n hX dX7_renames_1 (by decide) ?_
  refine km_iconst (v := 0) hX dX7_renames_2 (by decide) ?_
  refine km_istore_n hX dX7_renames_3 (by decide) ?_
  obtain ⟨n9, h⟩ := h
  refine km_ren (ls' := [(0, .ref 86), (1, .int x1), (2, .int 0), (3, .int 0)]) [0, 1, 2, 3] rfl ?_
  exact X7_renames_b4_t hX hF kqmr n9 _ _ _ _ h
def X7_find_b121 (x1 : Int32) (x2 : Int32) (Z51 : Int32 → Int32 → Int32 → Int32 → km_I → Prop) (y1 : Int32) (y2 : Int32) (y3 : Int32) (y4 : Int32) (mi : km_I) (K : Int32 → km_I → Prop) : Prop := Z51 y1 y2 y3 (y4 + 1) mi
set_option maxHeartbeats 4000000 in
set_option maxRecDepth 100000 in
theorem X7_find_b121_t {E : km_E} {X : km_X} {mr : km_R} {K : Int32 → km_I → Prop} {x1 : Int32} {x2 : Int32} {Z51 : Int32 → Int32 → Int32 → Int32 → km_I → Prop} (hX : km_ok E X rmX7_find cX7_find 5 wsX7_find RX7) (hF : km_fin E X (some .int) 0 0 (fun r sh' mi' mr' => sh' = SH ∧ mr' = mr ∧ ∃ i, r = some (.int i) ∧ K i mi')) (kqmr : km_MR mr) (hZ51 : ∀ (y1 : Int32) (y2 : Int32) (y3 : Int32) (y4 : Int32) (m : km_I), Z51 y1 y2 y3 y4 m → km_G E X 5 SH m mr 0 0 51 [(0, .ref 86), (1, .int y1), (2, .int y2), (3, .int y3), (4, .int y4)] []) : ∀ (y1 : Int32) (y2 : Int32) (y3 : Int32) (y4 : Int32) (mi : km_I), X7_find_b121 x1 x2 Z51 y1 y2 y3 y4 mi K → km_G E X 5 SH mi mr 0 0 121 [(0, .ref 86), (1, .int y1), (2, .int y2), (3, .int y3), (4, .int y4)] [] := by
  intro y1 y2 y3 y4 mi h
  have h : Z51 y1 y2 y3 (y4 + 1) mi := h
  refine km_iinc (v := 1) hX dX7_find_121 (by decide) rfl (by decide) ?_
  refine km_goto (tgt := 51) hX dX7_find_124 (by decide) ?_
  refine km_ren (ls' := [(0, .ref 86), (1, .int y1), (2, .int y2), (3, .int y3), (4, .int (y4 + 1))]) [0, 1, 2, 3, 4] rfl ?_
  exact hZ51 _ _ _ _ _ h
def X7_find_b130 (x1 : Int32) (x2 : Int32) (n : Nat) (y1 : Int32) (y2 : Int32) (y3 : Int32) (y4 : Int32) (mi : km_I) (K : Int32 → km_I → Prop) : Prop := match n with
  | 0 => False
  | n + 1 => ((4 ≤ y4 → K y3 mi) ∧ (¬ 4 ≤ y4 → vp_in y4 4 ∧ vp_in y4 4 ∧ (∀ m149, m149 = km_u mi 93 (Int32.toNatClampNeg y4) (mi 114 (Int32.toNatClampNeg y4)) → X7_find_b130 x1 x2 n y1 y2 y3 (y4 + 1) m149 K)))
set_option maxHeartbeats 4000000 in
set_option maxRecDepth 100000 in
theorem X7_find_b130_t {E : km_E} {X : km_X} {mr : km_R} {K : Int32 → km_I → Prop} {x1 : Int32} {x2 : Int32} (hX : km_ok E X rmX7_find cX7_find 5 wsX7_find RX7) (hF : km_fin E X (some .int) 0 0 (fun r sh' mi' mr' => sh' = SH ∧ mr' = mr ∧ ∃ i, r = some (.int i) ∧ K i mi')) (kqmr : km_MR mr) : ∀ (n : Nat) (y1 : Int32) (y2 : Int32) (y3 : Int32) (y4 : Int32) (mi : km_I), X7_find_b130 x1 x2 n y1 y2 y3 y4 mi K → km_G E X 5 SH mi mr 0 0 130 [(0, .ref 86), (1, .int y1), (2, .int y2), (3, .int y3), (4, .int y4)] [] := by
  intro n
  induction n with
  | zero => intro y1 y2 y3 y4 mi h; exact h.elim
  | succ n ih =>
    intro y1 y2 y3 y4 mi h
    have h : ((4 ≤ y4 → K y3 mi) ∧ (¬ 4 ≤ y4 → vp_in y4 4 ∧ vp_in y4 4 ∧ (∀ m149, m149 = km_u mi 93 (Int32.toNatClampNeg y4) (mi 114 (Int32.toNatClampNeg y4)) → X7_find_b130 x1 x2 n y1 y2 y3 (y4 + 1) m149 K))) := h
    refine km_iload hX dX7_find_130 rfl ?_
    refine km_iconst (v := 4) hX dX7_find_132 (by decide) ?_
    refine km_icmp_ge (tgt := 156) hX dX7_find_133 (by decide) (fun c => ?_) (fun c => ?_)
    · have h := h.1 c
      refine km_iload_n hX dX7_find_156 rfl ?_
      exact km_iret hX hF rfl dX7_find_157 ⟨rfl, rfl, _, rfl, h⟩ (Nat.le_refl _) (Nat.le_refl _)
    · have h := h.2 c
      refine km_aload_n hX dX7_find_136 rfl rfl ?_
      refine km_getr (q := 93) hX fX7_find_28 shp_86 rfl dX7_find_137 (mrp_86_8 kqmr) ?_
      refine km_iload hX dX7_find_140 rfl ?_
      refine km_aload_n hX dX7_find_142 rfl rfl ?_
      refine km_getr (q := 114) hX fX7_find_98 shp_86 rfl dX7_find_143 (mrp_86_39 kqmr) ?_
      refine km_iload hX dX7_find_146 rfl ?_
      obtain ⟨hc, h⟩ := h
      refine km_iald hX shp_114 hc dX7_find_148 ?_
      obtain ⟨hc, h⟩ := h
      refine km_iastN hX shp_93 hc dX7_find_149 (fun m149 e149 => ?_)
      have h := h m149 e149
      refine km_iinc (v := 1) hX dX7_find_150 (by decide) rfl (by decide) ?_
      refine km_goto (tgt := 130) hX dX7_find_153 (by decide) ?_
      refine km_ren (ls' := [(0, .ref 86), (1, .int y1), (2, .int y2), (3, .int y3), (4, .int (y4 + 1))]) [0, 1, 2, 3, 4] rfl ?_
      exact ih _ _ _ _ _ h
def X7_find_b127 (x1 : Int32) (x2 : Int32) (y1 : Int32) (y2 : Int32) (y3 : Int32) (y4 : Int32) (mi : km_I) (K : Int32 → km_I → Prop) : Prop := ∃ k, X7_find_b130 x1 x2 k y1 y2 y3 0 mi K
set_option maxHeartbeats 4000000 in
set_option maxRecDepth 100000 in
theorem X7_find_b127_t {E : km_E} {X : km_X} {mr : km_R} {K : Int32 → km_I → Prop} {x1 : Int32} {x2 : Int32} (hX : km_ok E X rmX7_find cX7_find 5 wsX7_find RX7) (hF : km_fin E X (some .int) 0 0 (fun r sh' mi' mr' => sh' = SH ∧ mr' = mr ∧ ∃ i, r = some (.int i) ∧ K i mi')) (kqmr : km_MR mr) : ∀ (y1 : Int32) (y2 : Int32) (y3 : Int32) (y4 : Int32) (mi : km_I), X7_find_b127 x1 x2 y1 y2 y3 y4 mi K → km_G E X 5 SH mi mr 0 0 127 [(0, .ref 86), (1, .int y1), (2, .int y2), (3, .int y3), (4, .int y4)] [] := by
  intro y1 y2 y3 y4 mi h
  have h : ∃ k, X7_find_b130 x1 x2 k y1 y2 y3 0 mi K := h
  refine km_iconst (v := 0) hX dX7_find_127 (by decide) ?_
  refine km_istore hX dX7_find_128 (by decide) ?_
  obtain ⟨n9, h⟩ := h
  refine km_ren (ls' := [(0, .ref 86), (1, .int y1), (2, .int y2), (3, .int y3), (4, .int 0)]) [0, 1, 2, 3, 4] rfl ?_
  exact X7_find_b130_t hX hF kqmr n9 _ _ _ _ _ h
def X7_find_b51 (x1 : Int32) (x2 : Int32) (n : Nat) (y1 : Int32) (y2 : Int32) (y3 : Int32) (y4 : Int32) (mi : km_I) (K : Int32 → km_I → Prop) : Prop := match n with
  | 0 => False
  | n + 1 => ((256 ≤ y4 → X7_find_b127 x1 x2 y1 y2 y3 y4 mi K) ∧ (¬ 256 ≤ y4 → ((¬ y3 = (-1) → X7_find_b127 x1 x2 y1 y2 y3 y4 mi K) ∧ (y3 = (-1) → X7_renames_w y4 mi (fun r67 m67 => ((r67 = 0 → X7_find_b121 x1 x2 (fun v0 v1 v2 v3 m => X7_find_b51 x1 x2 n v0 v1 v2 v3 m K) y1 y2 y3 y4 m67 K) ∧ (¬ r67 = 0 → X7_held_w y1 y2 m67 (fun r76 m76 => ((¬ r76 = 1 → X7_find_b121 x1 x2 (fun v0 v1 v2 v3 m => X7_find_b51 x1 x2 n v0 v1 v2 v3 m K) y1 y2 y3 y4 m76 K) ∧ (r76 = 1 → vp_in 0 4 ∧ vp_in 1 4 ∧ vp_in 2 4 ∧ vp_in 3 4 ∧ X7_find_b121 x1 x2 (fun v0 v1 v2 v3 m => X7_find_b51 x1 x2 n v0 v1 v2 v3 m K) y1 y2 ((((1000 * (m76 93 (Int32.toNatClampNeg 0))) + (100 * (m76 93 (Int32.toNatClampNeg 1)))) + (10 * (m76 93 (Int32.toNatClampNeg 2)))) + (m76 93 (Int32.toNatClampNeg 3))) y4 m76 K))))))))))
set_option maxHeartbeats 4000000 in
set_option maxRecDepth 100000 in
theorem X7_find_b51_t {E : km_E} {X : km_X} {mr : km_R} {K : Int32 → km_I → Prop} {x1 : Int32} {x2 : Int32} (hX : km_ok E X rmX7_find cX7_find 5 wsX7_find RX7) (hF : km_fin E X (some .int) 0 0 (fun r sh' mi' mr' => sh' = SH ∧ mr' = mr ∧ ∃ i, r = some (.int i) ∧ K i mi')) (kqmr : km_MR mr) : ∀ (n : Nat) (y1 : Int32) (y2 : Int32) (y3 : Int32) (y4 : Int32) (mi : km_I), X7_find_b51 x1 x2 n y1 y2 y3 y4 mi K → km_G E X 5 SH mi mr 0 0 51 [(0, .ref 86), (1, .int y1), (2, .int y2), (3, .int y3), (4, .int y4)] [] := by
  intro n
  induction n with
  | zero => intro y1 y2 y3 y4 mi h; exact h.elim
  | succ n ih =>
    intro y1 y2 y3 y4 mi h
    have h : ((256 ≤ y4 → X7_find_b127 x1 x2 y1 y2 y3 y4 mi K) ∧ (¬ 256 ≤ y4 → ((¬ y3 = (-1) → X7_find_b127 x1 x2 y1 y2 y3 y4 mi K) ∧ (y3 = (-1) → X7_renames_w y4 mi (fun r67 m67 => ((r67 = 0 → X7_find_b121 x1 x2 (fun v0 v1 v2 v3 m => X7_find_b51 x1 x2 n v0 v1 v2 v3 m K) y1 y2 y3 y4 m67 K) ∧ (¬ r67 = 0 → X7_held_w y1 y2 m67 (fun r76 m76 => ((¬ r76 = 1 → X7_find_b121 x1 x2 (fun v0 v1 v2 v3 m => X7_find_b51 x1 x2 n v0 v1 v2 v3 m K) y1 y2 y3 y4 m76 K) ∧ (r76 = 1 → vp_in 0 4 ∧ vp_in 1 4 ∧ vp_in 2 4 ∧ vp_in 3 4 ∧ X7_find_b121 x1 x2 (fun v0 v1 v2 v3 m => X7_find_b51 x1 x2 n v0 v1 v2 v3 m K) y1 y2 ((((1000 * (m76 93 (Int32.toNatClampNeg 0))) + (100 * (m76 93 (Int32.toNatClampNeg 1)))) + (10 * (m76 93 (Int32.toNatClampNeg 2)))) + (m76 93 (Int32.toNatClampNeg 3))) y4 m76 K)))))))))) := h
    refine km_iload hX dX7_find_51 rfl ?_
    refine km_sipush (v := 256) hX dX7_find_53 (by decide) ?_
    refine km_icmp_ge (tgt := 127) hX dX7_find_56 (by decide) (fun c => ?_) (fun c => ?_)
    · have h := h.1 c
      refine km_ren (ls' := [(0, .ref 86), (1, .int y1), (2, .int y2), (3, .int y3), (4, .int y4)]) [0, 1, 2, 3, 4] rfl ?_
      exact X7_find_b127_t hX hF kqmr _ _ _ _ _ h
    · have h := h.2 c
      refine km_iload_n hX dX7_find_59 rfl ?_
      refine km_iconst (v := -1) hX dX7_find_60 (by decide) ?_
      refine km_icmp_ne (tgt := 127) hX dX7_find_61 (by decide) (fun c => ?_) (fun c => ?_)
      · have h := h.1 c
        refine km_ren (ls' := [(0, .ref 86), (1, .int y1), (2, .int y2), (3, .int y3), (4, .int y4)]) [0, 1, 2, 3, 4] rfl ?_
        exact X7_find_b127_t hX hF kqmr _ _ _ _ _ h
      · have h := h.2 c
        refine km_aload_n hX dX7_find_64 rfl rfl ?_
        refine km_iload hX dX7_find_65 rfl ?_
        refine km_callVi hX dX7_find_67 vX7_find_206 (X7_renames_c kqmr h) (by decide) shp_86 rfl rfl (Nat.le_of_ble_eq_true rfl) (fun r67 m67 h => ?_)
        refine km_if_eq (tgt := 121) hX dX7_find_70 (by decide) (fun c => ?_) (fun c => ?_)
        · have h := h.1 c
          refine km_ren (ls' := [(0, .ref 86), (1, .int y1), (2, .int y2), (3, .int y3), (4, .int y4)]) [0, 1, 2, 3, 4] rfl ?_
          exact X7_find_b121_t hX hF kqmr (fun v0 v1 v2 v3 m hh => ih v0 v1 v2 v3 m hh) _ _ _ _ _ h
        · have h := h.2 c
          refine km_aload_n hX dX7_find_73 rfl rfl ?_
          refine km_iload_n hX dX7_find_74 rfl ?_
          refine km_iload_n hX dX7_find_75 rfl ?_
          refine km_callVi hX dX7_find_76 vX7_find_202 (X7_held_c kqmr h) (by decide) shp_86 rfl rfl (Nat.le_of_ble_eq_true rfl) (fun r76 m76 h => ?_)
          refine km_iconst (v := 1) hX dX7_find_79 (by decide) ?_
          refine km_icmp_ne (tgt := 121) hX dX7_find_80 (by decide) (fun c => ?_) (fun c => ?_)
          · have h := h.1 c
            refine km_ren (ls' := [(0, .ref 86), (1, .int y1), (2, .int y2), (3, .int y3), (4, .int y4)]) [0, 1, 2, 3, 4] rfl ?_
            exact X7_find_b121_t hX hF kqmr (fun v0 v1 v2 v3 m hh => ih v0 v1 v2 v3 m hh) _ _ _ _ _ h
          · have h := h.2 c
            refine km_sipush (v := 1000) hX dX7_find_83 (by decide) ?_
            refine km_aload_n hX dX7_find_86 rfl rfl ?_
            refine km_getr (q := 93) hX fX7_find_28 shp_86 rfl dX7_find_87 (mrp_86_8 kqmr) ?_
            refine km_iconst (v := 0) hX dX7_find_90 (by decide) ?_
            obtain ⟨hc, h⟩ := h
            refine km_iald hX shp_93 hc dX7_find_91 ?_
            refine km_imul hX dX7_find_92 ?_
            refine km_bipush (v := 100) hX dX7_find_93 (by decide) ?_
            refine km_aload_n hX dX7_find_95 rfl rfl ?_
            refine km_getr (q := 93) hX fX7_find_28 shp_86 rfl dX7_find_96 (mrp_86_8 kqmr) ?_
            refine km_iconst (v := 1) hX dX7_find_99 (by decide) ?_
            obtain ⟨hc, h⟩ := h
            refine km_iald hX shp_93 hc dX7_find_100 ?_
            refine km_imul hX dX7_find_101 ?_
            refine km_iadd hX dX7_find_102 ?_
            refine km_bipush (v := 10) hX dX7_find_103 (by decide) ?_
            refine km_aload_n hX dX7_find_105 rfl rfl ?_
            refine km_getr (q := 93) hX fX7_find_28 shp_86 rfl dX7_find_106 (mrp_86_8 kqmr) ?_
            refine km_iconst (v := 2) hX dX7_find_109 (by decide) ?_
            obtain ⟨hc, h⟩ := h
            refine km_iald hX shp_93 hc dX7_find_110 ?_
            refine km_imul hX dX7_find_111 ?_
            refine km_iadd hX dX7_find_112 ?_
            refine km_aload_n hX dX7_find_113 rfl rfl ?_
            refine km_getr (q := 93) hX fX7_find_28 shp_86 rfl dX7_find_114 (mrp_86_8 kqmr) ?_
            refine km_iconst (v := 3) hX dX7_find_117 (by decide) ?_
            obtain ⟨hc, h⟩ := h
            refine km_iald hX shp_93 hc dX7_find_118 ?_
            refine km_iadd hX dX7_find_119 ?_
            refine km_istore_n hX dX7_find_120 (by decide) ?_
            refine km_ren (ls' := [(0, .ref 86), (1, .int y1), (2, .int y2), (3, .int ((((1000 * (m76 93 (Int32.toNatClampNeg 0))) + (100 * (m76 93 (Int32.toNatClampNeg 1)))) + (10 * (m76 93 (Int32.toNatClampNeg 2)))) + (m76 93 (Int32.toNatClampNeg 3)))), (4, .int y4)]) [0, 1, 2, 3, 4] rfl ?_
            exact X7_find_b121_t hX hF kqmr (fun v0 v1 v2 v3 m hh => ih v0 v1 v2 v3 m hh) _ _ _ _ _ h
def X7_find_b23 (x1 : Int32) (x2 : Int32) (n : Nat) (y1 : Int32) (y2 : Int32) (y3 : Int32) (mi : km_I) (K : Int32 → km_I → Prop) : Prop := match n with
  | 0 => False
  | n + 1 => ((4 ≤ y3 → ∃ k, X7_find_b51 x1 x2 k y1 y2 (-1) 0 mi K) ∧ (¬ 4 ≤ y3 → vp_in y3 4 ∧ vp_in y3 4 ∧ (∀ m39, m39 = km_u mi 114 (Int32.toNatClampNeg y3) (mi 93 (Int32.toNatClampNeg y3)) → X7_find_b23 x1 x2 n y1 y2 (y3 + 1) m39 K)))
set_option maxHeartbeats 4000000 in
set_option maxRecDepth 100000 in
theorem X7_find_b23_t {E : km_E} {X : km_X} {mr : km_R} {K : Int32 → km_I → Prop} {x1 : Int32} {x2 : Int32} (hX : km_ok E X rmX7_find cX7_find 5 wsX7_find RX7) (hF : km_fin E X (some .int) 0 0 (fun r sh' mi' mr' => sh' = SH ∧ mr' = mr ∧ ∃ i, r = some (.int i) ∧ K i mi')) (kqmr : km_MR mr) : ∀ (n : Nat) (y1 : Int32) (y2 : Int32) (y3 : Int32) (mi : km_I), X7_find_b23 x1 x2 n y1 y2 y3 mi K → km_G E X 5 SH mi mr 0 0 23 [(0, .ref 86), (1, .int y1), (2, .int y2), (3, .int y3)] [] := by
  intro n
  induction n with
  | zero => intro y1 y2 y3 mi h; exact h.elim
  | succ n ih =>
    intro y1 y2 y3 mi h
    have h : ((4 ≤ y3 → ∃ k, X7_find_b51 x1 x2 k y1 y2 (-1) 0 mi K) ∧ (¬ 4 ≤ y3 → vp_in y3 4 ∧ vp_in y3 4 ∧ (∀ m39, m39 = km_u mi 114 (Int32.toNatClampNeg y3) (mi 93 (Int32.toNatClampNeg y3)) → X7_find_b23 x1 x2 n y1 y2 (y3 + 1) m39 K))) := h
    refine km_iload_n hX dX7_find_23 rfl ?_
    refine km_iconst (v := 4) hX dX7_find_24 (by decide) ?_
    refine km_icmp_ge (tgt := 46) hX dX7_find_25 (by decide) (fun c => ?_) (fun c => ?_)
    · have h := h.1 c
      refine km_iconst (v := -1) hX dX7_find_46 (by decide) ?_
      refine km_istore_n hX dX7_find_47 (by decide) ?_
      refine km_iconst (v := 0) hX dX7_find_48 (by decide) ?_
      refine km_istore hX dX7_find_49 (by decide) ?_
      obtain ⟨n9, h⟩ := h
      refine km_ren (ls' := [(0, .ref 86), (1, .int y1), (2, .int y2), (3, .int (-1)), (4, .int 0)]) [0, 1, 2, 3, 4] rfl ?_
      exact X7_find_b51_t hX hF kqmr n9 _ _ _ _ _ h
    · have h := h.2 c
      refine km_aload_n hX dX7_find_28 rfl rfl ?_
      refine km_getr (q := 114) hX fX7_find_98 shp_86 rfl dX7_find_29 (mrp_86_39 kqmr) ?_
      refine km_iload_n hX dX7_find_32 rfl ?_
      refine km_aload_n hX dX7_find_33 rfl rfl ?_
      refine km_getr (q := 93) hX fX7_find_28 shp_86 rfl dX7_find_34 (mrp_86_8 kqmr) ?_
      refine km_iload_n hX dX7_find_37 rfl ?_
      obtain ⟨hc, h⟩ := h
      refine km_iald hX shp_93 hc dX7_find_38 ?_
      obtain ⟨hc, h⟩ := h
      refine km_iastN hX shp_114 hc dX7_find_39 (fun m39 e39 => ?_)
      have h := h m39 e39
      refine km_iinc (v := 1) hX dX7_find_40 (by decide) rfl (by decide) ?_
      refine km_goto (tgt := 23) hX dX7_find_43 (by decide) ?_
      refine km_ren (ls' := [(0, .ref 86), (1, .int y1), (2, .int y2), (3, .int (y3 + 1))]) [0, 1, 2, 3] rfl ?_
      exact ih _ _ _ _ h
def X7_find_w (x1 : Int32) (x2 : Int32) (mi : km_I) (K : Int32 → km_I → Prop) : Prop := X7_isMethod_w 0 x1 mi (fun r3 m3 => ((r3 = 0 → K (-101) m3) ∧ (¬ r3 = 0 → X7_isMethod_w 1 x2 m3 (fun r12 m12 => ((¬ r12 = 0 → ∃ k, X7_find_b23 x1 x2 k x1 x2 0 m12 K) ∧ (r12 = 0 → K (-101) m12))))))
set_option maxHeartbeats 4000000 in
set_option maxRecDepth 100000 in
theorem X7_find_c {E : km_E} {l : Launch} {mr : km_R} (kqmr : km_MR mr) {x1 : Int32} {x2 : Int32} {mi : km_I} {K : Int32 → km_I → Prop} (h : X7_find_w x1 x2 mi K) : km_Ci E l yX7_find wsX7_find rmX7_find [.ref 86, .int x1, .int x2] SH mi mr K := by
  refine km_start (cc := cX7_find) (maxL := 5) (ret := (some .int)) (by decide) rfl (Nat.le_of_ble_eq_true rfl) ?_
  intro X hl hX hF _
  subst hl

  have h : X7_isMethod_w 0 x1 mi (fun r3 m3 => ((r3 = 0 → K (-101) m3) ∧ (¬ r3 = 0 → X7_isMethod_w 1 x2 m3 (fun r12 m12 => ((¬ r12 = 0 → ∃ k, X7_find_b23 x1 x2 k x1 x2 0 m12 K) ∧ (r12 = 0 → K (-101) m12)))))) := h
  refine km_aload_n hX dX7_find_0 rfl rfl ?_
  refine km_iconst (v := 0) hX dX7_find_1 (by decide) ?_
  refine km_iload_n hX dX7_find_2 rfl ?_
  refine km_callVi hX dX7_find_3 vX7_find_121 (X7_isMethod_c kqmr h) (by decide) shp_86 rfl rfl (Nat.le_of_ble_eq_true rfl) (fun r3 m3 h => ?_)
  refine km_if_eq (tgt := 18) hX dX7_find_6 (by decide) (fun c => ?_) (fun c => ?_)
  · have h := h.1 c
    refine km_bipush (v := -101) hX dX7_find_18 (by decide) ?_
    exact km_iret hX hF rfl dX7_find_20 ⟨rfl, rfl, _, rfl, h⟩ (Nat.le_refl _) (Nat.le_refl _)
  · have h := h.2 c
    refine km_aload_n hX dX7_find_9 rfl rfl ?_
    refine km_iconst (v := 1) hX dX7_find_10 (by decide) ?_
    refine km_iload_n hX dX7_find_11 rfl ?_
    refine km_callVi hX dX7_find_12 vX7_find_121 (X7_isMethod_c kqmr h) (by decide) shp_86 rfl rfl (Nat.le_of_ble_eq_true rfl) (fun r12 m12 h => ?_)
    refine km_if_ne (tgt := 21) hX dX7_find_15 (by decide) (fun c => ?_) (fun c => ?_)
    · have h := h.1 c
      refine km_iconst (v := 0) hX dX7_find_21 (by decide) ?_
      refine km_istore_n hX dX7_find_22 (by decide) ?_
      obtain ⟨n9, h⟩ := h
      refine km_ren (ls' := [(0, .ref 86), (1, .int x1), (2, .int x2), (3, .int 0)]) [0, 1, 2, 3] rfl ?_
      exact X7_find_b23_t hX hF kqmr n9 _ _ _ _ h
    · have h := h.2 c
      refine km_bipush (v := -101) hX dX7_find_18 (by decide) ?_
      exact km_iret hX hF rfl dX7_find_20 ⟨rfl, rfl, _, rfl, h⟩ (Nat.le_refl _) (Nat.le_refl _)
def X7_assume_w (x1 : Int32) (x2 : Int32) (mi : km_I) (K : Int32 → km_I → Prop) : Prop := X7_isMethod_w 0 x1 mi (fun r3 m3 => ((r3 = 0 → K (-101) m3) ∧ (¬ r3 = 0 → X7_isMethod_w 1 x2 m3 (fun r12 m12 => ((¬ r12 = 0 → X7_isPair_w x1 x2 m12 (fun r24 m24 => ((r24 = 0 → ((¬ (m24 86 10) = 6 → vp_in (m24 86 10) 6 ∧ (∀ m54, m54 = km_u m24 95 (Int32.toNatClampNeg (m24 86 10)) x1 → vp_in (m54 86 10) 6 ∧ (∀ m64, m64 = km_u m54 96 (Int32.toNatClampNeg (m54 86 10)) x2 → (∀ m72, m72 = km_u m64 86 10 ((m64 86 10) + 1) → K ((m72 86 10) - 1) m72)))) ∧ ((m24 86 10) = 6 → K (-104) m24))) ∧ (¬ r24 = 0 → K (-103) m24)))) ∧ (r12 = 0 → K (-101) m12))))))
set_option maxHeartbeats 4000000 in
set_option maxRecDepth 100000 in
theorem X7_assume_c {E : km_E} {l : Launch} {mr : km_R} (kqmr : km_MR mr) {x1 : Int32} {x2 : Int32} {mi : km_I} {K : Int32 → km_I → Prop} (h : X7_assume_w x1 x2 mi K) : km_Ci E l yX7_assume wsX7_assume rmX7_assume [.ref 86, .int x1, .int x2] SH mi mr K := by
  refine km_start (cc := cX7_assume) (maxL := 3) (ret := (some .int)) (by decide) rfl (Nat.le_of_ble_eq_true rfl) ?_
  intro X hl hX hF _
  subst hl

  have h : X7_isMethod_w 0 x1 mi (fun r3 m3 => ((r3 = 0 → K (-101) m3) ∧ (¬ r3 = 0 → X7_isMethod_w 1 x2 m3 (fun r12 m12 => ((¬ r12 = 0 → X7_isPair_w x1 x2 m12 (fun r24 m24 => ((r24 = 0 → ((¬ (m24 86 10) = 6 → vp_in (m24 86 10) 6 ∧ (∀ m54, m54 = km_u m24 95 (Int32.toNatClampNeg (m24 86 10)) x1 → vp_in (m54 86 10) 6 ∧ (∀ m64, m64 = km_u m54 96 (Int32.toNatClampNeg (m54 86 10)) x2 → (∀ m72, m72 = km_u m64 86 10 ((m64 86 10) + 1) → K ((m72 86 10) - 1) m72)))) ∧ ((m24 86 10) = 6 → K (-104) m24))) ∧ (¬ r24 = 0 → K (-103) m24)))) ∧ (r12 = 0 → K (-101) m12)))))) := h
  refine km_aload_n hX dX7_assume_0 rfl rfl ?_
  refine km_iconst (v := 0) hX dX7_assume_1 (by decide) ?_
  refine km_iload_n hX dX7_assume_2 rfl ?_
  refine km_callVi hX dX7_assume_3 vX7_assume_121 (X7_isMethod_c kqmr h) (by decide) shp_86 rfl rfl (Nat.le_of_ble_eq_true rfl) (fun r3 m3 h => ?_)
  refine km_if_eq (tgt := 18) hX dX7_assume_6 (by decide) (fun c => ?_) (fun c => ?_)
  · have h := h.1 c
    refine km_bipush (v := -101) hX dX7_assume_18 (by decide) ?_
    exact km_iret hX hF rfl dX7_assume_20 ⟨rfl, rfl, _, rfl, h⟩ (Nat.le_refl _) (Nat.le_refl _)
  · have h := h.2 c
    refine km_aload_n hX dX7_assume_9 rfl rfl ?_
    refine km_iconst (v := 1) hX dX7_assume_10 (by decide) ?_
    refine km_iload_n hX dX7_assume_11 rfl ?_
    refine km_callVi hX dX7_assume_12 vX7_assume_121 (X7_isMethod_c kqmr h) (by decide) shp_86 rfl rfl (Nat.le_of_ble_eq_true rfl) (fun r12 m12 h => ?_)
    refine km_if_ne (tgt := 21) hX dX7_assume_15 (by decide) (fun c => ?_) (fun c => ?_)
    · have h := h.1 c
      refine km_aload_n hX dX7_assume_21 rfl rfl ?_
      refine km_iload_n hX dX7_assume_22 rfl ?_
      refine km_iload_n hX dX7_assume_23 rfl ?_
      refine km_callVi hX dX7_assume_24 vX7_assume_186 (X7_isPair_c kqmr h) (by decide) shp_86 rfl rfl (Nat.le_of_ble_eq_true rfl) (fun r24 m24 h => ?_)
      refine km_if_eq (tgt := 33) hX dX7_assume_27 (by decide) (fun c => ?_) (fun c => ?_)
      · have h := h.1 c
        refine km_aload_n hX dX7_assume_33 rfl rfl ?_
        refine km_geti hX fX7_assume_183 shp_86 rfl dX7_assume_34 ?_
        refine km_bipush (v := 6) hX dX7_assume_37 (by decide) ?_
        refine km_icmp_ne (tgt := 45) hX dX7_assume_39 (by decide) (fun c => ?_) (fun c => ?_)
        · have h := h.1 c
          refine km_aload_n hX dX7_assume_45 rfl rfl ?_
          refine km_getr (q := 95) hX fX7_assume_34 shp_86 rfl dX7_assume_46 (mrp_86_11 kqmr) ?_
          refine km_aload_n hX dX7_assume_49 rfl rfl ?_
          refine km_geti hX fX7_assume_183 shp_86 rfl dX7_assume_50 ?_
          refine km_iload_n hX dX7_assume_53 rfl ?_
          obtain ⟨hc, h⟩ := h
          refine km_iastN hX shp_95 hc dX7_assume_54 (fun m54 e54 => ?_)
          have h := h m54 e54
          refine km_aload_n hX dX7_assume_55 rfl rfl ?_
          refine km_getr (q := 96) hX fX7_assume_37 shp_86 rfl dX7_assume_56 (mrp_86_12 kqmr) ?_
          refine km_aload_n hX dX7_assume_59 rfl rfl ?_
          refine km_geti hX fX7_assume_183 shp_86 rfl dX7_assume_60 ?_
          refine km_iload_n hX dX7_assume_63 rfl ?_
          obtain ⟨hc, h⟩ := h
          refine km_iastN hX shp_96 hc dX7_assume_64 (fun m64 e64 => ?_)
          have h := h m64 e64
          refine km_aload_n hX dX7_assume_65 rfl rfl ?_
          refine km_dup hX dX7_assume_66 ?_
          refine km_geti hX fX7_assume_183 shp_86 rfl dX7_assume_67 ?_
          refine km_iconst (v := 1) hX dX7_assume_70 (by decide) ?_
          refine km_iadd hX dX7_assume_71 ?_
          refine km_putiN hX pX7_assume_183 shp_86 rfl dX7_assume_72 (fun m72 e72 => ?_)
          have h := h m72 e72
          refine km_aload_n hX dX7_assume_75 rfl rfl ?_
          refine km_geti hX fX7_assume_183 shp_86 rfl dX7_assume_76 ?_
          refine km_iconst (v := 1) hX dX7_assume_79 (by decide) ?_
          refine km_isub hX dX7_assume_80 ?_
          exact km_iret hX hF rfl dX7_assume_81 ⟨rfl, rfl, _, rfl, h⟩ (Nat.le_refl _) (Nat.le_refl _)
        · have h := h.2 c
          refine km_bipush (v := -104) hX dX7_assume_42 (by decide) ?_
          exact km_iret hX hF rfl dX7_assume_44 ⟨rfl, rfl, _, rfl, h⟩ (Nat.le_refl _) (Nat.le_refl _)
      · have h := h.2 c
        refine km_bipush (v := -103) hX dX7_assume_30 (by decide) ?_
        exact km_iret hX hF rfl dX7_assume_32 ⟨rfl, rfl, _, rfl, h⟩ (Nat.le_refl _) (Nat.le_refl _)
    · have h := h.2 c
      refine km_bipush (v := -101) hX dX7_assume_18 (by decide) ?_
      exact km_iret hX hF rfl dX7_assume_20 ⟨rfl, rfl, _, rfl, h⟩ (Nat.le_refl _) (Nat.le_refl _)
def X7_drop_w (mi : km_I) (K : Int32 → km_I → Prop) : Prop := (∀ m7, m7 = km_u mi 86 10 0 → K (mi 86 10) m7)
set_option maxHeartbeats 4000000 in
set_option maxRecDepth 100000 in
theorem X7_drop_c {E : km_E} {l : Launch} {mr : km_R} (kqmr : km_MR mr) {mi : km_I} {K : Int32 → km_I → Prop} (h : X7_drop_w mi K) : km_Ci E l yX7_drop wsX7_drop rmX7_drop [.ref 86] SH mi mr K := by
  refine km_start (cc := cX7_drop) (maxL := 2) (ret := (some .int)) (by decide) rfl (Nat.le_of_ble_eq_true rfl) ?_
  intro X hl hX hF _
  subst hl

  have h : (∀ m7, m7 = km_u mi 86 10 0 → K (mi 86 10) m7) := h
  refine km_aload_n hX dX7_drop_0 rfl rfl ?_
  refine km_geti hX fX7_drop_183 shp_86 rfl dX7_drop_1 ?_
  refine km_istore_n hX dX7_drop_4 (by decide) ?_
  refine km_aload_n hX dX7_drop_5 rfl rfl ?_
  refine km_iconst (v := 0) hX dX7_drop_6 (by decide) ?_
  refine km_putiN hX pX7_drop_183 shp_86 rfl dX7_drop_7 (fun m7 e7 => ?_)
  have h := h m7 e7
  refine km_iload_n hX dX7_drop_10 rfl ?_
  exact km_iret hX hF rfl dX7_drop_11 ⟨rfl, rfl, _, rfl, h⟩ (Nat.le_refl _) (Nat.le_refl _)
def X7_walks_b48 (x1 : Int32) (x2 : Int32) (x3 : Int32) (y1 : Int32) (y2 : Int32) (y3 : Int32) (mi : km_I) (K : Int32 → km_I → Prop) : Prop := K 2 mi
set_option maxHeartbeats 4000000 in
set_option maxRecDepth 100000 in
theorem X7_walks_b48_t {E : km_E} {X : km_X} {mr : km_R} {K : Int32 → km_I → Prop} {x1 : Int32} {x2 : Int32} {x3 : Int32} (hX : km_ok E X rmX7_walks cX7_walks 4 wsX7_walks RX7) (hF : km_fin E X (some .int) 0 0 (fun r sh' mi' mr' => sh' = SH ∧ mr' = mr ∧ ∃ i, r = some (.int i) ∧ K i mi')) (kqmr : km_MR mr) : ∀ (y1 : Int32) (y2 : Int32) (y3 : Int32) (mi : km_I), X7_walks_b48 x1 x2 x3 y1 y2 y3 mi K → km_G E X 4 SH mi mr 0 0 48 [(0, .ref 86), (1, .int y1), (2, .int y2), (3, .int y3)] [] := by
  intro y1 y2 y3 mi h
  have h : K 2 mi := h
  refine km_iconst (v := 2) hX dX7_walks_48 (by decide) ?_
  refine km_goto (tgt := 64) hX dX7_walks_49 (by decide) ?_
  exact km_iret hX hF rfl dX7_walks_64 ⟨rfl, rfl, _, rfl, h⟩ (Nat.le_refl _) (Nat.le_refl _)
def X7_walks_w (x1 : Int32) (x2 : Int32) (x3 : Int32) (mi : km_I) (K : Int32 → km_I → Prop) : Prop := vp_in x1 6 ∧ X7_play_w 1 0 (mi 95 (Int32.toNatClampNeg x1)) x2 x3 mi (fun m11 => vp_in x1 6 ∧ X7_play_w 2 1 (m11 96 (Int32.toNatClampNeg x1)) x2 x3 m11 (fun m25 => vp_in 1 3 ∧ (((m25 101 (Int32.toNatClampNeg 1)) = 2 → X7_walks_b48 x1 x2 x3 x1 x2 x3 m25 K) ∧ (¬ (m25 101 (Int32.toNatClampNeg 1)) = 2 → vp_in 2 3 ∧ ((¬ (m25 101 (Int32.toNatClampNeg 2)) = 2 → X7_areLike_w m25 (fun r53 m53 => ((r53 = 0 → K 0 m53) ∧ (¬ r53 = 0 → K 1 m53)))) ∧ ((m25 101 (Int32.toNatClampNeg 2)) = 2 → X7_walks_b48 x1 x2 x3 x1 x2 x3 m25 K))))))
set_option maxHeartbeats 4000000 in
set_option maxRecDepth 100000 in
theorem X7_walks_c {E : km_E} {l : Launch} {mr : km_R} (kqmr : km_MR mr) {x1 : Int32} {x2 : Int32} {x3 : Int32} {mi : km_I} {K : Int32 → km_I → Prop} (h : X7_walks_w x1 x2 x3 mi K) : km_Ci E l yX7_walks wsX7_walks rmX7_walks [.ref 86, .int x1, .int x2, .int x3] SH mi mr K := by
  refine km_start (cc := cX7_walks) (maxL := 4) (ret := (some .int)) (by decide) rfl (Nat.le_of_ble_eq_true rfl) ?_
  intro X hl hX hF _
  subst hl

  have h : vp_in x1 6 ∧ X7_play_w 1 0 (mi 95 (Int32.toNatClampNeg x1)) x2 x3 mi (fun m11 => vp_in x1 6 ∧ X7_play_w 2 1 (m11 96 (Int32.toNatClampNeg x1)) x2 x3 m11 (fun m25 => vp_in 1 3 ∧ (((m25 101 (Int32.toNatClampNeg 1)) = 2 → X7_walks_b48 x1 x2 x3 x1 x2 x3 m25 K) ∧ (¬ (m25 101 (Int32.toNatClampNeg 1)) = 2 → vp_in 2 3 ∧ ((¬ (m25 101 (Int32.toNatClampNeg 2)) = 2 → X7_areLike_w m25 (fun r53 m53 => ((r53 = 0 → K 0 m53) ∧ (¬ r53 = 0 → K 1 m53)))) ∧ ((m25 101 (Int32.toNatClampNeg 2)) = 2 → X7_walks_b48 x1 x2 x3 x1 x2 x3 m25 K)))))) := h
  refine km_aload_n hX dX7_walks_0 rfl rfl ?_
  refine km_iconst (v := 1) hX dX7_walks_1 (by decide) ?_
  refine km_iconst (v := 0) hX dX7_walks_2 (by decide) ?_
  refine km_aload_n hX dX7_walks_3 rfl rfl ?_
  refine km_getr (q := 95) hX fX7_walks_34 shp_86 rfl dX7_walks_4 (mrp_86_11 kqmr) ?_
  refine km_iload_n hX dX7_walks_7 rfl ?_
  obtain ⟨hc, h⟩ := h
  refine km_iald hX shp_95 hc dX7_walks_8 ?_
  refine km_iload_n hX dX7_walks_9 rfl ?_
  refine km_iload_n hX dX7_walks_10 rfl ?_
  refine km_callVv hX dX7_walks_11 vX7_walks_171 (X7_play_c kqmr h) (by decide) shp_86 rfl rfl (Nat.le_of_ble_eq_true rfl) (fun m11 h => ?_)
  refine km_aload_n hX dX7_walks_14 rfl rfl ?_
  refine km_iconst (v := 2) hX dX7_walks_15 (by decide) ?_
  refine km_iconst (v := 1) hX dX7_walks_16 (by decide) ?_
  refine km_aload_n hX dX7_walks_17 rfl rfl ?_
  refine km_getr (q := 96) hX fX7_walks_37 shp_86 rfl dX7_walks_18 (mrp_86_12 kqmr) ?_
  refine km_iload_n hX dX7_walks_21 rfl ?_
  obtain ⟨hc, h⟩ := h
  refine km_iald hX shp_96 hc dX7_walks_22 ?_
  refine km_iload_n hX dX7_walks_23 rfl ?_
  refine km_iload_n hX dX7_walks_24 rfl ?_
  refine km_callVv hX dX7_walks_25 vX7_walks_171 (X7_play_c kqmr h) (by decide) shp_86 rfl rfl (Nat.le_of_ble_eq_true rfl) (fun m25 h => ?_)
  refine km_aload_n hX dX7_walks_28 rfl rfl ?_
  refine km_getr (q := 101) hX fX7_walks_52 shp_86 rfl dX7_walks_29 (mrp_86_22 kqmr) ?_
  refine km_iconst (v := 1) hX dX7_walks_32 (by decide) ?_
  obtain ⟨hc, h⟩ := h
  refine km_iald hX shp_101 hc dX7_walks_33 ?_
  refine km_iconst (v := 2) hX dX7_walks_34 (by decide) ?_
  refine km_icmp_eq (tgt := 48) hX dX7_walks_35 (by decide) (fun c => ?_) (fun c => ?_)
  · have h := h.1 c
    refine km_ren (ls' := [(0, .ref 86), (1, .int x1), (2, .int x2), (3, .int x3)]) [0, 1, 2, 3] rfl ?_
    exact X7_walks_b48_t hX hF kqmr _ _ _ _ h
  · have h := h.2 c
    refine km_aload_n hX dX7_walks_38 rfl rfl ?_
    refine km_getr (q := 101) hX fX7_walks_52 shp_86 rfl dX7_walks_39 (mrp_86_22 kqmr) ?_
    refine km_iconst (v := 2) hX dX7_walks_42 (by decide) ?_
    obtain ⟨hc, h⟩ := h
    refine km_iald hX shp_101 hc dX7_walks_43 ?_
    refine km_iconst (v := 2) hX dX7_walks_44 (by decide) ?_
    refine km_icmp_ne (tgt := 52) hX dX7_walks_45 (by decide) (fun c => ?_) (fun c => ?_)
    · have h := h.1 c
      refine km_aload_n hX dX7_walks_52 rfl rfl ?_
      refine km_callVi hX dX7_walks_53 vX7_walks_192 (X7_areLike_c kqmr h) (by decide) shp_86 rfl rfl (Nat.le_of_ble_eq_true rfl) (fun r53 m53 h => ?_)
      refine km_if_eq (tgt := 63) hX dX7_walks_56 (by decide) (fun c => ?_) (fun c => ?_)
      · have h := h.1 c
        refine km_iconst (v := 0) hX dX7_walks_63 (by decide) ?_
        exact km_iret hX hF rfl dX7_walks_64 ⟨rfl, rfl, _, rfl, h⟩ (Nat.le_refl _) (Nat.le_refl _)
      · have h := h.2 c
        refine km_iconst (v := 1) hX dX7_walks_59 (by decide) ?_
        refine km_goto (tgt := 64) hX dX7_walks_60 (by decide) ?_
        exact km_iret hX hF rfl dX7_walks_64 ⟨rfl, rfl, _, rfl, h⟩ (Nat.le_refl _) (Nat.le_refl _)
    · have h := h.2 c
      refine km_ren (ls' := [(0, .ref 86), (1, .int x1), (2, .int x2), (3, .int x3)]) [0, 1, 2, 3] rfl ?_
      exact X7_walks_b48_t hX hF kqmr _ _ _ _ h
def X7_tells_w (x1 : Int32) (x2 : Int32) (x3 : Int32) (mi : km_I) (K : km_I → Prop) : Prop := vp_in 0 5 ∧ (∀ m6, m6 = km_u mi 115 (Int32.toNatClampNeg 0) x1 → vp_in 1 5 ∧ (∀ m13, m13 = km_u m6 115 (Int32.toNatClampNeg 1) x2 → vp_in 2 5 ∧ (∀ m20, m20 = km_u m13 115 (Int32.toNatClampNeg 2) x3 → vp_in 3 5 ∧ (∀ m30, m30 = km_u m20 115 (Int32.toNatClampNeg 3) (m20 86 20) → vp_in 4 5 ∧ (∀ m40, m40 = km_u m30 115 (Int32.toNatClampNeg 4) (m30 86 21) → (∀ m43, m43 = km_u m40 86 41 1 → K m43))))))
set_option maxHeartbeats 4000000 in
set_option maxRecDepth 100000 in
theorem X7_tells_c {E : km_E} {l : Launch} {mr : km_R} (kqmr : km_MR mr) {x1 : Int32} {x2 : Int32} {x3 : Int32} {mi : km_I} {K : km_I → Prop} (h : X7_tells_w x1 x2 x3 mi K) : km_Cv E l yX7_tells wsX7_tells rmX7_tells [.ref 86, .int x1, .int x2, .int x3] SH mi mr K := by
  refine km_start (cc := cX7_tells) (maxL := 4) (ret := none) (by decide) rfl (Nat.le_of_ble_eq_true rfl) ?_
  intro X hl hX hF _
  subst hl

  have h : vp_in 0 5 ∧ (∀ m6, m6 = km_u mi 115 (Int32.toNatClampNeg 0) x1 → vp_in 1 5 ∧ (∀ m13, m13 = km_u m6 115 (Int32.toNatClampNeg 1) x2 → vp_in 2 5 ∧ (∀ m20, m20 = km_u m13 115 (Int32.toNatClampNeg 2) x3 → vp_in 3 5 ∧ (∀ m30, m30 = km_u m20 115 (Int32.toNatClampNeg 3) (m20 86 20) → vp_in 4 5 ∧ (∀ m40, m40 = km_u m30 115 (Int32.toNatClampNeg 4) (m30 86 21) → (∀ m43, m43 = km_u m40 86 41 1 → K m43)))))) := h
  refine km_aload_n hX dX7_tells_0 rfl rfl ?_
  refine km_getr (q := 115) hX fX7_tells_101 shp_86 rfl dX7_tells_1 (mrp_86_40 kqmr) ?_
  refine km_iconst (v := 0) hX dX7_tells_4 (by decide) ?_
  refine km_iload_n hX dX7_tells_5 rfl ?_
  obtain ⟨hc, h⟩ := h
  refine km_iastN hX shp_115 hc dX7_tells_6 (fun m6 e6 => ?_)
  have h := h m6 e6
  refine km_aload_n hX dX7_tells_7 rfl rfl ?_
  refine km_getr (q := 115) hX fX7_tells_101 shp_86 rfl dX7_tells_8 (mrp_86_40 kqmr) ?_
  refine km_iconst (v := 1) hX dX7_tells_11 (by decide) ?_
  refine km_iload_n hX dX7_tells_12 rfl ?_
  obtain ⟨hc, h⟩ := h
  refine km_iastN hX shp_115 hc dX7_tells_13 (fun m13 e13 => ?_)
  have h := h m13 e13
  refine km_aload_n hX dX7_tells_14 rfl rfl ?_
  refine km_getr (q := 115) hX fX7_tells_101 shp_86 rfl dX7_tells_15 (mrp_86_40 kqmr) ?_
  refine km_iconst (v := 2) hX dX7_tells_18 (by decide) ?_
  refine km_iload_n hX dX7_tells_19 rfl ?_
  obtain ⟨hc, h⟩ := h
  refine km_iastN hX shp_115 hc dX7_tells_20 (fun m20 e20 => ?_)
  have h := h m20 e20
  refine km_aload_n hX dX7_tells_21 rfl rfl ?_
  refine km_getr (q := 115) hX fX7_tells_101 shp_86 rfl dX7_tells_22 (mrp_86_40 kqmr) ?_
  refine km_iconst (v := 3) hX dX7_tells_25 (by decide) ?_
  refine km_aload_n hX dX7_tells_26 rfl rfl ?_
  refine km_geti hX fX7_tells_147 shp_86 rfl dX7_tells_27 ?_
  obtain ⟨hc, h⟩ := h
  refine km_iastN hX shp_115 hc dX7_tells_30 (fun m30 e30 => ?_)
  have h := h m30 e30
  refine km_aload_n hX dX7_tells_31 rfl rfl ?_
  refine km_getr (q := 115) hX fX7_tells_101 shp_86 rfl dX7_tells_32 (mrp_86_40 kqmr) ?_
  refine km_iconst (v := 4) hX dX7_tells_35 (by decide) ?_
  refine km_aload_n hX dX7_tells_36 rfl rfl ?_
  refine km_geti hX fX7_tells_150 shp_86 rfl dX7_tells_37 ?_
  obtain ⟨hc, h⟩ := h
  refine km_iastN hX shp_115 hc dX7_tells_40 (fun m40 e40 => ?_)
  have h := h m40 e40
  refine km_aload_n hX dX7_tells_41 rfl rfl ?_
  refine km_iconst (v := 1) hX dX7_tells_42 (by decide) ?_
  refine km_putzN hX pX7_tells_209 shp_86 rfl dX7_tells_43 (Or.inr rfl) (fun m43 e43 => ?_)
  have h := h m43 e43
  exact km_vret hX hF rfl dX7_tells_46 ⟨rfl, rfl, rfl, h⟩ (Nat.le_refl _) (Nat.le_refl _)
def X7_proved_b101 (x1 : Int32) (x2 : Int32) (Z5 : Int32 → Int32 → Int32 → Int32 → km_I → Prop) (Z17 : Int32 → Int32 → Int32 → Int32 → Int32 → km_I → Prop) (Z31 : Int32 → Int32 → Int32 → Int32 → Int32 → km_I → Prop) (Z49 : Int32 → Int32 → Int32 → Int32 → Int32 → km_I → Prop) (y1 : Int32) (y2 : Int32) (y3 : Int32) (y4 : Int32) (y5 : Int32) (y6 : Int32) (mi : km_I) (K : Int32 → km_I → Prop) : Prop := ((¬ y6 = 0 → (∀ m115, m115 = km_u mi 86 21 ((mi 86 21) + 1) → Z49 y1 y2 y3 y4 y5 m115)) ∧ (y6 = 0 → K 0 mi))
set_option maxHeartbeats 4000000 in
set_option maxRecDepth 100000 in
theorem X7_proved_b101_t {E : km_E} {X : km_X} {mr : km_R} {K : Int32 → km_I → Prop} {x1 : Int32} {x2 : Int32} {Z5 : Int32 → Int32 → Int32 → Int32 → km_I → Prop} {Z17 : Int32 → Int32 → Int32 → Int32 → Int32 → km_I → Prop} {Z31 : Int32 → Int32 → Int32 → Int32 → Int32 → km_I → Prop} {Z49 : Int32 → Int32 → Int32 → Int32 → Int32 → km_I → Prop} (hX : km_ok E X rmX7_proved cX7_proved 7 wsX7_proved RX7) (hF : km_fin E X (some .int) 0 0 (fun r sh' mi' mr' => sh' = SH ∧ mr' = mr ∧ ∃ i, r = some (.int i) ∧ K i mi')) (kqmr : km_MR mr) (hZ5 : ∀ (y1 : Int32) (y2 : Int32) (y3 : Int32) (y4 : Int32) (m : km_I), Z5 y1 y2 y3 y4 m → km_G E X 7 SH m mr 0 0 5 [(0, .ref 86), (1, .int y1), (2, .int y2), (3, .int y3), (4, .int y4)] []) (hZ17 : ∀ (y1 : Int32) (y2 : Int32) (y3 : Int32) (y4 : Int32) (y5 : Int32) (m : km_I), Z17 y1 y2 y3 y4 y5 m → km_G E X 7 SH m mr 0 0 17 [(0, .ref 86), (1, .int y1), (2, .int y2), (3, .int y3), (4, .int y4), (5, .int y5)] []) (hZ31 : ∀ (y1 : Int32) (y2 : Int32) (y3 : Int32) (y4 : Int32) (y5 : Int32) (m : km_I), Z31 y1 y2 y3 y4 y5 m → km_G E X 7 SH m mr 0 0 31 [(0, .ref 86), (1, .int y1), (2, .int y2), (3, .int y3), (4, .int y4), (5, .int y5)] []) (hZ49 : ∀ (y1 : Int32) (y2 : Int32) (y3 : Int32) (y4 : Int32) (y5 : Int32) (m : km_I), Z49 y1 y2 y3 y4 y5 m → km_G E X 7 SH m mr 0 0 49 [(0, .ref 86), (1, .int y1), (2, .int y2), (3, .int y3), (4, .int y4), (5, .int y5)] []) : ∀ (y1 : Int32) (y2 : Int32) (y3 : Int32) (y4 : Int32) (y5 : Int32) (y6 : Int32) (mi : km_I), X7_proved_b101 x1 x2 Z5 Z17 Z31 Z49 y1 y2 y3 y4 y5 y6 mi K → km_G E X 7 SH mi mr 0 0 101 [(0, .ref 86), (1, .int y1), (2, .int y2), (3, .int y3), (4, .int y4), (5, .int y5), (6, .int y6)] [] := by
  intro y1 y2 y3 y4 y5 y6 mi h
  have h : ((¬ y6 = 0 → (∀ m115, m115 = km_u mi 86 21 ((mi 86 21) + 1) → Z49 y1 y2 y3 y4 y5 m115)) ∧ (y6 = 0 → K 0 mi)) := h
  refine km_iload hX dX7_proved_101 rfl ?_
  refine km_if_ne (tgt := 108) hX dX7_proved_103 (by decide) (fun c => ?_) (fun c => ?_)
  · have h := h.1 c
    refine km_aload_n hX dX7_proved_108 rfl rfl ?_
    refine km_dup hX dX7_proved_109 ?_
    refine km_geti hX fX7_proved_150 shp_86 rfl dX7_proved_110 ?_
    refine km_iconst (v := 1) hX dX7_proved_113 (by decide) ?_
    refine km_iadd hX dX7_proved_114 ?_
    refine km_putiN hX pX7_proved_150 shp_86 rfl dX7_proved_115 (fun m115 e115 => ?_)
    have h := h m115 e115
    refine km_goto (tgt := 49) hX dX7_proved_118 (by decide) ?_
    refine km_ren (ls' := [(0, .ref 86), (1, .int y1), (2, .int y2), (3, .int y3), (4, .int y4), (5, .int y5)]) [0, 1, 2, 3, 4, 5] rfl ?_
    exact hZ49 _ _ _ _ _ _ h
  · have h := h.2 c
    refine km_iconst (v := 0) hX dX7_proved_106 (by decide) ?_
    exact km_iret hX hF rfl dX7_proved_107 ⟨rfl, rfl, _, rfl, h⟩ (Nat.le_refl _) (Nat.le_refl _)
def X7_proved_b89 (x1 : Int32) (x2 : Int32) (Z5 : Int32 → Int32 → Int32 → Int32 → km_I → Prop) (Z17 : Int32 → Int32 → Int32 → Int32 → Int32 → km_I → Prop) (Z31 : Int32 → Int32 → Int32 → Int32 → Int32 → km_I → Prop) (Z49 : Int32 → Int32 → Int32 → Int32 → Int32 → km_I → Prop) (y1 : Int32) (y2 : Int32) (y3 : Int32) (y4 : Int32) (y5 : Int32) (y6 : Int32) (mi : km_I) (K : Int32 → km_I → Prop) : Prop := X7_tells_w y1 y4 y5 mi (fun m95 => X7_proved_b101 x1 x2 Z5 Z17 Z31 Z49 y1 y2 y6 y4 y5 y6 m95 K)
set_option maxHeartbeats 4000000 in
set_option maxRecDepth 100000 in
theorem X7_proved_b89_t {E : km_E} {X : km_X} {mr : km_R} {K : Int32 → km_I → Prop} {x1 : Int32} {x2 : Int32} {Z5 : Int32 → Int32 → Int32 → Int32 → km_I → Prop} {Z17 : Int32 → Int32 → Int32 → Int32 → Int32 → km_I → Prop} {Z31 : Int32 → Int32 → Int32 → Int32 → Int32 → km_I → Prop} {Z49 : Int32 → Int32 → Int32 → Int32 → Int32 → km_I → Prop} (hX : km_ok E X rmX7_proved cX7_proved 7 wsX7_proved RX7) (hF : km_fin E X (some .int) 0 0 (fun r sh' mi' mr' => sh' = SH ∧ mr' = mr ∧ ∃ i, r = some (.int i) ∧ K i mi')) (kqmr : km_MR mr) (hZ5 : ∀ (y1 : Int32) (y2 : Int32) (y3 : Int32) (y4 : Int32) (m : km_I), Z5 y1 y2 y3 y4 m → km_G E X 7 SH m mr 0 0 5 [(0, .ref 86), (1, .int y1), (2, .int y2), (3, .int y3), (4, .int y4)] []) (hZ17 : ∀ (y1 : Int32) (y2 : Int32) (y3 : Int32) (y4 : Int32) (y5 : Int32) (m : km_I), Z17 y1 y2 y3 y4 y5 m → km_G E X 7 SH m mr 0 0 17 [(0, .ref 86), (1, .int y1), (2, .int y2), (3, .int y3), (4, .int y4), (5, .int y5)] []) (hZ31 : ∀ (y1 : Int32) (y2 : Int32) (y3 : Int32) (y4 : Int32) (y5 : Int32) (m : km_I), Z31 y1 y2 y3 y4 y5 m → km_G E X 7 SH m mr 0 0 31 [(0, .ref 86), (1, .int y1), (2, .int y2), (3, .int y3), (4, .int y4), (5, .int y5)] []) (hZ49 : ∀ (y1 : Int32) (y2 : Int32) (y3 : Int32) (y4 : Int32) (y5 : Int32) (m : km_I), Z49 y1 y2 y3 y4 y5 m → km_G E X 7 SH m mr 0 0 49 [(0, .ref 86), (1, .int y1), (2, .int y2), (3, .int y3), (4, .int y4), (5, .int y5)] []) : ∀ (y1 : Int32) (y2 : Int32) (y3 : Int32) (y4 : Int32) (y5 : Int32) (y6 : Int32) (mi : km_I), X7_proved_b89 x1 x2 Z5 Z17 Z31 Z49 y1 y2 y3 y4 y5 y6 mi K → km_G E X 7 SH mi mr 0 0 89 [(0, .ref 86), (1, .int y1), (2, .int y2), (3, .int y3), (4, .int y4), (5, .int y5), (6, .int y6)] [] := by
  intro y1 y2 y3 y4 y5 y6 mi h
  have h : X7_tells_w y1 y4 y5 mi (fun m95 => X7_proved_b101 x1 x2 Z5 Z17 Z31 Z49 y1 y2 y6 y4 y5 y6 m95 K) := h
  refine km_aload_n hX dX7_proved_89 rfl rfl ?_
  refine km_iload_n hX dX7_proved_90 rfl ?_
  refine km_iload hX dX7_proved_91 rfl ?_
  refine km_iload hX dX7_proved_93 rfl ?_
  refine km_callVv hX dX7_proved_95 vX7_proved_215 (X7_tells_c kqmr h) (by decide) shp_86 rfl rfl (Nat.le_of_ble_eq_true rfl) (fun m95 h => ?_)
  refine km_iload hX dX7_proved_98 rfl ?_
  refine km_istore_n hX dX7_proved_100 (by decide) ?_
  refine km_ren (ls' := [(0, .ref 86), (1, .int y1), (2, .int y2), (3, .int y6), (4, .int y4), (5, .int y5), (6, .int y6)]) [0, 1, 2, 3, 4, 5, 6] rfl ?_
  exact X7_proved_b101_t hX hF kqmr hZ5 hZ17 hZ31 hZ49 _ _ _ _ _ _ _ h
def X7_proved_b49 (x1 : Int32) (x2 : Int32) (Z5 : Int32 → Int32 → Int32 → Int32 → km_I → Prop) (Z17 : Int32 → Int32 → Int32 → Int32 → Int32 → km_I → Prop) (Z31 : Int32 → Int32 → Int32 → Int32 → Int32 → km_I → Prop) (n : Nat) (y1 : Int32) (y2 : Int32) (y3 : Int32) (y4 : Int32) (y5 : Int32) (mi : km_I) (K : Int32 → km_I → Prop) : Prop := match n with
  | 0 => False
  | n + 1 => ((((mi 86 1) + 1) < (mi 86 21) → (∀ m128, m128 = km_u mi 86 20 ((mi 86 20) + 1) → Z31 y1 y2 y3 y4 y5 m128)) ∧ (¬ ((mi 86 1) + 1) < (mi 86 21) → X7_walks_w y1 y4 y5 mi (fun r68 m68 => ((r68 = 0 → X7_proved_b89 x1 x2 Z5 Z17 Z31 (fun v0 v1 v2 v3 v4 m => X7_proved_b49 x1 x2 Z5 Z17 Z31 n v0 v1 v2 v3 v4 m K) y1 y2 y3 y4 y5 r68 m68 K) ∧ (¬ r68 = 0 → ((¬ r68 = 2 → X7_proved_b101 x1 x2 Z5 Z17 Z31 (fun v0 v1 v2 v3 v4 m => X7_proved_b49 x1 x2 Z5 Z17 Z31 n v0 v1 v2 v3 v4 m K) y1 y2 y3 y4 y5 r68 m68 K) ∧ (r68 = 2 → ((¬ y3 = 1 → X7_proved_b101 x1 x2 Z5 Z17 Z31 (fun v0 v1 v2 v3 v4 m => X7_proved_b49 x1 x2 Z5 Z17 Z31 n v0 v1 v2 v3 v4 m K) y1 y2 y3 y4 y5 r68 m68 K) ∧ (y3 = 1 → X7_proved_b89 x1 x2 Z5 Z17 Z31 (fun v0 v1 v2 v3 v4 m => X7_proved_b49 x1 x2 Z5 Z17 Z31 n v0 v1 v2 v3 v4 m K) y1 y2 y3 y4 y5 r68 m68 K)))))))))
set_option maxHeartbeats 4000000 in
set_option maxRecDepth 100000 in
theorem X7_proved_b49_t {E : km_E} {X : km_X} {mr : km_R} {K : Int32 → km_I → Prop} {x1 : Int32} {x2 : Int32} {Z5 : Int32 → Int32 → Int32 → Int32 → km_I → Prop} {Z17 : Int32 → Int32 → Int32 → Int32 → Int32 → km_I → Prop} {Z31 : Int32 → Int32 → Int32 → Int32 → Int32 → km_I → Prop} (hX : km_ok E X rmX7_proved cX7_proved 7 wsX7_proved RX7) (hF : km_fin E X (some .int) 0 0 (fun r sh' mi' mr' => sh' = SH ∧ mr' = mr ∧ ∃ i, r = some (.int i) ∧ K i mi')) (kqmr : km_MR mr) (hZ5 : ∀ (y1 : Int32) (y2 : Int32) (y3 : Int32) (y4 : Int32) (m : km_I), Z5 y1 y2 y3 y4 m → km_G E X 7 SH m mr 0 0 5 [(0, .ref 86), (1, .int y1), (2, .int y2), (3, .int y3), (4, .int y4)] []) (hZ17 : ∀ (y1 : Int32) (y2 : Int32) (y3 : Int32) (y4 : Int32) (y5 : Int32) (m : km_I), Z17 y1 y2 y3 y4 y5 m → km_G E X 7 SH m mr 0 0 17 [(0, .ref 86), (1, .int y1), (2, .int y2), (3, .int y3), (4, .int y4), (5, .int y5)] []) (hZ31 : ∀ (y1 : Int32) (y2 : Int32) (y3 : Int32) (y4 : Int32) (y5 : Int32) (m : km_I), Z31 y1 y2 y3 y4 y5 m → km_G E X 7 SH m mr 0 0 31 [(0, .ref 86), (1, .int y1), (2, .int y2), (3, .int y3), (4, .int y4), (5, .int y5)] []) : ∀ (n : Nat) (y1 : Int32) (y2 : Int32) (y3 : Int32) (y4 : Int32) (y5 : Int32) (mi : km_I), X7_proved_b49 x1 x2 Z5 Z17 Z31 n y1 y2 y3 y4 y5 mi K → km_G E X 7 SH mi mr 0 0 49 [(0, .ref 86), (1, .int y1), (2, .int y2), (3, .int y3), (4, .int y4), (5, .int y5)] [] := by
  intro n
  induction n with
  | zero => intro y1 y2 y3 y4 y5 mi h; exact h.elim
  | succ n ih =>
    intro y1 y2 y3 y4 y5 mi h
    have h : ((((mi 86 1) + 1) < (mi 86 21) → (∀ m128, m128 = km_u mi 86 20 ((mi 86 20) + 1) → Z31 y1 y2 y3 y4 y5 m128)) ∧ (¬ ((mi 86 1) + 1) < (mi 86 21) → X7_walks_w y1 y4 y5 mi (fun r68 m68 => ((r68 = 0 → X7_proved_b89 x1 x2 Z5 Z17 Z31 (fun v0 v1 v2 v3 v4 m => X7_proved_b49 x1 x2 Z5 Z17 Z31 n v0 v1 v2 v3 v4 m K) y1 y2 y3 y4 y5 r68 m68 K) ∧ (¬ r68 = 0 → ((¬ r68 = 2 → X7_proved_b101 x1 x2 Z5 Z17 Z31 (fun v0 v1 v2 v3 v4 m => X7_proved_b49 x1 x2 Z5 Z17 Z31 n v0 v1 v2 v3 v4 m K) y1 y2 y3 y4 y5 r68 m68 K) ∧ (r68 = 2 → ((¬ y3 = 1 → X7_proved_b101 x1 x2 Z5 Z17 Z31 (fun v0 v1 v2 v3 v4 m => X7_proved_b49 x1 x2 Z5 Z17 Z31 n v0 v1 v2 v3 v4 m K) y1 y2 y3 y4 y5 r68 m68 K) ∧ (y3 = 1 → X7_proved_b89 x1 x2 Z5 Z17 Z31 (fun v0 v1 v2 v3 v4 m => X7_proved_b49 x1 x2 Z5 Z17 Z31 n v0 v1 v2 v3 v4 m K) y1 y2 y3 y4 y5 r68 m68 K))))))))) := h
    refine km_aload_n hX dX7_proved_49 rfl rfl ?_
    refine km_geti hX fX7_proved_150 shp_86 rfl dX7_proved_50 ?_
    refine km_aload_n hX dX7_proved_53 rfl rfl ?_
    refine km_geti hX fX7_proved_107 shp_86 rfl dX7_proved_54 ?_
    refine km_iconst (v := 1) hX dX7_proved_57 (by decide) ?_
    refine km_iadd hX dX7_proved_58 ?_
    refine km_icmp_gt (tgt := 121) hX dX7_proved_59 (by decide) (fun c => ?_) (fun c => ?_)
    · have h := h.1 c
      refine km_aload_n hX dX7_proved_121 rfl rfl ?_
      refine km_dup hX dX7_proved_122 ?_
      refine km_geti hX fX7_proved_147 shp_86 rfl dX7_proved_123 ?_
      refine km_iconst (v := 1) hX dX7_proved_126 (by decide) ?_
      refine km_iadd hX dX7_proved_127 ?_
      refine km_putiN hX pX7_proved_147 shp_86 rfl dX7_proved_128 (fun m128 e128 => ?_)
      have h := h m128 e128
      refine km_goto (tgt := 31) hX dX7_proved_131 (by decide) ?_
      refine km_ren (ls' := [(0, .ref 86), (1, .int y1), (2, .int y2), (3, .int y3), (4, .int y4), (5, .int y5)]) [0, 1, 2, 3, 4, 5] rfl ?_
      exact hZ31 _ _ _ _ _ _ h
    · have h := h.2 c
      refine km_aload_n hX dX7_proved_62 rfl rfl ?_
      refine km_iload_n hX dX7_proved_63 rfl ?_
      refine km_iload hX dX7_proved_64 rfl ?_
      refine km_iload hX dX7_proved_66 rfl ?_
      refine km_callVi hX dX7_proved_68 vX7_proved_212 (X7_walks_c kqmr h) (by decide) shp_86 rfl rfl (Nat.le_of_ble_eq_true rfl) (fun r68 m68 h => ?_)
      refine km_istore hX dX7_proved_71 (by decide) ?_
      refine km_iload hX dX7_proved_73 rfl ?_
      refine km_if_eq (tgt := 89) hX dX7_proved_75 (by decide) (fun c => ?_) (fun c => ?_)
      · have h := h.1 c
        refine km_ren (ls' := [(0, .ref 86), (1, .int y1), (2, .int y2), (3, .int y3), (4, .int y4), (5, .int y5), (6, .int r68)]) [0, 1, 2, 3, 4, 5, 6] rfl ?_
        exact X7_proved_b89_t hX hF kqmr hZ5 hZ17 hZ31 (fun v0 v1 v2 v3 v4 m hh => ih v0 v1 v2 v3 v4 m hh) _ _ _ _ _ _ _ h
      · have h := h.2 c
        refine km_iload hX dX7_proved_78 rfl ?_
        refine km_iconst (v := 2) hX dX7_proved_80 (by decide) ?_
        refine km_icmp_ne (tgt := 101) hX dX7_proved_81 (by decide) (fun c => ?_) (fun c => ?_)
        · have h := h.1 c
          refine km_ren (ls' := [(0, .ref 86), (1, .int y1), (2, .int y2), (3, .int y3), (4, .int y4), (5, .int y5), (6, .int r68)]) [0, 1, 2, 3, 4, 5, 6] rfl ?_
          exact X7_proved_b101_t hX hF kqmr hZ5 hZ17 hZ31 (fun v0 v1 v2 v3 v4 m hh => ih v0 v1 v2 v3 v4 m hh) _ _ _ _ _ _ _ h
        · have h := h.2 c
          refine km_iload_n hX dX7_proved_84 rfl ?_
          refine km_iconst (v := 1) hX dX7_proved_85 (by decide) ?_
          refine km_icmp_ne (tgt := 101) hX dX7_proved_86 (by decide) (fun c => ?_) (fun c => ?_)
          · have h := h.1 c
            refine km_ren (ls' := [(0, .ref 86), (1, .int y1), (2, .int y2), (3, .int y3), (4, .int y4), (5, .int y5), (6, .int r68)]) [0, 1, 2, 3, 4, 5, 6] rfl ?_
            exact X7_proved_b101_t hX hF kqmr hZ5 hZ17 hZ31 (fun v0 v1 v2 v3 v4 m hh => ih v0 v1 v2 v3 v4 m hh) _ _ _ _ _ _ _ h
          · have h := h.2 c
            refine km_ren (ls' := [(0, .ref 86), (1, .int y1), (2, .int y2), (3, .int y3), (4, .int y4), (5, .int y5), (6, .int r68)]) [0, 1, 2, 3, 4, 5, 6] rfl ?_
            exact X7_proved_b89_t hX hF kqmr hZ5 hZ17 hZ31 (fun v0 v1 v2 v3 v4 m hh => ih v0 v1 v2 v3 v4 m hh) _ _ _ _ _ _ _ h
def X7_proved_b31 (x1 : Int32) (x2 : Int32) (Z5 : Int32 → Int32 → Int32 → Int32 → km_I → Prop) (Z17 : Int32 → Int32 → Int32 → Int32 → Int32 → km_I → Prop) (n : Nat) (y1 : Int32) (y2 : Int32) (y3 : Int32) (y4 : Int32) (y5 : Int32) (mi : km_I) (K : Int32 → km_I → Prop) : Prop := match n with
  | 0 => False
  | n + 1 => ((((mi 86 1) + 1) < (mi 86 20) → Z17 y1 y2 y3 y4 (y5 + 1) mi) ∧ (¬ ((mi 86 1) + 1) < (mi 86 20) → (∀ m46, m46 = km_u mi 86 21 0 → ∃ k, X7_proved_b49 x1 x2 Z5 Z17 (fun v0 v1 v2 v3 v4 m => X7_proved_b31 x1 x2 Z5 Z17 n v0 v1 v2 v3 v4 m K) k y1 y2 y3 y4 y5 m46 K)))
set_option maxHeartbeats 4000000 in
set_option maxRecDepth 100000 in
theorem X7_proved_b31_t {E : km_E} {X : km_X} {mr : km_R} {K : Int32 → km_I → Prop} {x1 : Int32} {x2 : Int32} {Z5 : Int32 → Int32 → Int32 → Int32 → km_I → Prop} {Z17 : Int32 → Int32 → Int32 → Int32 → Int32 → km_I → Prop} (hX : km_ok E X rmX7_proved cX7_proved 7 wsX7_proved RX7) (hF : km_fin E X (some .int) 0 0 (fun r sh' mi' mr' => sh' = SH ∧ mr' = mr ∧ ∃ i, r = some (.int i) ∧ K i mi')) (kqmr : km_MR mr) (hZ5 : ∀ (y1 : Int32) (y2 : Int32) (y3 : Int32) (y4 : Int32) (m : km_I), Z5 y1 y2 y3 y4 m → km_G E X 7 SH m mr 0 0 5 [(0, .ref 86), (1, .int y1), (2, .int y2), (3, .int y3), (4, .int y4)] []) (hZ17 : ∀ (y1 : Int32) (y2 : Int32) (y3 : Int32) (y4 : Int32) (y5 : Int32) (m : km_I), Z17 y1 y2 y3 y4 y5 m → km_G E X 7 SH m mr 0 0 17 [(0, .ref 86), (1, .int y1), (2, .int y2), (3, .int y3), (4, .int y4), (5, .int y5)] []) : ∀ (n : Nat) (y1 : Int32) (y2 : Int32) (y3 : Int32) (y4 : Int32) (y5 : Int32) (mi : km_I), X7_proved_b31 x1 x2 Z5 Z17 n y1 y2 y3 y4 y5 mi K → km_G E X 7 SH mi mr 0 0 31 [(0, .ref 86), (1, .int y1), (2, .int y2), (3, .int y3), (4, .int y4), (5, .int y5)] [] := by
  intro n
  induction n with
  | zero => intro y1 y2 y3 y4 y5 mi h; exact h.elim
  | succ n ih =>
    intro y1 y2 y3 y4 y5 mi h
    have h : ((((mi 86 1) + 1) < (mi 86 20) → Z17 y1 y2 y3 y4 (y5 + 1) mi) ∧ (¬ ((mi 86 1) + 1) < (mi 86 20) → (∀ m46, m46 = km_u mi 86 21 0 → ∃ k, X7_proved_b49 x1 x2 Z5 Z17 (fun v0 v1 v2 v3 v4 m => X7_proved_b31 x1 x2 Z5 Z17 n v0 v1 v2 v3 v4 m K) k y1 y2 y3 y4 y5 m46 K))) := h
    refine km_aload_n hX dX7_proved_31 rfl rfl ?_
    refine km_geti hX fX7_proved_147 shp_86 rfl dX7_proved_32 ?_
    refine km_aload_n hX dX7_proved_35 rfl rfl ?_
    refine km_geti hX fX7_proved_107 shp_86 rfl dX7_proved_36 ?_
    refine km_iconst (v := 1) hX dX7_proved_39 (by decide) ?_
    refine km_iadd hX dX7_proved_40 ?_
    refine km_icmp_gt (tgt := 134) hX dX7_proved_41 (by decide) (fun c => ?_) (fun c => ?_)
    · have h := h.1 c
      refine km_iinc (v := 1) hX dX7_proved_134 (by decide) rfl (by decide) ?_
      refine km_goto (tgt := 17) hX dX7_proved_137 (by decide) ?_
      refine km_ren (ls' := [(0, .ref 86), (1, .int y1), (2, .int y2), (3, .int y3), (4, .int y4), (5, .int (y5 + 1))]) [0, 1, 2, 3, 4, 5] rfl ?_
      exact hZ17 _ _ _ _ _ _ h
    · have h := h.2 c
      refine km_aload_n hX dX7_proved_44 rfl rfl ?_
      refine km_iconst (v := 0) hX dX7_proved_45 (by decide) ?_
      refine km_putiN hX pX7_proved_150 shp_86 rfl dX7_proved_46 (fun m46 e46 => ?_)
      have h := h m46 e46
      obtain ⟨n9, h⟩ := h
      refine km_ren (ls' := [(0, .ref 86), (1, .int y1), (2, .int y2), (3, .int y3), (4, .int y4), (5, .int y5)]) [0, 1, 2, 3, 4, 5] rfl ?_
      exact X7_proved_b49_t hX hF kqmr hZ5 hZ17 (fun v0 v1 v2 v3 v4 m hh => ih v0 v1 v2 v3 v4 m hh) n9 _ _ _ _ _ _ h
def X7_proved_b17 (x1 : Int32) (x2 : Int32) (Z5 : Int32 → Int32 → Int32 → Int32 → km_I → Prop) (n : Nat) (y1 : Int32) (y2 : Int32) (y3 : Int32) (y4 : Int32) (y5 : Int32) (mi : km_I) (K : Int32 → km_I → Prop) : Prop := match n with
  | 0 => False
  | n + 1 => (((mi 86 1) < y5 → Z5 y1 y2 y3 (y4 + 1) mi) ∧ (¬ (mi 86 1) < y5 → (∀ m28, m28 = km_u mi 86 20 0 → ∃ k, X7_proved_b31 x1 x2 Z5 (fun v0 v1 v2 v3 v4 m => X7_proved_b17 x1 x2 Z5 n v0 v1 v2 v3 v4 m K) k y1 y2 y3 y4 y5 m28 K)))
set_option maxHeartbeats 4000000 in
set_option maxRecDepth 100000 in
theorem X7_proved_b17_t {E : km_E} {X : km_X} {mr : km_R} {K : Int32 → km_I → Prop} {x1 : Int32} {x2 : Int32} {Z5 : Int32 → Int32 → Int32 → Int32 → km_I → Prop} (hX : km_ok E X rmX7_proved cX7_proved 7 wsX7_proved RX7) (hF : km_fin E X (some .int) 0 0 (fun r sh' mi' mr' => sh' = SH ∧ mr' = mr ∧ ∃ i, r = some (.int i) ∧ K i mi')) (kqmr : km_MR mr) (hZ5 : ∀ (y1 : Int32) (y2 : Int32) (y3 : Int32) (y4 : Int32) (m : km_I), Z5 y1 y2 y3 y4 m → km_G E X 7 SH m mr 0 0 5 [(0, .ref 86), (1, .int y1), (2, .int y2), (3, .int y3), (4, .int y4)] []) : ∀ (n : Nat) (y1 : Int32) (y2 : Int32) (y3 : Int32) (y4 : Int32) (y5 : Int32) (mi : km_I), X7_proved_b17 x1 x2 Z5 n y1 y2 y3 y4 y5 mi K → km_G E X 7 SH mi mr 0 0 17 [(0, .ref 86), (1, .int y1), (2, .int y2), (3, .int y3), (4, .int y4), (5, .int y5)] [] := by
  intro n
  induction n with
  | zero => intro y1 y2 y3 y4 y5 mi h; exact h.elim
  | succ n ih =>
    intro y1 y2 y3 y4 y5 mi h
    have h : (((mi 86 1) < y5 → Z5 y1 y2 y3 (y4 + 1) mi) ∧ (¬ (mi 86 1) < y5 → (∀ m28, m28 = km_u mi 86 20 0 → ∃ k, X7_proved_b31 x1 x2 Z5 (fun v0 v1 v2 v3 v4 m => X7_proved_b17 x1 x2 Z5 n v0 v1 v2 v3 v4 m K) k y1 y2 y3 y4 y5 m28 K))) := h
    refine km_iload hX dX7_proved_17 rfl ?_
    refine km_aload_n hX dX7_proved_19 rfl rfl ?_
    refine km_geti hX fX7_proved_107 shp_86 rfl dX7_proved_20 ?_
    refine km_icmp_gt (tgt := 140) hX dX7_proved_23 (by decide) (fun c => ?_) (fun c => ?_)
    · have h := h.1 c
      refine km_iinc (v := 1) hX dX7_proved_140 (by decide) rfl (by decide) ?_
      refine km_goto (tgt := 5) hX dX7_proved_143 (by decide) ?_
      refine km_ren (ls' := [(0, .ref 86), (1, .int y1), (2, .int y2), (3, .int y3), (4, .int (y4 + 1))]) [0, 1, 2, 3, 4] rfl ?_
      exact hZ5 _ _ _ _ _ h
    · have h := h.2 c
      refine km_aload_n hX dX7_proved_26 rfl rfl ?_
      refine km_iconst (v := 0) hX dX7_proved_27 (by decide) ?_
      refine km_putiN hX pX7_proved_147 shp_86 rfl dX7_proved_28 (fun m28 e28 => ?_)
      have h := h m28 e28
      obtain ⟨n9, h⟩ := h
      refine km_ren (ls' := [(0, .ref 86), (1, .int y1), (2, .int y2), (3, .int y3), (4, .int y4), (5, .int y5)]) [0, 1, 2, 3, 4, 5] rfl ?_
      exact X7_proved_b31_t hX hF kqmr hZ5 (fun v0 v1 v2 v3 v4 m hh => ih v0 v1 v2 v3 v4 m hh) n9 _ _ _ _ _ _ h
def X7_proved_b5 (x1 : Int32) (x2 : Int32) (n : Nat) (y1 : Int32) (y2 : Int32) (y3 : Int32) (y4 : Int32) (mi : km_I) (K : Int32 → km_I → Prop) : Prop := match n with
  | 0 => False
  | n + 1 => (((mi 86 1) < y4 → K y3 mi) ∧ (¬ (mi 86 1) < y4 → ∃ k, X7_proved_b17 x1 x2 (fun v0 v1 v2 v3 m => X7_proved_b5 x1 x2 n v0 v1 v2 v3 m K) k y1 y2 y3 y4 0 mi K))
set_option maxHeartbeats 4000000 in
set_option maxRecDepth 100000 in
theorem X7_proved_b5_t {E : km_E} {X : km_X} {mr : km_R} {K : Int32 → km_I → Prop} {x1 : Int32} {x2 : Int32} (hX : km_ok E X rmX7_proved cX7_proved 7 wsX7_proved RX7) (hF : km_fin E X (some .int) 0 0 (fun r sh' mi' mr' => sh' = SH ∧ mr' = mr ∧ ∃ i, r = some (.int i) ∧ K i mi')) (kqmr : km_MR mr) : ∀ (n : Nat) (y1 : Int32) (y2 : Int32) (y3 : Int32) (y4 : Int32) (mi : km_I), X7_proved_b5 x1 x2 n y1 y2 y3 y4 mi K → km_G E X 7 SH mi mr 0 0 5 [(0, .ref 86), (1, .int y1), (2, .int y2), (3, .int y3), (4, .int y4)] [] := by
  intro n
  induction n with
  | zero => intro y1 y2 y3 y4 mi h; exact h.elim
  | succ n ih =>
    intro y1 y2 y3 y4 mi h
    have h : (((mi 86 1) < y4 → K y3 mi) ∧ (¬ (mi 86 1) < y4 → ∃ k, X7_proved_b17 x1 x2 (fun v0 v1 v2 v3 m => X7_proved_b5 x1 x2 n v0 v1 v2 v3 m K) k y1 y2 y3 y4 0 mi K)) := h
    refine km_iload hX dX7_proved_5 rfl ?_
    refine km_aload_n hX dX7_proved_7 rfl rfl ?_
    refine km_geti hX fX7_proved_107 shp_86 rfl dX7_proved_8 ?_
    refine km_icmp_gt (tgt := 146) hX dX7_proved_11 (by decide) (fun c => ?_) (fun c => ?_)
    · have h := h.1 c
      refine km_iload_n hX dX7_proved_146 rfl ?_
      exact km_iret hX hF rfl dX7_proved_147 ⟨rfl, rfl, _, rfl, h⟩ (Nat.le_refl _) (Nat.le_refl _)
    · have h := h.2 c
      refine km_iconst (v := 0) hX dX7_proved_14 (by decide) ?_
      refine km_istore hX dX7_proved_15 (by decide) ?_
      obtain ⟨n9, h⟩ := h
      refine km_ren (ls' := [(0, .ref 86), (1, .int y1), (2, .int y2), (3, .int y3), (4, .int y4), (5, .int 0)]) [0, 1, 2, 3, 4, 5] rfl ?_
      exact X7_proved_b17_t hX hF kqmr (fun v0 v1 v2 v3 m hh => ih v0 v1 v2 v3 m hh) n9 _ _ _ _ _ _ h
def X7_proved_w (x1 : Int32) (x2 : Int32) (mi : km_I) (K : Int32 → km_I → Prop) : Prop := ∃ k, X7_proved_b5 x1 x2 k x1 x2 x2 0 mi K
set_option maxHeartbeats 4000000 in
set_option maxRecDepth 100000 in
theorem X7_proved_c {E : km_E} {l : Launch} {mr : km_R} (kqmr : km_MR mr) {x1 : Int32} {x2 : Int32} {mi : km_I} {K : Int32 → km_I → Prop} (h : X7_proved_w x1 x2 mi K) : km_Ci E l yX7_proved wsX7_proved rmX7_proved [.ref 86, .int x1, .int x2] SH mi mr K := by
  refine km_start (cc := cX7_proved) (maxL := 7) (ret := (some .int)) (by decide) rfl (Nat.le_of_ble_eq_true rfl) ?_
  intro X hl hX hF _
  subst hl

  have h : ∃ k, X7_proved_b5 x1 x2 k x1 x2 x2 0 mi K := h
  refine km_iload_n hX dX7_proved_0 rfl ?_
  refine km_istore_n hX dX7_proved_1 (by decide) ?_
  refine km_iconst (v := 0) hX dX7_proved_2 (by decide) ?_
  refine km_istore hX dX7_proved_3 (by decide) ?_
  obtain ⟨n9, h⟩ := h
  refine km_ren (ls' := [(0, .ref 86), (1, .int x1), (2, .int x2), (3, .int x2), (4, .int 0)]) [0, 1, 2, 3, 4] rfl ?_
  exact X7_proved_b5_t hX hF kqmr n9 _ _ _ _ _ h
def X7_prove_b23 (n : Nat) (y1 : Int32) (y2 : Int32) (mi : km_I) (K : Int32 → km_I → Prop) : Prop := match n with
  | 0 => False
  | n + 1 => (((mi 86 10) ≤ y2 → K y1 mi) ∧ (¬ (mi 86 10) ≤ y2 → ((y1 = 0 → K y1 mi) ∧ (¬ y1 = 0 → X7_proved_w y2 y1 mi (fun r38 m38 => X7_prove_b23 n r38 (y2 + 1) m38 K)))))
set_option maxHeartbeats 4000000 in
set_option maxRecDepth 100000 in
theorem X7_prove_b23_t {E : km_E} {X : km_X} {mr : km_R} {K : Int32 → km_I → Prop} (hX : km_ok E X rmX7_prove cX7_prove 3 wsX7_prove RX7) (hF : km_fin E X (some .int) 0 0 (fun r sh' mi' mr' => sh' = SH ∧ mr' = mr ∧ ∃ i, r = some (.int i) ∧ K i mi')) (kqmr : km_MR mr) : ∀ (n : Nat) (y1 : Int32) (y2 : Int32) (mi : km_I), X7_prove_b23 n y1 y2 mi K → km_G E X 3 SH mi mr 0 0 23 [(0, .ref 86), (1, .int y1), (2, .int y2)] [] := by
  intro n
  induction n with
  | zero => intro y1 y2 mi h; exact h.elim
  | succ n ih =>
    intro y1 y2 mi h
    have h : (((mi 86 10) ≤ y2 → K y1 mi) ∧ (¬ (mi 86 10) ≤ y2 → ((y1 = 0 → K y1 mi) ∧ (¬ y1 = 0 → X7_proved_w y2 y1 mi (fun r38 m38 => X7_prove_b23 n r38 (y2 + 1) m38 K))))) := h
    refine km_iload_n hX dX7_prove_23 rfl ?_
    refine km_aload_n hX dX7_prove_24 rfl rfl ?_
    refine km_geti hX fX7_prove_183 shp_86 rfl dX7_prove_25 ?_
    refine km_icmp_ge (tgt := 48) hX dX7_prove_28 (by decide) (fun c => ?_) (fun c => ?_)
    · have h := h.1 c
      refine km_iload_n hX dX7_prove_48 rfl ?_
      exact km_iret hX hF rfl dX7_prove_49 ⟨rfl, rfl, _, rfl, h⟩ (Nat.le_refl _) (Nat.le_refl _)
    · have h := h.2 c
      refine km_iload_n hX dX7_prove_31 rfl ?_
      refine km_if_eq (tgt := 48) hX dX7_prove_32 (by decide) (fun c => ?_) (fun c => ?_)
      · have h := h.1 c
        refine km_iload_n hX dX7_prove_48 rfl ?_
        exact km_iret hX hF rfl dX7_prove_49 ⟨rfl, rfl, _, rfl, h⟩ (Nat.le_refl _) (Nat.le_refl _)
      · have h := h.2 c
        refine km_aload_n hX dX7_prove_35 rfl rfl ?_
        refine km_iload_n hX dX7_prove_36 rfl ?_
        refine km_iload_n hX dX7_prove_37 rfl ?_
        refine km_callVi hX dX7_prove_38 vX7_prove_217 (X7_proved_c kqmr h) (by decide) shp_86 rfl rfl (Nat.le_of_ble_eq_true rfl) (fun r38 m38 h => ?_)
        refine km_istore_n hX dX7_prove_41 (by decide) ?_
        refine km_iinc (v := 1) hX dX7_prove_42 (by decide) rfl (by decide) ?_
        refine km_goto (tgt := 23) hX dX7_prove_45 (by decide) ?_
        refine km_ren (ls' := [(0, .ref 86), (1, .int r38), (2, .int (y2 + 1))]) [0, 1, 2] rfl ?_
        exact ih _ _ _ h
def X7_prove_w (mi : km_I) (K : Int32 → km_I → Prop) : Prop := (∀ m2, m2 = km_u mi 86 41 0 → ((¬ (m2 86 10) = 0 → (∀ m16, m16 = km_u m2 86 19 1 → ∃ k, X7_prove_b23 k 1 0 m16 K)) ∧ ((m2 86 10) = 0 → K (-1) m2)))
set_option maxHeartbeats 4000000 in
set_option maxRecDepth 100000 in
theorem X7_prove_c {E : km_E} {l : Launch} {mr : km_R} (kqmr : km_MR mr) {mi : km_I} {K : Int32 → km_I → Prop} (h : X7_prove_w mi K) : km_Ci E l yX7_prove wsX7_prove rmX7_prove [.ref 86] SH mi mr K := by
  refine km_start (cc := cX7_prove) (maxL := 3) (ret := (some .int)) (by decide) rfl (Nat.le_of_ble_eq_true rfl) ?_
  intro X hl hX hF _
  subst hl

  have h : (∀ m2, m2 = km_u mi 86 41 0 → ((¬ (m2 86 10) = 0 → (∀ m16, m16 = km_u m2 86 19 1 → ∃ k, X7_prove_b23 k 1 0 m16 K)) ∧ ((m2 86 10) = 0 → K (-1) m2))) := h
  refine km_aload_n hX dX7_prove_0 rfl rfl ?_
  refine km_iconst (v := 0) hX dX7_prove_1 (by decide) ?_
  refine km_putzN hX pX7_prove_209 shp_86 rfl dX7_prove_2 (Or.inl rfl) (fun m2 e2 => ?_)
  have h := h m2 e2
  refine km_aload_n hX dX7_prove_5 rfl rfl ?_
  refine km_geti hX fX7_prove_183 shp_86 rfl dX7_prove_6 ?_
  refine km_if_ne (tgt := 14) hX dX7_prove_9 (by decide) (fun c => ?_) (fun c => ?_)
  · have h := h.1 c
    refine km_aload_n hX dX7_prove_14 rfl rfl ?_
    refine km_iconst (v := 1) hX dX7_prove_15 (by decide) ?_
    refine km_putzN hX pX7_prove_139 shp_86 rfl dX7_prove_16 (Or.inr rfl) (fun m16 e16 => ?_)
    have h := h m16 e16
    refine km_iconst (v := 1) hX dX7_prove_19 (by decide) ?_
    refine km_istore_n hX dX7_prove_20 (by decide) ?_
    refine km_iconst (v := 0) hX dX7_prove_21 (by decide) ?_
    refine km_istore_n hX dX7_prove_22 (by decide) ?_
    obtain ⟨n9, h⟩ := h
    refine km_ren (ls' := [(0, .ref 86), (1, .int 1), (2, .int 0)]) [0, 1, 2] rfl ?_
    exact X7_prove_b23_t hX hF kqmr n9 _ _ _ h
  · have h := h.2 c
    refine km_iconst (v := -1) hX dX7_prove_12 (by decide) ?_
    exact km_iret hX hF rfl dX7_prove_13 ⟨rfl, rfl, _, rfl, h⟩ (Nat.le_refl _) (Nat.le_refl _)
def X7_why_w (x1 : Int32) (mi : km_I) (K : Int32 → km_I → Prop) : Prop := X7_in_w x1 0 4 mi (fun r3 m3 => ((¬ r3 = 0 → (((m3 86 41) = 0 → K (-1) m3) ∧ (¬ (m3 86 41) = 0 → vp_in x1 5 ∧ K (m3 115 (Int32.toNatClampNeg x1)) m3))) ∧ (r3 = 0 → K (-101) m3)))
set_option maxHeartbeats 4000000 in
set_option maxRecDepth 100000 in
theorem X7_why_c {E : km_E} {l : Launch} {mr : km_R} (kqmr : km_MR mr) {x1 : Int32} {mi : km_I} {K : Int32 → km_I → Prop} (h : X7_why_w x1 mi K) : km_Ci E l yX7_why wsX7_why rmX7_why [.ref 86, .int x1] SH mi mr K := by
  refine km_start (cc := cX7_why) (maxL := 2) (ret := (some .int)) (by decide) rfl (Nat.le_of_ble_eq_true rfl) ?_
  intro X hl hX hF _
  subst hl

  have h : X7_in_w x1 0 4 mi (fun r3 m3 => ((¬ r3 = 0 → (((m3 86 41) = 0 → K (-1) m3) ∧ (¬ (m3 86 41) = 0 → vp_in x1 5 ∧ K (m3 115 (Int32.toNatClampNeg x1)) m3))) ∧ (r3 = 0 → K (-101) m3))) := h
  refine km_iload_n hX dX7_why_0 rfl ?_
  refine km_iconst (v := 0) hX dX7_why_1 (by decide) ?_
  refine km_iconst (v := 4) hX dX7_why_2 (by decide) ?_
  refine km_callSi hX dX7_why_3 vX7_why_110 (X7_in_c kqmr h) (by decide) rfl rfl (Nat.le_of_ble_eq_true rfl) (fun r3 m3 h => ?_)
  refine km_if_ne (tgt := 12) hX dX7_why_6 (by decide) (fun c => ?_) (fun c => ?_)
  · have h := h.1 c
    refine km_aload_n hX dX7_why_12 rfl rfl ?_
    refine km_geti hX fX7_why_209 shp_86 rfl dX7_why_13 ?_
    refine km_if_eq (tgt := 28) hX dX7_why_16 (by decide) (fun c => ?_) (fun c => ?_)
    · have h := h.1 c
      refine km_iconst (v := -1) hX dX7_why_28 (by decide) ?_
      exact km_iret hX hF rfl dX7_why_29 ⟨rfl, rfl, _, rfl, h⟩ (Nat.le_refl _) (Nat.le_refl _)
    · have h := h.2 c
      refine km_aload_n hX dX7_why_19 rfl rfl ?_
      refine km_getr (q := 115) hX fX7_why_101 shp_86 rfl dX7_why_20 (mrp_86_40 kqmr) ?_
      refine km_iload_n hX dX7_why_23 rfl ?_
      obtain ⟨hc, h⟩ := h
      refine km_iald hX shp_115 hc dX7_why_24 ?_
      refine km_goto (tgt := 29) hX dX7_why_25 (by decide) ?_
      exact km_iret hX hF rfl dX7_why_29 ⟨rfl, rfl, _, rfl, h⟩ (Nat.le_refl _) (Nat.le_refl _)
  · have h := h.2 c
    refine km_bipush (v := -101) hX dX7_why_9 (by decide) ?_
    exact km_iret hX hF rfl dX7_why_11 ⟨rfl, rfl, _, rfl, h⟩ (Nat.le_refl _) (Nat.le_refl _)
def X7_count_w (x1 : Int32) (mi : km_I) (K : Int32 → km_I → Prop) : Prop := X7_in_w x1 4 7 mi (fun r4 m4 => ((r4 = 0 → X7_in_w x1 8 11 m4 (fun r24 m24 => ((r24 = 0 → ((¬ x1 = 0 → ((¬ x1 = 1 → ((¬ x1 = 2 → ((¬ x1 = 3 → K (-101) m24) ∧ (x1 = 3 → K (m24 86 0) m24))) ∧ (x1 = 2 → K (m24 86 10) m24))) ∧ (x1 = 1 → vp_in 1 2 ∧ K (m24 87 (Int32.toNatClampNeg 1)) m24))) ∧ (x1 = 0 → vp_in 0 2 ∧ K (m24 87 (Int32.toNatClampNeg 0)) m24))) ∧ (¬ r24 = 0 → vp_in (x1 - 8) 4 ∧ K (m24 94 (Int32.toNatClampNeg (x1 - 8))) m24)))) ∧ (¬ r4 = 0 → vp_in (x1 - 4) 4 ∧ K (m4 93 (Int32.toNatClampNeg (x1 - 4))) m4)))
set_option maxHeartbeats 4000000 in
set_option maxRecDepth 100000 in
theorem X7_count_c {E : km_E} {l : Launch} {mr : km_R} (kqmr : km_MR mr) {x1 : Int32} {mi : km_I} {K : Int32 → km_I → Prop} (h : X7_count_w x1 mi K) : km_Ci E l yX7_count wsX7_count rmX7_count [.ref 86, .int x1] SH mi mr K := by
  refine km_start (cc := cX7_count) (maxL := 2) (ret := (some .int)) (by decide) rfl (Nat.le_of_ble_eq_true rfl) ?_
  intro X hl hX hF _
  subst hl

  have h : X7_in_w x1 4 7 mi (fun r4 m4 => ((r4 = 0 → X7_in_w x1 8 11 m4 (fun r24 m24 => ((r24 = 0 → ((¬ x1 = 0 → ((¬ x1 = 1 → ((¬ x1 = 2 → ((¬ x1 = 3 → K (-101) m24) ∧ (x1 = 3 → K (m24 86 0) m24))) ∧ (x1 = 2 → K (m24 86 10) m24))) ∧ (x1 = 1 → vp_in 1 2 ∧ K (m24 87 (Int32.toNatClampNeg 1)) m24))) ∧ (x1 = 0 → vp_in 0 2 ∧ K (m24 87 (Int32.toNatClampNeg 0)) m24))) ∧ (¬ r24 = 0 → vp_in (x1 - 8) 4 ∧ K (m24 94 (Int32.toNatClampNeg (x1 - 8))) m24)))) ∧ (¬ r4 = 0 → vp_in (x1 - 4) 4 ∧ K (m4 93 (Int32.toNatClampNeg (x1 - 4))) m4))) := h
  refine km_iload_n hX dX7_count_0 rfl ?_
  refine km_iconst (v := 4) hX dX7_count_1 (by decide) ?_
  refine km_bipush (v := 7) hX dX7_count_2 (by decide) ?_
  refine km_callSi hX dX7_count_4 vX7_count_110 (X7_in_c kqmr h) (by decide) rfl rfl (Nat.le_of_ble_eq_true rfl) (fun r4 m4 h => ?_)
  refine km_if_eq (tgt := 19) hX dX7_count_7 (by decide) (fun c => ?_) (fun c => ?_)
  · have h := h.1 c
    refine km_iload_n hX dX7_count_19 rfl ?_
    refine km_bipush (v := 8) hX dX7_count_20 (by decide) ?_
    refine km_bipush (v := 11) hX dX7_count_22 (by decide) ?_
    refine km_callSi hX dX7_count_24 vX7_count_110 (X7_in_c kqmr h) (by decide) rfl rfl (Nat.le_of_ble_eq_true rfl) (fun r24 m24 h => ?_)
    refine km_if_eq (tgt := 40) hX dX7_count_27 (by decide) (fun c => ?_) (fun c => ?_)
    · have h := h.1 c
      refine km_iload_n hX dX7_count_40 rfl ?_
      refine km_if_ne (tgt := 53) hX dX7_count_41 (by decide) (fun c => ?_) (fun c => ?_)
      · have h := h.1 c
        refine km_iload_n hX dX7_count_53 rfl ?_
        refine km_iconst (v := 1) hX dX7_count_54 (by decide) ?_
        refine km_icmp_ne (tgt := 67) hX dX7_count_55 (by decide) (fun c => ?_) (fun c => ?_)
        · have h := h.1 c
          refine km_iload_n hX dX7_count_67 rfl ?_
          refine km_iconst (v := 2) hX dX7_count_68 (by decide) ?_
          refine km_icmp_ne (tgt := 79) hX dX7_count_69 (by decide) (fun c => ?_) (fun c => ?_)
          · have h := h.1 c
            refine km_iload_n hX dX7_count_79 rfl ?_
            refine km_iconst (v := 3) hX dX7_count_80 (by decide) ?_
            refine km_icmp_ne (tgt := 91) hX dX7_count_81 (by decide) (fun c => ?_) (fun c => ?_)
            · have h := h.1 c
              refine km_bipush (v := -101) hX dX7_count_91 (by decide) ?_
              exact km_iret hX hF rfl dX7_count_93 ⟨rfl, rfl, _, rfl, h⟩ (Nat.le_refl _) (Nat.le_refl _)
            · have h := h.2 c
              refine km_aload_n hX dX7_count_84 rfl rfl ?_
              refine km_geti hX fX7_count_104 shp_86 rfl dX7_count_85 ?_
              refine km_goto (tgt := 93) hX dX7_count_88 (by decide) ?_
              exact km_iret hX hF rfl dX7_count_93 ⟨rfl, rfl, _, rfl, h⟩ (Nat.le_refl _) (Nat.le_refl _)
          · have h := h.2 c
            refine km_aload_n hX dX7_count_72 rfl rfl ?_
            refine km_geti hX fX7_count_183 shp_86 rfl dX7_count_73 ?_
            refine km_goto (tgt := 93) hX dX7_count_76 (by decide) ?_
            exact km_iret hX hF rfl dX7_count_93 ⟨rfl, rfl, _, rfl, h⟩ (Nat.le_refl _) (Nat.le_refl _)
        · have h := h.2 c
          refine km_aload_n hX dX7_count_58 rfl rfl ?_
          refine km_getr (q := 87) hX fX7_count_7 shp_86 rfl dX7_count_59 (mrp_86_2 kqmr) ?_
          refine km_iconst (v := 1) hX dX7_count_62 (by decide) ?_
          obtain ⟨hc, h⟩ := h
          refine km_iald hX shp_87 hc dX7_count_63 ?_
          refine km_goto (tgt := 93) hX dX7_count_64 (by decide) ?_
          exact km_iret hX hF rfl dX7_count_93 ⟨rfl, rfl, _, rfl, h⟩ (Nat.le_refl _) (Nat.le_refl _)
      · have h := h.2 c
        refine km_aload_n hX dX7_count_44 rfl rfl ?_
        refine km_getr (q := 87) hX fX7_count_7 shp_86 rfl dX7_count_45 (mrp_86_2 kqmr) ?_
        refine km_iconst (v := 0) hX dX7_count_48 (by decide) ?_
        obtain ⟨hc, h⟩ := h
        refine km_iald hX shp_87 hc dX7_count_49 ?_
        refine km_goto (tgt := 93) hX dX7_count_50 (by decide) ?_
        exact km_iret hX hF rfl dX7_count_93 ⟨rfl, rfl, _, rfl, h⟩ (Nat.le_refl _) (Nat.le_refl _)
    · have h := h.2 c
      refine km_aload_n hX dX7_count_30 rfl rfl ?_
      refine km_getr (q := 94) hX fX7_count_31 shp_86 rfl dX7_count_31 (mrp_86_9 kqmr) ?_
      refine km_iload_n hX dX7_count_34 rfl ?_
      refine km_bipush (v := 8) hX dX7_count_35 (by decide) ?_
      refine km_isub hX dX7_count_37 ?_
      obtain ⟨hc, h⟩ := h
      refine km_iald hX shp_94 hc dX7_count_38 ?_
      exact km_iret hX hF rfl dX7_count_39 ⟨rfl, rfl, _, rfl, h⟩ (Nat.le_refl _) (Nat.le_refl _)
  · have h := h.2 c
    refine km_aload_n hX dX7_count_10 rfl rfl ?_
    refine km_getr (q := 93) hX fX7_count_28 shp_86 rfl dX7_count_11 (mrp_86_8 kqmr) ?_
    refine km_iload_n hX dX7_count_14 rfl ?_
    refine km_iconst (v := 4) hX dX7_count_15 (by decide) ?_
    refine km_isub hX dX7_count_16 ?_
    obtain ⟨hc, h⟩ := h
    refine km_iald hX shp_93 hc dX7_count_17 ?_
    exact km_iret hX hF rfl dX7_count_18 ⟨rfl, rfl, _, rfl, h⟩ (Nat.le_refl _) (Nat.le_refl _)
