theorem km_MR_turn {mr : km_R} {b : Nat} (h : km_MR mr) : km_MR (km_ur mr 26 7 (some b)) := by
  have hn : ∀ e ∈ km_refs, ¬ (e.1 = 26 ∧ e.2.1 = 7) := by decide
  intro e he
  simp only [km_ur, if_neg (hn e he)]
  exact h e he
set_option maxHeartbeats 4000000 in
set_option maxRecDepth 100000 in
theorem X1_turnTo_c {E : km_E} {l : Launch} {mr : km_R} (hmr : km_MR mr) {t b1 : Nat} (ht : km_isM t) (hb1 : km_isB b1) {mi : km_I} : km_C E l yX1_turnTo wsX1_turnTo rmX1_turnTo [.ref t, .ref b1] SH mi mr (fun r sh' mi' mr' => sh' = SH ∧ mi' = mi ∧ mr' = km_ur mr t 7 (some b1) ∧ r = none) := by
  refine km_start (cc := cX1_turnTo) (maxL := 2) (ret := none) (by decide) rfl (Nat.le_of_ble_eq_true rfl) ?_
  intro X hl hX hF _
  subst hl
  obtain ⟨st0, st1, st2, st3, st4, st5, st6, st7, st8, st9, st10, st11⟩ := km_shM ht
  refine km_aload_n hX dX1_turnTo_0 rfl rfl ?_
  refine km_aload_n hX dX1_turnTo_1 rfl rfl ?_
  refine km_putr (q := b1) hX pX1_turnTo_35 (by assumption) rfl (fun _ => ⟨rfl, rfl⟩) dX1_turnTo_2 ?_
  exact km_vret hX hF rfl dX1_turnTo_5 ⟨rfl, rfl, rfl, rfl⟩ (Nat.le_refl _) (Nat.le_refl _)
def X1_enter_b12 (t : Nat) (b : Nat) (x1 : Int32) (x2 : Int32) (x3 : Int32) (n : Nat) (y1 : Int32) (y2 : Int32) (y3 : Int32) (y4 : Int32) (y5 : Int32) (mi : km_I) (K : km_I → Prop) : Prop := match n with
  | 0 => False
  | n + 1 => ((6 ≤ y5 → vp_in y4 48 ∧ (∀ m43, m43 = km_u mi (t + 8) (Int32.toNatClampNeg y4) y2 → vp_in (y4 + 1) 48 ∧ (∀ m53, m53 = km_u m43 (t + 8) (Int32.toNatClampNeg (y4 + 1)) y3 → vp_in (m53 t 8) 8 ∧ (∀ m63, m63 = km_u m53 (t + 9) (Int32.toNatClampNeg (m53 t 8)) 0 → vp_in (m63 t 8) 8 ∧ (∀ m73, m73 = km_u m63 (t + 10) (Int32.toNatClampNeg (m63 t 8)) y1 → (∀ m81, m81 = km_u m73 t 8 ((m73 t 8) + 1) → (((m81 t 8) ≤ (m81 (t + 1) 4) → K m81) ∧ (¬ (m81 t 8) ≤ (m81 (t + 1) 4) → (∀ m106, m106 = km_u m81 (t + 1) 4 (m81 t 8) → K m106))))))))) ∧ (¬ 6 ≤ y5 → vp_in (y4 + y5) 48 ∧ (∀ m29, m29 = km_u mi (t + 8) (Int32.toNatClampNeg (y4 + y5)) 0 → X1_enter_b12 t b x1 x2 x3 n y1 y2 y3 y4 (y5 + 1) m29 K)))
set_option maxHeartbeats 4000000 in
set_option maxRecDepth 100000 in
theorem X1_enter_b12_t {E : km_E} {X : km_X} {mr : km_R} {K : km_I → Prop} {t : Nat} {b : Nat} {x1 : Int32} {x2 : Int32} {x3 : Int32} (hX : km_ok E X rmX1_enter cX1_enter 6 wsX1_enter RX1) (hF : km_fin E X none 0 0 (fun r sh' mi' mr' => sh' = SH ∧ mr' = mr ∧ r = none ∧ K mi')) (kqmr : km_MR mr) (kqt : km_isM t) (kqb : km_isB b) (kqbl : mr t 7 = some b) : ∀ (n : Nat) (y1 : Int32) (y2 : Int32) (y3 : Int32) (y4 : Int32) (y5 : Int32) (mi : km_I), X1_enter_b12 t b x1 x2 x3 n y1 y2 y3 y4 y5 mi K → km_G E X 6 SH mi mr 0 0 12 [(0, .ref t), (1, .int y1), (2, .int y2), (3, .int y3), (4, .int y4), (5, .int y5)] [] := by
  obtain ⟨st0, st1, st2, st3, st4, st5, st6, st7, st8, st9, st10, st11⟩ := km_shM kqt
  obtain ⟨mt0, mt1, mt2, mt3, mt4, mq1, mq2, mq3, mq4, mq5, mq6⟩ := km_mrM kqmr kqt
  obtain ⟨sb0, sb1, sb2, sb3, sb4, sb5⟩ := km_shB kqb
  obtain ⟨mb1, mb2, mb3, mb4, mb5⟩ := km_mrB kqmr kqb
  intro n
  induction n with
  | zero => intro y1 y2 y3 y4 y5 mi h; exact h.elim
  | succ n ih =>
    intro y1 y2 y3 y4 y5 mi h
    have h : ((6 ≤ y5 → vp_in y4 48 ∧ (∀ m43, m43 = km_u mi (t + 8) (Int32.toNatClampNeg y4) y2 → vp_in (y4 + 1) 48 ∧ (∀ m53, m53 = km_u m43 (t + 8) (Int32.toNatClampNeg (y4 + 1)) y3 → vp_in (m53 t 8) 8 ∧ (∀ m63, m63 = km_u m53 (t + 9) (Int32.toNatClampNeg (m53 t 8)) 0 → vp_in (m63 t 8) 8 ∧ (∀ m73, m73 = km_u m63 (t + 10) (Int32.toNatClampNeg (m63 t 8)) y1 → (∀ m81, m81 = km_u m73 t 8 ((m73 t 8) + 1) → (((m81 t 8) ≤ (m81 (t + 1) 4) → K m81) ∧ (¬ (m81 t 8) ≤ (m81 (t + 1) 4) → (∀ m106, m106 = km_u m81 (t + 1) 4 (m81 t 8) → K m106))))))))) ∧ (¬ 6 ≤ y5 → vp_in (y4 + y5) 48 ∧ (∀ m29, m29 = km_u mi (t + 8) (Int32.toNatClampNeg (y4 + y5)) 0 → X1_enter_b12 t b x1 x2 x3 n y1 y2 y3 y4 (y5 + 1) m29 K))) := h
    refine km_iload hX dX1_enter_12 rfl ?_
    refine km_bipush (v := 6) hX dX1_enter_14 (by decide) ?_
    refine km_icmp_ge (tgt := 36) hX dX1_enter_16 (by decide) (fun c => ?_) (fun c => ?_)
    · have h := h.1 c
      refine km_aload_n hX dX1_enter_36 rfl rfl ?_
      refine km_getr (q := (t + 8)) hX fX1_enter_18 (by assumption) rfl dX1_enter_37 (by assumption) ?_
      refine km_iload hX dX1_enter_40 rfl ?_
      refine km_iload_n hX dX1_enter_42 rfl ?_
      obtain ⟨hc, h⟩ := h
      refine km_iastN hX (by assumption) hc dX1_enter_43 (fun m43 e43 => ?_)
      have h := h m43 e43
      refine km_aload_n hX dX1_enter_44 rfl rfl ?_
      refine km_getr (q := (t + 8)) hX fX1_enter_18 (by assumption) rfl dX1_enter_45 (by assumption) ?_
      refine km_iload hX dX1_enter_48 rfl ?_
      refine km_iconst (v := 1) hX dX1_enter_50 (by decide) ?_
      refine km_iadd hX dX1_enter_51 ?_
      refine km_iload_n hX dX1_enter_52 rfl ?_
      obtain ⟨hc, h⟩ := h
      refine km_iastN hX (by assumption) hc dX1_enter_53 (fun m53 e53 => ?_)
      have h := h m53 e53
      refine km_aload_n hX dX1_enter_54 rfl rfl ?_
      refine km_getr (q := (t + 9)) hX fX1_enter_22 (by assumption) rfl dX1_enter_55 (by assumption) ?_
      refine km_aload_n hX dX1_enter_58 rfl rfl ?_
      refine km_geti hX fX1_enter_31 (by assumption) rfl dX1_enter_59 ?_
      refine km_iconst (v := 0) hX dX1_enter_62 (by decide) ?_
      obtain ⟨hc, h⟩ := h
      refine km_iastN hX (by assumption) hc dX1_enter_63 (fun m63 e63 => ?_)
      have h := h m63 e63
      refine km_aload_n hX dX1_enter_64 rfl rfl ?_
      refine km_getr (q := (t + 10)) hX fX1_enter_25 (by assumption) rfl dX1_enter_65 (by assumption) ?_
      refine km_aload_n hX dX1_enter_68 rfl rfl ?_
      refine km_geti hX fX1_enter_31 (by assumption) rfl dX1_enter_69 ?_
      refine km_iload_n hX dX1_enter_72 rfl ?_
      obtain ⟨hc, h⟩ := h
      refine km_iastN hX (by assumption) hc dX1_enter_73 (fun m73 e73 => ?_)
      have h := h m73 e73
      refine km_aload_n hX dX1_enter_74 rfl rfl ?_
      refine km_dup hX dX1_enter_75 ?_
      refine km_geti hX fX1_enter_31 (by assumption) rfl dX1_enter_76 ?_
      refine km_iconst (v := 1) hX dX1_enter_79 (by decide) ?_
      refine km_iadd hX dX1_enter_80 ?_
      refine km_putiN hX pX1_enter_31 (by assumption) rfl dX1_enter_81 (fun m81 e81 => ?_)
      have h := h m81 e81
      refine km_aload_n hX dX1_enter_84 rfl rfl ?_
      refine km_geti hX fX1_enter_31 (by assumption) rfl dX1_enter_85 ?_
      refine km_aload_n hX dX1_enter_88 rfl rfl ?_
      refine km_getr (q := (t + 1)) hX fX1_enter_12 (by assumption) rfl dX1_enter_89 (by assumption) ?_
      refine km_geti hX fX1_enter_131 (by assumption) rfl dX1_enter_92 ?_
      refine km_icmp_le (tgt := 109) hX dX1_enter_95 (by decide) (fun c => ?_) (fun c => ?_)
      · have h := h.1 c
        exact km_vret hX hF rfl dX1_enter_109 ⟨rfl, rfl, rfl, h⟩ (Nat.le_refl _) (Nat.le_refl _)
      · have h := h.2 c
        refine km_aload_n hX dX1_enter_98 rfl rfl ?_
        refine km_getr (q := (t + 1)) hX fX1_enter_12 (by assumption) rfl dX1_enter_99 (by assumption) ?_
        refine km_aload_n hX dX1_enter_102 rfl rfl ?_
        refine km_geti hX fX1_enter_31 (by assumption) rfl dX1_enter_103 ?_
        refine km_putiN hX pX1_enter_131 (by assumption) rfl dX1_enter_106 (fun m106 e106 => ?_)
        have h := h m106 e106
        exact km_vret hX hF rfl dX1_enter_109 ⟨rfl, rfl, rfl, h⟩ (Nat.le_refl _) (Nat.le_refl _)
    · have h := h.2 c
      refine km_aload_n hX dX1_enter_19 rfl rfl ?_
      refine km_getr (q := (t + 8)) hX fX1_enter_18 (by assumption) rfl dX1_enter_20 (by assumption) ?_
      refine km_iload hX dX1_enter_23 rfl ?_
      refine km_iload hX dX1_enter_25 rfl ?_
      refine km_iadd hX dX1_enter_27 ?_
      refine km_iconst (v := 0) hX dX1_enter_28 (by decide) ?_
      obtain ⟨hc, h⟩ := h
      refine km_iastN hX (by assumption) hc dX1_enter_29 (fun m29 e29 => ?_)
      have h := h m29 e29
      refine km_iinc (v := 1) hX dX1_enter_30 (by decide) rfl (by decide) ?_
      refine km_goto (tgt := 12) hX dX1_enter_33 (by decide) ?_
      refine km_ren (ls' := [(0, .ref t), (1, .int y1), (2, .int y2), (3, .int y3), (4, .int y4), (5, .int (y5 + 1))]) [0, 1, 2, 3, 4, 5] rfl ?_
      exact ih _ _ _ _ _ _ h
def X1_enter_w (t : Nat) (b : Nat) (x1 : Int32) (x2 : Int32) (x3 : Int32) (mi : km_I) (K : km_I → Prop) : Prop := ∃ k, X1_enter_b12 t b x1 x2 x3 k x1 x2 x3 ((mi t 8) * 6) 0 mi K
set_option maxHeartbeats 4000000 in
set_option maxRecDepth 100000 in
theorem X1_enter_c {E : km_E} {l : Launch} {mr : km_R} (kqmr : km_MR mr) {t : Nat} {b : Nat} {x1 : Int32} {x2 : Int32} {x3 : Int32} (kqt : km_isM t) (kqb : km_isB b) (kqbl : mr t 7 = some b) {mi : km_I} {K : km_I → Prop} (h : X1_enter_w t b x1 x2 x3 mi K) : km_Cv E l yX1_enter wsX1_enter rmX1_enter [.ref t, .int x1, .int x2, .int x3] SH mi mr K := by
  refine km_start (cc := cX1_enter) (maxL := 6) (ret := none) (by decide) rfl (Nat.le_of_ble_eq_true rfl) ?_
  intro X hl hX hF _
  subst hl
  obtain ⟨st0, st1, st2, st3, st4, st5, st6, st7, st8, st9, st10, st11⟩ := km_shM kqt
  obtain ⟨mt0, mt1, mt2, mt3, mt4, mq1, mq2, mq3, mq4, mq5, mq6⟩ := km_mrM kqmr kqt
  obtain ⟨sb0, sb1, sb2, sb3, sb4, sb5⟩ := km_shB kqb
  obtain ⟨mb1, mb2, mb3, mb4, mb5⟩ := km_mrB kqmr kqb
  have h : ∃ k, X1_enter_b12 t b x1 x2 x3 k x1 x2 x3 ((mi t 8) * 6) 0 mi K := h
  refine km_aload_n hX dX1_enter_0 rfl rfl ?_
  refine km_geti hX fX1_enter_31 (by assumption) rfl dX1_enter_1 ?_
  refine km_bipush (v := 6) hX dX1_enter_4 (by decide) ?_
  refine km_imul hX dX1_enter_6 ?_
  refine km_istore hX dX1_enter_7 (by decide) ?_
  refine km_iconst (v := 0) hX dX1_enter_9 (by decide) ?_
  refine km_istore hX dX1_enter_10 (by decide) ?_
  obtain ⟨n9, h⟩ := h
  refine km_ren (ls' := [(0, .ref t), (1, .int x1), (2, .int x2), (3, .int x3), (4, .int ((mi t 8) * 6)), (5, .int 0)]) [0, 1, 2, 3, 4, 5] rfl ?_
  exact X1_enter_b12_t hX hF kqmr kqt kqb kqbl n9 _ _ _ _ _ _ h
def X1_placeOfTop_w (t : Nat) (b : Nat) (mi : km_I) (K : Int32 → km_I → Prop) : Prop := vp_in ((mi t 8) - 1) 8 ∧ vp_in ((mi t 8) - 1) 8 ∧ X0_placeOf_w b (mi (t + 10) (Int32.toNatClampNeg ((mi t 8) - 1))) (mi (t + 9) (Int32.toNatClampNeg ((mi t 8) - 1))) mi (fun r26 m26 => K r26 m26)
set_option maxHeartbeats 4000000 in
set_option maxRecDepth 100000 in
theorem X1_placeOfTop_c {E : km_E} {l : Launch} {mr : km_R} (kqmr : km_MR mr) {t : Nat} {b : Nat} (kqt : km_isM t) (kqb : km_isB b) (kqbl : mr t 7 = some b) {mi : km_I} {K : Int32 → km_I → Prop} (h : X1_placeOfTop_w t b mi K) : km_Ci E l yX1_placeOfTop wsX1_placeOfTop rmX1_placeOfTop [.ref t] SH mi mr K := by
  refine km_start (cc := cX1_placeOfTop) (maxL := 1) (ret := (some .int)) (by decide) rfl (Nat.le_of_ble_eq_true rfl) ?_
  intro X hl hX hF _
  subst hl
  obtain ⟨st0, st1, st2, st3, st4, st5, st6, st7, st8, st9, st10, st11⟩ := km_shM kqt
  obtain ⟨mt0, mt1, mt2, mt3, mt4, mq1, mq2, mq3, mq4, mq5, mq6⟩ := km_mrM kqmr kqt
  obtain ⟨sb0, sb1, sb2, sb3, sb4, sb5⟩ := km_shB kqb
  obtain ⟨mb1, mb2, mb3, mb4, mb5⟩ := km_mrB kqmr kqb
  have h : vp_in ((mi t 8) - 1) 8 ∧ vp_in ((mi t 8) - 1) 8 ∧ X0_placeOf_w b (mi (t + 10) (Int32.toNatClampNeg ((mi t 8) - 1))) (mi (t + 9) (Int32.toNatClampNeg ((mi t 8) - 1))) mi (fun r26 m26 => K r26 m26) := h
  refine km_aload_n hX dX1_placeOfTop_0 rfl rfl ?_
  refine km_getr (q := b) hX fX1_placeOfTop_35 (by assumption) rfl dX1_placeOfTop_1 (by assumption) ?_
  refine km_aload_n hX dX1_placeOfTop_4 rfl rfl ?_
  refine km_getr (q := (t + 10)) hX fX1_placeOfTop_25 (by assumption) rfl dX1_placeOfTop_5 (by assumption) ?_
  refine km_aload_n hX dX1_placeOfTop_8 rfl rfl ?_
  refine km_geti hX fX1_placeOfTop_31 (by assumption) rfl dX1_placeOfTop_9 ?_
  refine km_iconst (v := 1) hX dX1_placeOfTop_12 (by decide) ?_
  refine km_isub hX dX1_placeOfTop_13 ?_
  obtain ⟨hc, h⟩ := h
  refine km_iald hX (by assumption) hc dX1_placeOfTop_14 ?_
  refine km_aload_n hX dX1_placeOfTop_15 rfl rfl ?_
  refine km_getr (q := (t + 9)) hX fX1_placeOfTop_22 (by assumption) rfl dX1_placeOfTop_16 (by assumption) ?_
  refine km_aload_n hX dX1_placeOfTop_19 rfl rfl ?_
  refine km_geti hX fX1_placeOfTop_31 (by assumption) rfl dX1_placeOfTop_20 ?_
  refine km_iconst (v := 1) hX dX1_placeOfTop_23 (by decide) ?_
  refine km_isub hX dX1_placeOfTop_24 ?_
  obtain ⟨hc, h⟩ := h
  refine km_iald hX (by assumption) hc dX1_placeOfTop_25 ?_
  refine km_callVi hX dX1_placeOfTop_26 vX1_placeOfTop_79 (X0_placeOf_c kqmr kqb h) (by decide) (by assumption) rfl rfl (Nat.le_of_ble_eq_true rfl) (fun r26 m26 h => ?_)
  exact km_iret hX hF rfl dX1_placeOfTop_29 ⟨rfl, rfl, _, rfl, h⟩ (Nat.le_refl _) (Nat.le_refl _)
def X1_put_w (t : Nat) (b : Nat) (x1 : Int32) (x2 : Int32) (mi : km_I) (K : km_I → Prop) : Prop := vp_in ((((mi t 8) - 1) * 6) + x1) 48 ∧ (∀ m16, m16 = km_u mi (t + 8) (Int32.toNatClampNeg ((((mi t 8) - 1) * 6) + x1)) x2 → vp_in ((m16 t 8) - 1) 8 ∧ vp_in ((m16 t 8) - 1) 8 ∧ (∀ m31, m31 = km_u m16 (t + 9) (Int32.toNatClampNeg ((m16 t 8) - 1)) ((m16 (t + 9) (Int32.toNatClampNeg ((m16 t 8) - 1))) + 1) → K m31))
set_option maxHeartbeats 4000000 in
set_option maxRecDepth 100000 in
theorem X1_put_c {E : km_E} {l : Launch} {mr : km_R} (kqmr : km_MR mr) {t : Nat} {b : Nat} {x1 : Int32} {x2 : Int32} (kqt : km_isM t) (kqb : km_isB b) (kqbl : mr t 7 = some b) {mi : km_I} {K : km_I → Prop} (h : X1_put_w t b x1 x2 mi K) : km_Cv E l yX1_put wsX1_put rmX1_put [.ref t, .int x1, .int x2] SH mi mr K := by
  refine km_start (cc := cX1_put) (maxL := 3) (ret := none) (by decide) rfl (Nat.le_of_ble_eq_true rfl) ?_
  intro X hl hX hF _
  subst hl
  obtain ⟨st0, st1, st2, st3, st4, st5, st6, st7, st8, st9, st10, st11⟩ := km_shM kqt
  obtain ⟨mt0, mt1, mt2, mt3, mt4, mq1, mq2, mq3, mq4, mq5, mq6⟩ := km_mrM kqmr kqt
  obtain ⟨sb0, sb1, sb2, sb3, sb4, sb5⟩ := km_shB kqb
  obtain ⟨mb1, mb2, mb3, mb4, mb5⟩ := km_mrB kqmr kqb
  have h : vp_in ((((mi t 8) - 1) * 6) + x1) 48 ∧ (∀ m16, m16 = km_u mi (t + 8) (Int32.toNatClampNeg ((((mi t 8) - 1) * 6) + x1)) x2 → vp_in ((m16 t 8) - 1) 8 ∧ vp_in ((m16 t 8) - 1) 8 ∧ (∀ m31, m31 = km_u m16 (t + 9) (Int32.toNatClampNeg ((m16 t 8) - 1)) ((m16 (t + 9) (Int32.toNatClampNeg ((m16 t 8) - 1))) + 1) → K m31)) := h
  refine km_aload_n hX dX1_put_0 rfl rfl ?_
  refine km_getr (q := (t + 8)) hX fX1_put_18 (by assumption) rfl dX1_put_1 (by assumption) ?_
  refine km_aload_n hX dX1_put_4 rfl rfl ?_
  refine km_geti hX fX1_put_31 (by assumption) rfl dX1_put_5 ?_
  refine km_iconst (v := 1) hX dX1_put_8 (by decide) ?_
  refine km_isub hX dX1_put_9 ?_
  refine km_bipush (v := 6) hX dX1_put_10 (by decide) ?_
  refine km_imul hX dX1_put_12 ?_
  refine km_iload_n hX dX1_put_13 rfl ?_
  refine km_iadd hX dX1_put_14 ?_
  refine km_iload_n hX dX1_put_15 rfl ?_
  obtain ⟨hc, h⟩ := h
  refine km_iastN hX (by assumption) hc dX1_put_16 (fun m16 e16 => ?_)
  have h := h m16 e16
  refine km_aload_n hX dX1_put_17 rfl rfl ?_
  refine km_getr (q := (t + 9)) hX fX1_put_22 (by assumption) rfl dX1_put_18 (by assumption) ?_
  refine km_aload_n hX dX1_put_21 rfl rfl ?_
  refine km_geti hX fX1_put_31 (by assumption) rfl dX1_put_22 ?_
  refine km_iconst (v := 1) hX dX1_put_25 (by decide) ?_
  refine km_isub hX dX1_put_26 ?_
  refine km_dup2 hX dX1_put_27 ?_
  obtain ⟨hc, h⟩ := h
  refine km_iald hX (by assumption) hc dX1_put_28 ?_
  refine km_iconst (v := 1) hX dX1_put_29 (by decide) ?_
  refine km_iadd hX dX1_put_30 ?_
  obtain ⟨hc, h⟩ := h
  refine km_iastN hX (by assumption) hc dX1_put_31 (fun m31 e31 => ?_)
  have h := h m31 e31
  exact km_vret hX hF rfl dX1_put_32 ⟨rfl, rfl, rfl, h⟩ (Nat.le_refl _) (Nat.le_refl _)
def X1_giveBack_w (t : Nat) (b : Nat) (x1 : Int32) (mi : km_I) (K : km_I → Prop) : Prop := (∀ m7, m7 = km_u mi t 8 ((mi t 8) - 1) → ((¬ (m7 t 8) = 0 → X1_placeOfTop_w t b m7 (fun r39 m39 => vp_in r39 144 ∧ X1_put_w t b (m39 (b + 3) (Int32.toNatClampNeg r39)) x1 m39 (fun m44 => K m44))) ∧ ((m7 t 8) = 0 → X5_finish_w (t + 1) 0 0 x1 m7 (fun m24 => K m24))))
set_option maxHeartbeats 4000000 in
set_option maxRecDepth 100000 in
theorem X1_giveBack_c {E : km_E} {l : Launch} {mr : km_R} (kqmr : km_MR mr) {t : Nat} {b : Nat} {x1 : Int32} (kqt : km_isM t) (kqb : km_isB b) (kqbl : mr t 7 = some b) {mi : km_I} {K : km_I → Prop} (h : X1_giveBack_w t b x1 mi K) : km_Cv E l yX1_giveBack wsX1_giveBack rmX1_giveBack [.ref t, .int x1] SH mi mr K := by
  refine km_start (cc := cX1_giveBack) (maxL := 2) (ret := none) (by decide) rfl (Nat.le_of_ble_eq_true rfl) ?_
  intro X hl hX hF _
  subst hl
  obtain ⟨st0, st1, st2, st3, st4, st5, st6, st7, st8, st9, st10, st11⟩ := km_shM kqt
  obtain ⟨mt0, mt1, mt2, mt3, mt4, mq1, mq2, mq3, mq4, mq5, mq6⟩ := km_mrM kqmr kqt
  obtain ⟨sb0, sb1, sb2, sb3, sb4, sb5⟩ := km_shB kqb
  obtain ⟨mb1, mb2, mb3, mb4, mb5⟩ := km_mrB kqmr kqb
  have h : (∀ m7, m7 = km_u mi t 8 ((mi t 8) - 1) → ((¬ (m7 t 8) = 0 → X1_placeOfTop_w t b m7 (fun r39 m39 => vp_in r39 144 ∧ X1_put_w t b (m39 (b + 3) (Int32.toNatClampNeg r39)) x1 m39 (fun m44 => K m44))) ∧ ((m7 t 8) = 0 → X5_finish_w (t + 1) 0 0 x1 m7 (fun m24 => K m24)))) := h
  refine km_aload_n hX dX1_giveBack_0 rfl rfl ?_
  refine km_dup hX dX1_giveBack_1 ?_
  refine km_geti hX fX1_giveBack_31 (by assumption) rfl dX1_giveBack_2 ?_
  refine km_iconst (v := 1) hX dX1_giveBack_5 (by decide) ?_
  refine km_isub hX dX1_giveBack_6 ?_
  refine km_putiN hX pX1_giveBack_31 (by assumption) rfl dX1_giveBack_7 (fun m7 e7 => ?_)
  have h := h m7 e7
  refine km_aload_n hX dX1_giveBack_10 rfl rfl ?_
  refine km_geti hX fX1_giveBack_31 (by assumption) rfl dX1_giveBack_11 ?_
  refine km_if_ne (tgt := 30) hX dX1_giveBack_14 (by decide) (fun c => ?_) (fun c => ?_)
  · have h := h.1 c
    refine km_aload_n hX dX1_giveBack_30 rfl rfl ?_
    refine km_aload_n hX dX1_giveBack_31 rfl rfl ?_
    refine km_getr (q := b) hX fX1_giveBack_35 (by assumption) rfl dX1_giveBack_32 (by assumption) ?_
    refine km_getr (q := (b + 3)) hX fX1_giveBack_88 (by assumption) rfl dX1_giveBack_35 (by assumption) ?_
    refine km_aload_n hX dX1_giveBack_38 rfl rfl ?_
    refine km_callVi hX dX1_giveBack_39 vX1_giveBack_65 (X1_placeOfTop_c kqmr kqt kqb kqbl h) (by decide) (by assumption) rfl rfl (Nat.le_of_ble_eq_true rfl) (fun r39 m39 h => ?_)
    obtain ⟨hc, h⟩ := h
    refine km_iald hX (by assumption) hc dX1_giveBack_42 ?_
    refine km_iload_n hX dX1_giveBack_43 rfl ?_
    refine km_callVv hX dX1_giveBack_44 vX1_giveBack_97 (X1_put_c kqmr kqt kqb kqbl h) (by decide) (by assumption) rfl rfl (Nat.le_of_ble_eq_true rfl) (fun m44 h => ?_)
    exact km_vret hX hF rfl dX1_giveBack_47 ⟨rfl, rfl, rfl, h⟩ (Nat.le_refl _) (Nat.le_refl _)
  · have h := h.2 c
    refine km_aload_n hX dX1_giveBack_17 rfl rfl ?_
    refine km_getr (q := (t + 1)) hX fX1_giveBack_12 (by assumption) rfl dX1_giveBack_18 (by assumption) ?_
    refine km_iconst (v := 0) hX dX1_giveBack_21 (by decide) ?_
    refine km_iconst (v := 0) hX dX1_giveBack_22 (by decide) ?_
    refine km_iload_n hX dX1_giveBack_23 rfl ?_
    refine km_callVv hX dX1_giveBack_24 vX1_giveBack_134 (X5_finish_c kqmr (km_tM kqt) h) (by decide) (by assumption) rfl rfl (Nat.le_of_ble_eq_true rfl) (fun m24 h => ?_)
    refine km_goto (tgt := 47) hX dX1_giveBack_27 (by decide) ?_
    exact km_vret hX hF rfl dX1_giveBack_47 ⟨rfl, rfl, rfl, h⟩ (Nat.le_refl _) (Nat.le_refl _)
def X1_isSpentBy_b30 (t : Nat) (b : Nat) (x1 : Int32) (y1 : Int32) (mi : km_I) (K : Int32 → km_I → Prop) : Prop := K 1 mi
set_option maxHeartbeats 4000000 in
set_option maxRecDepth 100000 in
theorem X1_isSpentBy_b30_t {E : km_E} {X : km_X} {mr : km_R} {K : Int32 → km_I → Prop} {t : Nat} {b : Nat} {x1 : Int32} (hX : km_ok E X rmX1_isSpentBy cX1_isSpentBy 2 wsX1_isSpentBy RX1) (hF : km_fin E X (some .boolean) 0 0 (fun r sh' mi' mr' => sh' = SH ∧ mr' = mr ∧ ∃ i, r = some (.int i) ∧ K i mi')) (kqmr : km_MR mr) (kqt : km_isM t) (kqb : km_isB b) (kqbl : mr t 7 = some b) : ∀ (y1 : Int32) (mi : km_I), X1_isSpentBy_b30 t b x1 y1 mi K → km_G E X 2 SH mi mr 0 0 30 [(0, .ref t), (1, .int y1)] [] := by
  obtain ⟨st0, st1, st2, st3, st4, st5, st6, st7, st8, st9, st10, st11⟩ := km_shM kqt
  obtain ⟨mt0, mt1, mt2, mt3, mt4, mq1, mq2, mq3, mq4, mq5, mq6⟩ := km_mrM kqmr kqt
  obtain ⟨sb0, sb1, sb2, sb3, sb4, sb5⟩ := km_shB kqb
  obtain ⟨mb1, mb2, mb3, mb4, mb5⟩ := km_mrB kqmr kqb
  intro y1 mi h
  have h : K 1 mi := h
  refine km_iconst (v := 1) hX dX1_isSpentBy_30 (by decide) ?_
  refine km_goto (tgt := 35) hX dX1_isSpentBy_31 (by decide) ?_
  exact km_zret hX hF rfl dX1_isSpentBy_35 (Or.inr rfl) ⟨rfl, rfl, _, rfl, h⟩ (Nat.le_refl _) (Nat.le_refl _)
def X1_isSpentBy_w (t : Nat) (b : Nat) (x1 : Int32) (mi : km_I) (K : Int32 → km_I → Prop) : Prop := (((mi (t + 1) 3) = 100 → X1_isSpentBy_b30 t b x1 x1 mi K) ∧ (¬ (mi (t + 1) 3) = 100 → ((¬ x1 = 12 → K 0 mi) ∧ (x1 = 12 → ((¬ (mi (t + 1) 5) = 40 → K 0 mi) ∧ ((mi (t + 1) 5) = 40 → X1_isSpentBy_b30 t b x1 x1 mi K))))))
set_option maxHeartbeats 4000000 in
set_option maxRecDepth 100000 in
theorem X1_isSpentBy_c {E : km_E} {l : Launch} {mr : km_R} (kqmr : km_MR mr) {t : Nat} {b : Nat} {x1 : Int32} (kqt : km_isM t) (kqb : km_isB b) (kqbl : mr t 7 = some b) {mi : km_I} {K : Int32 → km_I → Prop} (h : X1_isSpentBy_w t b x1 mi K) : km_Ci E l yX1_isSpentBy wsX1_isSpentBy rmX1_isSpentBy [.ref t, .int x1] SH mi mr K := by
  refine km_start (cc := cX1_isSpentBy) (maxL := 2) (ret := (some .boolean)) (by decide) rfl (Nat.le_of_ble_eq_true rfl) ?_
  intro X hl hX hF _
  subst hl
  obtain ⟨st0, st1, st2, st3, st4, st5, st6, st7, st8, st9, st10, st11⟩ := km_shM kqt
  obtain ⟨mt0, mt1, mt2, mt3, mt4, mq1, mq2, mq3, mq4, mq5, mq6⟩ := km_mrM kqmr kqt
  obtain ⟨sb0, sb1, sb2, sb3, sb4, sb5⟩ := km_shB kqb
  obtain ⟨mb1, mb2, mb3, mb4, mb5⟩ := km_mrB kqmr kqb
  have h : (((mi (t + 1) 3) = 100 → X1_isSpentBy_b30 t b x1 x1 mi K) ∧ (¬ (mi (t + 1) 3) = 100 → ((¬ x1 = 12 → K 0 mi) ∧ (x1 = 12 → ((¬ (mi (t + 1) 5) = 40 → K 0 mi) ∧ ((mi (t + 1) 5) = 40 → X1_isSpentBy_b30 t b x1 x1 mi K)))))) := h
  refine km_aload_n hX dX1_isSpentBy_0 rfl rfl ?_
  refine km_getr (q := (t + 1)) hX fX1_isSpentBy_12 (by assumption) rfl dX1_isSpentBy_1 (by assumption) ?_
  refine km_geti hX fX1_isSpentBy_83 (by assumption) rfl dX1_isSpentBy_4 ?_
  refine km_bipush (v := 100) hX dX1_isSpentBy_7 (by decide) ?_
  refine km_icmp_eq (tgt := 30) hX dX1_isSpentBy_9 (by decide) (fun c => ?_) (fun c => ?_)
  · have h := h.1 c
    refine km_ren (ls' := [(0, .ref t), (1, .int x1)]) [0, 1] rfl ?_
    exact X1_isSpentBy_b30_t hX hF kqmr kqt kqb kqbl _ _ h
  · have h := h.2 c
    refine km_iload_n hX dX1_isSpentBy_12 rfl ?_
    refine km_bipush (v := 12) hX dX1_isSpentBy_13 (by decide) ?_
    refine km_icmp_ne (tgt := 34) hX dX1_isSpentBy_15 (by decide) (fun c => ?_) (fun c => ?_)
    · have h := h.1 c
      refine km_iconst (v := 0) hX dX1_isSpentBy_34 (by decide) ?_
      exact km_zret hX hF rfl dX1_isSpentBy_35 (Or.inl rfl) ⟨rfl, rfl, _, rfl, h⟩ (Nat.le_refl _) (Nat.le_refl _)
    · have h := h.2 c
      refine km_aload_n hX dX1_isSpentBy_18 rfl rfl ?_
      refine km_getr (q := (t + 1)) hX fX1_isSpentBy_12 (by assumption) rfl dX1_isSpentBy_19 (by assumption) ?_
      refine km_geti hX fX1_isSpentBy_85 (by assumption) rfl dX1_isSpentBy_22 ?_
      refine km_bipush (v := 40) hX dX1_isSpentBy_25 (by decide) ?_
      refine km_icmp_ne (tgt := 34) hX dX1_isSpentBy_27 (by decide) (fun c => ?_) (fun c => ?_)
      · have h := h.1 c
        refine km_iconst (v := 0) hX dX1_isSpentBy_34 (by decide) ?_
        exact km_zret hX hF rfl dX1_isSpentBy_35 (Or.inl rfl) ⟨rfl, rfl, _, rfl, h⟩ (Nat.le_refl _) (Nat.le_refl _)
      · have h := h.2 c
        refine km_ren (ls' := [(0, .ref t), (1, .int x1)]) [0, 1] rfl ?_
        exact X1_isSpentBy_b30_t hX hF kqmr kqt kqb kqbl _ _ h
def X1_stop_w (t : Nat) (b : Nat) (x1 : Int32) (x2 : Int32) (x3 : Int32) (mi : km_I) (K : km_I → Prop) : Prop := (∀ m2, m2 = km_u mi t 8 0 → X5_finish_w (t + 1) x1 x2 x3 m2 (fun m12 => K m12))
set_option maxHeartbeats 4000000 in
set_option maxRecDepth 100000 in
theorem X1_stop_c {E : km_E} {l : Launch} {mr : km_R} (kqmr : km_MR mr) {t : Nat} {b : Nat} {x1 : Int32} {x2 : Int32} {x3 : Int32} (kqt : km_isM t) (kqb : km_isB b) (kqbl : mr t 7 = some b) {mi : km_I} {K : km_I → Prop} (h : X1_stop_w t b x1 x2 x3 mi K) : km_Cv E l yX1_stop wsX1_stop rmX1_stop [.ref t, .int x1, .int x2, .int x3] SH mi mr K := by
  refine km_start (cc := cX1_stop) (maxL := 4) (ret := none) (by decide) rfl (Nat.le_of_ble_eq_true rfl) ?_
  intro X hl hX hF _
  subst hl
  obtain ⟨st0, st1, st2, st3, st4, st5, st6, st7, st8, st9, st10, st11⟩ := km_shM kqt
  obtain ⟨mt0, mt1, mt2, mt3, mt4, mq1, mq2, mq3, mq4, mq5, mq6⟩ := km_mrM kqmr kqt
  obtain ⟨sb0, sb1, sb2, sb3, sb4, sb5⟩ := km_shB kqb
  obtain ⟨mb1, mb2, mb3, mb4, mb5⟩ := km_mrB kqmr kqb
  have h : (∀ m2, m2 = km_u mi t 8 0 → X5_finish_w (t + 1) x1 x2 x3 m2 (fun m12 => K m12)) := h
  refine km_aload_n hX dX1_stop_0 rfl rfl ?_
  refine km_iconst (v := 0) hX dX1_stop_1 (by decide) ?_
  refine km_putiN hX pX1_stop_31 (by assumption) rfl dX1_stop_2 (fun m2 e2 => ?_)
  have h := h m2 e2
  refine km_aload_n hX dX1_stop_5 rfl rfl ?_
  refine km_getr (q := (t + 1)) hX fX1_stop_12 (by assumption) rfl dX1_stop_6 (by assumption) ?_
  refine km_iload_n hX dX1_stop_9 rfl ?_
  refine km_iload_n hX dX1_stop_10 rfl ?_
  refine km_iload_n hX dX1_stop_11 rfl ?_
  refine km_callVv hX dX1_stop_12 vX1_stop_134 (X5_finish_c kqmr (km_tM kqt) h) (by decide) (by assumption) rfl rfl (Nat.le_of_ble_eq_true rfl) (fun m12 h => ?_)
  exact km_vret hX hF rfl dX1_stop_15 ⟨rfl, rfl, rfl, h⟩ (Nat.le_refl _) (Nat.le_refl _)
def X1_answer_w (t : Nat) (b : Nat) (x1 : Int32) (x2 : Int32) (x3 : Int32) (x4 : Int32) (mi : km_I) (K : km_I → Prop) : Prop := ((¬ (mi (t + 1) 8) = 2 → vp_in (mi (t + 1) 8) 2 ∧ X5_addCalling_w (t + 1) x2 x3 x4 mi (fun m41 => (((mi (t + 11) (Int32.toNatClampNeg (mi (t + 1) 8))) ≤ (m41 t 1) → X1_put_w t b x1 (mi (t + 11) (Int32.toNatClampNeg (mi (t + 1) 8))) m41 (fun m68 => K m68)) ∧ (¬ (mi (t + 11) (Int32.toNatClampNeg (mi (t + 1) 8))) ≤ (m41 t 1) → X1_stop_w t b 1 9 0 m41 (fun m58 => K m58))))) ∧ ((mi (t + 1) 8) = 2 → X1_stop_w t b 2 0 0 mi (fun m15 => K m15)))
set_option maxHeartbeats 4000000 in
set_option maxRecDepth 100000 in
theorem X1_answer_c {E : km_E} {l : Launch} {mr : km_R} (kqmr : km_MR mr) {t : Nat} {b : Nat} {x1 : Int32} {x2 : Int32} {x3 : Int32} {x4 : Int32} (kqt : km_isM t) (kqb : km_isB b) (kqbl : mr t 7 = some b) {mi : km_I} {K : km_I → Prop} (h : X1_answer_w t b x1 x2 x3 x4 mi K) : km_Cv E l yX1_answer wsX1_answer rmX1_answer [.ref t, .int x1, .int x2, .int x3, .int x4] SH mi mr K := by
  refine km_start (cc := cX1_answer) (maxL := 6) (ret := none) (by decide) rfl (Nat.le_of_ble_eq_true rfl) ?_
  intro X hl hX hF _
  subst hl
  obtain ⟨st0, st1, st2, st3, st4, st5, st6, st7, st8, st9, st10, st11⟩ := km_shM kqt
  obtain ⟨mt0, mt1, mt2, mt3, mt4, mq1, mq2, mq3, mq4, mq5, mq6⟩ := km_mrM kqmr kqt
  obtain ⟨sb0, sb1, sb2, sb3, sb4, sb5⟩ := km_shB kqb
  obtain ⟨mb1, mb2, mb3, mb4, mb5⟩ := km_mrB kqmr kqb
  have h : ((¬ (mi (t + 1) 8) = 2 → vp_in (mi (t + 1) 8) 2 ∧ X5_addCalling_w (t + 1) x2 x3 x4 mi (fun m41 => (((mi (t + 11) (Int32.toNatClampNeg (mi (t + 1) 8))) ≤ (m41 t 1) → X1_put_w t b x1 (mi (t + 11) (Int32.toNatClampNeg (mi (t + 1) 8))) m41 (fun m68 => K m68)) ∧ (¬ (mi (t + 11) (Int32.toNatClampNeg (mi (t + 1) 8))) ≤ (m41 t 1) → X1_stop_w t b 1 9 0 m41 (fun m58 => K m58))))) ∧ ((mi (t + 1) 8) = 2 → X1_stop_w t b 2 0 0 mi (fun m15 => K m15))) := h
  refine km_aload_n hX dX1_answer_0 rfl rfl ?_
  refine km_getr (q := (t + 1)) hX fX1_answer_12 (by assumption) rfl dX1_answer_1 (by assumption) ?_
  refine km_geti hX fX1_answer_125 (by assumption) rfl dX1_answer_4 ?_
  refine km_iconst (v := 2) hX dX1_answer_7 (by decide) ?_
  refine km_icmp_ne (tgt := 19) hX dX1_answer_8 (by decide) (fun c => ?_) (fun c => ?_)
  · have h := h.1 c
    refine km_aload_n hX dX1_answer_19 rfl rfl ?_
    refine km_getr (q := (t + 11)) hX fX1_answer_28 (by assumption) rfl dX1_answer_20 (by assumption) ?_
    refine km_aload_n hX dX1_answer_23 rfl rfl ?_
    refine km_getr (q := (t + 1)) hX fX1_answer_12 (by assumption) rfl dX1_answer_24 (by assumption) ?_
    refine km_geti hX fX1_answer_125 (by assumption) rfl dX1_answer_27 ?_
    obtain ⟨hc, h⟩ := h
    refine km_iald hX (by assumption) hc dX1_answer_30 ?_
    refine km_istore hX dX1_answer_31 (by decide) ?_
    refine km_aload_n hX dX1_answer_33 rfl rfl ?_
    refine km_getr (q := (t + 1)) hX fX1_answer_12 (by assumption) rfl dX1_answer_34 (by assumption) ?_
    refine km_iload_n hX dX1_answer_37 rfl ?_
    refine km_iload_n hX dX1_answer_38 rfl ?_
    refine km_iload hX dX1_answer_39 rfl ?_
    refine km_callVv hX dX1_answer_41 vX1_answer_128 (X5_addCalling_c kqmr (km_tM kqt) h) (by decide) (by assumption) rfl rfl (Nat.le_of_ble_eq_true rfl) (fun m41 h => ?_)
    refine km_iload hX dX1_answer_44 rfl ?_
    refine km_aload_n hX dX1_answer_46 rfl rfl ?_
    refine km_geti hX fX1_answer_39 (by assumption) rfl dX1_answer_47 ?_
    refine km_icmp_le (tgt := 64) hX dX1_answer_50 (by decide) (fun c => ?_) (fun c => ?_)
    · have h := h.1 c
      refine km_aload_n hX dX1_answer_64 rfl rfl ?_
      refine km_iload_n hX dX1_answer_65 rfl ?_
      refine km_iload hX dX1_answer_66 rfl ?_
      refine km_callVv hX dX1_answer_68 vX1_answer_97 (X1_put_c kqmr kqt kqb kqbl h) (by decide) (by assumption) rfl rfl (Nat.le_of_ble_eq_true rfl) (fun m68 h => ?_)
      exact km_vret hX hF rfl dX1_answer_71 ⟨rfl, rfl, rfl, h⟩ (Nat.le_refl _) (Nat.le_refl _)
    · have h := h.2 c
      refine km_aload_n hX dX1_answer_53 rfl rfl ?_
      refine km_iconst (v := 1) hX dX1_answer_54 (by decide) ?_
      refine km_bipush (v := 9) hX dX1_answer_55 (by decide) ?_
      refine km_iconst (v := 0) hX dX1_answer_57 (by decide) ?_
      refine km_callVv hX dX1_answer_58 vX1_answer_73 (X1_stop_c kqmr kqt kqb kqbl h) (by decide) (by assumption) rfl rfl (Nat.le_of_ble_eq_true rfl) (fun m58 h => ?_)
      refine km_goto (tgt := 71) hX dX1_answer_61 (by decide) ?_
      exact km_vret hX hF rfl dX1_answer_71 ⟨rfl, rfl, rfl, h⟩ (Nat.le_refl _) (Nat.le_refl _)
  · have h := h.2 c
    refine km_aload_n hX dX1_answer_11 rfl rfl ?_
    refine km_iconst (v := 2) hX dX1_answer_12 (by decide) ?_
    refine km_iconst (v := 0) hX dX1_answer_13 (by decide) ?_
    refine km_iconst (v := 0) hX dX1_answer_14 (by decide) ?_
    refine km_callVv hX dX1_answer_15 vX1_answer_73 (X1_stop_c kqmr kqt kqb kqbl h) (by decide) (by assumption) rfl rfl (Nat.le_of_ble_eq_true rfl) (fun m15 h => ?_)
    exact km_vret hX hF rfl dX1_answer_18 ⟨rfl, rfl, rfl, h⟩ (Nat.le_refl _) (Nat.le_refl _)
def X1_ask_w (t : Nat) (b : Nat) (x1 : Int32) (x2 : Int32) (x3 : Int32) (x4 : Int32) (mi : km_I) (K : km_I → Prop) : Prop := X0_has_w b x2 mi (fun r5 m5 => ((¬ r5 = 0 → (((m5 t 6) = 0 → ((¬ (m5 t 8) = 8 → X1_enter_w t b x2 x3 x4 m5 (fun m70 => K m70)) ∧ ((m5 t 8) = 8 → X1_stop_w t b 2 0 0 m5 (fun m59 => K m59)))) ∧ (¬ (m5 t 6) = 0 → X1_answer_w t b x1 x2 x3 x4 m5 (fun m40 => K m40)))) ∧ (r5 = 0 → X1_stop_w t b 1 8 (x2 &&& (m5 t 1)) m5 (fun m21 => K m21))))
set_option maxHeartbeats 4000000 in
set_option maxRecDepth 100000 in
theorem X1_ask_c {E : km_E} {l : Launch} {mr : km_R} (kqmr : km_MR mr) {t : Nat} {b : Nat} {x1 : Int32} {x2 : Int32} {x3 : Int32} {x4 : Int32} (kqt : km_isM t) (kqb : km_isB b) (kqbl : mr t 7 = some b) {mi : km_I} {K : km_I → Prop} (h : X1_ask_w t b x1 x2 x3 x4 mi K) : km_Cv E l yX1_ask wsX1_ask rmX1_ask [.ref t, .int x1, .int x2, .int x3, .int x4] SH mi mr K := by
  refine km_start (cc := cX1_ask) (maxL := 5) (ret := none) (by decide) rfl (Nat.le_of_ble_eq_true rfl) ?_
  intro X hl hX hF _
  subst hl
  obtain ⟨st0, st1, st2, st3, st4, st5, st6, st7, st8, st9, st10, st11⟩ := km_shM kqt
  obtain ⟨mt0, mt1, mt2, mt3, mt4, mq1, mq2, mq3, mq4, mq5, mq6⟩ := km_mrM kqmr kqt
  obtain ⟨sb0, sb1, sb2, sb3, sb4, sb5⟩ := km_shB kqb
  obtain ⟨mb1, mb2, mb3, mb4, mb5⟩ := km_mrB kqmr kqb
  have h : X0_has_w b x2 mi (fun r5 m5 => ((¬ r5 = 0 → (((m5 t 6) = 0 → ((¬ (m5 t 8) = 8 → X1_enter_w t b x2 x3 x4 m5 (fun m70 => K m70)) ∧ ((m5 t 8) = 8 → X1_stop_w t b 2 0 0 m5 (fun m59 => K m59)))) ∧ (¬ (m5 t 6) = 0 → X1_answer_w t b x1 x2 x3 x4 m5 (fun m40 => K m40)))) ∧ (r5 = 0 → X1_stop_w t b 1 8 (x2 &&& (m5 t 1)) m5 (fun m21 => K m21)))) := h
  refine km_aload_n hX dX1_ask_0 rfl rfl ?_
  refine km_getr (q := b) hX fX1_ask_35 (by assumption) rfl dX1_ask_1 (by assumption) ?_
  refine km_iload_n hX dX1_ask_4 rfl ?_
  refine km_callVi hX dX1_ask_5 vX1_ask_119 (X0_has_c kqmr kqb h) (by decide) (by assumption) rfl rfl (Nat.le_of_ble_eq_true rfl) (fun r5 m5 h => ?_)
  refine km_if_ne (tgt := 27) hX dX1_ask_8 (by decide) (fun c => ?_) (fun c => ?_)
  · have h := h.1 c
    refine km_aload_n hX dX1_ask_27 rfl rfl ?_
    refine km_geti hX fX1_ask_42 (by assumption) rfl dX1_ask_28 ?_
    refine km_if_eq (tgt := 46) hX dX1_ask_31 (by decide) (fun c => ?_) (fun c => ?_)
    · have h := h.1 c
      refine km_aload_n hX dX1_ask_46 rfl rfl ?_
      refine km_geti hX fX1_ask_31 (by assumption) rfl dX1_ask_47 ?_
      refine km_bipush (v := 8) hX dX1_ask_50 (by decide) ?_
      refine km_icmp_ne (tgt := 65) hX dX1_ask_52 (by decide) (fun c => ?_) (fun c => ?_)
      · have h := h.1 c
        refine km_aload_n hX dX1_ask_65 rfl rfl ?_
        refine km_iload_n hX dX1_ask_66 rfl ?_
        refine km_iload_n hX dX1_ask_67 rfl ?_
        refine km_iload hX dX1_ask_68 rfl ?_
        refine km_callVv hX dX1_ask_70 vX1_ask_49 (X1_enter_c kqmr kqt kqb kqbl h) (by decide) (by assumption) rfl rfl (Nat.le_of_ble_eq_true rfl) (fun m70 h => ?_)
        exact km_vret hX hF rfl dX1_ask_73 ⟨rfl, rfl, rfl, h⟩ (Nat.le_refl _) (Nat.le_refl _)
      · have h := h.2 c
        refine km_aload_n hX dX1_ask_55 rfl rfl ?_
        refine km_iconst (v := 2) hX dX1_ask_56 (by decide) ?_
        refine km_iconst (v := 0) hX dX1_ask_57 (by decide) ?_
        refine km_iconst (v := 0) hX dX1_ask_58 (by decide) ?_
        refine km_callVv hX dX1_ask_59 vX1_ask_73 (X1_stop_c kqmr kqt kqb kqbl h) (by decide) (by assumption) rfl rfl (Nat.le_of_ble_eq_true rfl) (fun m59 h => ?_)
        refine km_goto (tgt := 73) hX dX1_ask_62 (by decide) ?_
        exact km_vret hX hF rfl dX1_ask_73 ⟨rfl, rfl, rfl, h⟩ (Nat.le_refl _) (Nat.le_refl _)
    · have h := h.2 c
      refine km_aload_n hX dX1_ask_34 rfl rfl ?_
      refine km_iload_n hX dX1_ask_35 rfl ?_
      refine km_iload_n hX dX1_ask_36 rfl ?_
      refine km_iload_n hX dX1_ask_37 rfl ?_
      refine km_iload hX dX1_ask_38 rfl ?_
      refine km_callVv hX dX1_ask_40 vX1_ask_122 (X1_answer_c kqmr kqt kqb kqbl h) (by decide) (by assumption) rfl rfl (Nat.le_of_ble_eq_true rfl) (fun m40 h => ?_)
      refine km_goto (tgt := 73) hX dX1_ask_43 (by decide) ?_
      exact km_vret hX hF rfl dX1_ask_73 ⟨rfl, rfl, rfl, h⟩ (Nat.le_refl _) (Nat.le_refl _)
  · have h := h.2 c
    refine km_aload_n hX dX1_ask_11 rfl rfl ?_
    refine km_iconst (v := 1) hX dX1_ask_12 (by decide) ?_
    refine km_bipush (v := 8) hX dX1_ask_13 (by decide) ?_
    refine km_iload_n hX dX1_ask_15 rfl ?_
    refine km_aload_n hX dX1_ask_16 rfl rfl ?_
    refine km_geti hX fX1_ask_39 (by assumption) rfl dX1_ask_17 ?_
    refine km_iand hX dX1_ask_20 ?_
    refine km_callVv hX dX1_ask_21 vX1_ask_73 (X1_stop_c kqmr kqt kqb kqbl h) (by decide) (by assumption) rfl rfl (Nat.le_of_ble_eq_true rfl) (fun m21 h => ?_)
    refine km_goto (tgt := 73) hX dX1_ask_24 (by decide) ?_
    exact km_vret hX hF rfl dX1_ask_73 ⟨rfl, rfl, rfl, h⟩ (Nat.le_refl _) (Nat.le_refl _)
def X1_result_w (x0 : Int32) (x1 : Int32) (x2 : Int32) (mi : km_I) (K : Int32 → km_I → Prop) : Prop := (((Int32.toInt (x0)) < 2 ∨ 9 < (Int32.toInt (x0)) → K 0 mi) ∧ ((Int32.toInt (x0)) = 2 → K (x1 + x2) mi) ∧ ((Int32.toInt (x0)) = 3 → K (x1 - x2) mi) ∧ ((Int32.toInt (x0)) = 4 → K (x1 * x2) mi) ∧ ((Int32.toInt (x0)) = 5 → ((¬ x2 = 0 → ¬ x2 = 0 ∧ K (x1 / x2) mi) ∧ (x2 = 0 → K 0 mi))) ∧ ((Int32.toInt (x0)) = 6 → ((¬ x2 = 0 → ¬ x2 = 0 ∧ K (x1 - x1 / x2 * x2) mi) ∧ (x2 = 0 → K 0 mi))) ∧ ((Int32.toInt (x0)) = 7 → K (x1 &&& x2) mi) ∧ ((Int32.toInt (x0)) = 8 → K (x1 ^^^ x2) mi) ∧ ((Int32.toInt (x0)) = 9 → ((x2 ≤ x1 → K 0 mi) ∧ (¬ x2 ≤ x1 → K 1 mi))))
set_option maxHeartbeats 4000000 in
set_option maxRecDepth 100000 in
theorem X1_result_c {E : km_E} {l : Launch} {mr : km_R} (kqmr : km_MR mr) {x0 : Int32} {x1 : Int32} {x2 : Int32} {mi : km_I} {K : Int32 → km_I → Prop} (h : X1_result_w x0 x1 x2 mi K) : km_Ci E l yX1_result wsX1_result rmX1_result [.int x0, .int x1, .int x2] SH mi mr K := by
  refine km_start (cc := cX1_result) (maxL := 3) (ret := (some .int)) (by decide) rfl (Nat.le_of_ble_eq_true rfl) ?_
  intro X hl hX hF _
  subst hl

  have h : (((Int32.toInt (x0)) < 2 ∨ 9 < (Int32.toInt (x0)) → K 0 mi) ∧ ((Int32.toInt (x0)) = 2 → K (x1 + x2) mi) ∧ ((Int32.toInt (x0)) = 3 → K (x1 - x2) mi) ∧ ((Int32.toInt (x0)) = 4 → K (x1 * x2) mi) ∧ ((Int32.toInt (x0)) = 5 → ((¬ x2 = 0 → ¬ x2 = 0 ∧ K (x1 / x2) mi) ∧ (x2 = 0 → K 0 mi))) ∧ ((Int32.toInt (x0)) = 6 → ((¬ x2 = 0 → ¬ x2 = 0 ∧ K (x1 - x1 / x2 * x2) mi) ∧ (x2 = 0 → K 0 mi))) ∧ ((Int32.toInt (x0)) = 7 → K (x1 &&& x2) mi) ∧ ((Int32.toInt (x0)) = 8 → K (x1 ^^^ x2) mi) ∧ ((Int32.toInt (x0)) = 9 → ((x2 ≤ x1 → K 0 mi) ∧ (¬ x2 ≤ x1 → K 1 mi)))) := h
  refine km_iload_n hX dX1_result_0 rfl ?_
  by_cases cO : (Int32.toInt (x0)) < 2 ∨ 9 < (Int32.toInt (x0))
  · refine km_tableOut (tgt := 103) hX dX1_result_1 cO (by decide) ?_
    have h := h.1 cO
    refine km_iconst (v := 0) hX dX1_result_103 (by decide) ?_
    exact km_iret hX hF rfl dX1_result_104 ⟨rfl, rfl, _, rfl, h⟩ (Nat.le_refl _) (Nat.le_refl _)
  · have cI : (Int32.toInt (x0)) = 2 ∨ (Int32.toInt (x0)) = 3 ∨ (Int32.toInt (x0)) = 4 ∨ (Int32.toInt (x0)) = 5 ∨ (Int32.toInt (x0)) = 6 ∨ (Int32.toInt (x0)) = 7 ∨ (Int32.toInt (x0)) = 8 ∨ (Int32.toInt (x0)) = 9 := by omega
    rcases cI with c | c | c | c | c | c | c | c
    · refine km_tableIn (off := 47) (tgt := 48) hX dX1_result_1 (by omega) (by omega) (by rw [c]; rfl) (by decide) ?_
      have h := h.2.1 c
      refine km_iload_n hX dX1_result_48 rfl ?_
      refine km_iload_n hX dX1_result_49 rfl ?_
      refine km_iadd hX dX1_result_50 ?_
      exact km_iret hX hF rfl dX1_result_51 ⟨rfl, rfl, _, rfl, h⟩ (Nat.le_refl _) (Nat.le_refl _)
    · refine km_tableIn (off := 51) (tgt := 52) hX dX1_result_1 (by omega) (by omega) (by rw [c]; rfl) (by decide) ?_
      have h := h.2.2.1 c
      refine km_iload_n hX dX1_result_52 rfl ?_
      refine km_iload_n hX dX1_result_53 rfl ?_
      refine km_isub hX dX1_result_54 ?_
      exact km_iret hX hF rfl dX1_result_55 ⟨rfl, rfl, _, rfl, h⟩ (Nat.le_refl _) (Nat.le_refl _)
    · refine km_tableIn (off := 55) (tgt := 56) hX dX1_result_1 (by omega) (by omega) (by rw [c]; rfl) (by decide) ?_
      have h := h.2.2.2.1 c
      refine km_iload_n hX dX1_result_56 rfl ?_
      refine km_iload_n hX dX1_result_57 rfl ?_
      refine km_imul hX dX1_result_58 ?_
      exact km_iret hX hF rfl dX1_result_59 ⟨rfl, rfl, _, rfl, h⟩ (Nat.le_refl _) (Nat.le_refl _)
    · refine km_tableIn (off := 59) (tgt := 60) hX dX1_result_1 (by omega) (by omega) (by rw [c]; rfl) (by decide) ?_
      have h := h.2.2.2.2.1 c
      refine km_iload_n hX dX1_result_60 rfl ?_
      refine km_if_ne (tgt := 68) hX dX1_result_61 (by decide) (fun c => ?_) (fun c => ?_)
      · have h := h.1 c
        refine km_iload_n hX dX1_result_68 rfl ?_
        refine km_iload_n hX dX1_result_69 rfl ?_
        obtain ⟨hc, h⟩ := h
        refine km_idiv hX hc dX1_result_70 ?_
        exact km_iret hX hF rfl dX1_result_71 ⟨rfl, rfl, _, rfl, h⟩ (Nat.le_refl _) (Nat.le_refl _)
      · have h := h.2 c
        refine km_iconst (v := 0) hX dX1_result_64 (by decide) ?_
        refine km_goto (tgt := 71) hX dX1_result_65 (by decide) ?_
        exact km_iret hX hF rfl dX1_result_71 ⟨rfl, rfl, _, rfl, h⟩ (Nat.le_refl _) (Nat.le_refl _)
    · refine km_tableIn (off := 71) (tgt := 72) hX dX1_result_1 (by omega) (by omega) (by rw [c]; rfl) (by decide) ?_
      have h := h.2.2.2.2.2.1 c
      refine km_iload_n hX dX1_result_72 rfl ?_
      refine km_if_ne (tgt := 80) hX dX1_result_73 (by decide) (fun c => ?_) (fun c => ?_)
      · have h := h.1 c
        refine km_iload_n hX dX1_result_80 rfl ?_
        refine km_iload_n hX dX1_result_81 rfl ?_
        obtain ⟨hc, h⟩ := h
        refine km_irem hX hc dX1_result_82 ?_
        exact km_iret hX hF rfl dX1_result_83 ⟨rfl, rfl, _, rfl, h⟩ (Nat.le_refl _) (Nat.le_refl _)
      · have h := h.2 c
        refine km_iconst (v := 0) hX dX1_result_76 (by decide) ?_
        refine km_goto (tgt := 83) hX dX1_result_77 (by decide) ?_
        exact km_iret hX hF rfl dX1_result_83 ⟨rfl, rfl, _, rfl, h⟩ (Nat.le_refl _) (Nat.le_refl _)
    · refine km_tableIn (off := 83) (tgt := 84) hX dX1_result_1 (by omega) (by omega) (by rw [c]; rfl) (by decide) ?_
      have h := h.2.2.2.2.2.2.1 c
      refine km_iload_n hX dX1_result_84 rfl ?_
      refine km_iload_n hX dX1_result_85 rfl ?_
      refine km_iand hX dX1_result_86 ?_
      exact km_iret hX hF rfl dX1_result_87 ⟨rfl, rfl, _, rfl, h⟩ (Nat.le_refl _) (Nat.le_refl _)
    · refine km_tableIn (off := 87) (tgt := 88) hX dX1_result_1 (by omega) (by omega) (by rw [c]; rfl) (by decide) ?_
      have h := h.2.2.2.2.2.2.2.1 c
      refine km_iload_n hX dX1_result_88 rfl ?_
      refine km_iload_n hX dX1_result_89 rfl ?_
      refine km_ixor hX dX1_result_90 ?_
      exact km_iret hX hF rfl dX1_result_91 ⟨rfl, rfl, _, rfl, h⟩ (Nat.le_refl _) (Nat.le_refl _)
    · refine km_tableIn (off := 91) (tgt := 92) hX dX1_result_1 (by omega) (by omega) (by rw [c]; rfl) (by decide) ?_
      have h := h.2.2.2.2.2.2.2.2 c
      refine km_iload_n hX dX1_result_92 rfl ?_
      refine km_iload_n hX dX1_result_93 rfl ?_
      refine km_icmp_ge (tgt := 101) hX dX1_result_94 (by decide) (fun c => ?_) (fun c => ?_)
      · have h := h.1 c
        refine km_iconst (v := 0) hX dX1_result_101 (by decide) ?_
        exact km_iret hX hF rfl dX1_result_102 ⟨rfl, rfl, _, rfl, h⟩ (Nat.le_refl _) (Nat.le_refl _)
      · have h := h.2 c
        refine km_iconst (v := 1) hX dX1_result_97 (by decide) ?_
        refine km_goto (tgt := 102) hX dX1_result_98 (by decide) ?_
        exact km_iret hX hF rfl dX1_result_102 ⟨rfl, rfl, _, rfl, h⟩ (Nat.le_refl _) (Nat.le_refl _)
def X1_calculate_b16 (t : Nat) (b : Nat) (x1 : Int32) (x2 : Int32) (x3 : Int32) (x4 : Int32) (y1 : Int32) (y2 : Int32) (y3 : Int32) (y4 : Int32) (mi : km_I) (K : km_I → Prop) : Prop := X1_stop_w t b 1 1 0 mi (fun m20 => K m20)
set_option maxHeartbeats 4000000 in
set_option maxRecDepth 100000 in
theorem X1_calculate_b16_t {E : km_E} {X : km_X} {mr : km_R} {K : km_I → Prop} {t : Nat} {b : Nat} {x1 : Int32} {x2 : Int32} {x3 : Int32} {x4 : Int32} (hX : km_ok E X rmX1_calculate cX1_calculate 5 wsX1_calculate RX1) (hF : km_fin E X none 0 0 (fun r sh' mi' mr' => sh' = SH ∧ mr' = mr ∧ r = none ∧ K mi')) (kqmr : km_MR mr) (kqt : km_isM t) (kqb : km_isB b) (kqbl : mr t 7 = some b) : ∀ (y1 : Int32) (y2 : Int32) (y3 : Int32) (y4 : Int32) (mi : km_I), X1_calculate_b16 t b x1 x2 x3 x4 y1 y2 y3 y4 mi K → km_G E X 5 SH mi mr 0 0 16 [(0, .ref t), (1, .int y1), (2, .int y2), (3, .int y3), (4, .int y4)] [] := by
  obtain ⟨st0, st1, st2, st3, st4, st5, st6, st7, st8, st9, st10, st11⟩ := km_shM kqt
  obtain ⟨mt0, mt1, mt2, mt3, mt4, mq1, mq2, mq3, mq4, mq5, mq6⟩ := km_mrM kqmr kqt
  obtain ⟨sb0, sb1, sb2, sb3, sb4, sb5⟩ := km_shB kqb
  obtain ⟨mb1, mb2, mb3, mb4, mb5⟩ := km_mrB kqmr kqb
  intro y1 y2 y3 y4 mi h
  have h : X1_stop_w t b 1 1 0 mi (fun m20 => K m20) := h
  refine km_aload_n hX dX1_calculate_16 rfl rfl ?_
  refine km_iconst (v := 1) hX dX1_calculate_17 (by decide) ?_
  refine km_iconst (v := 1) hX dX1_calculate_18 (by decide) ?_
  refine km_iconst (v := 0) hX dX1_calculate_19 (by decide) ?_
  refine km_callVv hX dX1_calculate_20 vX1_calculate_73 (X1_stop_c kqmr kqt kqb kqbl h) (by decide) (by assumption) rfl rfl (Nat.le_of_ble_eq_true rfl) (fun m20 h => ?_)
  refine km_goto (tgt := 43) hX dX1_calculate_23 (by decide) ?_
  exact km_vret hX hF rfl dX1_calculate_43 ⟨rfl, rfl, rfl, h⟩ (Nat.le_refl _) (Nat.le_refl _)
def X1_calculate_b26 (t : Nat) (b : Nat) (x1 : Int32) (x2 : Int32) (x3 : Int32) (x4 : Int32) (y1 : Int32) (y2 : Int32) (y3 : Int32) (y4 : Int32) (mi : km_I) (K : km_I → Prop) : Prop := X1_result_w y1 y3 y4 mi (fun r32 m32 => X1_put_w t b y2 (r32 &&& (m32 t 1)) m32 (fun m40 => K m40))
set_option maxHeartbeats 4000000 in
set_option maxRecDepth 100000 in
theorem X1_calculate_b26_t {E : km_E} {X : km_X} {mr : km_R} {K : km_I → Prop} {t : Nat} {b : Nat} {x1 : Int32} {x2 : Int32} {x3 : Int32} {x4 : Int32} (hX : km_ok E X rmX1_calculate cX1_calculate 5 wsX1_calculate RX1) (hF : km_fin E X none 0 0 (fun r sh' mi' mr' => sh' = SH ∧ mr' = mr ∧ r = none ∧ K mi')) (kqmr : km_MR mr) (kqt : km_isM t) (kqb : km_isB b) (kqbl : mr t 7 = some b) : ∀ (y1 : Int32) (y2 : Int32) (y3 : Int32) (y4 : Int32) (mi : km_I), X1_calculate_b26 t b x1 x2 x3 x4 y1 y2 y3 y4 mi K → km_G E X 5 SH mi mr 0 0 26 [(0, .ref t), (1, .int y1), (2, .int y2), (3, .int y3), (4, .int y4)] [] := by
  obtain ⟨st0, st1, st2, st3, st4, st5, st6, st7, st8, st9, st10, st11⟩ := km_shM kqt
  obtain ⟨mt0, mt1, mt2, mt3, mt4, mq1, mq2, mq3, mq4, mq5, mq6⟩ := km_mrM kqmr kqt
  obtain ⟨sb0, sb1, sb2, sb3, sb4, sb5⟩ := km_shB kqb
  obtain ⟨mb1, mb2, mb3, mb4, mb5⟩ := km_mrB kqmr kqb
  intro y1 y2 y3 y4 mi h
  have h : X1_result_w y1 y3 y4 mi (fun r32 m32 => X1_put_w t b y2 (r32 &&& (m32 t 1)) m32 (fun m40 => K m40)) := h
  refine km_aload_n hX dX1_calculate_26 rfl rfl ?_
  refine km_iload_n hX dX1_calculate_27 rfl ?_
  refine km_iload_n hX dX1_calculate_28 rfl ?_
  refine km_iload_n hX dX1_calculate_29 rfl ?_
  refine km_iload hX dX1_calculate_30 rfl ?_
  refine km_callSi hX dX1_calculate_32 vX1_calculate_115 (X1_result_c kqmr h) (by decide) rfl rfl (Nat.le_of_ble_eq_true rfl) (fun r32 m32 h => ?_)
  refine km_aload_n hX dX1_calculate_35 rfl rfl ?_
  refine km_geti hX fX1_calculate_39 (by assumption) rfl dX1_calculate_36 ?_
  refine km_iand hX dX1_calculate_39 ?_
  refine km_callVv hX dX1_calculate_40 vX1_calculate_97 (X1_put_c kqmr kqt kqb kqbl h) (by decide) (by assumption) rfl rfl (Nat.le_of_ble_eq_true rfl) (fun m40 h => ?_)
  exact km_vret hX hF rfl dX1_calculate_43 ⟨rfl, rfl, rfl, h⟩ (Nat.le_refl _) (Nat.le_refl _)
def X1_calculate_w (t : Nat) (b : Nat) (x1 : Int32) (x2 : Int32) (x3 : Int32) (x4 : Int32) (mi : km_I) (K : km_I → Prop) : Prop := ((¬ x4 = 0 → X1_calculate_b26 t b x1 x2 x3 x4 x1 x2 x3 x4 mi K) ∧ (x4 = 0 → ((x1 = 5 → X1_calculate_b16 t b x1 x2 x3 x4 x1 x2 x3 x4 mi K) ∧ (¬ x1 = 5 → ((¬ x1 = 6 → X1_calculate_b26 t b x1 x2 x3 x4 x1 x2 x3 x4 mi K) ∧ (x1 = 6 → X1_calculate_b16 t b x1 x2 x3 x4 x1 x2 x3 x4 mi K))))))
set_option maxHeartbeats 4000000 in
set_option maxRecDepth 100000 in
theorem X1_calculate_c {E : km_E} {l : Launch} {mr : km_R} (kqmr : km_MR mr) {t : Nat} {b : Nat} {x1 : Int32} {x2 : Int32} {x3 : Int32} {x4 : Int32} (kqt : km_isM t) (kqb : km_isB b) (kqbl : mr t 7 = some b) {mi : km_I} {K : km_I → Prop} (h : X1_calculate_w t b x1 x2 x3 x4 mi K) : km_Cv E l yX1_calculate wsX1_calculate rmX1_calculate [.ref t, .int x1, .int x2, .int x3, .int x4] SH mi mr K := by
  refine km_start (cc := cX1_calculate) (maxL := 5) (ret := none) (by decide) rfl (Nat.le_of_ble_eq_true rfl) ?_
  intro X hl hX hF _
  subst hl
  obtain ⟨st0, st1, st2, st3, st4, st5, st6, st7, st8, st9, st10, st11⟩ := km_shM kqt
  obtain ⟨mt0, mt1, mt2, mt3, mt4, mq1, mq2, mq3, mq4, mq5, mq6⟩ := km_mrM kqmr kqt
  obtain ⟨sb0, sb1, sb2, sb3, sb4, sb5⟩ := km_shB kqb
  obtain ⟨mb1, mb2, mb3, mb4, mb5⟩ := km_mrB kqmr kqb
  have h : ((¬ x4 = 0 → X1_calculate_b26 t b x1 x2 x3 x4 x1 x2 x3 x4 mi K) ∧ (x4 = 0 → ((x1 = 5 → X1_calculate_b16 t b x1 x2 x3 x4 x1 x2 x3 x4 mi K) ∧ (¬ x1 = 5 → ((¬ x1 = 6 → X1_calculate_b26 t b x1 x2 x3 x4 x1 x2 x3 x4 mi K) ∧ (x1 = 6 → X1_calculate_b16 t b x1 x2 x3 x4 x1 x2 x3 x4 mi K)))))) := h
  refine km_iload hX dX1_calculate_0 rfl ?_
  refine km_if_ne (tgt := 26) hX dX1_calculate_2 (by decide) (fun c => ?_) (fun c => ?_)
  · have h := h.1 c
    refine km_ren (ls' := [(0, .ref t), (1, .int x1), (2, .int x2), (3, .int x3), (4, .int x4)]) [0, 1, 2, 3, 4] rfl ?_
    exact X1_calculate_b26_t hX hF kqmr kqt kqb kqbl _ _ _ _ _ h
  · have h := h.2 c
    refine km_iload_n hX dX1_calculate_5 rfl ?_
    refine km_iconst (v := 5) hX dX1_calculate_6 (by decide) ?_
    refine km_icmp_eq (tgt := 16) hX dX1_calculate_7 (by decide) (fun c => ?_) (fun c => ?_)
    · have h := h.1 c
      refine km_ren (ls' := [(0, .ref t), (1, .int x1), (2, .int x2), (3, .int x3), (4, .int x4)]) [0, 1, 2, 3, 4] rfl ?_
      exact X1_calculate_b16_t hX hF kqmr kqt kqb kqbl _ _ _ _ _ h
    · have h := h.2 c
      refine km_iload_n hX dX1_calculate_10 rfl ?_
      refine km_bipush (v := 6) hX dX1_calculate_11 (by decide) ?_
      refine km_icmp_ne (tgt := 26) hX dX1_calculate_13 (by decide) (fun c => ?_) (fun c => ?_)
      · have h := h.1 c
        refine km_ren (ls' := [(0, .ref t), (1, .int x1), (2, .int x2), (3, .int x3), (4, .int x4)]) [0, 1, 2, 3, 4] rfl ?_
        exact X1_calculate_b26_t hX hF kqmr kqt kqb kqbl _ _ _ _ _ h
      · have h := h.2 c
        refine km_ren (ls' := [(0, .ref t), (1, .int x1), (2, .int x2), (3, .int x3), (4, .int x4)]) [0, 1, 2, 3, 4] rfl ?_
        exact X1_calculate_b16_t hX hF kqmr kqt kqb kqbl _ _ _ _ _ h
def X1_get_w (t : Nat) (b : Nat) (x1 : Int32) (mi : km_I) (K : Int32 → km_I → Prop) : Prop := vp_in ((((mi t 8) - 1) * 6) + x1) 48 ∧ K (mi (t + 8) (Int32.toNatClampNeg ((((mi t 8) - 1) * 6) + x1))) mi
set_option maxHeartbeats 4000000 in
set_option maxRecDepth 100000 in
theorem X1_get_c {E : km_E} {l : Launch} {mr : km_R} (kqmr : km_MR mr) {t : Nat} {b : Nat} {x1 : Int32} (kqt : km_isM t) (kqb : km_isB b) (kqbl : mr t 7 = some b) {mi : km_I} {K : Int32 → km_I → Prop} (h : X1_get_w t b x1 mi K) : km_Ci E l yX1_get wsX1_get rmX1_get [.ref t, .int x1] SH mi mr K := by
  refine km_start (cc := cX1_get) (maxL := 2) (ret := (some .int)) (by decide) rfl (Nat.le_of_ble_eq_true rfl) ?_
  intro X hl hX hF _
  subst hl
  obtain ⟨st0, st1, st2, st3, st4, st5, st6, st7, st8, st9, st10, st11⟩ := km_shM kqt
  obtain ⟨mt0, mt1, mt2, mt3, mt4, mq1, mq2, mq3, mq4, mq5, mq6⟩ := km_mrM kqmr kqt
  obtain ⟨sb0, sb1, sb2, sb3, sb4, sb5⟩ := km_shB kqb
  obtain ⟨mb1, mb2, mb3, mb4, mb5⟩ := km_mrB kqmr kqb
  have h : vp_in ((((mi t 8) - 1) * 6) + x1) 48 ∧ K (mi (t + 8) (Int32.toNatClampNeg ((((mi t 8) - 1) * 6) + x1))) mi := h
  refine km_aload_n hX dX1_get_0 rfl rfl ?_
  refine km_getr (q := (t + 8)) hX fX1_get_18 (by assumption) rfl dX1_get_1 (by assumption) ?_
  refine km_aload_n hX dX1_get_4 rfl rfl ?_
  refine km_geti hX fX1_get_31 (by assumption) rfl dX1_get_5 ?_
  refine km_iconst (v := 1) hX dX1_get_8 (by decide) ?_
  refine km_isub hX dX1_get_9 ?_
  refine km_bipush (v := 6) hX dX1_get_10 (by decide) ?_
  refine km_imul hX dX1_get_12 ?_
  refine km_iload_n hX dX1_get_13 rfl ?_
  refine km_iadd hX dX1_get_14 ?_
  obtain ⟨hc, h⟩ := h
  refine km_iald hX (by assumption) hc dX1_get_15 ?_
  exact km_iret hX hF rfl dX1_get_16 ⟨rfl, rfl, _, rfl, h⟩ (Nat.le_refl _) (Nat.le_refl _)
def X1_perform_b189 (t : Nat) (b : Nat) (x1 : Int32) (y1 : Int32) (y2 : Int32) (y3 : Int32) (y4 : Int32) (z0 : Int32) (z1 : Int32) (mi : km_I) (K : km_I → Prop) : Prop := vp_in z1 8 ∧ (∀ m189, m189 = km_u mi (t + 9) (Int32.toNatClampNeg z1) z0 → K m189)
set_option maxHeartbeats 4000000 in
set_option maxRecDepth 100000 in
theorem X1_perform_b189_t {E : km_E} {X : km_X} {mr : km_R} {K : km_I → Prop} {t : Nat} {b : Nat} {x1 : Int32} (hX : km_ok E X rmX1_perform cX1_perform 5 wsX1_perform RX1) (hF : km_fin E X none 0 0 (fun r sh' mi' mr' => sh' = SH ∧ mr' = mr ∧ r = none ∧ K mi')) (kqmr : km_MR mr) (kqt : km_isM t) (kqb : km_isB b) (kqbl : mr t 7 = some b) : ∀ (y1 : Int32) (y2 : Int32) (y3 : Int32) (y4 : Int32) (z0 : Int32) (z1 : Int32) (mi : km_I), X1_perform_b189 t b x1 y1 y2 y3 y4 z0 z1 mi K → km_G E X 5 SH mi mr 0 0 189 [(0, .ref t), (1, .int y1), (2, .int y2), (3, .int y3), (4, .int y4)] [.int z0, .int z1, .ref (t + 9)] := by
  obtain ⟨st0, st1, st2, st3, st4, st5, st6, st7, st8, st9, st10, st11⟩ := km_shM kqt
  obtain ⟨mt0, mt1, mt2, mt3, mt4, mq1, mq2, mq3, mq4, mq5, mq6⟩ := km_mrM kqmr kqt
  obtain ⟨sb0, sb1, sb2, sb3, sb4, sb5⟩ := km_shB kqb
  obtain ⟨mb1, mb2, mb3, mb4, mb5⟩ := km_mrB kqmr kqb
  intro y1 y2 y3 y4 z0 z1 mi h
  have h : vp_in z1 8 ∧ (∀ m189, m189 = km_u mi (t + 9) (Int32.toNatClampNeg z1) z0 → K m189) := h
  obtain ⟨hc, h⟩ := h
  refine km_iastN hX (by assumption) hc dX1_perform_189 (fun m189 e189 => ?_)
  have h := h m189 e189
  refine km_goto (tgt := 323) hX dX1_perform_190 (by decide) ?_
  exact km_vret hX hF rfl dX1_perform_323 ⟨rfl, rfl, rfl, h⟩ (Nat.le_refl _) (Nat.le_refl _)
def X1_perform_b263 (t : Nat) (b : Nat) (x1 : Int32) (y1 : Int32) (y2 : Int32) (y3 : Int32) (y4 : Int32) (z0 : Int32) (z2 : Int32) (z3 : Int32) (z4 : Int32) (mi : km_I) (K : km_I → Prop) : Prop := X1_get_w t b z0 mi (fun r263 m263 => X1_ask_w t b z4 z3 z2 r263 m263 (fun m266 => K m266))
set_option maxHeartbeats 4000000 in
set_option maxRecDepth 100000 in
theorem X1_perform_b263_t {E : km_E} {X : km_X} {mr : km_R} {K : km_I → Prop} {t : Nat} {b : Nat} {x1 : Int32} (hX : km_ok E X rmX1_perform cX1_perform 5 wsX1_perform RX1) (hF : km_fin E X none 0 0 (fun r sh' mi' mr' => sh' = SH ∧ mr' = mr ∧ r = none ∧ K mi')) (kqmr : km_MR mr) (kqt : km_isM t) (kqb : km_isB b) (kqbl : mr t 7 = some b) : ∀ (y1 : Int32) (y2 : Int32) (y3 : Int32) (y4 : Int32) (z0 : Int32) (z2 : Int32) (z3 : Int32) (z4 : Int32) (mi : km_I), X1_perform_b263 t b x1 y1 y2 y3 y4 z0 z2 z3 z4 mi K → km_G E X 5 SH mi mr 0 0 263 [(0, .ref t), (1, .int y1), (2, .int y2), (3, .int y3), (4, .int y4)] [.int z0, .ref t, .int z2, .int z3, .int z4, .ref t] := by
  obtain ⟨st0, st1, st2, st3, st4, st5, st6, st7, st8, st9, st10, st11⟩ := km_shM kqt
  obtain ⟨mt0, mt1, mt2, mt3, mt4, mq1, mq2, mq3, mq4, mq5, mq6⟩ := km_mrM kqmr kqt
  obtain ⟨sb0, sb1, sb2, sb3, sb4, sb5⟩ := km_shB kqb
  obtain ⟨mb1, mb2, mb3, mb4, mb5⟩ := km_mrB kqmr kqb
  intro y1 y2 y3 y4 z0 z2 z3 z4 mi h
  have h : X1_get_w t b z0 mi (fun r263 m263 => X1_ask_w t b z4 z3 z2 r263 m263 (fun m266 => K m266)) := h
  refine km_callVi hX dX1_perform_263 vX1_perform_101 (X1_get_c kqmr kqt kqb kqbl h) (by decide) (by assumption) rfl rfl (Nat.le_of_ble_eq_true rfl) (fun r263 m263 h => ?_)
  refine km_callVv hX dX1_perform_266 vX1_perform_108 (X1_ask_c kqmr kqt kqb kqbl h) (by decide) (by assumption) rfl rfl (Nat.le_of_ble_eq_true rfl) (fun m266 h => ?_)
  refine km_goto (tgt := 323) hX dX1_perform_269 (by decide) ?_
  exact km_vret hX hF rfl dX1_perform_323 ⟨rfl, rfl, rfl, h⟩ (Nat.le_refl _) (Nat.le_refl _)
def X1_perform_b298 (t : Nat) (b : Nat) (x1 : Int32) (y1 : Int32) (y2 : Int32) (y3 : Int32) (y4 : Int32) (mi : km_I) (K : km_I → Prop) : Prop := vp_in y1 144 ∧ X1_get_w t b y3 mi (fun r311 m311 => X1_get_w t b y4 m311 (fun r317 m317 => X1_calculate_w t b (mi (b + 2) (Int32.toNatClampNeg y1)) y2 r311 r317 m317 (fun m320 => K m320)))
set_option maxHeartbeats 4000000 in
set_option maxRecDepth 100000 in
theorem X1_perform_b298_t {E : km_E} {X : km_X} {mr : km_R} {K : km_I → Prop} {t : Nat} {b : Nat} {x1 : Int32} (hX : km_ok E X rmX1_perform cX1_perform 5 wsX1_perform RX1) (hF : km_fin E X none 0 0 (fun r sh' mi' mr' => sh' = SH ∧ mr' = mr ∧ r = none ∧ K mi')) (kqmr : km_MR mr) (kqt : km_isM t) (kqb : km_isB b) (kqbl : mr t 7 = some b) : ∀ (y1 : Int32) (y2 : Int32) (y3 : Int32) (y4 : Int32) (mi : km_I), X1_perform_b298 t b x1 y1 y2 y3 y4 mi K → km_G E X 5 SH mi mr 0 0 298 [(0, .ref t), (1, .int y1), (2, .int y2), (3, .int y3), (4, .int y4)] [] := by
  obtain ⟨st0, st1, st2, st3, st4, st5, st6, st7, st8, st9, st10, st11⟩ := km_shM kqt
  obtain ⟨mt0, mt1, mt2, mt3, mt4, mq1, mq2, mq3, mq4, mq5, mq6⟩ := km_mrM kqmr kqt
  obtain ⟨sb0, sb1, sb2, sb3, sb4, sb5⟩ := km_shB kqb
  obtain ⟨mb1, mb2, mb3, mb4, mb5⟩ := km_mrB kqmr kqb
  intro y1 y2 y3 y4 mi h
  have h : vp_in y1 144 ∧ X1_get_w t b y3 mi (fun r311 m311 => X1_get_w t b y4 m311 (fun r317 m317 => X1_calculate_w t b (mi (b + 2) (Int32.toNatClampNeg y1)) y2 r311 r317 m317 (fun m320 => K m320))) := h
  refine km_aload_n hX dX1_perform_298 rfl rfl ?_
  refine km_aload_n hX dX1_perform_299 rfl rfl ?_
  refine km_getr (q := b) hX fX1_perform_35 (by assumption) rfl dX1_perform_300 (by assumption) ?_
  refine km_getr (q := (b + 2)) hX fX1_perform_62 (by assumption) rfl dX1_perform_303 (by assumption) ?_
  refine km_iload_n hX dX1_perform_306 rfl ?_
  obtain ⟨hc, h⟩ := h
  refine km_iald hX (by assumption) hc dX1_perform_307 ?_
  refine km_iload_n hX dX1_perform_308 rfl ?_
  refine km_aload_n hX dX1_perform_309 rfl rfl ?_
  refine km_iload_n hX dX1_perform_310 rfl ?_
  refine km_callVi hX dX1_perform_311 vX1_perform_101 (X1_get_c kqmr kqt kqb kqbl h) (by decide) (by assumption) rfl rfl (Nat.le_of_ble_eq_true rfl) (fun r311 m311 h => ?_)
  refine km_aload_n hX dX1_perform_314 rfl rfl ?_
  refine km_iload hX dX1_perform_315 rfl ?_
  refine km_callVi hX dX1_perform_317 vX1_perform_101 (X1_get_c kqmr kqt kqb kqbl h) (by decide) (by assumption) rfl rfl (Nat.le_of_ble_eq_true rfl) (fun r317 m317 h => ?_)
  refine km_callVv hX dX1_perform_320 vX1_perform_112 (X1_calculate_c kqmr kqt kqb kqbl h) (by decide) (by assumption) rfl rfl (Nat.le_of_ble_eq_true rfl) (fun m320 h => ?_)
  exact km_vret hX hF rfl dX1_perform_323 ⟨rfl, rfl, rfl, h⟩ (Nat.le_refl _) (Nat.le_refl _)
def X1_perform_w (t : Nat) (b : Nat) (x1 : Int32) (mi : km_I) (K : km_I → Prop) : Prop := vp_in x1 144 ∧ vp_in x1 144 ∧ vp_in x1 144 ∧ (∀ m41, m41 = km_u mi (t + 1) 3 ((mi (t + 1) 3) + 1) → vp_in x1 144 ∧ (((Int32.toInt ((m41 (b + 2) (Int32.toNatClampNeg x1)))) < 0 ∨ 15 < (Int32.toInt ((m41 (b + 2) (Int32.toNatClampNeg x1)))) → X1_perform_b298 t b x1 x1 (mi (b + 3) (Int32.toNatClampNeg x1)) (mi (b + 4) (Int32.toNatClampNeg x1)) (mi (b + 5) (Int32.toNatClampNeg x1)) m41 K) ∧ ((Int32.toInt ((m41 (b + 2) (Int32.toNatClampNeg x1)))) = 0 → X1_put_w t b (mi (b + 3) (Int32.toNatClampNeg x1)) (mi (b + 4) (Int32.toNatClampNeg x1)) m41 (fun m135 => K m135)) ∧ ((Int32.toInt ((m41 (b + 2) (Int32.toNatClampNeg x1)))) = 1 → X1_get_w t b (mi (b + 4) (Int32.toNatClampNeg x1)) m41 (fun r145 m145 => X1_put_w t b (mi (b + 3) (Int32.toNatClampNeg x1)) r145 m145 (fun m148 => K m148))) ∧ ((Int32.toInt ((m41 (b + 2) (Int32.toNatClampNeg x1)))) = 2 → X1_perform_b298 t b x1 x1 (mi (b + 3) (Int32.toNatClampNeg x1)) (mi (b + 4) (Int32.toNatClampNeg x1)) (mi (b + 5) (Int32.toNatClampNeg x1)) m41 K) ∧ ((Int32.toInt ((m41 (b + 2) (Int32.toNatClampNeg x1)))) = 3 → X1_perform_b298 t b x1 x1 (mi (b + 3) (Int32.toNatClampNeg x1)) (mi (b + 4) (Int32.toNatClampNeg x1)) (mi (b + 5) (Int32.toNatClampNeg x1)) m41 K) ∧ ((Int32.toInt ((m41 (b + 2) (Int32.toNatClampNeg x1)))) = 4 → X1_perform_b298 t b x1 x1 (mi (b + 3) (Int32.toNatClampNeg x1)) (mi (b + 4) (Int32.toNatClampNeg x1)) (mi (b + 5) (Int32.toNatClampNeg x1)) m41 K) ∧ ((Int32.toInt ((m41 (b + 2) (Int32.toNatClampNeg x1)))) = 5 → X1_perform_b298 t b x1 x1 (mi (b + 3) (Int32.toNatClampNeg x1)) (mi (b + 4) (Int32.toNatClampNeg x1)) (mi (b + 5) (Int32.toNatClampNeg x1)) m41 K) ∧ ((Int32.toInt ((m41 (b + 2) (Int32.toNatClampNeg x1)))) = 6 → X1_perform_b298 t b x1 x1 (mi (b + 3) (Int32.toNatClampNeg x1)) (mi (b + 4) (Int32.toNatClampNeg x1)) (mi (b + 5) (Int32.toNatClampNeg x1)) m41 K) ∧ ((Int32.toInt ((m41 (b + 2) (Int32.toNatClampNeg x1)))) = 7 → X1_perform_b298 t b x1 x1 (mi (b + 3) (Int32.toNatClampNeg x1)) (mi (b + 4) (Int32.toNatClampNeg x1)) (mi (b + 5) (Int32.toNatClampNeg x1)) m41 K) ∧ ((Int32.toInt ((m41 (b + 2) (Int32.toNatClampNeg x1)))) = 8 → X1_perform_b298 t b x1 x1 (mi (b + 3) (Int32.toNatClampNeg x1)) (mi (b + 4) (Int32.toNatClampNeg x1)) (mi (b + 5) (Int32.toNatClampNeg x1)) m41 K) ∧ ((Int32.toInt ((m41 (b + 2) (Int32.toNatClampNeg x1)))) = 9 → X1_perform_b298 t b x1 x1 (mi (b + 3) (Int32.toNatClampNeg x1)) (mi (b + 4) (Int32.toNatClampNeg x1)) (mi (b + 5) (Int32.toNatClampNeg x1)) m41 K) ∧ ((Int32.toInt ((m41 (b + 2) (Int32.toNatClampNeg x1)))) = 10 → X1_get_w t b (mi (b + 3) (Int32.toNatClampNeg x1)) m41 (fun r166 m166 => ((¬ r166 = 0 → vp_in ((m166 t 8) - 1) 8 ∧ X1_perform_b189 t b x1 x1 (mi (b + 3) (Int32.toNatClampNeg x1)) (mi (b + 4) (Int32.toNatClampNeg x1)) (mi (b + 5) (Int32.toNatClampNeg x1)) ((m166 (t + 9) (Int32.toNatClampNeg ((m166 t 8) - 1))) + 1) ((m41 t 8) - 1) m166 K) ∧ (r166 = 0 → X1_perform_b189 t b x1 x1 (mi (b + 3) (Int32.toNatClampNeg x1)) (mi (b + 4) (Int32.toNatClampNeg x1)) (mi (b + 5) (Int32.toNatClampNeg x1)) (mi (b + 4) (Int32.toNatClampNeg x1)) ((m41 t 8) - 1) m166 K)))) ∧ ((Int32.toInt ((m41 (b + 2) (Int32.toNatClampNeg x1)))) = 11 → vp_in ((m41 t 8) - 1) 8 ∧ (∀ m204, m204 = km_u m41 (t + 9) (Int32.toNatClampNeg ((m41 t 8) - 1)) (mi (b + 3) (Int32.toNatClampNeg x1)) → K m204)) ∧ ((Int32.toInt ((m41 (b + 2) (Int32.toNatClampNeg x1)))) = 12 → X1_get_w t b (mi (b + 4) (Int32.toNatClampNeg x1)) m41 (fun r215 m215 => X5_addTell_w (t + 1) (mi (b + 3) (Int32.toNatClampNeg x1)) r215 m215 (fun m218 => vp_in ((m218 t 8) - 1) 8 ∧ vp_in ((m218 t 8) - 1) 8 ∧ (∀ m235, m235 = km_u m218 (t + 9) (Int32.toNatClampNeg ((m218 t 8) - 1)) ((m218 (t + 9) (Int32.toNatClampNeg ((m218 t 8) - 1))) + 1) → K m235)))) ∧ ((Int32.toInt ((m41 (b + 2) (Int32.toNatClampNeg x1)))) = 13 → X1_get_w t b (mi (b + 5) (Int32.toNatClampNeg x1)) m41 (fun r245 m245 => ((¬ (mi (b + 5) (Int32.toNatClampNeg x1)) = 5 → X1_perform_b263 t b x1 x1 (mi (b + 3) (Int32.toNatClampNeg x1)) (mi (b + 4) (Int32.toNatClampNeg x1)) (mi (b + 5) (Int32.toNatClampNeg x1)) ((mi (b + 5) (Int32.toNatClampNeg x1)) + 1) r245 (mi (b + 4) (Int32.toNatClampNeg x1)) (mi (b + 3) (Int32.toNatClampNeg x1)) m245 K) ∧ ((mi (b + 5) (Int32.toNatClampNeg x1)) = 5 → X1_perform_b263 t b x1 x1 (mi (b + 3) (Int32.toNatClampNeg x1)) (mi (b + 4) (Int32.toNatClampNeg x1)) (mi (b + 5) (Int32.toNatClampNeg x1)) 0 r245 (mi (b + 4) (Int32.toNatClampNeg x1)) (mi (b + 3) (Int32.toNatClampNeg x1)) m245 K)))) ∧ ((Int32.toInt ((m41 (b + 2) (Int32.toNatClampNeg x1)))) = 14 → X1_get_w t b (mi (b + 3) (Int32.toNatClampNeg x1)) m41 (fun r275 m275 => X1_giveBack_w t b r275 m275 (fun m278 => K m278))) ∧ ((Int32.toInt ((m41 (b + 2) (Int32.toNatClampNeg x1)))) = 15 → X1_get_w t b (mi (b + 4) (Int32.toNatClampNeg x1)) m41 (fun r289 m289 => X1_stop_w t b 1 (mi (b + 3) (Int32.toNatClampNeg x1)) r289 m289 (fun m292 => K m292)))))
set_option maxHeartbeats 4000000 in
set_option maxRecDepth 100000 in
theorem X1_perform_c {E : km_E} {l : Launch} {mr : km_R} (kqmr : km_MR mr) {t : Nat} {b : Nat} {x1 : Int32} (kqt : km_isM t) (kqb : km_isB b) (kqbl : mr t 7 = some b) {mi : km_I} {K : km_I → Prop} (h : X1_perform_w t b x1 mi K) : km_Cv E l yX1_perform wsX1_perform rmX1_perform [.ref t, .int x1] SH mi mr K := by
  refine km_start (cc := cX1_perform) (maxL := 5) (ret := none) (by decide) rfl (Nat.le_of_ble_eq_true rfl) ?_
  intro X hl hX hF _
  subst hl
  obtain ⟨st0, st1, st2, st3, st4, st5, st6, st7, st8, st9, st10, st11⟩ := km_shM kqt
  obtain ⟨mt0, mt1, mt2, mt3, mt4, mq1, mq2, mq3, mq4, mq5, mq6⟩ := km_mrM kqmr kqt
  obtain ⟨sb0, sb1, sb2, sb3, sb4, sb5⟩ := km_shB kqb
  obtain ⟨mb1, mb2, mb3, mb4, mb5⟩ := km_mrB kqmr kqb
  have h : vp_in x1 144 ∧ vp_in x1 144 ∧ vp_in x1 144 ∧ (∀ m41, m41 = km_u mi (t + 1) 3 ((mi (t + 1) 3) + 1) → vp_in x1 144 ∧ (((Int32.toInt ((m41 (b + 2) (Int32.toNatClampNeg x1)))) < 0 ∨ 15 < (Int32.toInt ((m41 (b + 2) (Int32.toNatClampNeg x1)))) → X1_perform_b298 t b x1 x1 (mi (b + 3) (Int32.toNatClampNeg x1)) (mi (b + 4) (Int32.toNatClampNeg x1)) (mi (b + 5) (Int32.toNatClampNeg x1)) m41 K) ∧ ((Int32.toInt ((m41 (b + 2) (Int32.toNatClampNeg x1)))) = 0 → X1_put_w t b (mi (b + 3) (Int32.toNatClampNeg x1)) (mi (b + 4) (Int32.toNatClampNeg x1)) m41 (fun m135 => K m135)) ∧ ((Int32.toInt ((m41 (b + 2) (Int32.toNatClampNeg x1)))) = 1 → X1_get_w t b (mi (b + 4) (Int32.toNatClampNeg x1)) m41 (fun r145 m145 => X1_put_w t b (mi (b + 3) (Int32.toNatClampNeg x1)) r145 m145 (fun m148 => K m148))) ∧ ((Int32.toInt ((m41 (b + 2) (Int32.toNatClampNeg x1)))) = 2 → X1_perform_b298 t b x1 x1 (mi (b + 3) (Int32.toNatClampNeg x1)) (mi (b + 4) (Int32.toNatClampNeg x1)) (mi (b + 5) (Int32.toNatClampNeg x1)) m41 K) ∧ ((Int32.toInt ((m41 (b + 2) (Int32.toNatClampNeg x1)))) = 3 → X1_perform_b298 t b x1 x1 (mi (b + 3) (Int32.toNatClampNeg x1)) (mi (b + 4) (Int32.toNatClampNeg x1)) (mi (b + 5) (Int32.toNatClampNeg x1)) m41 K) ∧ ((Int32.toInt ((m41 (b + 2) (Int32.toNatClampNeg x1)))) = 4 → X1_perform_b298 t b x1 x1 (mi (b + 3) (Int32.toNatClampNeg x1)) (mi (b + 4) (Int32.toNatClampNeg x1)) (mi (b + 5) (Int32.toNatClampNeg x1)) m41 K) ∧ ((Int32.toInt ((m41 (b + 2) (Int32.toNatClampNeg x1)))) = 5 → X1_perform_b298 t b x1 x1 (mi (b + 3) (Int32.toNatClampNeg x1)) (mi (b + 4) (Int32.toNatClampNeg x1)) (mi (b + 5) (Int32.toNatClampNeg x1)) m41 K) ∧ ((Int32.toInt ((m41 (b + 2) (Int32.toNatClampNeg x1)))) = 6 → X1_perform_b298 t b x1 x1 (mi (b + 3) (Int32.toNatClampNeg x1)) (mi (b + 4) (Int32.toNatClampNeg x1)) (mi (b + 5) (Int32.toNatClampNeg x1)) m41 K) ∧ ((Int32.toInt ((m41 (b + 2) (Int32.toNatClampNeg x1)))) = 7 → X1_perform_b298 t b x1 x1 (mi (b + 3) (Int32.toNatClampNeg x1)) (mi (b + 4) (Int32.toNatClampNeg x1)) (mi (b + 5) (Int32.toNatClampNeg x1)) m41 K) ∧ ((Int32.toInt ((m41 (b + 2) (Int32.toNatClampNeg x1)))) = 8 → X1_perform_b298 t b x1 x1 (mi (b + 3) (Int32.toNatClampNeg x1)) (mi (b + 4) (Int32.toNatClampNeg x1)) (mi (b + 5) (Int32.toNatClampNeg x1)) m41 K) ∧ ((Int32.toInt ((m41 (b + 2) (Int32.toNatClampNeg x1)))) = 9 → X1_perform_b298 t b x1 x1 (mi (b + 3) (Int32.toNatClampNeg x1)) (mi (b + 4) (Int32.toNatClampNeg x1)) (mi (b + 5) (Int32.toNatClampNeg x1)) m41 K) ∧ ((Int32.toInt ((m41 (b + 2) (Int32.toNatClampNeg x1)))) = 10 → X1_get_w t b (mi (b + 3) (Int32.toNatClampNeg x1)) m41 (fun r166 m166 => ((¬ r166 = 0 → vp_in ((m166 t 8) - 1) 8 ∧ X1_perform_b189 t b x1 x1 (mi (b + 3) (Int32.toNatClampNeg x1)) (mi (b + 4) (Int32.toNatClampNeg x1)) (mi (b + 5) (Int32.toNatClampNeg x1)) ((m166 (t + 9) (Int32.toNatClampNeg ((m166 t 8) - 1))) + 1) ((m41 t 8) - 1) m166 K) ∧ (r166 = 0 → X1_perform_b189 t b x1 x1 (mi (b + 3) (Int32.toNatClampNeg x1)) (mi (b + 4) (Int32.toNatClampNeg x1)) (mi (b + 5) (Int32.toNatClampNeg x1)) (mi (b + 4) (Int32.toNatClampNeg x1)) ((m41 t 8) - 1) m166 K)))) ∧ ((Int32.toInt ((m41 (b + 2) (Int32.toNatClampNeg x1)))) = 11 → vp_in ((m41 t 8) - 1) 8 ∧ (∀ m204, m204 = km_u m41 (t + 9) (Int32.toNatClampNeg ((m41 t 8) - 1)) (mi (b + 3) (Int32.toNatClampNeg x1)) → K m204)) ∧ ((Int32.toInt ((m41 (b + 2) (Int32.toNatClampNeg x1)))) = 12 → X1_get_w t b (mi (b + 4) (Int32.toNatClampNeg x1)) m41 (fun r215 m215 => X5_addTell_w (t + 1) (mi (b + 3) (Int32.toNatClampNeg x1)) r215 m215 (fun m218 => vp_in ((m218 t 8) - 1) 8 ∧ vp_in ((m218 t 8) - 1) 8 ∧ (∀ m235, m235 = km_u m218 (t + 9) (Int32.toNatClampNeg ((m218 t 8) - 1)) ((m218 (t + 9) (Int32.toNatClampNeg ((m218 t 8) - 1))) + 1) → K m235)))) ∧ ((Int32.toInt ((m41 (b + 2) (Int32.toNatClampNeg x1)))) = 13 → X1_get_w t b (mi (b + 5) (Int32.toNatClampNeg x1)) m41 (fun r245 m245 => ((¬ (mi (b + 5) (Int32.toNatClampNeg x1)) = 5 → X1_perform_b263 t b x1 x1 (mi (b + 3) (Int32.toNatClampNeg x1)) (mi (b + 4) (Int32.toNatClampNeg x1)) (mi (b + 5) (Int32.toNatClampNeg x1)) ((mi (b + 5) (Int32.toNatClampNeg x1)) + 1) r245 (mi (b + 4) (Int32.toNatClampNeg x1)) (mi (b + 3) (Int32.toNatClampNeg x1)) m245 K) ∧ ((mi (b + 5) (Int32.toNatClampNeg x1)) = 5 → X1_perform_b263 t b x1 x1 (mi (b + 3) (Int32.toNatClampNeg x1)) (mi (b + 4) (Int32.toNatClampNeg x1)) (mi (b + 5) (Int32.toNatClampNeg x1)) 0 r245 (mi (b + 4) (Int32.toNatClampNeg x1)) (mi (b + 3) (Int32.toNatClampNeg x1)) m245 K)))) ∧ ((Int32.toInt ((m41 (b + 2) (Int32.toNatClampNeg x1)))) = 14 → X1_get_w t b (mi (b + 3) (Int32.toNatClampNeg x1)) m41 (fun r275 m275 => X1_giveBack_w t b r275 m275 (fun m278 => K m278))) ∧ ((Int32.toInt ((m41 (b + 2) (Int32.toNatClampNeg x1)))) = 15 → X1_get_w t b (mi (b + 4) (Int32.toNatClampNeg x1)) m41 (fun r289 m289 => X1_stop_w t b 1 (mi (b + 3) (Int32.toNatClampNeg x1)) r289 m289 (fun m292 => K m292))))) := h
  refine km_aload_n hX dX1_perform_0 rfl rfl ?_
  refine km_getr (q := b) hX fX1_perform_35 (by assumption) rfl dX1_perform_1 (by assumption) ?_
  refine km_getr (q := (b + 3)) hX fX1_perform_88 (by assumption) rfl dX1_perform_4 (by assumption) ?_
  refine km_iload_n hX dX1_perform_7 rfl ?_
  obtain ⟨hc, h⟩ := h
  refine km_iald hX (by assumption) hc dX1_perform_8 ?_
  refine km_istore_n hX dX1_perform_9 (by decide) ?_
  refine km_aload_n hX dX1_perform_10 rfl rfl ?_
  refine km_getr (q := b) hX fX1_perform_35 (by assumption) rfl dX1_perform_11 (by assumption) ?_
  refine km_getr (q := (b + 4)) hX fX1_perform_91 (by assumption) rfl dX1_perform_14 (by assumption) ?_
  refine km_iload_n hX dX1_perform_17 rfl ?_
  obtain ⟨hc, h⟩ := h
  refine km_iald hX (by assumption) hc dX1_perform_18 ?_
  refine km_istore_n hX dX1_perform_19 (by decide) ?_
  refine km_aload_n hX dX1_perform_20 rfl rfl ?_
  refine km_getr (q := b) hX fX1_perform_35 (by assumption) rfl dX1_perform_21 (by assumption) ?_
  refine km_getr (q := (b + 5)) hX fX1_perform_94 (by assumption) rfl dX1_perform_24 (by assumption) ?_
  refine km_iload_n hX dX1_perform_27 rfl ?_
  obtain ⟨hc, h⟩ := h
  refine km_iald hX (by assumption) hc dX1_perform_28 ?_
  refine km_istore hX dX1_perform_29 (by decide) ?_
  refine km_aload_n hX dX1_perform_31 rfl rfl ?_
  refine km_getr (q := (t + 1)) hX fX1_perform_12 (by assumption) rfl dX1_perform_32 (by assumption) ?_
  refine km_dup hX dX1_perform_35 ?_
  refine km_geti hX fX1_perform_83 (by assumption) rfl dX1_perform_36 ?_
  refine km_iconst (v := 1) hX dX1_perform_39 (by decide) ?_
  refine km_iadd hX dX1_perform_40 ?_
  refine km_putiN hX pX1_perform_83 (by assumption) rfl dX1_perform_41 (fun m41 e41 => ?_)
  have h := h m41 e41
  refine km_aload_n hX dX1_perform_44 rfl rfl ?_
  refine km_getr (q := b) hX fX1_perform_35 (by assumption) rfl dX1_perform_45 (by assumption) ?_
  refine km_getr (q := (b + 2)) hX fX1_perform_62 (by assumption) rfl dX1_perform_48 (by assumption) ?_
  refine km_iload_n hX dX1_perform_51 rfl ?_
  obtain ⟨hc, h⟩ := h
  refine km_iald hX (by assumption) hc dX1_perform_52 ?_
  by_cases cO : (Int32.toInt ((m41 (b + 2) (Int32.toNatClampNeg x1)))) < 0 ∨ 15 < (Int32.toInt ((m41 (b + 2) (Int32.toNatClampNeg x1))))
  · refine km_tableOut (tgt := 298) hX dX1_perform_53 cO (by decide) ?_
    have h := h.1 cO
    refine km_ren (ls' := [(0, .ref t), (1, .int x1), (2, .int (mi (b + 3) (Int32.toNatClampNeg x1))), (3, .int (mi (b + 4) (Int32.toNatClampNeg x1))), (4, .int (mi (b + 5) (Int32.toNatClampNeg x1)))]) [0, 1, 2, 3, 4] rfl ?_
    exact X1_perform_b298_t hX hF kqmr kqt kqb kqbl _ _ _ _ _ h
  · have cI : (Int32.toInt ((m41 (b + 2) (Int32.toNatClampNeg x1)))) = 0 ∨ (Int32.toInt ((m41 (b + 2) (Int32.toNatClampNeg x1)))) = 1 ∨ (Int32.toInt ((m41 (b + 2) (Int32.toNatClampNeg x1)))) = 2 ∨ (Int32.toInt ((m41 (b + 2) (Int32.toNatClampNeg x1)))) = 3 ∨ (Int32.toInt ((m41 (b + 2) (Int32.toNatClampNeg x1)))) = 4 ∨ (Int32.toInt ((m41 (b + 2) (Int32.toNatClampNeg x1)))) = 5 ∨ (Int32.toInt ((m41 (b + 2) (Int32.toNatClampNeg x1)))) = 6 ∨ (Int32.toInt ((m41 (b + 2) (Int32.toNatClampNeg x1)))) = 7 ∨ (Int32.toInt ((m41 (b + 2) (Int32.toNatClampNeg x1)))) = 8 ∨ (Int32.toInt ((m41 (b + 2) (Int32.toNatClampNeg x1)))) = 9 ∨ (Int32.toInt ((m41 (b + 2) (Int32.toNatClampNeg x1)))) = 10 ∨ (Int32.toInt ((m41 (b + 2) (Int32.toNatClampNeg x1)))) = 11 ∨ (Int32.toInt ((m41 (b + 2) (Int32.toNatClampNeg x1)))) = 12 ∨ (Int32.toInt ((m41 (b + 2) (Int32.toNatClampNeg x1)))) = 13 ∨ (Int32.toInt ((m41 (b + 2) (Int32.toNatClampNeg x1)))) = 14 ∨ (Int32.toInt ((m41 (b + 2) (Int32.toNatClampNeg x1)))) = 15 := by omega
    rcases cI with c | c | c | c | c | c | c | c | c | c | c | c | c | c | c | c
    · refine km_tableIn (off := 79) (tgt := 132) hX dX1_perform_53 (by omega) (by omega) (by rw [c]; rfl) (by decide) ?_
      have h := h.2.1 c
      refine km_aload_n hX dX1_perform_132 rfl rfl ?_
      refine km_iload_n hX dX1_perform_133 rfl ?_
      refine km_iload_n hX dX1_perform_134 rfl ?_
      refine km_callVv hX dX1_perform_135 vX1_perform_97 (X1_put_c kqmr kqt kqb kqbl h) (by decide) (by assumption) rfl rfl (Nat.le_of_ble_eq_true rfl) (fun m135 h => ?_)
      refine km_goto (tgt := 323) hX dX1_perform_138 (by decide) ?_
      exact km_vret hX hF rfl dX1_perform_323 ⟨rfl, rfl, rfl, h⟩ (Nat.le_refl _) (Nat.le_refl _)
    · refine km_tableIn (off := 88) (tgt := 141) hX dX1_perform_53 (by omega) (by omega) (by rw [c]; rfl) (by decide) ?_
      have h := h.2.2.1 c
      refine km_aload_n hX dX1_perform_141 rfl rfl ?_
      refine km_iload_n hX dX1_perform_142 rfl ?_
      refine km_aload_n hX dX1_perform_143 rfl rfl ?_
      refine km_iload_n hX dX1_perform_144 rfl ?_
      refine km_callVi hX dX1_perform_145 vX1_perform_101 (X1_get_c kqmr kqt kqb kqbl h) (by decide) (by assumption) rfl rfl (Nat.le_of_ble_eq_true rfl) (fun r145 m145 h => ?_)
      refine km_callVv hX dX1_perform_148 vX1_perform_97 (X1_put_c kqmr kqt kqb kqbl h) (by decide) (by assumption) rfl rfl (Nat.le_of_ble_eq_true rfl) (fun m148 h => ?_)
      refine km_goto (tgt := 323) hX dX1_perform_151 (by decide) ?_
      exact km_vret hX hF rfl dX1_perform_323 ⟨rfl, rfl, rfl, h⟩ (Nat.le_refl _) (Nat.le_refl _)
    · refine km_tableIn (off := 245) (tgt := 298) hX dX1_perform_53 (by omega) (by omega) (by rw [c]; rfl) (by decide) ?_
      have h := h.2.2.2.1 c
      refine km_ren (ls' := [(0, .ref t), (1, .int x1), (2, .int (mi (b + 3) (Int32.toNatClampNeg x1))), (3, .int (mi (b + 4) (Int32.toNatClampNeg x1))), (4, .int (mi (b + 5) (Int32.toNatClampNeg x1)))]) [0, 1, 2, 3, 4] rfl ?_
      exact X1_perform_b298_t hX hF kqmr kqt kqb kqbl _ _ _ _ _ h
    · refine km_tableIn (off := 245) (tgt := 298) hX dX1_perform_53 (by omega) (by omega) (by rw [c]; rfl) (by decide) ?_
      have h := h.2.2.2.2.1 c
      refine km_ren (ls' := [(0, .ref t), (1, .int x1), (2, .int (mi (b + 3) (Int32.toNatClampNeg x1))), (3, .int (mi (b + 4) (Int32.toNatClampNeg x1))), (4, .int (mi (b + 5) (Int32.toNatClampNeg x1)))]) [0, 1, 2, 3, 4] rfl ?_
      exact X1_perform_b298_t hX hF kqmr kqt kqb kqbl _ _ _ _ _ h
    · refine km_tableIn (off := 245) (tgt := 298) hX dX1_perform_53 (by omega) (by omega) (by rw [c]; rfl) (by decide) ?_
      have h := h.2.2.2.2.2.1 c
      refine km_ren (ls' := [(0, .ref t), (1, .int x1), (2, .int (mi (b + 3) (Int32.toNatClampNeg x1))), (3, .int (mi (b + 4) (Int32.toNatClampNeg x1))), (4, .int (mi (b + 5) (Int32.toNatClampNeg x1)))]) [0, 1, 2, 3, 4] rfl ?_
      exact X1_perform_b298_t hX hF kqmr kqt kqb kqbl _ _ _ _ _ h
    · refine km_tableIn (off := 245) (tgt := 298) hX dX1_perform_53 (by omega) (by omega) (by rw [c]; rfl) (by decide) ?_
      have h := h.2.2.2.2.2.2.1 c
      refine km_ren (ls' := [(0, .ref t), (1, .int x1), (2, .int (mi (b + 3) (Int32.toNatClampNeg x1))), (3, .int (mi (b + 4) (Int32.toNatClampNeg x1))), (4, .int (mi (b + 5) (Int32.toNatClampNeg x1)))]) [0, 1, 2, 3, 4] rfl ?_
      exact X1_perform_b298_t hX hF kqmr kqt kqb kqbl _ _ _ _ _ h
    · refine km_tableIn (off := 245) (tgt := 298) hX dX1_perform_53 (by omega) (by omega) (by rw [c]; rfl) (by decide) ?_
      have h := h.2.2.2.2.2.2.2.1 c
      refine km_ren (ls' := [(0, .ref t), (1, .int x1), (2, .int (mi (b + 3) (Int32.toNatClampNeg x1))), (3, .int (mi (b + 4) (Int32.toNatClampNeg x1))), (4, .int (mi (b + 5) (Int32.toNatClampNeg x1)))]) [0, 1, 2, 3, 4] rfl ?_
      exact X1_perform_b298_t hX hF kqmr kqt kqb kqbl _ _ _ _ _ h
    · refine km_tableIn (off := 245) (tgt := 298) hX dX1_perform_53 (by omega) (by omega) (by rw [c]; rfl) (by decide) ?_
      have h := h.2.2.2.2.2.2.2.2.1 c
      refine km_ren (ls' := [(0, .ref t), (1, .int x1), (2, .int (mi (b + 3) (Int32.toNatClampNeg x1))), (3, .int (mi (b + 4) (Int32.toNatClampNeg x1))), (4, .int (mi (b + 5) (Int32.toNatClampNeg x1)))]) [0, 1, 2, 3, 4] rfl ?_
      exact X1_perform_b298_t hX hF kqmr kqt kqb kqbl _ _ _ _ _ h
    · refine km_tableIn (off := 245) (tgt := 298) hX dX1_perform_53 (by omega) (by omega) (by rw [c]; rfl) (by decide) ?_
      have h := h.2.2.2.2.2.2.2.2.2.1 c
      refine km_ren (ls' := [(0, .ref t), (1, .int x1), (2, .int (mi (b + 3) (Int32.toNatClampNeg x1))), (3, .int (mi (b + 4) (Int32.toNatClampNeg x1))), (4, .int (mi (b + 5) (Int32.toNatClampNeg x1)))]) [0, 1, 2, 3, 4] rfl ?_
      exact X1_perform_b298_t hX hF kqmr kqt kqb kqbl _ _ _ _ _ h
    · refine km_tableIn (off := 245) (tgt := 298) hX dX1_perform_53 (by omega) (by omega) (by rw [c]; rfl) (by decide) ?_
      have h := h.2.2.2.2.2.2.2.2.2.2.1 c
      refine km_ren (ls' := [(0, .ref t), (1, .int x1), (2, .int (mi (b + 3) (Int32.toNatClampNeg x1))), (3, .int (mi (b + 4) (Int32.toNatClampNeg x1))), (4, .int (mi (b + 5) (Int32.toNatClampNeg x1)))]) [0, 1, 2, 3, 4] rfl ?_
      exact X1_perform_b298_t hX hF kqmr kqt kqb kqbl _ _ _ _ _ h
    · refine km_tableIn (off := 101) (tgt := 154) hX dX1_perform_53 (by omega) (by omega) (by rw [c]; rfl) (by decide) ?_
      have h := h.2.2.2.2.2.2.2.2.2.2.2.1 c
      refine km_aload_n hX dX1_perform_154 rfl rfl ?_
      refine km_getr (q := (t + 9)) hX fX1_perform_22 (by assumption) rfl dX1_perform_155 (by assumption) ?_
      refine km_aload_n hX dX1_perform_158 rfl rfl ?_
      refine km_geti hX fX1_perform_31 (by assumption) rfl dX1_perform_159 ?_
      refine km_iconst (v := 1) hX dX1_perform_162 (by decide) ?_
      refine km_isub hX dX1_perform_163 ?_
      refine km_aload_n hX dX1_perform_164 rfl rfl ?_
      refine km_iload_n hX dX1_perform_165 rfl ?_
      refine km_callVi hX dX1_perform_166 vX1_perform_101 (X1_get_c kqmr kqt kqb kqbl h) (by decide) (by assumption) rfl rfl (Nat.le_of_ble_eq_true rfl) (fun r166 m166 h => ?_)
      refine km_if_ne (tgt := 176) hX dX1_perform_169 (by decide) (fun c => ?_) (fun c => ?_)
      · have h := h.1 c
        refine km_aload_n hX dX1_perform_176 rfl rfl ?_
        refine km_getr (q := (t + 9)) hX fX1_perform_22 (by assumption) rfl dX1_perform_177 (by assumption) ?_
        refine km_aload_n hX dX1_perform_180 rfl rfl ?_
        refine km_geti hX fX1_perform_31 (by assumption) rfl dX1_perform_181 ?_
        refine km_iconst (v := 1) hX dX1_perform_184 (by decide) ?_
        refine km_isub hX dX1_perform_185 ?_
        obtain ⟨hc, h⟩ := h
        refine km_iald hX (by assumption) hc dX1_perform_186 ?_
        refine km_iconst (v := 1) hX dX1_perform_187 (by decide) ?_
        refine km_iadd hX dX1_perform_188 ?_
        refine km_ren (ls' := [(0, .ref t), (1, .int x1), (2, .int (mi (b + 3) (Int32.toNatClampNeg x1))), (3, .int (mi (b + 4) (Int32.toNatClampNeg x1))), (4, .int (mi (b + 5) (Int32.toNatClampNeg x1)))]) [0, 1, 2, 3, 4] rfl ?_
        exact X1_perform_b189_t hX hF kqmr kqt kqb kqbl _ _ _ _ _ _ _ h
      · have h := h.2 c
        refine km_iload_n hX dX1_perform_172 rfl ?_
        refine km_goto (tgt := 189) hX dX1_perform_173 (by decide) ?_
        refine km_ren (ls' := [(0, .ref t), (1, .int x1), (2, .int (mi (b + 3) (Int32.toNatClampNeg x1))), (3, .int (mi (b + 4) (Int32.toNatClampNeg x1))), (4, .int (mi (b + 5) (Int32.toNatClampNeg x1)))]) [0, 1, 2, 3, 4] rfl ?_
        exact X1_perform_b189_t hX hF kqmr kqt kqb kqbl _ _ _ _ _ _ _ h
    · refine km_tableIn (off := 140) (tgt := 193) hX dX1_perform_53 (by omega) (by omega) (by rw [c]; rfl) (by decide) ?_
      have h := h.2.2.2.2.2.2.2.2.2.2.2.2.1 c
      refine km_aload_n hX dX1_perform_193 rfl rfl ?_
      refine km_getr (q := (t + 9)) hX fX1_perform_22 (by assumption) rfl dX1_perform_194 (by assumption) ?_
      refine km_aload_n hX dX1_perform_197 rfl rfl ?_
      refine km_geti hX fX1_perform_31 (by assumption) rfl dX1_perform_198 ?_
      refine km_iconst (v := 1) hX dX1_perform_201 (by decide) ?_
      refine km_isub hX dX1_perform_202 ?_
      refine km_iload_n hX dX1_perform_203 rfl ?_
      obtain ⟨hc, h⟩ := h
      refine km_iastN hX (by assumption) hc dX1_perform_204 (fun m204 e204 => ?_)
      have h := h m204 e204
      refine km_goto (tgt := 323) hX dX1_perform_205 (by decide) ?_
      exact km_vret hX hF rfl dX1_perform_323 ⟨rfl, rfl, rfl, h⟩ (Nat.le_refl _) (Nat.le_refl _)
    · refine km_tableIn (off := 155) (tgt := 208) hX dX1_perform_53 (by omega) (by omega) (by rw [c]; rfl) (by decide) ?_
      have h := h.2.2.2.2.2.2.2.2.2.2.2.2.2.1 c
      refine km_aload_n hX dX1_perform_208 rfl rfl ?_
      refine km_getr (q := (t + 1)) hX fX1_perform_12 (by assumption) rfl dX1_perform_209 (by assumption) ?_
      refine km_iload_n hX dX1_perform_212 rfl ?_
      refine km_aload_n hX dX1_perform_213 rfl rfl ?_
      refine km_iload_n hX dX1_perform_214 rfl ?_
      refine km_callVi hX dX1_perform_215 vX1_perform_101 (X1_get_c kqmr kqt kqb kqbl h) (by decide) (by assumption) rfl rfl (Nat.le_of_ble_eq_true rfl) (fun r215 m215 h => ?_)
      refine km_callVv hX dX1_perform_218 vX1_perform_105 (X5_addTell_c kqmr (km_tM kqt) h) (by decide) (by assumption) rfl rfl (Nat.le_of_ble_eq_true rfl) (fun m218 h => ?_)
      refine km_aload_n hX dX1_perform_221 rfl rfl ?_
      refine km_getr (q := (t + 9)) hX fX1_perform_22 (by assumption) rfl dX1_perform_222 (by assumption) ?_
      refine km_aload_n hX dX1_perform_225 rfl rfl ?_
      refine km_geti hX fX1_perform_31 (by assumption) rfl dX1_perform_226 ?_
      refine km_iconst (v := 1) hX dX1_perform_229 (by decide) ?_
      refine km_isub hX dX1_perform_230 ?_
      refine km_dup2 hX dX1_perform_231 ?_
      obtain ⟨hc, h⟩ := h
      refine km_iald hX (by assumption) hc dX1_perform_232 ?_
      refine km_iconst (v := 1) hX dX1_perform_233 (by decide) ?_
      refine km_iadd hX dX1_perform_234 ?_
      obtain ⟨hc, h⟩ := h
      refine km_iastN hX (by assumption) hc dX1_perform_235 (fun m235 e235 => ?_)
      have h := h m235 e235
      refine km_goto (tgt := 323) hX dX1_perform_236 (by decide) ?_
      exact km_vret hX hF rfl dX1_perform_323 ⟨rfl, rfl, rfl, h⟩ (Nat.le_refl _) (Nat.le_refl _)
    · refine km_tableIn (off := 186) (tgt := 239) hX dX1_perform_53 (by omega) (by omega) (by rw [c]; rfl) (by decide) ?_
      have h := h.2.2.2.2.2.2.2.2.2.2.2.2.2.2.1 c
      refine km_aload_n hX dX1_perform_239 rfl rfl ?_
      refine km_iload_n hX dX1_perform_240 rfl ?_
      refine km_iload_n hX dX1_perform_241 rfl ?_
      refine km_aload_n hX dX1_perform_242 rfl rfl ?_
      refine km_iload hX dX1_perform_243 rfl ?_
      refine km_callVi hX dX1_perform_245 vX1_perform_101 (X1_get_c kqmr kqt kqb kqbl h) (by decide) (by assumption) rfl rfl (Nat.le_of_ble_eq_true rfl) (fun r245 m245 h => ?_)
      refine km_aload_n hX dX1_perform_248 rfl rfl ?_
      refine km_iload hX dX1_perform_249 rfl ?_
      refine km_iconst (v := 5) hX dX1_perform_251 (by decide) ?_
      refine km_icmp_ne (tgt := 259) hX dX1_perform_252 (by decide) (fun c => ?_) (fun c => ?_)
      · have h := h.1 c
        refine km_iload hX dX1_perform_259 rfl ?_
        refine km_iconst (v := 1) hX dX1_perform_261 (by decide) ?_
        refine km_iadd hX dX1_perform_262 ?_
        refine km_ren (ls' := [(0, .ref t), (1, .int x1), (2, .int (mi (b + 3) (Int32.toNatClampNeg x1))), (3, .int (mi (b + 4) (Int32.toNatClampNeg x1))), (4, .int (mi (b + 5) (Int32.toNatClampNeg x1)))]) [0, 1, 2, 3, 4] rfl ?_
        exact X1_perform_b263_t hX hF kqmr kqt kqb kqbl _ _ _ _ _ _ _ _ _ h
      · have h := h.2 c
        refine km_iconst (v := 0) hX dX1_perform_255 (by decide) ?_
        refine km_goto (tgt := 263) hX dX1_perform_256 (by decide) ?_
        refine km_ren (ls' := [(0, .ref t), (1, .int x1), (2, .int (mi (b + 3) (Int32.toNatClampNeg x1))), (3, .int (mi (b + 4) (Int32.toNatClampNeg x1))), (4, .int (mi (b + 5) (Int32.toNatClampNeg x1)))]) [0, 1, 2, 3, 4] rfl ?_
        exact X1_perform_b263_t hX hF kqmr kqt kqb kqbl _ _ _ _ _ _ _ _ _ h
    · refine km_tableIn (off := 219) (tgt := 272) hX dX1_perform_53 (by omega) (by omega) (by rw [c]; rfl) (by decide) ?_
      have h := h.2.2.2.2.2.2.2.2.2.2.2.2.2.2.2.1 c
      refine km_aload_n hX dX1_perform_272 rfl rfl ?_
      refine km_aload_n hX dX1_perform_273 rfl rfl ?_
      refine km_iload_n hX dX1_perform_274 rfl ?_
      refine km_callVi hX dX1_perform_275 vX1_perform_101 (X1_get_c kqmr kqt kqb kqbl h) (by decide) (by assumption) rfl rfl (Nat.le_of_ble_eq_true rfl) (fun r275 m275 h => ?_)
      refine km_callVv hX dX1_perform_278 vX1_perform_58 (X1_giveBack_c kqmr kqt kqb kqbl h) (by decide) (by assumption) rfl rfl (Nat.le_of_ble_eq_true rfl) (fun m278 h => ?_)
      refine km_goto (tgt := 323) hX dX1_perform_281 (by decide) ?_
      exact km_vret hX hF rfl dX1_perform_323 ⟨rfl, rfl, rfl, h⟩ (Nat.le_refl _) (Nat.le_refl _)
    · refine km_tableIn (off := 231) (tgt := 284) hX dX1_perform_53 (by omega) (by omega) (by rw [c]; rfl) (by decide) ?_
      have h := h.2.2.2.2.2.2.2.2.2.2.2.2.2.2.2.2 c
      refine km_aload_n hX dX1_perform_284 rfl rfl ?_
      refine km_iconst (v := 1) hX dX1_perform_285 (by decide) ?_
      refine km_iload_n hX dX1_perform_286 rfl ?_
      refine km_aload_n hX dX1_perform_287 rfl rfl ?_
      refine km_iload_n hX dX1_perform_288 rfl ?_
      refine km_callVi hX dX1_perform_289 vX1_perform_101 (X1_get_c kqmr kqt kqb kqbl h) (by decide) (by assumption) rfl rfl (Nat.le_of_ble_eq_true rfl) (fun r289 m289 h => ?_)
      refine km_callVv hX dX1_perform_292 vX1_perform_73 (X1_stop_c kqmr kqt kqb kqbl h) (by decide) (by assumption) rfl rfl (Nat.le_of_ble_eq_true rfl) (fun m292 h => ?_)
      refine km_goto (tgt := 323) hX dX1_perform_295 (by decide) ?_
      exact km_vret hX hF rfl dX1_perform_323 ⟨rfl, rfl, rfl, h⟩ (Nat.le_refl _) (Nat.le_refl _)
def X1_go_b115 (t : Nat) (b : Nat) (x1 : Int32) (x2 : Int32) (x3 : Int32) (Z22 : Int32 → Int32 → Int32 → Int32 → km_I → Prop) (y1 : Int32) (y2 : Int32) (y3 : Int32) (y4 : Int32) (mi : km_I) (K : km_I → Prop) : Prop := Z22 y1 y2 y3 (y4 + 1) mi
set_option maxHeartbeats 4000000 in
set_option maxRecDepth 100000 in
theorem X1_go_b115_t {E : km_E} {X : km_X} {mr : km_R} {K : km_I → Prop} {t : Nat} {b : Nat} {x1 : Int32} {x2 : Int32} {x3 : Int32} {Z22 : Int32 → Int32 → Int32 → Int32 → km_I → Prop} (hX : km_ok E X rmX1_go cX1_go 5 wsX1_go RX1) (hF : km_fin E X none 0 0 (fun r sh' mi' mr' => sh' = SH ∧ mr' = mr ∧ r = none ∧ K mi')) (kqmr : km_MR mr) (kqt : km_isM t) (kqb : km_isB b) (kqbl : mr t 7 = some b) (hZ22 : ∀ (y1 : Int32) (y2 : Int32) (y3 : Int32) (y4 : Int32) (m : km_I), Z22 y1 y2 y3 y4 m → km_G E X 5 SH m mr 0 0 22 [(0, .ref t), (1, .int y1), (2, .int y2), (3, .int y3), (4, .int y4)] []) : ∀ (y1 : Int32) (y2 : Int32) (y3 : Int32) (y4 : Int32) (mi : km_I), X1_go_b115 t b x1 x2 x3 Z22 y1 y2 y3 y4 mi K → km_G E X 5 SH mi mr 0 0 115 [(0, .ref t), (1, .int y1), (2, .int y2), (3, .int y3), (4, .int y4)] [] := by
  obtain ⟨st0, st1, st2, st3, st4, st5, st6, st7, st8, st9, st10, st11⟩ := km_shM kqt
  obtain ⟨mt0, mt1, mt2, mt3, mt4, mq1, mq2, mq3, mq4, mq5, mq6⟩ := km_mrM kqmr kqt
  obtain ⟨sb0, sb1, sb2, sb3, sb4, sb5⟩ := km_shB kqb
  obtain ⟨mb1, mb2, mb3, mb4, mb5⟩ := km_mrB kqmr kqb
  intro y1 y2 y3 y4 mi h
  have h : Z22 y1 y2 y3 (y4 + 1) mi := h
  refine km_iinc (v := 1) hX dX1_go_115 (by decide) rfl (by decide) ?_
  refine km_goto (tgt := 22) hX dX1_go_118 (by decide) ?_
  refine km_ren (ls' := [(0, .ref t), (1, .int y1), (2, .int y2), (3, .int y3), (4, .int (y4 + 1))]) [0, 1, 2, 3, 4] rfl ?_
  exact hZ22 _ _ _ _ _ h
def X1_go_b22 (t : Nat) (b : Nat) (x1 : Int32) (x2 : Int32) (x3 : Int32) (n : Nat) (y1 : Int32) (y2 : Int32) (y3 : Int32) (y4 : Int32) (mi : km_I) (K : km_I → Prop) : Prop := match n with
  | 0 => False
  | n + 1 => ((1000 ≤ y4 → K mi) ∧ (¬ 1000 ≤ y4 → (((mi t 8) ≤ 0 → K mi) ∧ (¬ (mi t 8) ≤ 0 → vp_in ((mi t 8) - 1) 8 ∧ vp_in ((mi t 8) - 1) 8 ∧ vp_in (mi (t + 10) (Int32.toNatClampNeg ((mi t 8) - 1))) 6 ∧ (((mi (t + 9) (Int32.toNatClampNeg ((mi t 8) - 1))) < (mi (b + 1) (Int32.toNatClampNeg (mi (t + 10) (Int32.toNatClampNeg ((mi t 8) - 1))))) → X1_placeOfTop_w t b mi (fun r87 m87 => vp_in r87 144 ∧ X1_isSpentBy_w t b (m87 (b + 2) (Int32.toNatClampNeg r87)) m87 (fun r91 m91 => ((r91 = 0 → X1_placeOfTop_w t b m91 (fun r109 m109 => X1_perform_w t b r109 m109 (fun m112 => X1_go_b115 t b x1 x2 x3 (fun v0 v1 v2 v3 m => X1_go_b22 t b x1 x2 x3 n v0 v1 v2 v3 m K) y1 y2 y3 y4 m112 K))) ∧ (¬ r91 = 0 → X1_stop_w t b 2 0 0 m91 (fun m101 => X1_go_b115 t b x1 x2 x3 (fun v0 v1 v2 v3 m => X1_go_b22 t b x1 x2 x3 n v0 v1 v2 v3 m K) y1 y2 y3 y4 m101 K)))))) ∧ (¬ (mi (t + 9) (Int32.toNatClampNeg ((mi t 8) - 1))) < (mi (b + 1) (Int32.toNatClampNeg (mi (t + 10) (Int32.toNatClampNeg ((mi t 8) - 1))))) → X1_giveBack_w t b 0 mi (fun m72 => X1_go_b115 t b x1 x2 x3 (fun v0 v1 v2 v3 m => X1_go_b22 t b x1 x2 x3 n v0 v1 v2 v3 m K) y1 y2 y3 y4 m72 K)))))))
set_option maxHeartbeats 4000000 in
set_option maxRecDepth 100000 in
theorem X1_go_b22_t {E : km_E} {X : km_X} {mr : km_R} {K : km_I → Prop} {t : Nat} {b : Nat} {x1 : Int32} {x2 : Int32} {x3 : Int32} (hX : km_ok E X rmX1_go cX1_go 5 wsX1_go RX1) (hF : km_fin E X none 0 0 (fun r sh' mi' mr' => sh' = SH ∧ mr' = mr ∧ r = none ∧ K mi')) (kqmr : km_MR mr) (kqt : km_isM t) (kqb : km_isB b) (kqbl : mr t 7 = some b) : ∀ (n : Nat) (y1 : Int32) (y2 : Int32) (y3 : Int32) (y4 : Int32) (mi : km_I), X1_go_b22 t b x1 x2 x3 n y1 y2 y3 y4 mi K → km_G E X 5 SH mi mr 0 0 22 [(0, .ref t), (1, .int y1), (2, .int y2), (3, .int y3), (4, .int y4)] [] := by
  obtain ⟨st0, st1, st2, st3, st4, st5, st6, st7, st8, st9, st10, st11⟩ := km_shM kqt
  obtain ⟨mt0, mt1, mt2, mt3, mt4, mq1, mq2, mq3, mq4, mq5, mq6⟩ := km_mrM kqmr kqt
  obtain ⟨sb0, sb1, sb2, sb3, sb4, sb5⟩ := km_shB kqb
  obtain ⟨mb1, mb2, mb3, mb4, mb5⟩ := km_mrB kqmr kqb
  intro n
  induction n with
  | zero => intro y1 y2 y3 y4 mi h; exact h.elim
  | succ n ih =>
    intro y1 y2 y3 y4 mi h
    have h : ((1000 ≤ y4 → K mi) ∧ (¬ 1000 ≤ y4 → (((mi t 8) ≤ 0 → K mi) ∧ (¬ (mi t 8) ≤ 0 → vp_in ((mi t 8) - 1) 8 ∧ vp_in ((mi t 8) - 1) 8 ∧ vp_in (mi (t + 10) (Int32.toNatClampNeg ((mi t 8) - 1))) 6 ∧ (((mi (t + 9) (Int32.toNatClampNeg ((mi t 8) - 1))) < (mi (b + 1) (Int32.toNatClampNeg (mi (t + 10) (Int32.toNatClampNeg ((mi t 8) - 1))))) → X1_placeOfTop_w t b mi (fun r87 m87 => vp_in r87 144 ∧ X1_isSpentBy_w t b (m87 (b + 2) (Int32.toNatClampNeg r87)) m87 (fun r91 m91 => ((r91 = 0 → X1_placeOfTop_w t b m91 (fun r109 m109 => X1_perform_w t b r109 m109 (fun m112 => X1_go_b115 t b x1 x2 x3 (fun v0 v1 v2 v3 m => X1_go_b22 t b x1 x2 x3 n v0 v1 v2 v3 m K) y1 y2 y3 y4 m112 K))) ∧ (¬ r91 = 0 → X1_stop_w t b 2 0 0 m91 (fun m101 => X1_go_b115 t b x1 x2 x3 (fun v0 v1 v2 v3 m => X1_go_b22 t b x1 x2 x3 n v0 v1 v2 v3 m K) y1 y2 y3 y4 m101 K)))))) ∧ (¬ (mi (t + 9) (Int32.toNatClampNeg ((mi t 8) - 1))) < (mi (b + 1) (Int32.toNatClampNeg (mi (t + 10) (Int32.toNatClampNeg ((mi t 8) - 1))))) → X1_giveBack_w t b 0 mi (fun m72 => X1_go_b115 t b x1 x2 x3 (fun v0 v1 v2 v3 m => X1_go_b22 t b x1 x2 x3 n v0 v1 v2 v3 m K) y1 y2 y3 y4 m72 K))))))) := h
    refine km_iload hX dX1_go_22 rfl ?_
    refine km_sipush (v := 1000) hX dX1_go_24 (by decide) ?_
    refine km_icmp_ge (tgt := 121) hX dX1_go_27 (by decide) (fun c => ?_) (fun c => ?_)
    · have h := h.1 c
      exact km_vret hX hF rfl dX1_go_121 ⟨rfl, rfl, rfl, h⟩ (Nat.le_refl _) (Nat.le_refl _)
    · have h := h.2 c
      refine km_aload_n hX dX1_go_30 rfl rfl ?_
      refine km_geti hX fX1_go_31 (by assumption) rfl dX1_go_31 ?_
      refine km_if_le (tgt := 121) hX dX1_go_34 (by decide) (fun c => ?_) (fun c => ?_)
      · have h := h.1 c
        exact km_vret hX hF rfl dX1_go_121 ⟨rfl, rfl, rfl, h⟩ (Nat.le_refl _) (Nat.le_refl _)
      · have h := h.2 c
        refine km_aload_n hX dX1_go_37 rfl rfl ?_
        refine km_getr (q := (t + 9)) hX fX1_go_22 (by assumption) rfl dX1_go_38 (by assumption) ?_
        refine km_aload_n hX dX1_go_41 rfl rfl ?_
        refine km_geti hX fX1_go_31 (by assumption) rfl dX1_go_42 ?_
        refine km_iconst (v := 1) hX dX1_go_45 (by decide) ?_
        refine km_isub hX dX1_go_46 ?_
        obtain ⟨hc, h⟩ := h
        refine km_iald hX (by assumption) hc dX1_go_47 ?_
        refine km_aload_n hX dX1_go_48 rfl rfl ?_
        refine km_getr (q := b) hX fX1_go_35 (by assumption) rfl dX1_go_49 (by assumption) ?_
        refine km_getr (q := (b + 1)) hX fX1_go_53 (by assumption) rfl dX1_go_52 (by assumption) ?_
        refine km_aload_n hX dX1_go_55 rfl rfl ?_
        refine km_getr (q := (t + 10)) hX fX1_go_25 (by assumption) rfl dX1_go_56 (by assumption) ?_
        refine km_aload_n hX dX1_go_59 rfl rfl ?_
        refine km_geti hX fX1_go_31 (by assumption) rfl dX1_go_60 ?_
        refine km_iconst (v := 1) hX dX1_go_63 (by decide) ?_
        refine km_isub hX dX1_go_64 ?_
        obtain ⟨hc, h⟩ := h
        refine km_iald hX (by assumption) hc dX1_go_65 ?_
        obtain ⟨hc, h⟩ := h
        refine km_iald hX (by assumption) hc dX1_go_66 ?_
        refine km_icmp_lt (tgt := 78) hX dX1_go_67 (by decide) (fun c => ?_) (fun c => ?_)
        · have h := h.1 c
          refine km_aload_n hX dX1_go_78 rfl rfl ?_
          refine km_aload_n hX dX1_go_79 rfl rfl ?_
          refine km_getr (q := b) hX fX1_go_35 (by assumption) rfl dX1_go_80 (by assumption) ?_
          refine km_getr (q := (b + 2)) hX fX1_go_62 (by assumption) rfl dX1_go_83 (by assumption) ?_
          refine km_aload_n hX dX1_go_86 rfl rfl ?_
          refine km_callVi hX dX1_go_87 vX1_go_65 (X1_placeOfTop_c kqmr kqt kqb kqbl h) (by decide) (by assumption) rfl rfl (Nat.le_of_ble_eq_true rfl) (fun r87 m87 h => ?_)
          obtain ⟨hc, h⟩ := h
          refine km_iald hX (by assumption) hc dX1_go_90 ?_
          refine km_callVi hX dX1_go_91 vX1_go_69 (X1_isSpentBy_c kqmr kqt kqb kqbl h) (by decide) (by assumption) rfl rfl (Nat.le_of_ble_eq_true rfl) (fun r91 m91 h => ?_)
          refine km_if_eq (tgt := 107) hX dX1_go_94 (by decide) (fun c => ?_) (fun c => ?_)
          · have h := h.1 c
            refine km_aload_n hX dX1_go_107 rfl rfl ?_
            refine km_aload_n hX dX1_go_108 rfl rfl ?_
            refine km_callVi hX dX1_go_109 vX1_go_65 (X1_placeOfTop_c kqmr kqt kqb kqbl h) (by decide) (by assumption) rfl rfl (Nat.le_of_ble_eq_true rfl) (fun r109 m109 h => ?_)
            refine km_callVv hX dX1_go_112 vX1_go_76 (X1_perform_c kqmr kqt kqb kqbl h) (by decide) (by assumption) rfl rfl (Nat.le_of_ble_eq_true rfl) (fun m112 h => ?_)
            refine km_ren (ls' := [(0, .ref t), (1, .int y1), (2, .int y2), (3, .int y3), (4, .int y4)]) [0, 1, 2, 3, 4] rfl ?_
            exact X1_go_b115_t hX hF kqmr kqt kqb kqbl (fun v0 v1 v2 v3 m hh => ih v0 v1 v2 v3 m hh) _ _ _ _ _ h
          · have h := h.2 c
            refine km_aload_n hX dX1_go_97 rfl rfl ?_
            refine km_iconst (v := 2) hX dX1_go_98 (by decide) ?_
            refine km_iconst (v := 0) hX dX1_go_99 (by decide) ?_
            refine km_iconst (v := 0) hX dX1_go_100 (by decide) ?_
            refine km_callVv hX dX1_go_101 vX1_go_73 (X1_stop_c kqmr kqt kqb kqbl h) (by decide) (by assumption) rfl rfl (Nat.le_of_ble_eq_true rfl) (fun m101 h => ?_)
            refine km_goto (tgt := 115) hX dX1_go_104 (by decide) ?_
            refine km_ren (ls' := [(0, .ref t), (1, .int y1), (2, .int y2), (3, .int y3), (4, .int y4)]) [0, 1, 2, 3, 4] rfl ?_
            exact X1_go_b115_t hX hF kqmr kqt kqb kqbl (fun v0 v1 v2 v3 m hh => ih v0 v1 v2 v3 m hh) _ _ _ _ _ h
        · have h := h.2 c
          refine km_aload_n hX dX1_go_70 rfl rfl ?_
          refine km_iconst (v := 0) hX dX1_go_71 (by decide) ?_
          refine km_callVv hX dX1_go_72 vX1_go_58 (X1_giveBack_c kqmr kqt kqb kqbl h) (by decide) (by assumption) rfl rfl (Nat.le_of_ble_eq_true rfl) (fun m72 h => ?_)
          refine km_goto (tgt := 115) hX dX1_go_75 (by decide) ?_
          refine km_ren (ls' := [(0, .ref t), (1, .int y1), (2, .int y2), (3, .int y3), (4, .int y4)]) [0, 1, 2, 3, 4] rfl ?_
          exact X1_go_b115_t hX hF kqmr kqt kqb kqbl (fun v0 v1 v2 v3 m hh => ih v0 v1 v2 v3 m hh) _ _ _ _ _ h
def X1_go_w (t : Nat) (b : Nat) (x1 : Int32) (x2 : Int32) (x3 : Int32) (mi : km_I) (K : km_I → Prop) : Prop := X5_forget_w (t + 1) mi (fun m4 => (∀ m9, m9 = km_u m4 t 8 0 → X1_enter_w t b x1 x2 x3 m9 (fun m16 => ∃ k, X1_go_b22 t b x1 x2 x3 k x1 x2 x3 0 m16 K)))
set_option maxHeartbeats 4000000 in
set_option maxRecDepth 100000 in
theorem X1_go_c {E : km_E} {l : Launch} {mr : km_R} (kqmr : km_MR mr) {t : Nat} {b : Nat} {x1 : Int32} {x2 : Int32} {x3 : Int32} (kqt : km_isM t) (kqb : km_isB b) (kqbl : mr t 7 = some b) {mi : km_I} {K : km_I → Prop} (h : X1_go_w t b x1 x2 x3 mi K) : km_Cv E l yX1_go wsX1_go rmX1_go [.ref t, .int x1, .int x2, .int x3] SH mi mr K := by
  refine km_start (cc := cX1_go) (maxL := 5) (ret := none) (by decide) rfl (Nat.le_of_ble_eq_true rfl) ?_
  intro X hl hX hF _
  subst hl
  obtain ⟨st0, st1, st2, st3, st4, st5, st6, st7, st8, st9, st10, st11⟩ := km_shM kqt
  obtain ⟨mt0, mt1, mt2, mt3, mt4, mq1, mq2, mq3, mq4, mq5, mq6⟩ := km_mrM kqmr kqt
  obtain ⟨sb0, sb1, sb2, sb3, sb4, sb5⟩ := km_shB kqb
  obtain ⟨mb1, mb2, mb3, mb4, mb5⟩ := km_mrB kqmr kqb
  have h : X5_forget_w (t + 1) mi (fun m4 => (∀ m9, m9 = km_u m4 t 8 0 → X1_enter_w t b x1 x2 x3 m9 (fun m16 => ∃ k, X1_go_b22 t b x1 x2 x3 k x1 x2 x3 0 m16 K))) := h
  refine km_aload_n hX dX1_go_0 rfl rfl ?_
  refine km_getr (q := (t + 1)) hX fX1_go_12 (by assumption) rfl dX1_go_1 (by assumption) ?_
  refine km_callVv hX dX1_go_4 vX1_go_46 (X5_forget_c kqmr (km_tM kqt) h) (by decide) (by assumption) rfl rfl (Nat.le_of_ble_eq_true rfl) (fun m4 h => ?_)
  refine km_aload_n hX dX1_go_7 rfl rfl ?_
  refine km_iconst (v := 0) hX dX1_go_8 (by decide) ?_
  refine km_putiN hX pX1_go_31 (by assumption) rfl dX1_go_9 (fun m9 e9 => ?_)
  have h := h m9 e9
  refine km_aload_n hX dX1_go_12 rfl rfl ?_
  refine km_iload_n hX dX1_go_13 rfl ?_
  refine km_iload_n hX dX1_go_14 rfl ?_
  refine km_iload_n hX dX1_go_15 rfl ?_
  refine km_callVv hX dX1_go_16 vX1_go_49 (X1_enter_c kqmr kqt kqb kqbl h) (by decide) (by assumption) rfl rfl (Nat.le_of_ble_eq_true rfl) (fun m16 h => ?_)
  refine km_iconst (v := 0) hX dX1_go_19 (by decide) ?_
  refine km_istore hX dX1_go_20 (by decide) ?_
  obtain ⟨n9, h⟩ := h
  refine km_ren (ls' := [(0, .ref t), (1, .int x1), (2, .int x2), (3, .int x3), (4, .int 0)]) [0, 1, 2, 3, 4] rfl ?_
  exact X1_go_b22_t hX hF kqmr kqt kqb kqbl n9 _ _ _ _ _ h
def X1_takeAnswers_w (t : Nat) (b : Nat) (x1 : Int32) (x2 : Int32) (mi : km_I) (K : km_I → Prop) : Prop := vp_in 0 2 ∧ (∀ m6, m6 = km_u mi (t + 11) (Int32.toNatClampNeg 0) x1 → vp_in 1 2 ∧ (∀ m13, m13 = km_u m6 (t + 11) (Int32.toNatClampNeg 1) x2 → K m13))
set_option maxHeartbeats 4000000 in
set_option maxRecDepth 100000 in
theorem X1_takeAnswers_c {E : km_E} {l : Launch} {mr : km_R} (kqmr : km_MR mr) {t : Nat} {b : Nat} {x1 : Int32} {x2 : Int32} (kqt : km_isM t) (kqb : km_isB b) (kqbl : mr t 7 = some b) {mi : km_I} {K : km_I → Prop} (h : X1_takeAnswers_w t b x1 x2 mi K) : km_Cv E l yX1_takeAnswers wsX1_takeAnswers rmX1_takeAnswers [.ref t, .int x1, .int x2] SH mi mr K := by
  refine km_start (cc := cX1_takeAnswers) (maxL := 3) (ret := none) (by decide) rfl (Nat.le_of_ble_eq_true rfl) ?_
  intro X hl hX hF _
  subst hl
  obtain ⟨st0, st1, st2, st3, st4, st5, st6, st7, st8, st9, st10, st11⟩ := km_shM kqt
  obtain ⟨mt0, mt1, mt2, mt3, mt4, mq1, mq2, mq3, mq4, mq5, mq6⟩ := km_mrM kqmr kqt
  obtain ⟨sb0, sb1, sb2, sb3, sb4, sb5⟩ := km_shB kqb
  obtain ⟨mb1, mb2, mb3, mb4, mb5⟩ := km_mrB kqmr kqb
  have h : vp_in 0 2 ∧ (∀ m6, m6 = km_u mi (t + 11) (Int32.toNatClampNeg 0) x1 → vp_in 1 2 ∧ (∀ m13, m13 = km_u m6 (t + 11) (Int32.toNatClampNeg 1) x2 → K m13)) := h
  refine km_aload_n hX dX1_takeAnswers_0 rfl rfl ?_
  refine km_getr (q := (t + 11)) hX fX1_takeAnswers_28 (by assumption) rfl dX1_takeAnswers_1 (by assumption) ?_
  refine km_iconst (v := 0) hX dX1_takeAnswers_4 (by decide) ?_
  refine km_iload_n hX dX1_takeAnswers_5 rfl ?_
  obtain ⟨hc, h⟩ := h
  refine km_iastN hX (by assumption) hc dX1_takeAnswers_6 (fun m6 e6 => ?_)
  have h := h m6 e6
  refine km_aload_n hX dX1_takeAnswers_7 rfl rfl ?_
  refine km_getr (q := (t + 11)) hX fX1_takeAnswers_28 (by assumption) rfl dX1_takeAnswers_8 (by assumption) ?_
  refine km_iconst (v := 1) hX dX1_takeAnswers_11 (by decide) ?_
  refine km_iload_n hX dX1_takeAnswers_12 rfl ?_
  obtain ⟨hc, h⟩ := h
  refine km_iastN hX (by assumption) hc dX1_takeAnswers_13 (fun m13 e13 => ?_)
  have h := h m13 e13
  exact km_vret hX hF rfl dX1_takeAnswers_14 ⟨rfl, rfl, rfl, h⟩ (Nat.le_refl _) (Nat.le_refl _)
