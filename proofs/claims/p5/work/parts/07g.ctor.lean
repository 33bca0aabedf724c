set_option maxHeartbeats 4000000 in
set_option maxRecDepth 100000 in
theorem X1_init_26 {E : km_E} {l : Launch} {mi : km_I} {mr : km_R} {x2 : Int32} {x3 : Int32} (hz01 : x3 = 0 ∨ x3 = 1) (hf : km_fresh 27 mi mr) : km_C E l yX1_init wsX1_init rmX1_init [.ref 26, .ref 1, .int x2, .int x3] (SH.take 27) mi mr (fun r sh' mi' mr' => r = none ∧ sh' = SH.take 38 ∧ mi' = km_us mi [(27, 0, 0), (27, 1, 0), (27, 2, 0), (27, 3, 0), (27, 4, 0), (27, 5, 0), (27, 8, 0), (26, 8, 0), (26, 1, x2), (26, 6, x3)] ∧ mr' = km_urs mr [(27, 6, 28), (27, 7, 29), (27, 9, 30), (27, 10, 31), (27, 11, 32), (27, 12, 33), (26, 0, 27), (26, 2, 34), (26, 3, 35), (26, 4, 36), (26, 5, 37), (26, 7, 1)]) := by
  refine km_start (cc := cX1_init) (maxL := 4) (ret := none) (by decide) rfl (Nat.le_of_ble_eq_true rfl) ?_
  intro X hl hX hF hin
  subst hl
  refine km_aload_n hX dX1_init_0 rfl rfl ?_
  refine km_objinit hX dX1_init_1 oX1_init.1 oX1_init.2.1 oX1_init.2.2 (by decide) (by decide) ?_
  refine km_aload_n hX dX1_init_4 rfl rfl ?_
  refine km_new (q := 27) (sh' := SH.take 28) hX dX1_init_5 nX1_init_9 rfl rfl (km_zi hf (l := []) (q := 27) [] rfl (by decide) (by decide)) (km_zr hf (l := []) (q := 27) [] rfl (by decide) (by decide)) (by decide) (by decide) ?_
  refine km_dup hX dX1_init_8 ?_
  refine km_callI hX dX1_init_9 vX1_init_11 (X5_init_27 (l := X.2.1) (mi := km_us mi []) (mr := km_urs mr [])  (km_fr hf [] [] rfl rfl (by decide) (by decide) (by decide))) (by decide) rfl rfl (by decide) (fun r sh9 mi9 mr9 h9 => ?_)
  obtain ⟨rfl, rfl, rfl, rfl⟩ := h9
  show km_G E X 4 (SH.take 34) (km_us mi [(27, 0, 0), (27, 1, 0), (27, 2, 0), (27, 3, 0), (27, 4, 0), (27, 5, 0), (27, 8, 0)]) (km_urs mr [(27, 6, 28), (27, 7, 29), (27, 9, 30), (27, 10, 31), (27, 11, 32), (27, 12, 33)]) 7 101 12 _ _
  refine km_putrF (q := 27) hX pX1_init_12 rfl rfl (fun _ => ⟨rfl, rfl⟩) (hin rfl) dX1_init_12 ?_
  refine km_aload_n hX dX1_init_15 rfl rfl ?_
  refine km_bipush (v := 48) hX dX1_init_16 (by decide) ?_
  refine km_newa (N := 48) (q := 34) (sh' := SH.take 35) hX dX1_init_18 aX1_init (by decide) (by decide) (by decide) rfl rfl (km_zi hf (l := [(27, 0, 0), (27, 1, 0), (27, 2, 0), (27, 3, 0), (27, 4, 0), (27, 5, 0), (27, 8, 0)]) (q := 34) [27, 27, 27, 27, 27, 27, 27] rfl (by decide) (by decide)) (by decide) (by decide) ?_
  refine km_putrF (q := 34) hX pX1_init_18 rfl rfl (fun _ => ⟨rfl, rfl⟩) (hin rfl) dX1_init_20 ?_
  refine km_aload_n hX dX1_init_23 rfl rfl ?_
  refine km_bipush (v := 8) hX dX1_init_24 (by decide) ?_
  refine km_newa (N := 8) (q := 35) (sh' := SH.take 36) hX dX1_init_26 aX1_init (by decide) (by decide) (by decide) rfl rfl (km_zi hf (l := [(27, 0, 0), (27, 1, 0), (27, 2, 0), (27, 3, 0), (27, 4, 0), (27, 5, 0), (27, 8, 0)]) (q := 35) [27, 27, 27, 27, 27, 27, 27] rfl (by decide) (by decide)) (by decide) (by decide) ?_
  refine km_putrF (q := 35) hX pX1_init_22 rfl rfl (fun _ => ⟨rfl, rfl⟩) (hin rfl) dX1_init_28 ?_
  refine km_aload_n hX dX1_init_31 rfl rfl ?_
  refine km_bipush (v := 8) hX dX1_init_32 (by decide) ?_
  refine km_newa (N := 8) (q := 36) (sh' := SH.take 37) hX dX1_init_34 aX1_init (by decide) (by decide) (by decide) rfl rfl (km_zi hf (l := [(27, 0, 0), (27, 1, 0), (27, 2, 0), (27, 3, 0), (27, 4, 0), (27, 5, 0), (27, 8, 0)]) (q := 36) [27, 27, 27, 27, 27, 27, 27] rfl (by decide) (by decide)) (by decide) (by decide) ?_
  refine km_putrF (q := 36) hX pX1_init_25 rfl rfl (fun _ => ⟨rfl, rfl⟩) (hin rfl) dX1_init_36 ?_
  refine km_aload_n hX dX1_init_39 rfl rfl ?_
  refine km_iconst (v := 2) hX dX1_init_40 (by decide) ?_
  refine km_newa (N := 2) (q := 37) (sh' := SH.take 38) hX dX1_init_41 aX1_init (by decide) (by decide) (by decide) rfl rfl (km_zi hf (l := [(27, 0, 0), (27, 1, 0), (27, 2, 0), (27, 3, 0), (27, 4, 0), (27, 5, 0), (27, 8, 0)]) (q := 37) [27, 27, 27, 27, 27, 27, 27] rfl (by decide) (by decide)) (by decide) (by decide) ?_
  refine km_putrF (q := 37) hX pX1_init_28 rfl rfl (fun _ => ⟨rfl, rfl⟩) (hin rfl) dX1_init_43 ?_
  refine km_aload_n hX dX1_init_46 rfl rfl ?_
  refine km_iconst (v := 0) hX dX1_init_47 (by decide) ?_
  refine km_puti hX pX1_init_31 rfl rfl dX1_init_48 ?_
  refine km_aload_n hX dX1_init_51 rfl rfl ?_
  refine km_aload_n hX dX1_init_52 rfl rfl ?_
  refine km_putr (q := 1) hX pX1_init_35 rfl rfl (fun _ => ⟨rfl, rfl⟩) dX1_init_53 ?_
  refine km_aload_n hX dX1_init_56 rfl rfl ?_
  refine km_iload_n hX dX1_init_57 rfl ?_
  refine km_putiF hX pX1_init_39 rfl rfl (hin rfl) dX1_init_58 ?_
  refine km_aload_n hX dX1_init_61 rfl rfl ?_
  refine km_iload_n hX dX1_init_62 rfl ?_
  refine km_putzF hX pX1_init_42 rfl rfl (hin rfl) dX1_init_63 hz01 ?_
  exact km_vret hX hF rfl dX1_init_66 ⟨rfl, rfl, rfl, rfl⟩ (by decide) (by decide)
set_option maxHeartbeats 4000000 in
set_option maxRecDepth 100000 in
theorem X1_init_38 {E : km_E} {l : Launch} {mi : km_I} {mr : km_R} {x2 : Int32} {x3 : Int32} (hz01 : x3 = 0 ∨ x3 = 1) (hf : km_fresh 39 mi mr) : km_C E l yX1_init wsX1_init rmX1_init [.ref 38, .ref 1, .int x2, .int x3] (SH.take 39) mi mr (fun r sh' mi' mr' => r = none ∧ sh' = SH.take 50 ∧ mi' = km_us mi [(39, 0, 0), (39, 1, 0), (39, 2, 0), (39, 3, 0), (39, 4, 0), (39, 5, 0), (39, 8, 0), (38, 8, 0), (38, 1, x2), (38, 6, x3)] ∧ mr' = km_urs mr [(39, 6, 40), (39, 7, 41), (39, 9, 42), (39, 10, 43), (39, 11, 44), (39, 12, 45), (38, 0, 39), (38, 2, 46), (38, 3, 47), (38, 4, 48), (38, 5, 49), (38, 7, 1)]) := by
  refine km_start (cc := cX1_init) (maxL := 4) (ret := none) (by decide) rfl (Nat.le_of_ble_eq_true rfl) ?_
  intro X hl hX hF hin
  subst hl
  refine km_aload_n hX dX1_init_0 rfl rfl ?_
  refine km_objinit hX dX1_init_1 oX1_init.1 oX1_init.2.1 oX1_init.2.2 (by decide) (by decide) ?_
  refine km_aload_n hX dX1_init_4 rfl rfl ?_
  refine km_new (q := 39) (sh' := SH.take 40) hX dX1_init_5 nX1_init_9 rfl rfl (km_zi hf (l := []) (q := 39) [] rfl (by decide) (by decide)) (km_zr hf (l := []) (q := 39) [] rfl (by decide) (by decide)) (by decide) (by decide) ?_
  refine km_dup hX dX1_init_8 ?_
  refine km_callI hX dX1_init_9 vX1_init_11 (X5_init_39 (l := X.2.1) (mi := km_us mi []) (mr := km_urs mr [])  (km_fr hf [] [] rfl rfl (by decide) (by decide) (by decide))) (by decide) rfl rfl (by decide) (fun r sh9 mi9 mr9 h9 => ?_)
  obtain ⟨rfl, rfl, rfl, rfl⟩ := h9
  show km_G E X 4 (SH.take 46) (km_us mi [(39, 0, 0), (39, 1, 0), (39, 2, 0), (39, 3, 0), (39, 4, 0), (39, 5, 0), (39, 8, 0)]) (km_urs mr [(39, 6, 40), (39, 7, 41), (39, 9, 42), (39, 10, 43), (39, 11, 44), (39, 12, 45)]) 7 101 12 _ _
  refine km_putrF (q := 39) hX pX1_init_12 rfl rfl (fun _ => ⟨rfl, rfl⟩) (hin rfl) dX1_init_12 ?_
  refine km_aload_n hX dX1_init_15 rfl rfl ?_
  refine km_bipush (v := 48) hX dX1_init_16 (by decide) ?_
  refine km_newa (N := 48) (q := 46) (sh' := SH.take 47) hX dX1_init_18 aX1_init (by decide) (by decide) (by decide) rfl rfl (km_zi hf (l := [(39, 0, 0), (39, 1, 0), (39, 2, 0), (39, 3, 0), (39, 4, 0), (39, 5, 0), (39, 8, 0)]) (q := 46) [39, 39, 39, 39, 39, 39, 39] rfl (by decide) (by decide)) (by decide) (by decide) ?_
  refine km_putrF (q := 46) hX pX1_init_18 rfl rfl (fun _ => ⟨rfl, rfl⟩) (hin rfl) dX1_init_20 ?_
  refine km_aload_n hX dX1_init_23 rfl rfl ?_
  refine km_bipush (v := 8) hX dX1_init_24 (by decide) ?_
  refine km_newa (N := 8) (q := 47) (sh' := SH.take 48) hX dX1_init_26 aX1_init (by decide) (by decide) (by decide) rfl rfl (km_zi hf (l := [(39, 0, 0), (39, 1, 0), (39, 2, 0), (39, 3, 0), (39, 4, 0), (39, 5, 0), (39, 8, 0)]) (q := 47) [39, 39, 39, 39, 39, 39, 39] rfl (by decide) (by decide)) (by decide) (by decide) ?_
  refine km_putrF (q := 47) hX pX1_init_22 rfl rfl (fun _ => ⟨rfl, rfl⟩) (hin rfl) dX1_init_28 ?_
  refine km_aload_n hX dX1_init_31 rfl rfl ?_
  refine km_bipush (v := 8) hX dX1_init_32 (by decide) ?_
  refine km_newa (N := 8) (q := 48) (sh' := SH.take 49) hX dX1_init_34 aX1_init (by decide) (by decide) (by decide) rfl rfl (km_zi hf (l := [(39, 0, 0), (39, 1, 0), (39, 2, 0), (39, 3, 0), (39, 4, 0), (39, 5, 0), (39, 8, 0)]) (q := 48) [39, 39, 39, 39, 39, 39, 39] rfl (by decide) (by decide)) (by decide) (by decide) ?_
  refine km_putrF (q := 48) hX pX1_init_25 rfl rfl (fun _ => ⟨rfl, rfl⟩) (hin rfl) dX1_init_36 ?_
  refine km_aload_n hX dX1_init_39 rfl rfl ?_
  refine km_iconst (v := 2) hX dX1_init_40 (by decide) ?_
  refine km_newa (N := 2) (q := 49) (sh' := SH.take 50) hX dX1_init_41 aX1_init (by decide) (by decide) (by decide) rfl rfl (km_zi hf (l := [(39, 0, 0), (39, 1, 0), (39, 2, 0), (39, 3, 0), (39, 4, 0), (39, 5, 0), (39, 8, 0)]) (q := 49) [39, 39, 39, 39, 39, 39, 39] rfl (by decide) (by decide)) (by decide) (by decide) ?_
  refine km_putrF (q := 49) hX pX1_init_28 rfl rfl (fun _ => ⟨rfl, rfl⟩) (hin rfl) dX1_init_43 ?_
  refine km_aload_n hX dX1_init_46 rfl rfl ?_
  refine km_iconst (v := 0) hX dX1_init_47 (by decide) ?_
  refine km_puti hX pX1_init_31 rfl rfl dX1_init_48 ?_
  refine km_aload_n hX dX1_init_51 rfl rfl ?_
  refine km_aload_n hX dX1_init_52 rfl rfl ?_
  refine km_putr (q := 1) hX pX1_init_35 rfl rfl (fun _ => ⟨rfl, rfl⟩) dX1_init_53 ?_
  refine km_aload_n hX dX1_init_56 rfl rfl ?_
  refine km_iload_n hX dX1_init_57 rfl ?_
  refine km_putiF hX pX1_init_39 rfl rfl (hin rfl) dX1_init_58 ?_
  refine km_aload_n hX dX1_init_61 rfl rfl ?_
  refine km_iload_n hX dX1_init_62 rfl ?_
  refine km_putzF hX pX1_init_42 rfl rfl (hin rfl) dX1_init_63 hz01 ?_
  exact km_vret hX hF rfl dX1_init_66 ⟨rfl, rfl, rfl, rfl⟩ (by decide) (by decide)
set_option maxHeartbeats 4000000 in
set_option maxRecDepth 100000 in
theorem X1_init_50 {E : km_E} {l : Launch} {mi : km_I} {mr : km_R} {x2 : Int32} {x3 : Int32} (hz01 : x3 = 0 ∨ x3 = 1) (hf : km_fresh 51 mi mr) : km_C E l yX1_init wsX1_init rmX1_init [.ref 50, .ref 7, .int x2, .int x3] (SH.take 51) mi mr (fun r sh' mi' mr' => r = none ∧ sh' = SH.take 62 ∧ mi' = km_us mi [(51, 0, 0), (51, 1, 0), (51, 2, 0), (51, 3, 0), (51, 4, 0), (51, 5, 0), (51, 8, 0), (50, 8, 0), (50, 1, x2), (50, 6, x3)] ∧ mr' = km_urs mr [(51, 6, 52), (51, 7, 53), (51, 9, 54), (51, 10, 55), (51, 11, 56), (51, 12, 57), (50, 0, 51), (50, 2, 58), (50, 3, 59), (50, 4, 60), (50, 5, 61), (50, 7, 7)]) := by
  refine km_start (cc := cX1_init) (maxL := 4) (ret := none) (by decide) rfl (Nat.le_of_ble_eq_true rfl) ?_
  intro X hl hX hF hin
  subst hl
  refine km_aload_n hX dX1_init_0 rfl rfl ?_
  refine km_objinit hX dX1_init_1 oX1_init.1 oX1_init.2.1 oX1_init.2.2 (by decide) (by decide) ?_
  refine km_aload_n hX dX1_init_4 rfl rfl ?_
  refine km_new (q := 51) (sh' := SH.take 52) hX dX1_init_5 nX1_init_9 rfl rfl (km_zi hf (l := []) (q := 51) [] rfl (by decide) (by decide)) (km_zr hf (l := []) (q := 51) [] rfl (by decide) (by decide)) (by decide) (by decide) ?_
  refine km_dup hX dX1_init_8 ?_
  refine km_callI hX dX1_init_9 vX1_init_11 (X5_init_51 (l := X.2.1) (mi := km_us mi []) (mr := km_urs mr [])  (km_fr hf [] [] rfl rfl (by decide) (by decide) (by decide))) (by decide) rfl rfl (by decide) (fun r sh9 mi9 mr9 h9 => ?_)
  obtain ⟨rfl, rfl, rfl, rfl⟩ := h9
  show km_G E X 4 (SH.take 58) (km_us mi [(51, 0, 0), (51, 1, 0), (51, 2, 0), (51, 3, 0), (51, 4, 0), (51, 5, 0), (51, 8, 0)]) (km_urs mr [(51, 6, 52), (51, 7, 53), (51, 9, 54), (51, 10, 55), (51, 11, 56), (51, 12, 57)]) 7 101 12 _ _
  refine km_putrF (q := 51) hX pX1_init_12 rfl rfl (fun _ => ⟨rfl, rfl⟩) (hin rfl) dX1_init_12 ?_
  refine km_aload_n hX dX1_init_15 rfl rfl ?_
  refine km_bipush (v := 48) hX dX1_init_16 (by decide) ?_
  refine km_newa (N := 48) (q := 58) (sh' := SH.take 59) hX dX1_init_18 aX1_init (by decide) (by decide) (by decide) rfl rfl (km_zi hf (l := [(51, 0, 0), (51, 1, 0), (51, 2, 0), (51, 3, 0), (51, 4, 0), (51, 5, 0), (51, 8, 0)]) (q := 58) [51, 51, 51, 51, 51, 51, 51] rfl (by decide) (by decide)) (by decide) (by decide) ?_
  refine km_putrF (q := 58) hX pX1_init_18 rfl rfl (fun _ => ⟨rfl, rfl⟩) (hin rfl) dX1_init_20 ?_
  refine km_aload_n hX dX1_init_23 rfl rfl ?_
  refine km_bipush (v := 8) hX dX1_init_24 (by decide) ?_
  refine km_newa (N := 8) (q := 59) (sh' := SH.take 60) hX dX1_init_26 aX1_init (by decide) (by decide) (by decide) rfl rfl (km_zi hf (l := [(51, 0, 0), (51, 1, 0), (51, 2, 0), (51, 3, 0), (51, 4, 0), (51, 5, 0), (51, 8, 0)]) (q := 59) [51, 51, 51, 51, 51, 51, 51] rfl (by decide) (by decide)) (by decide) (by decide) ?_
  refine km_putrF (q := 59) hX pX1_init_22 rfl rfl (fun _ => ⟨rfl, rfl⟩) (hin rfl) dX1_init_28 ?_
  refine km_aload_n hX dX1_init_31 rfl rfl ?_
  refine km_bipush (v := 8) hX dX1_init_32 (by decide) ?_
  refine km_newa (N := 8) (q := 60) (sh' := SH.take 61) hX dX1_init_34 aX1_init (by decide) (by decide) (by decide) rfl rfl (km_zi hf (l := [(51, 0, 0), (51, 1, 0), (51, 2, 0), (51, 3, 0), (51, 4, 0), (51, 5, 0), (51, 8, 0)]) (q := 60) [51, 51, 51, 51, 51, 51, 51] rfl (by decide) (by decide)) (by decide) (by decide) ?_
  refine km_putrF (q := 60) hX pX1_init_25 rfl rfl (fun _ => ⟨rfl, rfl⟩) (hin rfl) dX1_init_36 ?_
  refine km_aload_n hX dX1_init_39 rfl rfl ?_
  refine km_iconst (v := 2) hX dX1_init_40 (by decide) ?_
  refine km_newa (N := 2) (q := 61) (sh' := SH.take 62) hX dX1_init_41 aX1_init (by decide) (by decide) (by decide) rfl rfl (km_zi hf (l := [(51, 0, 0), (51, 1, 0), (51, 2, 0), (51, 3, 0), (51, 4, 0), (51, 5, 0), (51, 8, 0)]) (q := 61) [51, 51, 51, 51, 51, 51, 51] rfl (by decide) (by decide)) (by decide) (by decide) ?_
  refine km_putrF (q := 61) hX pX1_init_28 rfl rfl (fun _ => ⟨rfl, rfl⟩) (hin rfl) dX1_init_43 ?_
  refine km_aload_n hX dX1_init_46 rfl rfl ?_
  refine km_iconst (v := 0) hX dX1_init_47 (by decide) ?_
  refine km_puti hX pX1_init_31 rfl rfl dX1_init_48 ?_
  refine km_aload_n hX dX1_init_51 rfl rfl ?_
  refine km_aload_n hX dX1_init_52 rfl rfl ?_
  refine km_putr (q := 7) hX pX1_init_35 rfl rfl (fun _ => ⟨rfl, rfl⟩) dX1_init_53 ?_
  refine km_aload_n hX dX1_init_56 rfl rfl ?_
  refine km_iload_n hX dX1_init_57 rfl ?_
  refine km_putiF hX pX1_init_39 rfl rfl (hin rfl) dX1_init_58 ?_
  refine km_aload_n hX dX1_init_61 rfl rfl ?_
  refine km_iload_n hX dX1_init_62 rfl ?_
  refine km_putzF hX pX1_init_42 rfl rfl (hin rfl) dX1_init_63 hz01 ?_
  exact km_vret hX hF rfl dX1_init_66 ⟨rfl, rfl, rfl, rfl⟩ (by decide) (by decide)
set_option maxHeartbeats 4000000 in
set_option maxRecDepth 100000 in
theorem X1_init_62 {E : km_E} {l : Launch} {mi : km_I} {mr : km_R} {x2 : Int32} {x3 : Int32} (hz01 : x3 = 0 ∨ x3 = 1) (hf : km_fresh 63 mi mr) : km_C E l yX1_init wsX1_init rmX1_init [.ref 62, .ref 1, .int x2, .int x3] (SH.take 63) mi mr (fun r sh' mi' mr' => r = none ∧ sh' = SH.take 74 ∧ mi' = km_us mi [(63, 0, 0), (63, 1, 0), (63, 2, 0), (63, 3, 0), (63, 4, 0), (63, 5, 0), (63, 8, 0), (62, 8, 0), (62, 1, x2), (62, 6, x3)] ∧ mr' = km_urs mr [(63, 6, 64), (63, 7, 65), (63, 9, 66), (63, 10, 67), (63, 11, 68), (63, 12, 69), (62, 0, 63), (62, 2, 70), (62, 3, 71), (62, 4, 72), (62, 5, 73), (62, 7, 1)]) := by
  refine km_start (cc := cX1_init) (maxL := 4) (ret := none) (by decide) rfl (Nat.le_of_ble_eq_true rfl) ?_
  intro X hl hX hF hin
  subst hl
  refine km_aload_n hX dX1_init_0 rfl rfl ?_
  refine km_objinit hX dX1_init_1 oX1_init.1 oX1_init.2.1 oX1_init.2.2 (by decide) (by decide) ?_
  refine km_aload_n hX dX1_init_4 rfl rfl ?_
  refine km_new (q := 63) (sh' := SH.take 64) hX dX1_init_5 nX1_init_9 rfl rfl (km_zi hf (l := []) (q := 63) [] rfl (by decide) (by decide)) (km_zr hf (l := []) (q := 63) [] rfl (by decide) (by decide)) (by decide) (by decide) ?_
  refine km_dup hX dX1_init_8 ?_
  refine km_callI hX dX1_init_9 vX1_init_11 (X5_init_63 (l := X.2.1) (mi := km_us mi []) (mr := km_urs mr [])  (km_fr hf [] [] rfl rfl (by decide) (by decide) (by decide))) (by decide) rfl rfl (by decide) (fun r sh9 mi9 mr9 h9 => ?_)
  obtain ⟨rfl, rfl, rfl, rfl⟩ := h9
  show km_G E X 4 (SH.take 70) (km_us mi [(63, 0, 0), (63, 1, 0), (63, 2, 0), (63, 3, 0), (63, 4, 0), (63, 5, 0), (63, 8, 0)]) (km_urs mr [(63, 6, 64), (63, 7, 65), (63, 9, 66), (63, 10, 67), (63, 11, 68), (63, 12, 69)]) 7 101 12 _ _
  refine km_putrF (q := 63) hX pX1_init_12 rfl rfl (fun _ => ⟨rfl, rfl⟩) (hin rfl) dX1_init_12 ?_
  refine km_aload_n hX dX1_init_15 rfl rfl ?_
  refine km_bipush (v := 48) hX dX1_init_16 (by decide) ?_
  refine km_newa (N := 48) (q := 70) (sh' := SH.take 71) hX dX1_init_18 aX1_init (by decide) (by decide) (by decide) rfl rfl (km_zi hf (l := [(63, 0, 0), (63, 1, 0), (63, 2, 0), (63, 3, 0), (63, 4, 0), (63, 5, 0), (63, 8, 0)]) (q := 70) [63, 63, 63, 63, 63, 63, 63] rfl (by decide) (by decide)) (by decide) (by decide) ?_
  refine km_putrF (q := 70) hX pX1_init_18 rfl rfl (fun _ => ⟨rfl, rfl⟩) (hin rfl) dX1_init_20 ?_
  refine km_aload_n hX dX1_init_23 rfl rfl ?_
  refine km_bipush (v := 8) hX dX1_init_24 (by decide) ?_
  refine km_newa (N := 8) (q := 71) (sh' := SH.take 72) hX dX1_init_26 aX1_init (by decide) (by decide) (by decide) rfl rfl (km_zi hf (l := [(63, 0, 0), (63, 1, 0), (63, 2, 0), (63, 3, 0), (63, 4, 0), (63, 5, 0), (63, 8, 0)]) (q := 71) [63, 63, 63, 63, 63, 63, 63] rfl (by decide) (by decide)) (by decide) (by decide) ?_
  refine km_putrF (q := 71) hX pX1_init_22 rfl rfl (fun _ => ⟨rfl, rfl⟩) (hin rfl) dX1_init_28 ?_
  refine km_aload_n hX dX1_init_31 rfl rfl ?_
  refine km_bipush (v := 8) hX dX1_init_32 (by decide) ?_
  refine km_newa (N := 8) (q := 72) (sh' := SH.take 73) hX dX1_init_34 aX1_init (by decide) (by decide) (by decide) rfl rfl (km_zi hf (l := [(63, 0, 0), (63, 1, 0), (63, 2, 0), (63, 3, 0), (63, 4, 0), (63, 5, 0), (63, 8, 0)]) (q := 72) [63, 63, 63, 63, 63, 63, 63] rfl (by decide) (by decide)) (by decide) (by decide) ?_
  refine km_putrF (q := 72) hX pX1_init_25 rfl rfl (fun _ => ⟨rfl, rfl⟩) (hin rfl) dX1_init_36 ?_
  refine km_aload_n hX dX1_init_39 rfl rfl ?_
  refine km_iconst (v := 2) hX dX1_init_40 (by decide) ?_
  refine km_newa (N := 2) (q := 73) (sh' := SH.take 74) hX dX1_init_41 aX1_init (by decide) (by decide) (by decide) rfl rfl (km_zi hf (l := [(63, 0, 0), (63, 1, 0), (63, 2, 0), (63, 3, 0), (63, 4, 0), (63, 5, 0), (63, 8, 0)]) (q := 73) [63, 63, 63, 63, 63, 63, 63] rfl (by decide) (by decide)) (by decide) (by decide) ?_
  refine km_putrF (q := 73) hX pX1_init_28 rfl rfl (fun _ => ⟨rfl, rfl⟩) (hin rfl) dX1_init_43 ?_
  refine km_aload_n hX dX1_init_46 rfl rfl ?_
  refine km_iconst (v := 0) hX dX1_init_47 (by decide) ?_
  refine km_puti hX pX1_init_31 rfl rfl dX1_init_48 ?_
  refine km_aload_n hX dX1_init_51 rfl rfl ?_
  refine km_aload_n hX dX1_init_52 rfl rfl ?_
  refine km_putr (q := 1) hX pX1_init_35 rfl rfl (fun _ => ⟨rfl, rfl⟩) dX1_init_53 ?_
  refine km_aload_n hX dX1_init_56 rfl rfl ?_
  refine km_iload_n hX dX1_init_57 rfl ?_
  refine km_putiF hX pX1_init_39 rfl rfl (hin rfl) dX1_init_58 ?_
  refine km_aload_n hX dX1_init_61 rfl rfl ?_
  refine km_iload_n hX dX1_init_62 rfl ?_
  refine km_putzF hX pX1_init_42 rfl rfl (hin rfl) dX1_init_63 hz01 ?_
  exact km_vret hX hF rfl dX1_init_66 ⟨rfl, rfl, rfl, rfl⟩ (by decide) (by decide)
set_option maxHeartbeats 4000000 in
set_option maxRecDepth 100000 in
theorem X1_init_74 {E : km_E} {l : Launch} {mi : km_I} {mr : km_R} {x2 : Int32} {x3 : Int32} (hz01 : x3 = 0 ∨ x3 = 1) (hf : km_fresh 75 mi mr) : km_C E l yX1_init wsX1_init rmX1_init [.ref 74, .ref 7, .int x2, .int x3] (SH.take 75) mi mr (fun r sh' mi' mr' => r = none ∧ sh' = SH.take 86 ∧ mi' = km_us mi [(75, 0, 0), (75, 1, 0), (75, 2, 0), (75, 3, 0), (75, 4, 0), (75, 5, 0), (75, 8, 0), (74, 8, 0), (74, 1, x2), (74, 6, x3)] ∧ mr' = km_urs mr [(75, 6, 76), (75, 7, 77), (75, 9, 78), (75, 10, 79), (75, 11, 80), (75, 12, 81), (74, 0, 75), (74, 2, 82), (74, 3, 83), (74, 4, 84), (74, 5, 85), (74, 7, 7)]) := by
  refine km_start (cc := cX1_init) (maxL := 4) (ret := none) (by decide) rfl (Nat.le_of_ble_eq_true rfl) ?_
  intro X hl hX hF hin
  subst hl
  refine km_aload_n hX dX1_init_0 rfl rfl ?_
  refine km_objinit hX dX1_init_1 oX1_init.1 oX1_init.2.1 oX1_init.2.2 (by decide) (by decide) ?_
  refine km_aload_n hX dX1_init_4 rfl rfl ?_
  refine km_new (q := 75) (sh' := SH.take 76) hX dX1_init_5 nX1_init_9 rfl rfl (km_zi hf (l := []) (q := 75) [] rfl (by decide) (by decide)) (km_zr hf (l := []) (q := 75) [] rfl (by decide) (by decide)) (by decide) (by decide) ?_
  refine km_dup hX dX1_init_8 ?_
  refine km_callI hX dX1_init_9 vX1_init_11 (X5_init_75 (l := X.2.1) (mi := km_us mi []) (mr := km_urs mr [])  (km_fr hf [] [] rfl rfl (by decide) (by decide) (by decide))) (by decide) rfl rfl (by decide) (fun r sh9 mi9 mr9 h9 => ?_)
  obtain ⟨rfl, rfl, rfl, rfl⟩ := h9
  show km_G E X 4 (SH.take 82) (km_us mi [(75, 0, 0), (75, 1, 0), (75, 2, 0), (75, 3, 0), (75, 4, 0), (75, 5, 0), (75, 8, 0)]) (km_urs mr [(75, 6, 76), (75, 7, 77), (75, 9, 78), (75, 10, 79), (75, 11, 80), (75, 12, 81)]) 7 101 12 _ _
  refine km_putrF (q := 75) hX pX1_init_12 rfl rfl (fun _ => ⟨rfl, rfl⟩) (hin rfl) dX1_init_12 ?_
  refine km_aload_n hX dX1_init_15 rfl rfl ?_
  refine km_bipush (v := 48) hX dX1_init_16 (by decide) ?_
  refine km_newa (N := 48) (q := 82) (sh' := SH.take 83) hX dX1_init_18 aX1_init (by decide) (by decide) (by decide) rfl rfl (km_zi hf (l := [(75, 0, 0), (75, 1, 0), (75, 2, 0), (75, 3, 0), (75, 4, 0), (75, 5, 0), (75, 8, 0)]) (q := 82) [75, 75, 75, 75, 75, 75, 75] rfl (by decide) (by decide)) (by decide) (by decide) ?_
  refine km_putrF (q := 82) hX pX1_init_18 rfl rfl (fun _ => ⟨rfl, rfl⟩) (hin rfl) dX1_init_20 ?_
  refine km_aload_n hX dX1_init_23 rfl rfl ?_
  refine km_bipush (v := 8) hX dX1_init_24 (by decide) ?_
  refine km_newa (N := 8) (q := 83) (sh' := SH.take 84) hX dX1_init_26 aX1_init (by decide) (by decide) (by decide) rfl rfl (km_zi hf (l := [(75, 0, 0), (75, 1, 0), (75, 2, 0), (75, 3, 0), (75, 4, 0), (75, 5, 0), (75, 8, 0)]) (q := 83) [75, 75, 75, 75, 75, 75, 75] rfl (by decide) (by decide)) (by decide) (by decide) ?_
  refine km_putrF (q := 83) hX pX1_init_22 rfl rfl (fun _ => ⟨rfl, rfl⟩) (hin rfl) dX1_init_28 ?_
  refine km_aload_n hX dX1_init_31 rfl rfl ?_
  refine km_bipush (v := 8) hX dX1_init_32 (by decide) ?_
  refine km_newa (N := 8) (q := 84) (sh' := SH.take 85) hX dX1_init_34 aX1_init (by decide) (by decide) (by decide) rfl rfl (km_zi hf (l := [(75, 0, 0), (75, 1, 0), (75, 2, 0), (75, 3, 0), (75, 4, 0), (75, 5, 0), (75, 8, 0)]) (q := 84) [75, 75, 75, 75, 75, 75, 75] rfl (by decide) (by decide)) (by decide) (by decide) ?_
  refine km_putrF (q := 84) hX pX1_init_25 rfl rfl (fun _ => ⟨rfl, rfl⟩) (hin rfl) dX1_init_36 ?_
  refine km_aload_n hX dX1_init_39 rfl rfl ?_
  refine km_iconst (v := 2) hX dX1_init_40 (by decide) ?_
  refine km_newa (N := 2) (q := 85) (sh' := SH.take 86) hX dX1_init_41 aX1_init (by decide) (by decide) (by decide) rfl rfl (km_zi hf (l := [(75, 0, 0), (75, 1, 0), (75, 2, 0), (75, 3, 0), (75, 4, 0), (75, 5, 0), (75, 8, 0)]) (q := 85) [75, 75, 75, 75, 75, 75, 75] rfl (by decide) (by decide)) (by decide) (by decide) ?_
  refine km_putrF (q := 85) hX pX1_init_28 rfl rfl (fun _ => ⟨rfl, rfl⟩) (hin rfl) dX1_init_43 ?_
  refine km_aload_n hX dX1_init_46 rfl rfl ?_
  refine km_iconst (v := 0) hX dX1_init_47 (by decide) ?_
  refine km_puti hX pX1_init_31 rfl rfl dX1_init_48 ?_
  refine km_aload_n hX dX1_init_51 rfl rfl ?_
  refine km_aload_n hX dX1_init_52 rfl rfl ?_
  refine km_putr (q := 7) hX pX1_init_35 rfl rfl (fun _ => ⟨rfl, rfl⟩) dX1_init_53 ?_
  refine km_aload_n hX dX1_init_56 rfl rfl ?_
  refine km_iload_n hX dX1_init_57 rfl ?_
  refine km_putiF hX pX1_init_39 rfl rfl (hin rfl) dX1_init_58 ?_
  refine km_aload_n hX dX1_init_61 rfl rfl ?_
  refine km_iload_n hX dX1_init_62 rfl ?_
  refine km_putzF hX pX1_init_42 rfl rfl (hin rfl) dX1_init_63 hz01 ?_
  exact km_vret hX hF rfl dX1_init_66 ⟨rfl, rfl, rfl, rfl⟩ (by decide) (by decide)
