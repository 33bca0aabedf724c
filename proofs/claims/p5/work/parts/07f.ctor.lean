set_option maxHeartbeats 4000000 in
set_option maxRecDepth 100000 in
theorem X0_init_1 {E : km_E} {l : Launch} {mi : km_I} {mr : km_R} (hf : km_fresh 2 mi mr) : km_C E l yX0_init wsX0_init rmX0_init [.ref 1] (SH.take 2) mi mr (fun r sh' mi' mr' => r = none ∧ sh' = SH.take 7 ∧ mi' = km_us mi [(1, 0, 0)] ∧ mr' = km_urs mr [(1, 1, 2), (1, 2, 3), (1, 3, 4), (1, 4, 5), (1, 5, 6)]) := by
  refine km_start (cc := cX0_init) (maxL := 1) (ret := none) (by decide) rfl (Nat.le_of_ble_eq_true rfl) ?_
  intro X hl hX hF hin
  subst hl
  refine km_aload_n hX dX0_init_0 rfl rfl ?_
  refine km_objinit hX dX0_init_1 oX0_init.1 oX0_init.2.1 oX0_init.2.2 (by decide) (by decide) ?_
  refine km_aload_n hX dX0_init_4 rfl rfl ?_
  refine km_iconst (v := 0) hX dX0_init_5 (by decide) ?_
  refine km_puti hX pX0_init_9 rfl rfl dX0_init_6 ?_
  refine km_aload_n hX dX0_init_9 rfl rfl ?_
  refine km_bipush (v := 6) hX dX0_init_10 (by decide) ?_
  refine km_newa (N := 6) (q := 2) (sh' := SH.take 3) hX dX0_init_12 aX0_init (by decide) (by decide) (by decide) rfl rfl (km_zi hf (l := [(1, 0, 0)]) (q := 2) [1] rfl (by decide) (by decide)) (by decide) (by decide) ?_
  refine km_putrF (q := 2) hX pX0_init_15 rfl rfl (fun _ => ⟨rfl, rfl⟩) (hin rfl) dX0_init_14 ?_
  refine km_aload_n hX dX0_init_17 rfl rfl ?_
  refine km_sipush (v := 144) hX dX0_init_18 (by decide) ?_
  refine km_newa (N := 144) (q := 3) (sh' := SH.take 4) hX dX0_init_21 aX0_init (by decide) (by decide) (by decide) rfl rfl (km_zi hf (l := [(1, 0, 0)]) (q := 3) [1] rfl (by decide) (by decide)) (by decide) (by decide) ?_
  refine km_putrF (q := 3) hX pX0_init_19 rfl rfl (fun _ => ⟨rfl, rfl⟩) (hin rfl) dX0_init_23 ?_
  refine km_aload_n hX dX0_init_26 rfl rfl ?_
  refine km_sipush (v := 144) hX dX0_init_27 (by decide) ?_
  refine km_newa (N := 144) (q := 4) (sh' := SH.take 5) hX dX0_init_30 aX0_init (by decide) (by decide) (by decide) rfl rfl (km_zi hf (l := [(1, 0, 0)]) (q := 4) [1] rfl (by decide) (by decide)) (by decide) (by decide) ?_
  refine km_putrF (q := 4) hX pX0_init_22 rfl rfl (fun _ => ⟨rfl, rfl⟩) (hin rfl) dX0_init_32 ?_
  refine km_aload_n hX dX0_init_35 rfl rfl ?_
  refine km_sipush (v := 144) hX dX0_init_36 (by decide) ?_
  refine km_newa (N := 144) (q := 5) (sh' := SH.take 6) hX dX0_init_39 aX0_init (by decide) (by decide) (by decide) rfl rfl (km_zi hf (l := [(1, 0, 0)]) (q := 5) [1] rfl (by decide) (by decide)) (by decide) (by decide) ?_
  refine km_putrF (q := 5) hX pX0_init_25 rfl rfl (fun _ => ⟨rfl, rfl⟩) (hin rfl) dX0_init_41 ?_
  refine km_aload_n hX dX0_init_44 rfl rfl ?_
  refine km_sipush (v := 144) hX dX0_init_45 (by decide) ?_
  refine km_newa (N := 144) (q := 6) (sh' := SH.take 7) hX dX0_init_48 aX0_init (by decide) (by decide) (by decide) rfl rfl (km_zi hf (l := [(1, 0, 0)]) (q := 6) [1] rfl (by decide) (by decide)) (by decide) (by decide) ?_
  refine km_putrF (q := 6) hX pX0_init_28 rfl rfl (fun _ => ⟨rfl, rfl⟩) (hin rfl) dX0_init_50 ?_
  exact km_vret hX hF rfl dX0_init_53 ⟨rfl, rfl, rfl, rfl⟩ (by decide) (by decide)
set_option maxHeartbeats 4000000 in
set_option maxRecDepth 100000 in
theorem X0_init_7 {E : km_E} {l : Launch} {mi : km_I} {mr : km_R} (hf : km_fresh 8 mi mr) : km_C E l yX0_init wsX0_init rmX0_init [.ref 7] (SH.take 8) mi mr (fun r sh' mi' mr' => r = none ∧ sh' = SH.take 13 ∧ mi' = km_us mi [(7, 0, 0)] ∧ mr' = km_urs mr [(7, 1, 8), (7, 2, 9), (7, 3, 10), (7, 4, 11), (7, 5, 12)]) := by
  refine km_start (cc := cX0_init) (maxL := 1) (ret := none) (by decide) rfl (Nat.le_of_ble_eq_true rfl) ?_
  intro X hl hX hF hin
  subst hl
  refine km_aload_n hX dX0_init_0 rfl rfl ?_
  refine km_objinit hX dX0_init_1 oX0_init.1 oX0_init.2.1 oX0_init.2.2 (by decide) (by decide) ?_
  refine km_aload_n hX dX0_init_4 rfl rfl ?_
  refine km_iconst (v := 0) hX dX0_init_5 (by decide) ?_
  refine km_puti hX pX0_init_9 rfl rfl dX0_init_6 ?_
  refine km_aload_n hX dX0_init_9 rfl rfl ?_
  refine km_bipush (v := 6) hX dX0_init_10 (by decide) ?_
  refine km_newa (N := 6) (q := 8) (sh' := SH.take 9) hX dX0_init_12 aX0_init (by decide) (by decide) (by decide) rfl rfl (km_zi hf (l := [(7, 0, 0)]) (q := 8) [7] rfl (by decide) (by decide)) (by decide) (by decide) ?_
  refine km_putrF (q := 8) hX pX0_init_15 rfl rfl (fun _ => ⟨rfl, rfl⟩) (hin rfl) dX0_init_14 ?_
  refine km_aload_n hX dX0_init_17 rfl rfl ?_
  refine km_sipush (v := 144) hX dX0_init_18 (by decide) ?_
  refine km_newa (N := 144) (q := 9) (sh' := SH.take 10) hX dX0_init_21 aX0_init (by decide) (by decide) (by decide) rfl rfl (km_zi hf (l := [(7, 0, 0)]) (q := 9) [7] rfl (by decide) (by decide)) (by decide) (by decide) ?_
  refine km_putrF (q := 9) hX pX0_init_19 rfl rfl (fun _ => ⟨rfl, rfl⟩) (hin rfl) dX0_init_23 ?_
  refine km_aload_n hX dX0_init_26 rfl rfl ?_
  refine km_sipush (v := 144) hX dX0_init_27 (by decide) ?_
  refine km_newa (N := 144) (q := 10) (sh' := SH.take 11) hX dX0_init_30 aX0_init (by decide) (by decide) (by decide) rfl rfl (km_zi hf (l := [(7, 0, 0)]) (q := 10) [7] rfl (by decide) (by decide)) (by decide) (by decide) ?_
  refine km_putrF (q := 10) hX pX0_init_22 rfl rfl (fun _ => ⟨rfl, rfl⟩) (hin rfl) dX0_init_32 ?_
  refine km_aload_n hX dX0_init_35 rfl rfl ?_
  refine km_sipush (v := 144) hX dX0_init_36 (by decide) ?_
  refine km_newa (N := 144) (q := 11) (sh' := SH.take 12) hX dX0_init_39 aX0_init (by decide) (by decide) (by decide) rfl rfl (km_zi hf (l := [(7, 0, 0)]) (q := 11) [7] rfl (by decide) (by decide)) (by decide) (by decide) ?_
  refine km_putrF (q := 11) hX pX0_init_25 rfl rfl (fun _ => ⟨rfl, rfl⟩) (hin rfl) dX0_init_41 ?_
  refine km_aload_n hX dX0_init_44 rfl rfl ?_
  refine km_sipush (v := 144) hX dX0_init_45 (by decide) ?_
  refine km_newa (N := 144) (q := 12) (sh' := SH.take 13) hX dX0_init_48 aX0_init (by decide) (by decide) (by decide) rfl rfl (km_zi hf (l := [(7, 0, 0)]) (q := 12) [7] rfl (by decide) (by decide)) (by decide) (by decide) ?_
  refine km_putrF (q := 12) hX pX0_init_28 rfl rfl (fun _ => ⟨rfl, rfl⟩) (hin rfl) dX0_init_50 ?_
  exact km_vret hX hF rfl dX0_init_53 ⟨rfl, rfl, rfl, rfl⟩ (by decide) (by decide)
set_option maxHeartbeats 4000000 in
set_option maxRecDepth 100000 in
theorem X3_init_13 {E : km_E} {l : Launch} {mi : km_I} {mr : km_R} (hf : km_fresh 14 mi mr) : km_C E l yX3_init wsX3_init rmX3_init [.ref 13] (SH.take 14) mi mr (fun r sh' mi' mr' => r = none ∧ sh' = SH.take 17 ∧ mi' = km_us mi [(14, 0, 0), (14, 1, 1), (14, 2, 2), (14, 3, 3), (16, 0, 0), (16, 1, 1), (16, 2, 2), (16, 3, 3)] ∧ mr' = km_urs mr [(13, 0, 14), (13, 1, 15), (13, 2, 16)]) := by
  refine km_start (cc := cX3_init) (maxL := 1) (ret := none) (by decide) rfl (Nat.le_of_ble_eq_true rfl) ?_
  intro X hl hX hF hin
  subst hl
  refine km_aload_n hX dX3_init_0 rfl rfl ?_
  refine km_objinit hX dX3_init_1 oX3_init.1 oX3_init.2.1 oX3_init.2.2 (by decide) (by decide) ?_
  refine km_aload_n hX dX3_init_4 rfl rfl ?_
  refine km_iconst (v := 4) hX dX3_init_5 (by decide) ?_
  refine km_newa (N := 4) (q := 14) (sh' := SH.take 15) hX dX3_init_6 aX3_init (by decide) (by decide) (by decide) rfl rfl (km_zi hf (l := []) (q := 14) [] rfl (by decide) (by decide)) (by decide) (by decide) ?_
  refine km_dup hX dX3_init_8 ?_
  refine km_iconst (v := 0) hX dX3_init_9 (by decide) ?_
  refine km_iconst (v := 0) hX dX3_init_10 (by decide) ?_
  refine km_iastK (k := 0) (by decide) hX rfl (vp_in_iff.mpr (by decide)) dX3_init_11 ?_
  refine km_dup hX dX3_init_12 ?_
  refine km_iconst (v := 1) hX dX3_init_13 (by decide) ?_
  refine km_iconst (v := 1) hX dX3_init_14 (by decide) ?_
  refine km_iastK (k := 1) (by decide) hX rfl (vp_in_iff.mpr (by decide)) dX3_init_15 ?_
  refine km_dup hX dX3_init_16 ?_
  refine km_iconst (v := 2) hX dX3_init_17 (by decide) ?_
  refine km_iconst (v := 2) hX dX3_init_18 (by decide) ?_
  refine km_iastK (k := 2) (by decide) hX rfl (vp_in_iff.mpr (by decide)) dX3_init_19 ?_
  refine km_dup hX dX3_init_20 ?_
  refine km_iconst (v := 3) hX dX3_init_21 (by decide) ?_
  refine km_iconst (v := 3) hX dX3_init_22 (by decide) ?_
  refine km_iastK (k := 3) (by decide) hX rfl (vp_in_iff.mpr (by decide)) dX3_init_23 ?_
  refine km_putrF (q := 14) hX pX3_init_9 rfl rfl (fun _ => ⟨rfl, rfl⟩) (hin rfl) dX3_init_24 ?_
  refine km_aload_n hX dX3_init_27 rfl rfl ?_
  refine km_iconst (v := 4) hX dX3_init_28 (by decide) ?_
  refine km_newa (N := 4) (q := 15) (sh' := SH.take 16) hX dX3_init_29 aX3_init (by decide) (by decide) (by decide) rfl rfl (km_zi hf (l := [(14, 0, 0), (14, 1, 1), (14, 2, 2), (14, 3, 3)]) (q := 15) [14, 14, 14, 14] rfl (by decide) (by decide)) (by decide) (by decide) ?_
  refine km_putrF (q := 15) hX pX3_init_15 rfl rfl (fun _ => ⟨rfl, rfl⟩) (hin rfl) dX3_init_31 ?_
  refine km_aload_n hX dX3_init_34 rfl rfl ?_
  refine km_iconst (v := 4) hX dX3_init_35 (by decide) ?_
  refine km_newa (N := 4) (q := 16) (sh' := SH.take 17) hX dX3_init_36 aX3_init (by decide) (by decide) (by decide) rfl rfl (km_zi hf (l := [(14, 0, 0), (14, 1, 1), (14, 2, 2), (14, 3, 3)]) (q := 16) [14, 14, 14, 14] rfl (by decide) (by decide)) (by decide) (by decide) ?_
  refine km_dup hX dX3_init_38 ?_
  refine km_iconst (v := 0) hX dX3_init_39 (by decide) ?_
  refine km_iconst (v := 0) hX dX3_init_40 (by decide) ?_
  refine km_iastK (k := 0) (by decide) hX rfl (vp_in_iff.mpr (by decide)) dX3_init_41 ?_
  refine km_dup hX dX3_init_42 ?_
  refine km_iconst (v := 1) hX dX3_init_43 (by decide) ?_
  refine km_iconst (v := 1) hX dX3_init_44 (by decide) ?_
  refine km_iastK (k := 1) (by decide) hX rfl (vp_in_iff.mpr (by decide)) dX3_init_45 ?_
  refine km_dup hX dX3_init_46 ?_
  refine km_iconst (v := 2) hX dX3_init_47 (by decide) ?_
  refine km_iconst (v := 2) hX dX3_init_48 (by decide) ?_
  refine km_iastK (k := 2) (by decide) hX rfl (vp_in_iff.mpr (by decide)) dX3_init_49 ?_
  refine km_dup hX dX3_init_50 ?_
  refine km_iconst (v := 3) hX dX3_init_51 (by decide) ?_
  refine km_iconst (v := 3) hX dX3_init_52 (by decide) ?_
  refine km_iastK (k := 3) (by decide) hX rfl (vp_in_iff.mpr (by decide)) dX3_init_53 ?_
  refine km_putrF (q := 16) hX pX3_init_18 rfl rfl (fun _ => ⟨rfl, rfl⟩) (hin rfl) dX3_init_54 ?_
  exact km_vret hX hF rfl dX3_init_57 ⟨rfl, rfl, rfl, rfl⟩ (by decide) (by decide)
set_option maxHeartbeats 4000000 in
set_option maxRecDepth 100000 in
theorem X3_init_17 {E : km_E} {l : Launch} {mi : km_I} {mr : km_R} (hf : km_fresh 18 mi mr) : km_C E l yX3_init wsX3_init rmX3_init [.ref 17] (SH.take 18) mi mr (fun r sh' mi' mr' => r = none ∧ sh' = SH.take 21 ∧ mi' = km_us mi [(18, 0, 0), (18, 1, 1), (18, 2, 2), (18, 3, 3), (20, 0, 0), (20, 1, 1), (20, 2, 2), (20, 3, 3)] ∧ mr' = km_urs mr [(17, 0, 18), (17, 1, 19), (17, 2, 20)]) := by
  refine km_start (cc := cX3_init) (maxL := 1) (ret := none) (by decide) rfl (Nat.le_of_ble_eq_true rfl) ?_
  intro X hl hX hF hin
  subst hl
  refine km_aload_n hX dX3_init_0 rfl rfl ?_
  refine km_objinit hX dX3_init_1 oX3_init.1 oX3_init.2.1 oX3_init.2.2 (by decide) (by decide) ?_
  refine km_aload_n hX dX3_init_4 rfl rfl ?_
  refine km_iconst (v := 4) hX dX3_init_5 (by decide) ?_
  refine km_newa (N := 4) (q := 18) (sh' := SH.take 19) hX dX3_init_6 aX3_init (by decide) (by decide) (by decide) rfl rfl (km_zi hf (l := []) (q := 18) [] rfl (by decide) (by decide)) (by decide) (by decide) ?_
  refine km_dup hX dX3_init_8 ?_
  refine km_iconst (v := 0) hX dX3_init_9 (by decide) ?_
  refine km_iconst (v := 0) hX dX3_init_10 (by decide) ?_
  refine km_iastK (k := 0) (by decide) hX rfl (vp_in_iff.mpr (by decide)) dX3_init_11 ?_
  refine km_dup hX dX3_init_12 ?_
  refine km_iconst (v := 1) hX dX3_init_13 (by decide) ?_
  refine km_iconst (v := 1) hX dX3_init_14 (by decide) ?_
  refine km_iastK (k := 1) (by decide) hX rfl (vp_in_iff.mpr (by decide)) dX3_init_15 ?_
  refine km_dup hX dX3_init_16 ?_
  refine km_iconst (v := 2) hX dX3_init_17 (by decide) ?_
  refine km_iconst (v := 2) hX dX3_init_18 (by decide) ?_
  refine km_iastK (k := 2) (by decide) hX rfl (vp_in_iff.mpr (by decide)) dX3_init_19 ?_
  refine km_dup hX dX3_init_20 ?_
  refine km_iconst (v := 3) hX dX3_init_21 (by decide) ?_
  refine km_iconst (v := 3) hX dX3_init_22 (by decide) ?_
  refine km_iastK (k := 3) (by decide) hX rfl (vp_in_iff.mpr (by decide)) dX3_init_23 ?_
  refine km_putrF (q := 18) hX pX3_init_9 rfl rfl (fun _ => ⟨rfl, rfl⟩) (hin rfl) dX3_init_24 ?_
  refine km_aload_n hX dX3_init_27 rfl rfl ?_
  refine km_iconst (v := 4) hX dX3_init_28 (by decide) ?_
  refine km_newa (N := 4) (q := 19) (sh' := SH.take 20) hX dX3_init_29 aX3_init (by decide) (by decide) (by decide) rfl rfl (km_zi hf (l := [(18, 0, 0), (18, 1, 1), (18, 2, 2), (18, 3, 3)]) (q := 19) [18, 18, 18, 18] rfl (by decide) (by decide)) (by decide) (by decide) ?_
  refine km_putrF (q := 19) hX pX3_init_15 rfl rfl (fun _ => ⟨rfl, rfl⟩) (hin rfl) dX3_init_31 ?_
  refine km_aload_n hX dX3_init_34 rfl rfl ?_
  refine km_iconst (v := 4) hX dX3_init_35 (by decide) ?_
  refine km_newa (N := 4) (q := 20) (sh' := SH.take 21) hX dX3_init_36 aX3_init (by decide) (by decide) (by decide) rfl rfl (km_zi hf (l := [(18, 0, 0), (18, 1, 1), (18, 2, 2), (18, 3, 3)]) (q := 20) [18, 18, 18, 18] rfl (by decide) (by decide)) (by decide) (by decide) ?_
  refine km_dup hX dX3_init_38 ?_
  refine km_iconst (v := 0) hX dX3_init_39 (by decide) ?_
  refine km_iconst (v := 0) hX dX3_init_40 (by decide) ?_
  refine km_iastK (k := 0) (by decide) hX rfl (vp_in_iff.mpr (by decide)) dX3_init_41 ?_
  refine km_dup hX dX3_init_42 ?_
  refine km_iconst (v := 1) hX dX3_init_43 (by decide) ?_
  refine km_iconst (v := 1) hX dX3_init_44 (by decide) ?_
  refine km_iastK (k := 1) (by decide) hX rfl (vp_in_iff.mpr (by decide)) dX3_init_45 ?_
  refine km_dup hX dX3_init_46 ?_
  refine km_iconst (v := 2) hX dX3_init_47 (by decide) ?_
  refine km_iconst (v := 2) hX dX3_init_48 (by decide) ?_
  refine km_iastK (k := 2) (by decide) hX rfl (vp_in_iff.mpr (by decide)) dX3_init_49 ?_
  refine km_dup hX dX3_init_50 ?_
  refine km_iconst (v := 3) hX dX3_init_51 (by decide) ?_
  refine km_iconst (v := 3) hX dX3_init_52 (by decide) ?_
  refine km_iastK (k := 3) (by decide) hX rfl (vp_in_iff.mpr (by decide)) dX3_init_53 ?_
  refine km_putrF (q := 20) hX pX3_init_18 rfl rfl (fun _ => ⟨rfl, rfl⟩) (hin rfl) dX3_init_54 ?_
  exact km_vret hX hF rfl dX3_init_57 ⟨rfl, rfl, rfl, rfl⟩ (by decide) (by decide)
set_option maxHeartbeats 4000000 in
set_option maxRecDepth 100000 in
theorem X2_init_21 {E : km_E} {l : Launch} {mi : km_I} {mr : km_R} (hf : km_fresh 22 mi mr) : km_C E l yX2_init wsX2_init rmX2_init [.ref 21] (SH.take 22) mi mr (fun r sh' mi' mr' => r = none ∧ sh' = SH.take 24 ∧ mi' = km_us mi [(21, 0, 0)] ∧ mr' = km_urs mr [(21, 1, 22), (21, 2, 23)]) := by
  refine km_start (cc := cX2_init) (maxL := 1) (ret := none) (by decide) rfl (Nat.le_of_ble_eq_true rfl) ?_
  intro X hl hX hF hin
  subst hl
  refine km_aload_n hX dX2_init_0 rfl rfl ?_
  refine km_objinit hX dX2_init_1 oX2_init.1 oX2_init.2.1 oX2_init.2.2 (by decide) (by decide) ?_
  refine km_aload_n hX dX2_init_4 rfl rfl ?_
  refine km_iconst (v := 0) hX dX2_init_5 (by decide) ?_
  refine km_puti hX pX2_init_9 rfl rfl dX2_init_6 ?_
  refine km_aload_n hX dX2_init_9 rfl rfl ?_
  refine km_bipush (v := 6) hX dX2_init_10 (by decide) ?_
  refine km_newa (N := 6) (q := 22) (sh' := SH.take 23) hX dX2_init_12 aX2_init (by decide) (by decide) (by decide) rfl rfl (km_zi hf (l := [(21, 0, 0)]) (q := 22) [21] rfl (by decide) (by decide)) (by decide) (by decide) ?_
  refine km_putrF (q := 22) hX pX2_init_15 rfl rfl (fun _ => ⟨rfl, rfl⟩) (hin rfl) dX2_init_14 ?_
  refine km_aload_n hX dX2_init_17 rfl rfl ?_
  refine km_bipush (v := 6) hX dX2_init_18 (by decide) ?_
  refine km_newa (N := 6) (q := 23) (sh' := SH.take 24) hX dX2_init_20 aX2_init (by decide) (by decide) (by decide) rfl rfl (km_zi hf (l := [(21, 0, 0)]) (q := 23) [21] rfl (by decide) (by decide)) (by decide) (by decide) ?_
  refine km_putrF (q := 23) hX pX2_init_19 rfl rfl (fun _ => ⟨rfl, rfl⟩) (hin rfl) dX2_init_22 ?_
  exact km_vret hX hF rfl dX2_init_25 ⟨rfl, rfl, rfl, rfl⟩ (by decide) (by decide)
set_option maxHeartbeats 4000000 in
set_option maxRecDepth 100000 in
theorem X4_init_24 {E : km_E} {l : Launch} {mi : km_I} {mr : km_R} (hf : km_fresh 25 mi mr) : km_C E l yX4_init wsX4_init rmX4_init [.ref 24] (SH.take 25) mi mr (fun r sh' mi' mr' => r = none ∧ sh' = SH.take 26 ∧ mi' = km_us mi [(24, 0, (-1)), (25, 0, (-1)), (25, 1, (-1)), (25, 2, (-1)), (25, 3, (-1)), (25, 4, (-1))] ∧ mr' = km_urs mr [(24, 1, 25)]) := by
  refine km_start (cc := cX4_init) (maxL := 1) (ret := none) (by decide) rfl (Nat.le_of_ble_eq_true rfl) ?_
  intro X hl hX hF hin
  subst hl
  refine km_aload_n hX dX4_init_0 rfl rfl ?_
  refine km_objinit hX dX4_init_1 oX4_init.1 oX4_init.2.1 oX4_init.2.2 (by decide) (by decide) ?_
  refine km_aload_n hX dX4_init_4 rfl rfl ?_
  refine km_iconst (v := -1) hX dX4_init_5 (by decide) ?_
  refine km_puti hX pX4_init_9 rfl rfl dX4_init_6 ?_
  refine km_aload_n hX dX4_init_9 rfl rfl ?_
  refine km_iconst (v := 5) hX dX4_init_10 (by decide) ?_
  refine km_newa (N := 5) (q := 25) (sh' := SH.take 26) hX dX4_init_11 aX4_init (by decide) (by decide) (by decide) rfl rfl (km_zi hf (l := [(24, 0, (-1))]) (q := 25) [24] rfl (by decide) (by decide)) (by decide) (by decide) ?_
  refine km_dup hX dX4_init_13 ?_
  refine km_iconst (v := 0) hX dX4_init_14 (by decide) ?_
  refine km_iconst (v := -1) hX dX4_init_15 (by decide) ?_
  refine km_iastK (k := 0) (by decide) hX rfl (vp_in_iff.mpr (by decide)) dX4_init_16 ?_
  refine km_dup hX dX4_init_17 ?_
  refine km_iconst (v := 1) hX dX4_init_18 (by decide) ?_
  refine km_iconst (v := -1) hX dX4_init_19 (by decide) ?_
  refine km_iastK (k := 1) (by decide) hX rfl (vp_in_iff.mpr (by decide)) dX4_init_20 ?_
  refine km_dup hX dX4_init_21 ?_
  refine km_iconst (v := 2) hX dX4_init_22 (by decide) ?_
  refine km_iconst (v := -1) hX dX4_init_23 (by decide) ?_
  refine km_iastK (k := 2) (by decide) hX rfl (vp_in_iff.mpr (by decide)) dX4_init_24 ?_
  refine km_dup hX dX4_init_25 ?_
  refine km_iconst (v := 3) hX dX4_init_26 (by decide) ?_
  refine km_iconst (v := -1) hX dX4_init_27 (by decide) ?_
  refine km_iastK (k := 3) (by decide) hX rfl (vp_in_iff.mpr (by decide)) dX4_init_28 ?_
  refine km_dup hX dX4_init_29 ?_
  refine km_iconst (v := 4) hX dX4_init_30 (by decide) ?_
  refine km_iconst (v := -1) hX dX4_init_31 (by decide) ?_
  refine km_iastK (k := 4) (by decide) hX rfl (vp_in_iff.mpr (by decide)) dX4_init_32 ?_
  refine km_putrF (q := 25) hX pX4_init_15 rfl rfl (fun _ => ⟨rfl, rfl⟩) (hin rfl) dX4_init_33 ?_
  exact km_vret hX hF rfl dX4_init_36 ⟨rfl, rfl, rfl, rfl⟩ (by decide) (by decide)
set_option maxHeartbeats 4000000 in
set_option maxRecDepth 100000 in
theorem X5_init_27 {E : km_E} {l : Launch} {mi : km_I} {mr : km_R} (hf : km_fresh 28 mi mr) : km_C E l yX5_init wsX5_init rmX5_init [.ref 27] (SH.take 28) mi mr (fun r sh' mi' mr' => r = none ∧ sh' = SH.take 34 ∧ mi' = km_us mi [(27, 0, 0), (27, 1, 0), (27, 2, 0), (27, 3, 0), (27, 4, 0), (27, 5, 0), (27, 8, 0)] ∧ mr' = km_urs mr [(27, 6, 28), (27, 7, 29), (27, 9, 30), (27, 10, 31), (27, 11, 32), (27, 12, 33)]) := by
  refine km_start (cc := cX5_init) (maxL := 1) (ret := none) (by decide) rfl (Nat.le_of_ble_eq_true rfl) ?_
  intro X hl hX hF hin
  subst hl
  refine km_aload_n hX dX5_init_0 rfl rfl ?_
  refine km_objinit hX dX5_init_1 oX5_init.1 oX5_init.2.1 oX5_init.2.2 (by decide) (by decide) ?_
  refine km_aload_n hX dX5_init_4 rfl rfl ?_
  refine km_iconst (v := 0) hX dX5_init_5 (by decide) ?_
  refine km_puti hX pX5_init_9 rfl rfl dX5_init_6 ?_
  refine km_aload_n hX dX5_init_9 rfl rfl ?_
  refine km_iconst (v := 0) hX dX5_init_10 (by decide) ?_
  refine km_puti hX pX5_init_15 rfl rfl dX5_init_11 ?_
  refine km_aload_n hX dX5_init_14 rfl rfl ?_
  refine km_iconst (v := 0) hX dX5_init_15 (by decide) ?_
  refine km_puti hX pX5_init_18 rfl rfl dX5_init_16 ?_
  refine km_aload_n hX dX5_init_19 rfl rfl ?_
  refine km_iconst (v := 0) hX dX5_init_20 (by decide) ?_
  refine km_puti hX pX5_init_21 rfl rfl dX5_init_21 ?_
  refine km_aload_n hX dX5_init_24 rfl rfl ?_
  refine km_iconst (v := 0) hX dX5_init_25 (by decide) ?_
  refine km_puti hX pX5_init_24 rfl rfl dX5_init_26 ?_
  refine km_aload_n hX dX5_init_29 rfl rfl ?_
  refine km_iconst (v := 0) hX dX5_init_30 (by decide) ?_
  refine km_puti hX pX5_init_27 rfl rfl dX5_init_31 ?_
  refine km_aload_n hX dX5_init_34 rfl rfl ?_
  refine km_bipush (v := 40) hX dX5_init_35 (by decide) ?_
  refine km_newa (N := 40) (q := 28) (sh' := SH.take 29) hX dX5_init_37 aX5_init (by decide) (by decide) (by decide) rfl rfl (km_zi hf (l := [(27, 0, 0), (27, 1, 0), (27, 2, 0), (27, 3, 0), (27, 4, 0), (27, 5, 0)]) (q := 28) [27, 27, 27, 27, 27, 27] rfl (by decide) (by decide)) (by decide) (by decide) ?_
  refine km_putrF (q := 28) hX pX5_init_30 rfl rfl (fun _ => ⟨rfl, rfl⟩) (hin rfl) dX5_init_39 ?_
  refine km_aload_n hX dX5_init_42 rfl rfl ?_
  refine km_bipush (v := 40) hX dX5_init_43 (by decide) ?_
  refine km_newa (N := 40) (q := 29) (sh' := SH.take 30) hX dX5_init_45 aX5_init (by decide) (by decide) (by decide) rfl rfl (km_zi hf (l := [(27, 0, 0), (27, 1, 0), (27, 2, 0), (27, 3, 0), (27, 4, 0), (27, 5, 0)]) (q := 29) [27, 27, 27, 27, 27, 27] rfl (by decide) (by decide)) (by decide) (by decide) ?_
  refine km_putrF (q := 29) hX pX5_init_34 rfl rfl (fun _ => ⟨rfl, rfl⟩) (hin rfl) dX5_init_47 ?_
  refine km_aload_n hX dX5_init_50 rfl rfl ?_
  refine km_iconst (v := 0) hX dX5_init_51 (by decide) ?_
  refine km_puti hX pX5_init_37 rfl rfl dX5_init_52 ?_
  refine km_aload_n hX dX5_init_55 rfl rfl ?_
  refine km_iconst (v := 2) hX dX5_init_56 (by decide) ?_
  refine km_newa (N := 2) (q := 30) (sh' := SH.take 31) hX dX5_init_57 aX5_init (by decide) (by decide) (by decide) rfl rfl (km_zi hf (l := [(27, 0, 0), (27, 1, 0), (27, 2, 0), (27, 3, 0), (27, 4, 0), (27, 5, 0), (27, 8, 0)]) (q := 30) [27, 27, 27, 27, 27, 27, 27] rfl (by decide) (by decide)) (by decide) (by decide) ?_
  refine km_putrF (q := 30) hX pX5_init_40 rfl rfl (fun _ => ⟨rfl, rfl⟩) (hin rfl) dX5_init_59 ?_
  refine km_aload_n hX dX5_init_62 rfl rfl ?_
  refine km_iconst (v := 2) hX dX5_init_63 (by decide) ?_
  refine km_newa (N := 2) (q := 31) (sh' := SH.take 32) hX dX5_init_64 aX5_init (by decide) (by decide) (by decide) rfl rfl (km_zi hf (l := [(27, 0, 0), (27, 1, 0), (27, 2, 0), (27, 3, 0), (27, 4, 0), (27, 5, 0), (27, 8, 0)]) (q := 31) [27, 27, 27, 27, 27, 27, 27] rfl (by decide) (by decide)) (by decide) (by decide) ?_
  refine km_putrF (q := 31) hX pX5_init_43 rfl rfl (fun _ => ⟨rfl, rfl⟩) (hin rfl) dX5_init_66 ?_
  refine km_aload_n hX dX5_init_69 rfl rfl ?_
  refine km_iconst (v := 2) hX dX5_init_70 (by decide) ?_
  refine km_newa (N := 2) (q := 32) (sh' := SH.take 33) hX dX5_init_71 aX5_init (by decide) (by decide) (by decide) rfl rfl (km_zi hf (l := [(27, 0, 0), (27, 1, 0), (27, 2, 0), (27, 3, 0), (27, 4, 0), (27, 5, 0), (27, 8, 0)]) (q := 32) [27, 27, 27, 27, 27, 27, 27] rfl (by decide) (by decide)) (by decide) (by decide) ?_
  refine km_putrF (q := 32) hX pX5_init_46 rfl rfl (fun _ => ⟨rfl, rfl⟩) (hin rfl) dX5_init_73 ?_
  refine km_aload_n hX dX5_init_76 rfl rfl ?_
  refine km_iconst (v := 2) hX dX5_init_77 (by decide) ?_
  refine km_newa (N := 2) (q := 33) (sh' := SH.take 34) hX dX5_init_78 aX5_init (by decide) (by decide) (by decide) rfl rfl (km_zi hf (l := [(27, 0, 0), (27, 1, 0), (27, 2, 0), (27, 3, 0), (27, 4, 0), (27, 5, 0), (27, 8, 0)]) (q := 33) [27, 27, 27, 27, 27, 27, 27] rfl (by decide) (by decide)) (by decide) (by decide) ?_
  refine km_putrF (q := 33) hX pX5_init_49 rfl rfl (fun _ => ⟨rfl, rfl⟩) (hin rfl) dX5_init_80 ?_
  exact km_vret hX hF rfl dX5_init_83 ⟨rfl, rfl, rfl, rfl⟩ (by decide) (by decide)
set_option maxHeartbeats 4000000 in
set_option maxRecDepth 100000 in
theorem X5_init_39 {E : km_E} {l : Launch} {mi : km_I} {mr : km_R} (hf : km_fresh 40 mi mr) : km_C E l yX5_init wsX5_init rmX5_init [.ref 39] (SH.take 40) mi mr (fun r sh' mi' mr' => r = none ∧ sh' = SH.take 46 ∧ mi' = km_us mi [(39, 0, 0), (39, 1, 0), (39, 2, 0), (39, 3, 0), (39, 4, 0), (39, 5, 0), (39, 8, 0)] ∧ mr' = km_urs mr [(39, 6, 40), (39, 7, 41), (39, 9, 42), (39, 10, 43), (39, 11, 44), (39, 12, 45)]) := by
  refine km_start (cc := cX5_init) (maxL := 1) (ret := none) (by decide) rfl (Nat.le_of_ble_eq_true rfl) ?_
  intro X hl hX hF hin
  subst hl
  refine km_aload_n hX dX5_init_0 rfl rfl ?_
  refine km_objinit hX dX5_init_1 oX5_init.1 oX5_init.2.1 oX5_init.2.2 (by decide) (by decide) ?_
  refine km_aload_n hX dX5_init_4 rfl rfl ?_
  refine km_iconst (v := 0) hX dX5_init_5 (by decide) ?_
  refine km_puti hX pX5_init_9 rfl rfl dX5_init_6 ?_
  refine km_aload_n hX dX5_init_9 rfl rfl ?_
  refine km_iconst (v := 0) hX dX5_init_10 (by decide) ?_
  refine km_puti hX pX5_init_15 rfl rfl dX5_init_11 ?_
  refine km_aload_n hX dX5_init_14 rfl rfl ?_
  refine km_iconst (v := 0) hX dX5_init_15 (by decide) ?_
  refine km_puti hX pX5_init_18 rfl rfl dX5_init_16 ?_
  refine km_aload_n hX dX5_init_19 rfl rfl ?_
  refine km_iconst (v := 0) hX dX5_init_20 (by decide) ?_
  refine km_puti hX pX5_init_21 rfl rfl dX5_init_21 ?_
  refine km_aload_n hX dX5_init_24 rfl rfl ?_
  refine km_iconst (v := 0) hX dX5_init_25 (by decide) ?_
  refine km_puti hX pX5_init_24 rfl rfl dX5_init_26 ?_
  refine km_aload_n hX dX5_init_29 rfl rfl ?_
  refine km_iconst (v := 0) hX dX5_init_30 (by decide) ?_
  refine km_puti hX pX5_init_27 rfl rfl dX5_init_31 ?_
  refine km_aload_n hX dX5_init_34 rfl rfl ?_
  refine km_bipush (v := 40) hX dX5_init_35 (by decide) ?_
  refine km_newa (N := 40) (q := 40) (sh' := SH.take 41) hX dX5_init_37 aX5_init (by decide) (by decide) (by decide) rfl rfl (km_zi hf (l := [(39, 0, 0), (39, 1, 0), (39, 2, 0), (39, 3, 0), (39, 4, 0), (39, 5, 0)]) (q := 40) [39, 39, 39, 39, 39, 39] rfl (by decide) (by decide)) (by decide) (by decide) ?_
  refine km_putrF (q := 40) hX pX5_init_30 rfl rfl (fun _ => ⟨rfl, rfl⟩) (hin rfl) dX5_init_39 ?_
  refine km_aload_n hX dX5_init_42 rfl rfl ?_
  refine km_bipush (v := 40) hX dX5_init_43 (by decide) ?_
  refine km_newa (N := 40) (q := 41) (sh' := SH.take 42) hX dX5_init_45 aX5_init (by decide) (by decide) (by decide) rfl rfl (km_zi hf (l := [(39, 0, 0), (39, 1, 0), (39, 2, 0), (39, 3, 0), (39, 4, 0), (39, 5, 0)]) (q := 41) [39, 39, 39, 39, 39, 39] rfl (by decide) (by decide)) (by decide) (by decide) ?_
  refine km_putrF (q := 41) hX pX5_init_34 rfl rfl (fun _ => ⟨rfl, rfl⟩) (hin rfl) dX5_init_47 ?_
  refine km_aload_n hX dX5_init_50 rfl rfl ?_
  refine km_iconst (v := 0) hX dX5_init_51 (by decide) ?_
  refine km_puti hX pX5_init_37 rfl rfl dX5_init_52 ?_
  refine km_aload_n hX dX5_init_55 rfl rfl ?_
  refine km_iconst (v := 2) hX dX5_init_56 (by decide) ?_
  refine km_newa (N := 2) (q := 42) (sh' := SH.take 43) hX dX5_init_57 aX5_init (by decide) (by decide) (by decide) rfl rfl (km_zi hf (l := [(39, 0, 0), (39, 1, 0), (39, 2, 0), (39, 3, 0), (39, 4, 0), (39, 5, 0), (39, 8, 0)]) (q := 42) [39, 39, 39, 39, 39, 39, 39] rfl (by decide) (by decide)) (by decide) (by decide) ?_
  refine km_putrF (q := 42) hX pX5_init_40 rfl rfl (fun _ => ⟨rfl, rfl⟩) (hin rfl) dX5_init_59 ?_
  refine km_aload_n hX dX5_init_62 rfl rfl ?_
  refine km_iconst (v := 2) hX dX5_init_63 (by decide) ?_
  refine km_newa (N := 2) (q := 43) (sh' := SH.take 44) hX dX5_init_64 aX5_init (by decide) (by decide) (by decide) rfl rfl (km_zi hf (l := [(39, 0, 0), (39, 1, 0), (39, 2, 0), (39, 3, 0), (39, 4, 0), (39, 5, 0), (39, 8, 0)]) (q := 43) [39, 39, 39, 39, 39, 39, 39] rfl (by decide) (by decide)) (by decide) (by decide) ?_
  refine km_putrF (q := 43) hX pX5_init_43 rfl rfl (fun _ => ⟨rfl, rfl⟩) (hin rfl) dX5_init_66 ?_
  refine km_aload_n hX dX5_init_69 rfl rfl ?_
  refine km_iconst (v := 2) hX dX5_init_70 (by decide) ?_
  refine km_newa (N := 2) (q := 44) (sh' := SH.take 45) hX dX5_init_71 aX5_init (by decide) (by decide) (by decide) rfl rfl (km_zi hf (l := [(39, 0, 0), (39, 1, 0), (39, 2, 0), (39, 3, 0), (39, 4, 0), (39, 5, 0), (39, 8, 0)]) (q := 44) [39, 39, 39, 39, 39, 39, 39] rfl (by decide) (by decide)) (by decide) (by decide) ?_
  refine km_putrF (q := 44) hX pX5_init_46 rfl rfl (fun _ => ⟨rfl, rfl⟩) (hin rfl) dX5_init_73 ?_
  refine km_aload_n hX dX5_init_76 rfl rfl ?_
  refine km_iconst (v := 2) hX dX5_init_77 (by decide) ?_
  refine km_newa (N := 2) (q := 45) (sh' := SH.take 46) hX dX5_init_78 aX5_init (by decide) (by decide) (by decide) rfl rfl (km_zi hf (l := [(39, 0, 0), (39, 1, 0), (39, 2, 0), (39, 3, 0), (39, 4, 0), (39, 5, 0), (39, 8, 0)]) (q := 45) [39, 39, 39, 39, 39, 39, 39] rfl (by decide) (by decide)) (by decide) (by decide) ?_
  refine km_putrF (q := 45) hX pX5_init_49 rfl rfl (fun _ => ⟨rfl, rfl⟩) (hin rfl) dX5_init_80 ?_
  exact km_vret hX hF rfl dX5_init_83 ⟨rfl, rfl, rfl, rfl⟩ (by decide) (by decide)
set_option maxHeartbeats 4000000 in
set_option maxRecDepth 100000 in
theorem X5_init_51 {E : km_E} {l : Launch} {mi : km_I} {mr : km_R} (hf : km_fresh 52 mi mr) : km_C E l yX5_init wsX5_init rmX5_init [.ref 51] (SH.take 52) mi mr (fun r sh' mi' mr' => r = none ∧ sh' = SH.take 58 ∧ mi' = km_us mi [(51, 0, 0), (51, 1, 0), (51, 2, 0), (51, 3, 0), (51, 4, 0), (51, 5, 0), (51, 8, 0)] ∧ mr' = km_urs mr [(51, 6, 52), (51, 7, 53), (51, 9, 54), (51, 10, 55), (51, 11, 56), (51, 12, 57)]) := by
  refine km_start (cc := cX5_init) (maxL := 1) (ret := none) (by decide) rfl (Nat.le_of_ble_eq_true rfl) ?_
  intro X hl hX hF hin
  subst hl
  refine km_aload_n hX dX5_init_0 rfl rfl ?_
  refine km_objinit hX dX5_init_1 oX5_init.1 oX5_init.2.1 oX5_init.2.2 (by decide) (by decide) ?_
  refine km_aload_n hX dX5_init_4 rfl rfl ?_
  refine km_iconst (v := 0) hX dX5_init_5 (by decide) ?_
  refine km_puti hX pX5_init_9 rfl rfl dX5_init_6 ?_
  refine km_aload_n hX dX5_init_9 rfl rfl ?_
  refine km_iconst (v := 0) hX dX5_init_10 (by decide) ?_
  refine km_puti hX pX5_init_15 rfl rfl dX5_init_11 ?_
  refine km_aload_n hX dX5_init_14 rfl rfl ?_
  refine km_iconst (v := 0) hX dX5_init_15 (by decide) ?_
  refine km_puti hX pX5_init_18 rfl rfl dX5_init_16 ?_
  refine km_aload_n hX dX5_init_19 rfl rfl ?_
  refine km_iconst (v := 0) hX dX5_init_20 (by decide) ?_
  refine km_puti hX pX5_init_21 rfl rfl dX5_init_21 ?_
  refine km_aload_n hX dX5_init_24 rfl rfl ?_
  refine km_iconst (v := 0) hX dX5_init_25 (by decide) ?_
  refine km_puti hX pX5_init_24 rfl rfl dX5_init_26 ?_
  refine km_aload_n hX dX5_init_29 rfl rfl ?_
  refine km_iconst (v := 0) hX dX5_init_30 (by decide) ?_
  refine km_puti hX pX5_init_27 rfl rfl dX5_init_31 ?_
  refine km_aload_n hX dX5_init_34 rfl rfl ?_
  refine km_bipush (v := 40) hX dX5_init_35 (by decide) ?_
  refine km_newa (N := 40) (q := 52) (sh' := SH.take 53) hX dX5_init_37 aX5_init (by decide) (by decide) (by decide) rfl rfl (km_zi hf (l := [(51, 0, 0), (51, 1, 0), (51, 2, 0), (51, 3, 0), (51, 4, 0), (51, 5, 0)]) (q := 52) [51, 51, 51, 51, 51, 51] rfl (by decide) (by decide)) (by decide) (by decide) ?_
  refine km_putrF (q := 52) hX pX5_init_30 rfl rfl (fun _ => ⟨rfl, rfl⟩) (hin rfl) dX5_init_39 ?_
  refine km_aload_n hX dX5_init_42 rfl rfl ?_
  refine km_bipush (v := 40) hX dX5_init_43 (by decide) ?_
  refine km_newa (N := 40) (q := 53) (sh' := SH.take 54) hX dX5_init_45 aX5_init (by decide) (by decide) (by decide) rfl rfl (km_zi hf (l := [(51, 0, 0), (51, 1, 0), (51, 2, 0), (51, 3, 0), (51, 4, 0), (51, 5, 0)]) (q := 53) [51, 51, 51, 51, 51, 51] rfl (by decide) (by decide)) (by decide) (by decide) ?_
  refine km_putrF (q := 53) hX pX5_init_34 rfl rfl (fun _ => ⟨rfl, rfl⟩) (hin rfl) dX5_init_47 ?_
  refine km_aload_n hX dX5_init_50 rfl rfl ?_
  refine km_iconst (v := 0) hX dX5_init_51 (by decide) ?_
  refine km_puti hX pX5_init_37 rfl rfl dX5_init_52 ?_
  refine km_aload_n hX dX5_init_55 rfl rfl ?_
  refine km_iconst (v := 2) hX dX5_init_56 (by decide) ?_
  refine km_newa (N := 2) (q := 54) (sh' := SH.take 55) hX dX5_init_57 aX5_init (by decide) (by decide) (by decide) rfl rfl (km_zi hf (l := [(51, 0, 0), (51, 1, 0), (51, 2, 0), (51, 3, 0), (51, 4, 0), (51, 5, 0), (51, 8, 0)]) (q := 54) [51, 51, 51, 51, 51, 51, 51] rfl (by decide) (by decide)) (by decide) (by decide) ?_
  refine km_putrF (q := 54) hX pX5_init_40 rfl rfl (fun _ => ⟨rfl, rfl⟩) (hin rfl) dX5_init_59 ?_
  refine km_aload_n hX dX5_init_62 rfl rfl ?_
  refine km_iconst (v := 2) hX dX5_init_63 (by decide) ?_
  refine km_newa (N := 2) (q := 55) (sh' := SH.take 56) hX dX5_init_64 aX5_init (by decide) (by decide) (by decide) rfl rfl (km_zi hf (l := [(51, 0, 0), (51, 1, 0), (51, 2, 0), (51, 3, 0), (51, 4, 0), (51, 5, 0), (51, 8, 0)]) (q := 55) [51, 51, 51, 51, 51, 51, 51] rfl (by decide) (by decide)) (by decide) (by decide) ?_
  refine km_putrF (q := 55) hX pX5_init_43 rfl rfl (fun _ => ⟨rfl, rfl⟩) (hin rfl) dX5_init_66 ?_
  refine km_aload_n hX dX5_init_69 rfl rfl ?_
  refine km_iconst (v := 2) hX dX5_init_70 (by decide) ?_
  refine km_newa (N := 2) (q := 56) (sh' := SH.take 57) hX dX5_init_71 aX5_init (by decide) (by decide) (by decide) rfl rfl (km_zi hf (l := [(51, 0, 0), (51, 1, 0), (51, 2, 0), (51, 3, 0), (51, 4, 0), (51, 5, 0), (51, 8, 0)]) (q := 56) [51, 51, 51, 51, 51, 51, 51] rfl (by decide) (by decide)) (by decide) (by decide) ?_
  refine km_putrF (q := 56) hX pX5_init_46 rfl rfl (fun _ => ⟨rfl, rfl⟩) (hin rfl) dX5_init_73 ?_
  refine km_aload_n hX dX5_init_76 rfl rfl ?_
  refine km_iconst (v := 2) hX dX5_init_77 (by decide) ?_
  refine km_newa (N := 2) (q := 57) (sh' := SH.take 58) hX dX5_init_78 aX5_init (by decide) (by decide) (by decide) rfl rfl (km_zi hf (l := [(51, 0, 0), (51, 1, 0), (51, 2, 0), (51, 3, 0), (51, 4, 0), (51, 5, 0), (51, 8, 0)]) (q := 57) [51, 51, 51, 51, 51, 51, 51] rfl (by decide) (by decide)) (by decide) (by decide) ?_
  refine km_putrF (q := 57) hX pX5_init_49 rfl rfl (fun _ => ⟨rfl, rfl⟩) (hin rfl) dX5_init_80 ?_
  exact km_vret hX hF rfl dX5_init_83 ⟨rfl, rfl, rfl, rfl⟩ (by decide) (by decide)
set_option maxHeartbeats 4000000 in
set_option maxRecDepth 100000 in
theorem X5_init_63 {E : km_E} {l : Launch} {mi : km_I} {mr : km_R} (hf : km_fresh 64 mi mr) : km_C E l yX5_init wsX5_init rmX5_init [.ref 63] (SH.take 64) mi mr (fun r sh' mi' mr' => r = none ∧ sh' = SH.take 70 ∧ mi' = km_us mi [(63, 0, 0), (63, 1, 0), (63, 2, 0), (63, 3, 0), (63, 4, 0), (63, 5, 0), (63, 8, 0)] ∧ mr' = km_urs mr [(63, 6, 64), (63, 7, 65), (63, 9, 66), (63, 10, 67), (63, 11, 68), (63, 12, 69)]) := by
  refine km_start (cc := cX5_init) (maxL := 1) (ret := none) (by decide) rfl (Nat.le_of_ble_eq_true rfl) ?_
  intro X hl hX hF hin
  subst hl
  refine km_aload_n hX dX5_init_0 rfl rfl ?_
  refine km_objinit hX dX5_init_1 oX5_init.1 oX5_init.2.1 oX5_init.2.2 (by decide) (by decide) ?_
  refine km_aload_n hX dX5_init_4 rfl rfl ?_
  refine km_iconst (v := 0) hX dX5_init_5 (by decide) ?_
  refine km_puti hX pX5_init_9 rfl rfl dX5_init_6 ?_
  refine km_aload_n hX dX5_init_9 rfl rfl ?_
  refine km_iconst (v := 0) hX dX5_init_10 (by decide) ?_
  refine km_puti hX pX5_init_15 rfl rfl dX5_init_11 ?_
  refine km_aload_n hX dX5_init_14 rfl rfl ?_
  refine km_iconst (v := 0) hX dX5_init_15 (by decide) ?_
  refine km_puti hX pX5_init_18 rfl rfl dX5_init_16 ?_
  refine km_aload_n hX dX5_init_19 rfl rfl ?_
  refine km_iconst (v := 0) hX dX5_init_20 (by decide) ?_
  refine km_puti hX pX5_init_21 rfl rfl dX5_init_21 ?_
  refine km_aload_n hX dX5_init_24 rfl rfl ?_
  refine km_iconst (v := 0) hX dX5_init_25 (by decide) ?_
  refine km_puti hX pX5_init_24 rfl rfl dX5_init_26 ?_
  refine km_aload_n hX dX5_init_29 rfl rfl ?_
  refine km_iconst (v := 0) hX dX5_init_30 (by decide) ?_
  refine km_puti hX pX5_init_27 rfl rfl dX5_init_31 ?_
  refine km_aload_n hX dX5_init_34 rfl rfl ?_
  refine km_bipush (v := 40) hX dX5_init_35 (by decide) ?_
  refine km_newa (N := 40) (q := 64) (sh' := SH.take 65) hX dX5_init_37 aX5_init (by decide) (by decide) (by decide) rfl rfl (km_zi hf (l := [(63, 0, 0), (63, 1, 0), (63, 2, 0), (63, 3, 0), (63, 4, 0), (63, 5, 0)]) (q := 64) [63, 63, 63, 63, 63, 63] rfl (by decide) (by decide)) (by decide) (by decide) ?_
  refine km_putrF (q := 64) hX pX5_init_30 rfl rfl (fun _ => ⟨rfl, rfl⟩) (hin rfl) dX5_init_39 ?_
  refine km_aload_n hX dX5_init_42 rfl rfl ?_
  refine km_bipush (v := 40) hX dX5_init_43 (by decide) ?_
  refine km_newa (N := 40) (q := 65) (sh' := SH.take 66) hX dX5_init_45 aX5_init (by decide) (by decide) (by decide) rfl rfl (km_zi hf (l := [(63, 0, 0), (63, 1, 0), (63, 2, 0), (63, 3, 0), (63, 4, 0), (63, 5, 0)]) (q := 65) [63, 63, 63, 63, 63, 63] rfl (by decide) (by decide)) (by decide) (by decide) ?_
  refine km_putrF (q := 65) hX pX5_init_34 rfl rfl (fun _ => ⟨rfl, rfl⟩) (hin rfl) dX5_init_47 ?_
  refine km_aload_n hX dX5_init_50 rfl rfl ?_
  refine km_iconst (v := 0) hX dX5_init_51 (by decide) ?_
  refine km_puti hX pX5_init_37 rfl rfl dX5_init_52 ?_
  refine km_aload_n hX dX5_init_55 rfl rfl ?_
  refine km_iconst (v := 2) hX dX5_init_56 (by decide) ?_
  refine km_newa (N := 2) (q := 66) (sh' := SH.take 67) hX dX5_init_57 aX5_init (by decide) (by decide) (by decide) rfl rfl (km_zi hf (l := [(63, 0, 0), (63, 1, 0), (63, 2, 0), (63, 3, 0), (63, 4, 0), (63, 5, 0), (63, 8, 0)]) (q := 66) [63, 63, 63, 63, 63, 63, 63] rfl (by decide) (by decide)) (by decide) (by decide) ?_
  refine km_putrF (q := 66) hX pX5_init_40 rfl rfl (fun _ => ⟨rfl, rfl⟩) (hin rfl) dX5_init_59 ?_
  refine km_aload_n hX dX5_init_62 rfl rfl ?_
  refine km_iconst (v := 2) hX dX5_init_63 (by decide) ?_
  refine km_newa (N := 2) (q := 67) (sh' := SH.take 68) hX dX5_init_64 aX5_init (by decide) (by decide) (by decide) rfl rfl (km_zi hf (l := [(63, 0, 0), (63, 1, 0), (63, 2, 0), (63, 3, 0), (63, 4, 0), (63, 5, 0), (63, 8, 0)]) (q := 67) [63, 63, 63, 63, 63, 63, 63] rfl (by decide) (by decide)) (by decide) (by decide) ?_
  refine km_putrF (q := 67) hX pX5_init_43 rfl rfl (fun _ => ⟨rfl, rfl⟩) (hin rfl) dX5_init_66 ?_
  refine km_aload_n hX dX5_init_69 rfl rfl ?_
  refine km_iconst (v := 2) hX dX5_init_70 (by decide) ?_
  refine km_newa (N := 2) (q := 68) (sh' := SH.take 69) hX dX5_init_71 aX5_init (by decide) (by decide) (by decide) rfl rfl (km_zi hf (l := [(63, 0, 0), (63, 1, 0), (63, 2, 0), (63, 3, 0), (63, 4, 0), (63, 5, 0), (63, 8, 0)]) (q := 68) [63, 63, 63, 63, 63, 63, 63] rfl (by decide) (by decide)) (by decide) (by decide) ?_
  refine km_putrF (q := 68) hX pX5_init_46 rfl rfl (fun _ => ⟨rfl, rfl⟩) (hin rfl) dX5_init_73 ?_
  refine km_aload_n hX dX5_init_76 rfl rfl ?_
  refine km_iconst (v := 2) hX dX5_init_77 (by decide) ?_
  refine km_newa (N := 2) (q := 69) (sh' := SH.take 70) hX dX5_init_78 aX5_init (by decide) (by decide) (by decide) rfl rfl (km_zi hf (l := [(63, 0, 0), (63, 1, 0), (63, 2, 0), (63, 3, 0), (63, 4, 0), (63, 5, 0), (63, 8, 0)]) (q := 69) [63, 63, 63, 63, 63, 63, 63] rfl (by decide) (by decide)) (by decide) (by decide) ?_
  refine km_putrF (q := 69) hX pX5_init_49 rfl rfl (fun _ => ⟨rfl, rfl⟩) (hin rfl) dX5_init_80 ?_
  exact km_vret hX hF rfl dX5_init_83 ⟨rfl, rfl, rfl, rfl⟩ (by decide) (by decide)
set_option maxHeartbeats 4000000 in
set_option maxRecDepth 100000 in
theorem X5_init_75 {E : km_E} {l : Launch} {mi : km_I} {mr : km_R} (hf : km_fresh 76 mi mr) : km_C E l yX5_init wsX5_init rmX5_init [.ref 75] (SH.take 76) mi mr (fun r sh' mi' mr' => r = none ∧ sh' = SH.take 82 ∧ mi' = km_us mi [(75, 0, 0), (75, 1, 0), (75, 2, 0), (75, 3, 0), (75, 4, 0), (75, 5, 0), (75, 8, 0)] ∧ mr' = km_urs mr [(75, 6, 76), (75, 7, 77), (75, 9, 78), (75, 10, 79), (75, 11, 80), (75, 12, 81)]) := by
  refine km_start (cc := cX5_init) (maxL := 1) (ret := none) (by decide) rfl (Nat.le_of_ble_eq_true rfl) ?_
  intro X hl hX hF hin
  subst hl
  refine km_aload_n hX dX5_init_0 rfl rfl ?_
  refine km_objinit hX dX5_init_1 oX5_init.1 oX5_init.2.1 oX5_init.2.2 (by decide) (by decide) ?_
  refine km_aload_n hX dX5_init_4 rfl rfl ?_
  refine km_iconst (v := 0) hX dX5_init_5 (by decide) ?_
  refine km_puti hX pX5_init_9 rfl rfl dX5_init_6 ?_
  refine km_aload_n hX dX5_init_9 rfl rfl ?_
  refine km_iconst (v := 0) hX dX5_init_10 (by decide) ?_
  refine km_puti hX pX5_init_15 rfl rfl dX5_init_11 ?_
  refine km_aload_n hX dX5_init_14 rfl rfl ?_
  refine km_iconst (v := 0) hX dX5_init_15 (by decide) ?_
  refine km_puti hX pX5_init_18 rfl rfl dX5_init_16 ?_
  refine km_aload_n hX dX5_init_19 rfl rfl ?_
  refine km_iconst (v := 0) hX dX5_init_20 (by decide) ?_
  refine km_puti hX pX5_init_21 rfl rfl dX5_init_21 ?_
  refine km_aload_n hX dX5_init_24 rfl rfl ?_
  refine km_iconst (v := 0) hX dX5_init_25 (by decide) ?_
  refine km_puti hX pX5_init_24 rfl rfl dX5_init_26 ?_
  refine km_aload_n hX dX5_init_29 rfl rfl ?_
  refine km_iconst (v := 0) hX dX5_init_30 (by decide) ?_
  refine km_puti hX pX5_init_27 rfl rfl dX5_init_31 ?_
  refine km_aload_n hX dX5_init_34 rfl rfl ?_
  refine km_bipush (v := 40) hX dX5_init_35 (by decide) ?_
  refine km_newa (N := 40) (q := 76) (sh' := SH.take 77) hX dX5_init_37 aX5_init (by decide) (by decide) (by decide) rfl rfl (km_zi hf (l := [(75, 0, 0), (75, 1, 0), (75, 2, 0), (75, 3, 0), (75, 4, 0), (75, 5, 0)]) (q := 76) [75, 75, 75, 75, 75, 75] rfl (by decide) (by decide)) (by decide) (by decide) ?_
  refine km_putrF (q := 76) hX pX5_init_30 rfl rfl (fun _ => ⟨rfl, rfl⟩) (hin rfl) dX5_init_39 ?_
  refine km_aload_n hX dX5_init_42 rfl rfl ?_
  refine km_bipush (v := 40) hX dX5_init_43 (by decide) ?_
  refine km_newa (N := 40) (q := 77) (sh' := SH.take 78) hX dX5_init_45 aX5_init (by decide) (by decide) (by decide) rfl rfl (km_zi hf (l := [(75, 0, 0), (75, 1, 0), (75, 2, 0), (75, 3, 0), (75, 4, 0), (75, 5, 0)]) (q := 77) [75, 75, 75, 75, 75, 75] rfl (by decide) (by decide)) (by decide) (by decide) ?_
  refine km_putrF (q := 77) hX pX5_init_34 rfl rfl (fun _ => ⟨rfl, rfl⟩) (hin rfl) dX5_init_47 ?_
  refine km_aload_n hX dX5_init_50 rfl rfl ?_
  refine km_iconst (v := 0) hX dX5_init_51 (by decide) ?_
  refine km_puti hX pX5_init_37 rfl rfl dX5_init_52 ?_
  refine km_aload_n hX dX5_init_55 rfl rfl ?_
  refine km_iconst (v := 2) hX dX5_init_56 (by decide) ?_
  refine km_newa (N := 2) (q := 78) (sh' := SH.take 79) hX dX5_init_57 aX5_init (by decide) (by decide) (by decide) rfl rfl (km_zi hf (l := [(75, 0, 0), (75, 1, 0), (75, 2, 0), (75, 3, 0), (75, 4, 0), (75, 5, 0), (75, 8, 0)]) (q := 78) [75, 75, 75, 75, 75, 75, 75] rfl (by decide) (by decide)) (by decide) (by decide) ?_
  refine km_putrF (q := 78) hX pX5_init_40 rfl rfl (fun _ => ⟨rfl, rfl⟩) (hin rfl) dX5_init_59 ?_
  refine km_aload_n hX dX5_init_62 rfl rfl ?_
  refine km_iconst (v := 2) hX dX5_init_63 (by decide) ?_
  refine km_newa (N := 2) (q := 79) (sh' := SH.take 80) hX dX5_init_64 aX5_init (by decide) (by decide) (by decide) rfl rfl (km_zi hf (l := [(75, 0, 0), (75, 1, 0), (75, 2, 0), (75, 3, 0), (75, 4, 0), (75, 5, 0), (75, 8, 0)]) (q := 79) [75, 75, 75, 75, 75, 75, 75] rfl (by decide) (by decide)) (by decide) (by decide) ?_
  refine km_putrF (q := 79) hX pX5_init_43 rfl rfl (fun _ => ⟨rfl, rfl⟩) (hin rfl) dX5_init_66 ?_
  refine km_aload_n hX dX5_init_69 rfl rfl ?_
  refine km_iconst (v := 2) hX dX5_init_70 (by decide) ?_
  refine km_newa (N := 2) (q := 80) (sh' := SH.take 81) hX dX5_init_71 aX5_init (by decide) (by decide) (by decide) rfl rfl (km_zi hf (l := [(75, 0, 0), (75, 1, 0), (75, 2, 0), (75, 3, 0), (75, 4, 0), (75, 5, 0), (75, 8, 0)]) (q := 80) [75, 75, 75, 75, 75, 75, 75] rfl (by decide) (by decide)) (by decide) (by decide) ?_
  refine km_putrF (q := 80) hX pX5_init_46 rfl rfl (fun _ => ⟨rfl, rfl⟩) (hin rfl) dX5_init_73 ?_
  refine km_aload_n hX dX5_init_76 rfl rfl ?_
  refine km_iconst (v := 2) hX dX5_init_77 (by decide) ?_
  refine km_newa (N := 2) (q := 81) (sh' := SH.take 82) hX dX5_init_78 aX5_init (by decide) (by decide) (by decide) rfl rfl (km_zi hf (l := [(75, 0, 0), (75, 1, 0), (75, 2, 0), (75, 3, 0), (75, 4, 0), (75, 5, 0), (75, 8, 0)]) (q := 81) [75, 75, 75, 75, 75, 75, 75] rfl (by decide) (by decide)) (by decide) (by decide) ?_
  refine km_putrF (q := 81) hX pX5_init_49 rfl rfl (fun _ => ⟨rfl, rfl⟩) (hin rfl) dX5_init_80 ?_
  exact km_vret hX hF rfl dX5_init_83 ⟨rfl, rfl, rfl, rfl⟩ (by decide) (by decide)
