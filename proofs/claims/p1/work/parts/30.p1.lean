/-! p1: the fresh memory, call by call -/
abbrev kz_M (w mk : Int32) : km_I := km_M0 w mk w mk
theorem kz_14 (w mk : Int32) : ∀ p, p < 4 → kz_M w mk 14 p = nI p := by
  intro p hp
  rcases p with _ | _ | _ | _ | p
  · rfl
  · rfl
  · rfl
  · rfl
  · omega
theorem kz_16 (w mk : Int32) : ∀ p, p < 4 → kz_M w mk 16 p = nI p := by
  intro p hp
  rcases p with _ | _ | _ | _ | p
  · rfl
  · rfl
  · rfl
  · rfl
  · omega
theorem kz_93 (w mk : Int32) : ∀ p, p < 4 → kz_M w mk 93 p = nI p := by
  intro p hp
  rcases p with _ | _ | _ | _ | p
  · rfl
  · exact (by decide : (0 + 1 : Int32) = nI 1)
  · exact (by decide : ((0 + 1) + 1 : Int32) = nI 2)
  · exact (by decide : (((0 + 1) + 1) + 1 : Int32) = nI 3)
  · omega
theorem kz_25 (w mk : Int32) : ∀ p, p < 5 → kz_M w mk 25 p = -1 := by
  intro p hp
  rcases p with _ | _ | _ | _ | _ | p
  · rfl
  · rfl
  · rfl
  · rfl
  · rfl
  · omega
set_option maxHeartbeats 1000000 in
theorem kz_p1 {E : km_E} {w mk : Int32} (hE : E.2.2.1 2 = 8) : L_law_b28 E 2 1 (kz_M w mk) := by
  have nx : ∀ m, L_law_b647 E (fun v0 m => L_law_b28 E 1 v0 m) 1 m := fun m => by
    unfold L_law_b647
    refine ⟨fun _ => trivial, fun c => absurd ?_ c⟩
    rw [hE]
    decide
  have cmp : ∀ (r r' : Int32) m, r = r' → ((r = r' → L_law_b647 E (fun v0 m => L_law_b28 E 1 v0 m) 1 m) ∧ (¬ r = r' → False)) := fun r r' m e => ⟨fun _ => nx m, fun c => c e⟩
  have v : ∀ k, k < 8 → vp_in (nI k) (E.2.2.1 2) := fun k hk => by rw [hE]; exact vp_in_nI hk (by decide)
  have v0 : vp_in 1 (E.2.2.1 2) := v 1 (by decide)
  have v1 : vp_in (1 + 1) (E.2.2.1 2) := v 2 (by decide)
  have v2 : vp_in (1 + 2) (E.2.2.1 2) := v 3 (by decide)
  have v3 : vp_in (1 + 3) (E.2.2.1 2) := v 4 (by decide)
  have v4 : vp_in (1 + 4) (E.2.2.1 2) := v 5 (by decide)
  have v5 : vp_in (1 + 5) (E.2.2.1 2) := v 6 (by decide)
  have v6 : vp_in (1 + 6) (E.2.2.1 2) := v 7 (by decide)
  have h1 : kz_M w mk 1 0 = 0 := rfl
  have h7 : kz_M w mk 7 0 = 0 := rfl
  have h87 : ∀ j, kz_M w mk 87 j = 0 := fun j => rfl
  refine ⟨fun _ => trivial, fun c => ⟨v0, fun _ => nx _, fun _ => ⟨v1, ?_⟩, fun _ => ⟨v1, v2, v3, v4, v5, v6, ?_⟩, fun _ => ⟨v1, v2, ?_⟩, fun _ => ⟨v1, v2, v3, v4, ?_⟩, fun _ => ⟨v1, ?_⟩, fun _ => ⟨v1, v2, ?_⟩, fun _ => ⟨v1, v2, ?_⟩, fun _ => ⟨v1, v2, ?_⟩, fun _ => ⟨v1, v2, ?_⟩, fun _ => ⟨v1, ?_⟩, fun _ => ⟨v1, ?_⟩, fun _ => ⟨v1, v2, ?_⟩, fun _ => ⟨v1, v2, ?_⟩, fun _ => ?_, fun _ => ?_, fun _ => ⟨v1, ?_⟩, fun _ => ⟨v1, ?_⟩⟩⟩
  · -- method
    generalize E.2.2.2.1 2 (Int32.toNatClampNeg (1 + 1)) = x
    have r : ∀ (b : Nat), b ≠ 87 → (0 : Int32) ≤ x → x ≤ 1 → kz_M w mk b 0 = 0 → ((¬ (kz_M w mk b 0) = 6 → X0_addMethod_w b (kz_M w mk) (fun r33 m33 => vp_in (1 + 1) (E.2.2.1 2) ∧ X7_method_w x m33 (fun r139 m139 => ((r33 = r139 → L_law_b647 E (fun v0 m => L_law_b28 E 1 v0 m) 1 m139) ∧ (¬ r33 = r139 → False))))) ∧ ((kz_M w mk b 0) = 6 → vp_in (1 + 1) (E.2.2.1 2) ∧ X7_method_w x (kz_M w mk) (fun r139 m139 => (((-104) = r139 → L_law_b647 E (fun v0 m => L_law_b28 E 1 v0 m) 1 m139) ∧ (¬ (-104) = r139 → False))))) := by
      intro b hb a1 a2 hbm
      refine ⟨fun _ m8 e8 => ⟨v1, ?_⟩, fun c => absurd (hbm.symm.trans c) (by decide)⟩
      have e87 : ∀ j, m8 87 j = 0 := fun j => by rw [e8, km_u_p (fun e => hb e.symm)]; rfl
      obtain ⟨k, hk, rfl⟩ := kz_nb (n := 1) (by decide) a1 a2
      have vk : vp_in (nI k) 2 := vp_in_nI hk (by decide)
      rw [hbm]
      refine kz_in (fun _ _ => kz_ifn1 ⟨vk, ?_⟩) (fun c => (kz_out c a1 a2).elim)
      rw [e87]
      refine ⟨fun _ => ⟨vk, ?_, fun m44 e44 => ⟨vk, vk, fun m54 e54 => cmp _ _ _ rfl⟩⟩, fun c => absurd c (by decide)⟩
      rw [show (6 : Int32) = nI 6 from rfl, nx_mul, show (0 : Int32) = nI 0 from rfl, nI_add]
      exact vp_in_nI (by omega) (by decide)
    refine kz_within (fun a1 a2 => kz_ifn1 ?_) (fun o => kz_ifn0 ⟨v1, kz_in (fun a1 a2 => (kz_out o a1 a2).elim) (fun _ => kz_ifn0 (cmp _ _ _ rfl))⟩)
    exact ⟨fun _ => ⟨Or.inr rfl, r 7 (by decide) a1 a2 h7⟩, fun _ => ⟨Or.inl rfl, r 1 (by decide) a1 a2 h1⟩⟩
  · -- op
    unfold X6_op_w X7_op_w
    exact kz6_isMethod h1 h7 (kz_ifn0 ⟨v1, v2, v3, v4, v5, v6, kz7_isMethod h87 (kz_ifn0 (cmp _ _ _ rfl))⟩)
  · -- clear
    unfold X6_clear_w X7_clear_w
    exact kz6_isMethod h1 h7 (kz_if0 ⟨v1, v2, kz7_isMethod h87 (kz_ifn0 (cmp _ _ _ rfl))⟩)
  · -- run
    unfold X6_run_w X7_run_w
    exact kz6_isMethod h1 h7 (kz_ifn0 ⟨v1, v2, v3, v4, kz7_isMethod h87 (kz_ifn0 (cmp _ _ _ rfl))⟩)
  · -- ran
    generalize E.2.2.2.1 2 (Int32.toNatClampNeg (1 + 1)) = x
    have v3' : vp_in 0 3 := vp_in_nI (n := 0) (by decide) (by decide)
    unfold X6_ran_w X7_ran_w
    have key : ∀ r : Int32, ((Int32.toInt x < 0 ∨ 4 < Int32.toInt x) → r = -101) → ((¬ (Int32.toInt x < 0 ∨ 4 < Int32.toInt x)) → r = 0) → (((Int32.toInt (x)) < 0 ∨ 4 < (Int32.toInt (x)) → ((r = (-101) → L_law_b647 E (fun v0 m => L_law_b28 E 1 v0 m) 1 (kz_M w mk)) ∧ (¬ r = (-101) → False))) ∧ ((Int32.toInt (x)) = 0 → vp_in 0 3 ∧ ((r = (kz_M w mk 103 (Int32.toNatClampNeg 0)) → L_law_b647 E (fun v0 m => L_law_b28 E 1 v0 m) 1 (kz_M w mk)) ∧ (¬ r = (kz_M w mk 103 (Int32.toNatClampNeg 0)) → False))) ∧ ((Int32.toInt (x)) = 1 → vp_in 0 3 ∧ ((r = (kz_M w mk 102 (Int32.toNatClampNeg 0)) → L_law_b647 E (fun v0 m => L_law_b28 E 1 v0 m) 1 (kz_M w mk)) ∧ (¬ r = (kz_M w mk 102 (Int32.toNatClampNeg 0)) → False))) ∧ ((Int32.toInt (x)) = 2 → vp_in 0 3 ∧ ((r = (kz_M w mk 104 (Int32.toNatClampNeg 0)) → L_law_b647 E (fun v0 m => L_law_b28 E 1 v0 m) 1 (kz_M w mk)) ∧ (¬ r = (kz_M w mk 104 (Int32.toNatClampNeg 0)) → False))) ∧ ((Int32.toInt (x)) = 3 → vp_in 0 3 ∧ ((r = (kz_M w mk 106 (Int32.toNatClampNeg 0)) → L_law_b647 E (fun v0 m => L_law_b28 E 1 v0 m) 1 (kz_M w mk)) ∧ (¬ r = (kz_M w mk 106 (Int32.toNatClampNeg 0)) → False))) ∧ ((Int32.toInt (x)) = 4 → vp_in 0 3 ∧ ((r = (kz_M w mk 105 (Int32.toNatClampNeg 0)) → L_law_b647 E (fun v0 m => L_law_b28 E 1 v0 m) 1 (kz_M w mk)) ∧ (¬ r = (kz_M w mk 105 (Int32.toNatClampNeg 0)) → False)))) := by
      intro r r1 r0
      exact ⟨fun c => cmp _ _ _ (r1 c), fun c => ⟨v3', cmp _ _ _ (r0 (by omega))⟩, fun c => ⟨v3', cmp _ _ _ (r0 (by omega))⟩, fun c => ⟨v3', cmp _ _ _ (r0 (by omega))⟩, fun c => ⟨v3', cmp _ _ _ (r0 (by omega))⟩, fun c => ⟨v3', cmp _ _ _ (r0 (by omega))⟩⟩
    exact ⟨fun c => ⟨v1, key _ (fun _ => rfl) (fun c2 => absurd c c2)⟩, fun c => ⟨v1, key _ (fun c2 => absurd c2 (by omega)) (fun _ => rfl)⟩, fun c => ⟨v1, key _ (fun c2 => absurd c2 (by omega)) (fun _ => rfl)⟩, fun c => ⟨v1, key _ (fun c2 => absurd c2 (by omega)) (fun _ => rfl)⟩, fun c => ⟨v1, key _ (fun c2 => absurd c2 (by omega)) (fun _ => rfl)⟩, fun c => ⟨v1, key _ (fun c2 => absurd c2 (by omega)) (fun _ => rfl)⟩⟩
  · -- told
    generalize E.2.2.2.1 2 (Int32.toNatClampNeg (1 + 1)) = x1
    generalize E.2.2.2.1 2 (Int32.toNatClampNeg (1 + 2)) = x2
    have v3' : vp_in 0 3 := vp_in_nI (n := 0) (by decide) (by decide)
    have no : ∀ {x : Int32}, (0 : Int32) ≤ x → x ≤ 0 - 1 → False := fun a b => absurd (Int32.le_trans a b) (by decide)
    unfold X6_told_w
    refine kz_within (fun a1 a2 => kz_ifn1 ?_) (fun o => kz_ifn0 ⟨v1, v2, kz_in (fun a1 a2 => (kz_out o a1 a2).elim) (fun _ => kz_ifn0 (cmp _ _ _ rfl))⟩)
    refine kz_within (fun b1 b2 => (no b1 b2).elim) (fun o => kz_ifn0 ⟨v1, v2, kz_in (fun _ _ => kz_ifn1 ⟨v3', ?_⟩) (fun o2 => (kz_out o2 a1 a2).elim)⟩)
    exact kz_in (fun b1 b2 => (no b1 b2).elim) (fun _ => kz_ifn0 (cmp _ _ _ rfl))
  · -- rename
    generalize E.2.2.2.1 2 (Int32.toNatClampNeg (1 + 1)) = x1
    generalize E.2.2.2.1 2 (Int32.toNatClampNeg (1 + 2)) = x2
    have ri : ∀ {x : Int32} {m : km_I} {K : Int32 → km_I → Prop}, ((0 : Int32) ≤ x → x ≤ 3 → K 1 m) → ((x < 0 ∨ 3 < x) → K 0 m) → X6_isPort_w x m K := fun k1 k0 => kz_within (fun a b => ⟨Or.inr rfl, k1 a b⟩) (fun o => ⟨Or.inl rfl, k0 o⟩)
    unfold X6_rename_w X7_rename_w
    refine ri (fun a1 a2 => kz_if1 ?_) (fun o => kz_if0 ⟨v1, v2, kz_in (fun a1 a2 => (kz_out o a1 a2).elim) (fun _ => kz_if0 (cmp _ _ _ rfl))⟩)
    refine ri (fun b1 b2 => kz_ifn1 ?_) (fun o => kz_ifn0 ⟨v1, v2, kz_in (fun _ _ => kz_if1 (kz_in (fun b1 b2 => (kz_out o b1 b2).elim) (fun _ => kz_ifn0 (cmp _ _ _ rfl)))) (fun o2 => (kz_out o2 a1 a2).elim)⟩)
    obtain ⟨p, hp, rfl⟩ := kz_nb (n := 3) (by decide) a1 a2
    obtain ⟨q, hq, rfl⟩ := kz_nb (n := 3) (by decide) b1 b2
    have vp : vp_in (nI p) 4 := vp_in_nI hp (by decide)
    have vq : vp_in (nI q) 4 := vp_in_nI hq (by decide)
    unfold X3_swapIn_w X3_name_w
    rw [nI_clamp (by omega), nI_clamp (by omega), kz_14 w mk p hp, kz_16 w mk q hq]
    refine ⟨vp, vq, vq, fun m6 e6 => ⟨vp, fun m13 e13 => ⟨vp, fun n6 f6 => ⟨vq, fun n13 f13 => ⟨v1, v2, ?_⟩⟩⟩⟩⟩
    have e93 : n13 93 p = nI p := by rw [f13, km_u_p (by decide), f6, km_u_p (by decide), e13, km_u_p (by decide), e6, km_u_p (by decide)]; exact kz_93 w mk p hp
    refine kz_in (fun _ _ => kz_if1 (kz_in (fun _ _ => kz_ifn1 ⟨vp, 5, ?_⟩) (fun o2 => (kz_out o2 b1 b2).elim))) (fun o2 => (kz_out o2 a1 a2).elim)
    rw [e93]
    exact kz_rename_l hp (fun m => cmp _ _ _ rfl) 5 0 _ (by omega) (by omega)
  · -- group
    generalize E.2.2.2.1 2 (Int32.toNatClampNeg (1 + 1)) = x1
    generalize E.2.2.2.1 2 (Int32.toNatClampNeg (1 + 2)) = x2
    have ri : ∀ {x : Int32} {m : km_I} {K : Int32 → km_I → Prop}, ((0 : Int32) ≤ x → x ≤ 3 → K 1 m) → ((x < 0 ∨ 3 < x) → K 0 m) → X6_isPort_w x m K := fun k1 k0 => kz_within (fun a b => ⟨Or.inr rfl, k1 a b⟩) (fun o => ⟨Or.inl rfl, k0 o⟩)
    unfold X6_group_w X7_group_w
    refine ri (fun a1 a2 => kz_ifn1 ?_) (fun o => kz_ifn0 ⟨v1, v2, kz_in (fun a1 a2 => (kz_out o a1 a2).elim) (fun _ => kz_ifn0 (cmp _ _ _ rfl))⟩)
    have vx := (kz_nb (n := 3) (by decide) a1 a2).vin (N := 4) (by decide) (by decide)
    refine kz_within (fun b1 b2 => kz_ifn1 ⟨vx, vx, fun m41 e41 => ⟨v1, v2, kz_in (fun _ _ => kz_ifn1 (kz_in (fun _ _ => kz_ifn1 ⟨vx, vx, fun m37 e37 => cmp _ _ _ ?_⟩) (fun o2 => (kz_out o2 b1 b2).elim))) (fun o2 => (kz_out o2 a1 a2).elim)⟩⟩) (fun o => kz_ifn0 ⟨v1, v2, kz_in (fun _ _ => kz_ifn1 (kz_in (fun b1 b2 => (kz_out o b1 b2).elim) (fun _ => kz_ifn0 (cmp _ _ _ rfl)))) (fun o2 => (kz_out o2 a1 a2).elim)⟩)
    rw [e41, km_u_p (by decide)]
    rfl
  · -- hold
    unfold X6_hold_w X7_hold_w
    exact kz6_isPair h1 (kz_ifn0 ⟨v1, v2, kz7_isMethod h87 (kz_if0 (cmp _ _ _ rfl))⟩)
  · -- first
    generalize E.2.2.2.1 2 (Int32.toNatClampNeg (1 + 1)) = x
    have i0 : Int32.toInt x = 0 ↔ x = 0 := ⟨fun e => Int32.toInt_inj.mp (e.trans (by decide)), fun e => by rw [e]; decide⟩
    have i1 : Int32.toInt x = 1 ↔ x = 1 := ⟨fun e => Int32.toInt_inj.mp (e.trans (by decide)), fun e => by rw [e]; decide⟩
    have key : ∀ r : Int32, (x = 0 ∨ x = 1 → r = -1) → (¬ (x = 0 ∨ x = 1) → r = -101) → X7_first_w x (kz_M w mk) (fun r' m => (r = r' → L_law_b647 E (fun v0 m => L_law_b28 E 1 v0 m) 1 m) ∧ (¬ r = r' → False)) := by
      intro r k1 k0
      exact ⟨fun c => ⟨fun c2 => cmp _ _ _ (k0 (fun o => o.elim c c2)), fun c2 => cmp _ _ _ (k1 (Or.inr c2))⟩, fun c => cmp _ _ _ (k1 (Or.inl c))⟩
    refine ⟨fun c => ⟨v1, key _ (fun o => absurd o (by rw [← i0, ← i1]; omega)) (fun _ => rfl)⟩, fun c => ⟨v1, key _ (fun _ => rfl) (fun o => absurd (Or.inl (i0.mp c)) o)⟩, fun c => ⟨v1, key _ (fun _ => rfl) (fun o => absurd (Or.inr (i1.mp c)) o)⟩⟩
  · -- match
    unfold X6_match_w X7_match_w
    exact kz_has h1 (kz_ifn0 ⟨v1, kz7_isMethod h87 (kz_ifn0 (cmp _ _ _ rfl))⟩)
  · -- find
    unfold X6_find_w X7_find_w
    exact kz6_isPair h1 (kz_ifn0 ⟨v1, v2, kz7_isMethod h87 (kz_if0 (cmp _ _ _ rfl))⟩)
  · -- assume
    unfold X6_assume_w X7_assume_w
    exact kz6_isPair h1 (kz_ifn0 ⟨v1, v2, kz7_isMethod h87 (kz_if0 (cmp _ _ _ rfl))⟩)
  · -- drop
    unfold X6_drop_w X7_drop_w
    intro m13 e13 m7 e7
    refine cmp _ _ _ ?_
    rw [e13, km_u_p (by decide)]
    rfl
  · -- prove
    have kp : ∀ m11 : km_I, m11 21 0 = 0 → m11 24 0 = -1 → m11 86 10 = 0 → ∃ k, X6_prove_b16 k 0 m11 (fun r589 m589 => X7_prove_w m589 (fun r593 m593 => ((r589 = r593 → L_law_b647 E (fun v0 m => L_law_b28 E 1 v0 m) 1 m593) ∧ (¬ r589 = r593 → False)))) := by
      intro m11 a1 a2 a3
      refine ⟨1, fun _ => ?_, fun c => absurd (by rw [a1]; decide) c⟩
      unfold X7_prove_w
      intro m2 e2
      have b1 : m2 86 10 = 0 := by rw [e2, km_u_k (by decide)]; exact a3
      exact ⟨fun c => absurd b1 c, fun _ => cmp _ _ _ a2⟩
    unfold X6_prove_w X4_begin_w X4_begin_b10 X4_keep_w
    refine ⟨fun c => absurd rfl c, fun _ m2 e2 => ⟨vp_in_nI (n := 0) (by decide) (by decide), fun m11 e11 => ⟨vp_in_nI (n := 1) (by decide) (by decide), fun m18 e18 => ⟨vp_in_nI (n := 2) (by decide) (by decide), fun m26 e26 => ⟨vp_in_nI (n := 3) (by decide) (by decide), fun m34 e34 => ⟨vp_in_nI (n := 4) (by decide) (by decide), fun m42 e42 => kp m42 ?_ ?_ ?_⟩⟩⟩⟩⟩⟩
    · rw [e42, km_u_p (by decide), e34, km_u_p (by decide), e26, km_u_p (by decide), e18, km_u_p (by decide), e11, km_u_p (by decide), e2, km_u_p (by decide)]; rfl
    · rw [e42, km_u_p (by decide), e34, km_u_p (by decide), e26, km_u_p (by decide), e18, km_u_p (by decide), e11, km_u_p (by decide), e2, km_u_at]
    · rw [e42, km_u_p (by decide), e34, km_u_p (by decide), e26, km_u_p (by decide), e18, km_u_p (by decide), e11, km_u_p (by decide), e2, km_u_p (by decide)]; rfl
  · -- why
    generalize E.2.2.2.1 2 (Int32.toNatClampNeg (1 + 1)) = x
    unfold X6_why_w X7_why_w
    refine kz_within (fun a1 a2 => kz_if1 ?_) (fun o => kz_if0 ⟨v1, kz_in (fun a1 a2 => (kz_out o a1 a2).elim) (fun _ => kz_ifn0 (cmp _ _ _ rfl))⟩)
    obtain ⟨p, hp, rfl⟩ := kz_nb (n := 4) (by decide) a1 a2
    refine ⟨vp_in_nI hp (by decide), v1, kz_in (fun _ _ => kz_ifn1 ⟨fun _ => cmp _ _ _ ?_, fun c => absurd rfl c⟩) (fun o2 => (kz_out o2 a1 a2).elim)⟩
    rw [nI_clamp (by omega)]
    exact kz_25 w mk p hp
  · -- count
    generalize E.2.2.2.1 2 (Int32.toNatClampNeg (1 + 1)) = x
    have it : ∀ k : Int32, Int32.toInt x = Int32.toInt k → x = k := fun k e => Int32.toInt_inj.mp e
    have key : ∀ r : Int32, ((4 : Int32) ≤ x → x ≤ 7 → r = kz_M w mk 93 (Int32.toNatClampNeg (x - 4))) → ((8 : Int32) ≤ x → x ≤ 11 → r = 0) → (x = 0 → r = 0) → (x = 1 → r = 0) → (x = 2 → r = 0) → (x = 3 → r = w) → ((x < 0 ∨ 11 < x) → r = -101) → X7_count_w x (kz_M w mk) (fun r' m => (r = r' → L_law_b647 E (fun v0 m => L_law_b28 E 1 v0 m) 1 m) ∧ (¬ r = r' → False)) := by
      intro r k4 k8 k0 k1 k2 k3 ko
      unfold X7_count_w
      refine kz_in (fun a1 a2 => kz_if1 ⟨?_, cmp _ _ _ (k4 a1 a2)⟩) (fun o4 => kz_if0 (kz_in (fun a1 a2 => kz_if1 ⟨?_, cmp _ _ _ (k8 a1 a2)⟩) (fun o8 => kz_if0 ⟨fun c0 => ⟨fun c1 => ⟨fun c2 => ⟨fun c3 => cmp _ _ _ (ko ?_), fun e => cmp _ _ _ (k3 e)⟩, fun e => cmp _ _ _ (k2 e)⟩, fun e => ⟨vp_in_nI (n := 1) (by decide) (by decide), cmp _ _ _ (k1 e)⟩⟩, fun e => ⟨vp_in_nI (n := 0) (by decide) (by decide), cmp _ _ _ (k0 e)⟩⟩)))
      · obtain ⟨j, hj, rfl⟩ := nI_of (x := x) (Int32.not_lt.mpr (Int32.le_trans (by decide) a1))
        rw [show (4 : Int32) = nI 4 from rfl, nI_leI (by decide) hj] at a1
        rw [show (7 : Int32) = nI 7 from rfl, nI_leI hj (by decide)] at a2
        rw [show (4 : Int32) = nI 4 from rfl, nx_sub a1]
        exact vp_in_nI (by omega) (by decide)
      · obtain ⟨j, hj, rfl⟩ := nI_of (x := x) (Int32.not_lt.mpr (Int32.le_trans (by decide) a1))
        rw [show (8 : Int32) = nI 8 from rfl, nI_leI (by decide) hj] at a1
        rw [show (11 : Int32) = nI 11 from rfl, nI_leI hj (by decide)] at a2
        rw [show (8 : Int32) = nI 8 from rfl, nx_sub a1]
        exact vp_in_nI (by omega) (by decide)
      · by_cases hx : x < 0
        · exact Or.inl hx
        · right
          obtain ⟨j, hj, rfl⟩ := nI_of hx
          rw [show (4 : Int32) = nI 4 from rfl, show (7 : Int32) = nI 7 from rfl, nI_ltI hj (by decide), nI_ltI (by decide) hj] at o4
          rw [show (8 : Int32) = nI 8 from rfl, show (11 : Int32) = nI 11 from rfl, nI_ltI hj (by decide), nI_ltI (by decide) hj] at o8
          rw [show (0 : Int32) = nI 0 from rfl, nI_eq hj (by decide)] at c0
          rw [show (1 : Int32) = nI 1 from rfl, nI_eq hj (by decide)] at c1
          rw [show (2 : Int32) = nI 2 from rfl, nI_eq hj (by decide)] at c2
          rw [show (3 : Int32) = nI 3 from rfl, nI_eq hj (by decide)] at c3
          rw [show (11 : Int32) = nI 11 from rfl, nI_ltI (by decide) hj]
          omega
    have lt : ∀ {a b : Int32}, a < b ↔ a.toInt < b.toInt := Int32.lt_iff_toInt_lt
    have le : ∀ {a b : Int32}, a ≤ b ↔ a.toInt ≤ b.toInt := Int32.le_iff_toInt_le
    have c4 : Int32.toInt 4 = 4 := rfl
    have c7 : Int32.toInt 7 = 7 := rfl
    have c8 : Int32.toInt 8 = 8 := rfl
    have c11 : Int32.toInt 11 = 11 := rfl
    have c0 : Int32.toInt 0 = 0 := rfl
    have c1 : Int32.toInt 1 = 1 := rfl
    have c2 : Int32.toInt 2 = 2 := rfl
    have c3 : Int32.toInt 3 = 3 := rfl
    have z : ∀ r : Int32, (Int32.toInt x < 0 ∨ 11 < Int32.toInt x → r = -101) → (Int32.toInt x = 0 → r = 0) → (Int32.toInt x = 1 → r = 0) → (Int32.toInt x = 2 → r = 0) → (Int32.toInt x = 3 → r = w) → (4 ≤ Int32.toInt x → Int32.toInt x ≤ 7 → r = kz_M w mk 93 (Int32.toNatClampNeg (x - 4))) → (8 ≤ Int32.toInt x → Int32.toInt x ≤ 11 → r = 0) → X7_count_w x (kz_M w mk) (fun r' m => (r = r' → L_law_b647 E (fun v0 m => L_law_b28 E 1 v0 m) 1 m) ∧ (¬ r = r' → False)) := by
      intro r z0 z1 z2 z3 z4 z5 z6
      refine key r (fun a b => z5 (by rw [le, c4] at a; exact a) (by rw [le, c7] at b; exact b)) (fun a b => z6 (by rw [le, c8] at a; exact a) (by rw [le, c11] at b; exact b)) (fun e => z1 (by rw [e]; rfl)) (fun e => z2 (by rw [e]; rfl)) (fun e => z3 (by rw [e]; rfl)) (fun e => z4 (by rw [e]; rfl)) (fun o => z0 ?_)
      rw [lt, lt, c0, c11] at o
      exact o
    have s4 : 4 ≤ Int32.toInt x → Int32.toInt x ≤ 7 → vp_in (x - 4) 4 ∧ kz_M w mk 14 (Int32.toNatClampNeg (x - 4)) = kz_M w mk 93 (Int32.toNatClampNeg (x - 4)) := by
      intro a b
      obtain ⟨j, hj, rfl⟩ := nI_of (x := x) (by rw [lt, c0]; omega)
      rw [nI_toInt hj] at a b
      rw [show (4 : Int32) = nI 4 from rfl, nx_sub (by omega)]
      refine ⟨vp_in_nI (by omega) (by decide), ?_⟩
      rw [nI_clamp (by omega), kz_14 w mk _ (by omega), kz_93 w mk _ (by omega)]
    have s8 : 8 ≤ Int32.toInt x → Int32.toInt x ≤ 11 → vp_in (x - 8) 4 := by
      intro a b
      obtain ⟨j, hj, rfl⟩ := nI_of (x := x) (by rw [lt, c0]; omega)
      rw [nI_toInt hj] at a b
      rw [show (8 : Int32) = nI 8 from rfl, nx_sub (by omega)]
      exact vp_in_nI (by omega) (by decide)
    have b93 : 4 ≤ Int32.toInt x → Int32.toInt x ≤ 7 → X6_count_b93 x x (kz_M w mk) (fun r630 m630 => vp_in (1 + 1) (E.2.2.1 2) ∧ X7_count_w x m630 (fun r639 m639 => ((r630 = r639 → L_law_b647 E (fun v0 m => L_law_b28 E 1 v0 m) 1 m639) ∧ (¬ r630 = r639 → False)))) := fun a b =>
      ⟨(s4 a b).1, v1, z _ (fun c => absurd c (by omega)) (fun c => absurd c (by omega)) (fun c => absurd c (by omega)) (fun c => absurd c (by omega)) (fun c => absurd c (by omega)) (fun _ _ => (s4 a b).2) (fun c => absurd c (by omega))⟩
    have b105 : 8 ≤ Int32.toInt x → Int32.toInt x ≤ 11 → X6_count_b105 x x (kz_M w mk) (fun r630 m630 => vp_in (1 + 1) (E.2.2.1 2) ∧ X7_count_w x m630 (fun r639 m639 => ((r630 = r639 → L_law_b647 E (fun v0 m => L_law_b28 E 1 v0 m) 1 m639) ∧ (¬ r630 = r639 → False)))) := fun a b =>
      ⟨s8 a b, v1, z _ (fun c => absurd c (by omega)) (fun c => absurd c (by omega)) (fun c => absurd c (by omega)) (fun c => absurd c (by omega)) (fun c => absurd c (by omega)) (fun _ c => absurd c (by omega)) (fun _ _ => rfl)⟩
    refine ⟨fun c => ⟨v1, z _ (fun _ => rfl) (fun c2 => absurd c2 (by omega)) (fun c2 => absurd c2 (by omega)) (fun c2 => absurd c2 (by omega)) (fun c2 => absurd c2 (by omega)) (fun c2 c3 => absurd c (by omega)) (fun c2 c3 => absurd c (by omega))⟩, fun c => ⟨v1, z _ (fun c2 => absurd c2 (by omega)) (fun _ => rfl) (fun c2 => absurd c2 (by omega)) (fun c2 => absurd c2 (by omega)) (fun c2 => absurd c2 (by omega)) (fun c2 => absurd c2 (by omega)) (fun c2 => absurd c2 (by omega))⟩, fun c => ⟨v1, z _ (fun c2 => absurd c2 (by omega)) (fun c2 => absurd c2 (by omega)) (fun _ => rfl) (fun c2 => absurd c2 (by omega)) (fun c2 => absurd c2 (by omega)) (fun c2 => absurd c2 (by omega)) (fun c2 => absurd c2 (by omega))⟩, fun c => ⟨v1, z _ (fun c2 => absurd c2 (by omega)) (fun c2 => absurd c2 (by omega)) (fun c2 => absurd c2 (by omega)) (fun _ => rfl) (fun c2 => absurd c2 (by omega)) (fun c2 => absurd c2 (by omega)) (fun c2 => absurd c2 (by omega))⟩, fun c => ⟨v1, z _ (fun c2 => absurd c2 (by omega)) (fun c2 => absurd c2 (by omega)) (fun c2 => absurd c2 (by omega)) (fun c2 => absurd c2 (by omega)) (fun _ => rfl) (fun c2 => absurd c2 (by omega)) (fun c2 => absurd c2 (by omega))⟩, fun c => b93 (by omega) (by omega), fun c => b93 (by omega) (by omega), fun c => b93 (by omega) (by omega), fun c => b93 (by omega) (by omega), fun c => b105 (by omega) (by omega), fun c => b105 (by omega) (by omega), fun c => b105 (by omega) (by omega), fun c => b105 (by omega) (by omega)⟩
theorem km_pure_p1 : km_pure := by
  intro E L hL _ _ h2 _ _ w mk w2 mk2 q1 q2
  have hw : w2 = w ∧ mk2 = mk := by
    rcases kz_2 (km_cv E) with e | e
    · rcases q1 with ⟨_, rfl, rfl⟩ | ⟨c, _, _⟩
      · rcases q2 with ⟨_, rfl, rfl⟩ | ⟨c, _, _⟩
        · exact ⟨rfl, rfl⟩
        · exact absurd (e.symm.trans c) (by decide)
      · exact absurd e c
    · rcases q1 with ⟨c, _, _⟩ | ⟨_, rfl, rfl⟩
      · exact absurd (e.symm.trans c) (by decide)
      · rcases q2 with ⟨c, _, _⟩ | ⟨_, rfl, rfl⟩
        · exact absurd e c
        · exact ⟨rfl, rfl⟩
  obtain ⟨rfl, rfl⟩ := hw
  rcases Nat.lt_or_ge L 8 with q | q
  · refine ⟨1, fun _ => trivial, fun c => absurd ?_ c⟩
    rw [h2]
    rcases L with _ | _ | _ | _ | _ | _ | _ | _ | L
    · decide
    · decide
    · decide
    · decide
    · decide
    · decide
    · decide
    · decide
    · omega
  · exact ⟨2, kz_p1 (h2.trans (by omega))⟩
theorem whole_start {p : Program} {e : Env} {s : State} {m : MethodId} {below : List Frame} {meth : Method} {c : Code} (l : Launch) {b L : Nat} {xs : Nat → Int32} (hL : L ≤ 8) (C0 : lw_At p s m meth c b L xs) : W p l e room_1 s m #[Value.ref b] below meth c s.heap [] 0 0 (lw_Z below #[Value.ref b] s) (entryFrame m ([Value.ref b] : List Value).toArray 4) := whole_open km_pure_p1 l hL C0
