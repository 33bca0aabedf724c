/-! prove: the class -/
theorem pairHas_c {mi : km_I} {x1 x2 : Int32} {K : Int32 → km_I → Prop} (h : CI mi) (hK : ∀ r, K r mi) : X2_has_w x1 x2 mi K := by
  obtain ⟨k, hk, ek⟩ := h.2.2.2.2.1
  have loop : ∀ (n i : Nat), i ≤ 7 → 7 < n + i → X2_has_b2 x1 x2 n x1 x2 (nI i) mi K := by
    intro n
    induction n with
    | zero =>
      intro i q1 q2
      exact absurd q2 (by omega)
    | succ n ih =>
      intro i q1 q2
      simp only [X2_has_b2]
      rw [ek, nI_leI (by omega) (by omega)]
      have nx : i < 7 → X2_has_b32 x1 x2 (fun v0 v1 v2 m => X2_has_b2 x1 x2 n v0 v1 v2 m K) x1 x2 (nI i) mi K := fun hi => by
        unfold X2_has_b32
        rw [nI_1]
        exact ih (i + 1) (by omega) (by omega)
      refine ⟨fun _ => hK _, fun c => ⟨vp_in_nI (by omega) (by decide), fun _ => nx (by omega), fun _ => ⟨vp_in_nI (by omega) (by decide), fun _ => nx (by omega), fun _ => hK _⟩⟩⟩
  exact ⟨8, loop 8 0 (by omega) (by omega)⟩
theorem sameCalling_s {q q1 : Nat} {i : Nat} {mi : km_I} {K : Int32 → km_I → Prop} (hi : i < 2) (hK : ∀ r, K r mi) : X5_sameCalling_w q q1 (nI i) mi K := by
  unfold X5_sameCalling_w
  have v : vp_in (nI i) 2 := vp_in_nI hi (by decide)
  exact ⟨v, v, fun _ => hK _, fun _ => ⟨v, v, fun _ => hK _, fun _ => ⟨v, v, fun _ => hK _, fun _ => hK _⟩⟩⟩
theorem callings_c {m0 mi : km_I} {K : Int32 → km_I → Prop} (h : CS m0 mi) (hK0 : K 0 mi) (hK1 : K 1 mi) : X6_callingsAlike_w 63 75 mi K := by
  have p0 := h.2.2.2.1 62 (by decide)
  have p1 := h.2.2.2.1 74 (by decide)
  obtain ⟨ta, hta, eta⟩ := p0.2.1
  obtain ⟨ca, hca, eca⟩ := p0.2.2.1
  have ho := h.2.2.2.2.1.1
  have loop : ∀ (n i a : Nat), i ≤ 3 → 3 < n + i → a ≤ 40 → X6_callingsAlike_b18 63 75 n (nI a) (nI i) mi K := by
    intro n
    induction n with
    | zero =>
      intro i a q1 q2
      exact absurd q2 (by omega)
    | succ n ih =>
      intro i a q1 q2 qa
      simp only [X6_callingsAlike_b18]
      rw [show mi 63 8 = nI ca from eca, show mi 63 5 = nI ta from eta, nI_leI (by omega) (by omega)]
      refine ⟨fun _ => ⟨fun _ => hK0, fun _ => alike_s qa (by omega) ho p0.1 p1.1 ⟨fun _ => hK0, fun _ => hK1⟩ ⟨fun _ => hK0, fun _ => hK1⟩⟩, fun c => ?_⟩
      have hi : i < 2 := by omega
      have v : vp_in (nI i) 2 := vp_in_nI hi (by decide)
      rw [nI_clamp (by omega), nI_1]
      obtain ⟨z, hz, ez⟩ := p0.2.2.2 i hi
      refine ⟨v, sameCalling_s hi (fun r => ⟨fun _ => hK0, fun _ => ⟨v, v, pairHas_c h.2 (fun r2 => ⟨fun _ => hK0, fun _ => ?_⟩)⟩⟩)⟩
      rw [show mi (63 + 6) i = nI z from ez]
      exact alike_s qa (by omega) ho p0.1 p1.1 ⟨fun c9 => absurd rfl c9, fun _ => hK0⟩ ⟨fun _ => ih (i + 1) z (by omega) (by omega) (by omega), fun _ => hK0⟩
  unfold X6_callingsAlike_w
  exact ⟨fun _ => ⟨4, loop 4 0 0 (by omega) (by omega) (by omega)⟩, fun _ => hK0⟩
theorem walks_c {m0 mi : km_I} {K : Int32 → km_I → Prop} (h : CS m0 mi) (hK : ∀ r, r = 0 ∨ r = 1 ∨ r = 2 → K r mi) : X6_walksAnswer_w mi K := by
  unfold X6_walksAnswer_w
  have k0 := hK 0 (Or.inl rfl)
  have k1 := hK 1 (Or.inr (Or.inl rfl))
  have k2 := hK 2 (Or.inr (Or.inr rfl))
  have c9 : X6_callingsAlike_w 63 75 mi (fun r45 m45 => ((r45 = 0 → K 0 m45) ∧ (¬ r45 = 0 → K 1 m45))) := callings_c h ⟨fun _ => k0, fun _ => k1⟩ ⟨fun _ => k0, fun _ => k1⟩
  exact ⟨fun _ => k2, fun _ => ⟨fun _ => endsLike_s ⟨fun _ => k0, fun _ => c9⟩ ⟨fun _ => k0, fun _ => c9⟩, fun _ => k2⟩⟩
theorem CS.pf {m0 a c : km_I} (h : CS m0 a) (e : ∀ p, p < 24 ∨ 26 ≤ p → c p = a p) : CS m0 c := by
  obtain ⟨hF, c1, ⟨c2, c2'⟩, c3, ⟨c4, c4'⟩, c5, c6⟩ := h
  exact ⟨hF.tr ⟨fun p hp => e p (by omega), by rw [e 0 (by omega)], by rw [e 0 (by omega)]⟩, by rw [e 0 (by omega)]; exact c1, ⟨c2.mv (fun p _ _ => e p (by omega)), c2'.mv (fun p _ _ => e p (by omega))⟩, fun t ht => (c3 t ht).mv (fun p _ _ => e p (by have := M_rg ht; omega)), ⟨c4.mv (fun p _ _ => e p (by omega)), c4'.mv (fun p _ _ => e p (by omega))⟩, by rw [e 21 (by omega)]; exact c5, fun j hj => by rw [e 22 (by omega), e 23 (by omega)]; exact c6 j hj⟩
theorem keep_c {m0 mi : km_I} {x1 x2 x3 x4 x5 x6 : Int32} {K : km_I → Prop} (h : CS m0 mi) (hK : ∀ mi', CS m0 mi' → K mi') : X4_keep_w x1 x2 x3 x4 x5 x6 mi K := by
  unfold X4_keep_w
  intro m2 e2
  refine ⟨vp_in_iff.mpr (by decide), fun m11 e11 => ⟨vp_in_iff.mpr (by decide), fun m18 e18 => ⟨vp_in_iff.mpr (by decide), fun m26 e26 => ⟨vp_in_iff.mpr (by decide), fun m34 e34 => ⟨vp_in_iff.mpr (by decide), fun m42 e42 => hK _ (h.pf (fun p hp => ?_))⟩⟩⟩⟩⟩
  rw [e42, km_u_off p (by omega), e34, km_u_off p (by omega), e26, km_u_off p (by omega), e18, km_u_off p (by omega), e11, km_u_off p (by omega), e2, km_u_off p (by omega)]
theorem takeAnswers_c {m0 mi : km_I} {t b : Nat} {x1 x2 : Int32} {K : km_I → Prop} (h : CS m0 mi) (ht : km_isM t) (hn : 38 ≤ t) (hK : ∀ mi', CS m0 mi' → K mi') : X1_takeAnswers_w t b x1 x2 mi K := by
  unfold X1_takeAnswers_w
  refine ⟨vp_in_iff.mpr (by decide), fun m6 e6 => ⟨vp_in_iff.mpr (by decide), fun m13 e13 => hK _ (h.fm ht hn ?_ ?_)⟩⟩
  · rw [e13, e6]
    exact ((FM.rf mi t).u (by omega) (by omega) (by omega)).u (by omega) (by omega) (by omega)
  · rw [e13, e6]
    exact ((h.2.2.2.1 t ht).u (by omega) (by omega) (by omega)).u (by omega) (by omega) (by omega)
theorem yields_c {mi : km_I} {x : Int32} {K : Int32 → km_I → Prop} (hK : ∀ r, K r mi) : X4_yieldsTo_w x mi K := by
  unfold X4_yieldsTo_w X4_yieldsTo_b17
  exact ⟨fun _ => hK _, fun _ => ⟨fun _ => hK _, fun _ => ⟨fun _ => hK _, fun _ => hK _⟩⟩⟩
theorem proveIn_c {m0 mi : km_I} {p : Nat} {x2 x3 : Int32} {K : km_I → Prop} (h : CS m0 mi) (hp : p < 6) (hK : ∀ mi', CS m0 mi' → K mi') : X6_proveInputs_w (nI p) x2 x3 mi K := by
  have inner : ∀ (i : Nat) (Z : Int32 → Int32 → Int32 → Int32 → Int32 → km_I → Prop), (∀ v m, CS m0 m → Z (nI p) x2 x3 v (nI (i + 1)) m) → ∀ (n j : Nat) (y4 : Int32) (mi : km_I), j ≤ 10 → 10 < n + j → CS m0 mi → X6_proveInputs_b28 (nI p) x2 x3 Z n (nI p) x2 x3 y4 (nI i) (nI j) mi K := by
    intro i Z hZ n
    induction n with
    | zero =>
      intro j y4 mi q1 q2
      exact absurd q2 (by omega)
    | succ n ih =>
      intro j y4 mi q1 q2 h
      obtain ⟨k, hk, ek, -⟩ := h.mk
      have k174 : ∀ v m, CS m0 m → X6_proveInputs_b174 (nI p) x2 x3 Z (nI p) x2 x3 v (nI i) (nI j) m K := fun v m hm => by
        unfold X6_proveInputs_b174
        rw [nI_1]
        exact hZ _ _ hm
      have k137 : j < 10 → ∀ r m, CS m0 m → X6_proveInputs_b137 (nI p) x2 x3 Z (fun v0 v1 v2 v3 v4 v5 m => X6_proveInputs_b28 (nI p) x2 x3 Z n v0 v1 v2 v3 v4 v5 m K) (nI p) x2 x3 y4 (nI i) (nI j) r m K := fun hj r m hm => by
        unfold X6_proveInputs_b137
        rw [nI_1]
        exact ⟨fun _ => ih (j + 1) _ m (by omega) (by omega) hm, fun _ => hK _ hm⟩
      simp only [X6_proveInputs_b28]
      rw [ek, nI_1, nI_ltI (by omega) (by omega), nI_clamp (by omega)]
      have v : vp_in (nI p) 6 := vp_in_nI hp (by decide)
      refine ⟨fun _ => k174 _ _ h, fun c => ⟨fun _ => k174 _ _ h, fun _ => takeAnswers_c h (by decide) (by decide) (fun m53 h53 => takeAnswers_c h53 (by decide) (by decide) (fun m64 h64 => ⟨v, go_c h64 (by decide) (by decide) (by decide) (h64.2.2.2.2.2.2 p hp).1 (fun m82 h82 => ⟨v, go_c h82 (by decide) (by decide) (by decide) (h82.2.2.2.2.2.2 p hp).2 (fun m100 h100 => walks_c h100 (fun r _ => yields_c (fun r2 => ⟨fun _ => k137 (by omega) _ _ h100, fun _ => keep_c h100 (fun m134 h134 => k137 (by omega) _ _ h134)⟩)))⟩)⟩))⟩⟩
  have outer : ∀ (n i : Nat) (y4 : Int32) (mi : km_I), i ≤ 10 → 10 < n + i → CS m0 mi → X6_proveInputs_b6 (nI p) x2 x3 n (nI p) x2 x3 y4 (nI i) mi K := by
    intro n
    induction n with
    | zero =>
      intro i y4 mi q1 q2
      exact absurd q2 (by omega)
    | succ n ih =>
      intro i y4 mi q1 q2 h
      obtain ⟨k, hk, ek, -⟩ := h.mk
      simp only [X6_proveInputs_b6]
      rw [ek, nI_1, nI_ltI (by omega) (by omega)]
      exact ⟨fun _ => hK _ h, fun c => ⟨fun _ => hK _ h, fun _ => ⟨11, inner i _ (fun v m hm => ih (i + 1) v m (by omega) (by omega) hm) 11 0 2 mi (by omega) (by omega) h⟩⟩⟩
  exact ⟨11, outer 11 0 2 mi (by omega) (by omega) h⟩
theorem prove_c {m0 mi : km_I} {K : Int32 → km_I → Prop} (h : CS m0 mi) (hK : ∀ r mi', CS m0 mi' → K r mi') : X6_prove_w mi K := by
  have b39 : ∀ (p : Nat) (Z16 : Int32 → km_I → Prop) (Z29 : Int32 → Int32 → km_I → Prop) (i : Nat), p < 6 → (∀ m, CS m0 m → Z29 (nI p) (nI (i + 1)) m) → ∀ (n j : Nat) (mi : km_I), j ≤ 9 → 9 < n + j → CS m0 mi → X6_prove_b39 Z16 Z29 n (nI p) (nI i) (nI j) mi K := by
    intro p Z16 Z29 i hp hZ n
    induction n with
    | zero =>
      intro j mi q1 q2
      exact absurd q2 (by omega)
    | succ n ih =>
      intro j mi q1 q2 h
      obtain ⟨k, hk, ek, -⟩ := h.mk
      have nx : j < 9 → ∀ m, CS m0 m → X6_prove_b64 Z16 Z29 (fun v0 v1 v2 m => X6_prove_b39 Z16 Z29 n v0 v1 v2 m K) (nI p) (nI i) (nI j) m K := fun hj m hm => by
        unfold X6_prove_b64
        rw [nI_1]
        exact ih (j + 1) m (by omega) (by omega) hm
      simp only [X6_prove_b39]
      rw [ek, nI_ltI (by omega) (by omega), nI_1]
      exact ⟨fun _ => hZ _ h, fun c => ⟨fun _ => nx (by omega) _ h, fun _ => proveIn_c h hp (fun m hm => nx (by omega) _ hm)⟩⟩
  have b29 : ∀ (p : Nat) (Z16 : Int32 → km_I → Prop), p < 6 → (∀ m, CS m0 m → Z16 (nI (p + 1)) m) → ∀ (n i : Nat) (mi : km_I), i ≤ 9 → 9 < n + i → CS m0 mi → X6_prove_b29 Z16 n (nI p) (nI i) mi K := by
    intro p Z16 hp hZ n
    induction n with
    | zero =>
      intro i mi q1 q2
      exact absurd q2 (by omega)
    | succ n ih =>
      intro i mi q1 q2 h
      obtain ⟨k, hk, ek, -⟩ := h.mk
      simp only [X6_prove_b29]
      rw [ek, nI_ltI (by omega) (by omega), nI_1]
      exact ⟨fun _ => hZ _ h, fun c => ⟨10, b39 p Z16 _ i hp (fun m hm => ih (i + 1) m (by omega) (by omega) hm) 10 0 mi (by omega) (by omega) h⟩⟩
  have b16 : ∀ (n p : Nat) (mi : km_I), p ≤ 7 → 7 < n + p → CS m0 mi → X6_prove_b16 n (nI p) mi K := by
    intro n
    induction n with
    | zero =>
      intro p mi q1 q2
      exact absurd q2 (by omega)
    | succ n ih =>
      intro p mi q1 q2 h
      obtain ⟨k, hk, ek⟩ := h.2.2.2.2.2.1
      simp only [X6_prove_b16]
      rw [ek, nI_leI (by omega) (by omega)]
      exact ⟨fun _ => hK _ _ h, fun c => ⟨10, b29 p _ (by omega) (fun m hm => ih (p + 1) m (by omega) (by omega) hm) 10 0 mi (by omega) (by omega) h⟩⟩
  have kb : ∀ z x, X4_begin_b10 x x z mi (fun m11 => ∃ k, X6_prove_b16 k 0 m11 K) := fun z x => by
    unfold X4_begin_b10
    exact keep_c h (fun m hm => ⟨8, b16 8 0 m (by omega) (by omega) hm⟩)
  unfold X6_prove_w X4_begin_w
  exact ⟨fun _ => kb _ _, fun _ => kb _ _⟩
