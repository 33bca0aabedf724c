/-! the reference's holding -/
def SP (mi : km_I) : Prop := ∀ q, q < 4 → ∃ p, p < 4 ∧ mi 93 p = nI q
def RI (mi : km_I) : Prop := (mi 86 1 = nI 3 ∨ mi 86 1 = nI 7) ∧ RB mi ∧ SP mi ∧ nb (mi 86 10) 7 ∧ ∀ j, j < 6 → nb (mi 95 j) 6 ∧ nb (mi 96 j) 6
def FR (m0 mi : km_I) : Prop := (∀ p, p < 86 ∨ (87 ≤ p ∧ p < 97) → mi p = m0 p) ∧ mi 86 0 = m0 86 0 ∧ mi 86 1 = m0 86 1 ∧ mi 86 10 = m0 86 10
def RT (f : Prop) (m0 mi : km_I) : Prop := (FR m0 mi ∧ mi 114 = m0 114 ∧ (f → S0 m0 mi)) ∧ RP mi
variable {f : Prop}
theorem FR.rf (mi : km_I) : FR mi mi := ⟨fun _ _ => rfl, rfl, rfl, rfl⟩
theorem FR.tr {a b c : km_I} (h : FR a b) (h' : FR b c) : FR a c := ⟨fun p hp => (h'.1 p hp).trans (h.1 p hp), h'.2.1.trans h.2.1, h'.2.2.1.trans h.2.2.1, h'.2.2.2.trans h.2.2.2⟩
theorem SP.mv {a c : km_I} (h : SP a) (e : c 93 = a 93) : SP c := fun q hq => by rw [e]; exact h q hq
theorem RI.mv {a c : km_I} (h : RI a) (e : FR a c) : RI c := by
  obtain ⟨h1, h2, h3, h4, h5⟩ := h
  exact ⟨by rw [e.2.2.1]; exact h1, h2.mv (fun p q1 q2 => e.1 p (by omega)), h3.mv (e.1 93 (by omega)), by rw [e.2.2.2]; exact h4, fun j hj => by rw [e.1 95 (by omega), e.1 96 (by omega)]; exact h5 j hj⟩
theorem RI.mk {mi : km_I} (h : RI mi) : ∃ k, (k = 3 ∨ k = 7) ∧ mi 86 1 = nI k := by
  rcases h.1 with e | e
  · exact ⟨3, Or.inl rfl, e⟩
  · exact ⟨7, Or.inr rfl, e⟩
theorem RT.fp {m0 a c : km_I} (h : RT f m0 a) (hf : FP f a c) (hp : RP c) : RT f m0 c := ⟨⟨h.1.1.tr ⟨fun p q => hf.1 p (by omega), hf.2.1 0 (by decide) (by decide), hf.2.1 1 (by decide) (by decide), hf.2.1 10 (by decide) (by decide)⟩, (hf.1 114 (by omega)).trans h.1.2.1, fun q => (h.1.2.2 q).tr (hf.2.2 q)⟩, hp⟩
/-- fields of the reference's own that nothing here rests on -/
theorem RT.u86 {m0 a : km_I} {k : Nat} {v : Int32} (h : RT f m0 a) (h0 : k ≠ 0) (h1 : k ≠ 1) (h2 : k ≠ 10) : RT f m0 (km_u a 86 k v) := ⟨⟨h.1.1.tr ⟨fun p q => km_u_off p (by omega), km_u_k (fun e => h0 e.symm), km_u_k (fun e => h1 e.symm), km_u_k (fun e => h2 e.symm)⟩, (km_u_off 114 (by decide)).trans h.1.2.1, fun q => (h.1.2.2 q).mv (fun p _ _ => km_u_off p (by omega))⟩, h.2.u (by decide) (by decide) (by decide)⟩
theorem RT.u115 {m0 a : km_I} {k : Nat} {v : Int32} (h : RT f m0 a) : RT f m0 (km_u a 115 k v) := ⟨⟨h.1.1.tr ⟨fun p q => km_u_off p (by omega), km_u_p (by decide), km_u_p (by decide), km_u_p (by decide)⟩, (km_u_off 114 (by decide)).trans h.1.2.1, fun q => (h.1.2.2 q).mv (fun p _ _ => km_u_off p (by omega))⟩, h.2.u (by decide) (by decide) (by decide)⟩
theorem portOf_s {mi : km_I} {a : Nat} {K : Int32 → km_I → Prop} (hs : SP mi) (hp : RP mi) (ha : a < 120) (hK : ∀ p, p < 4 → K (nI p) mi) : X7_portOf_w (nI a) mi K := by
  have va : vp_in (nI a) 120 := vp_in_nI ha (by decide)
  obtain ⟨q, hq, eq⟩ := hp.1 a ha
  unfold X7_portOf_w
  refine ⟨fun _ => ⟨5, ?_⟩, fun _ => ⟨va, ?_⟩⟩
  · obtain ⟨p0, h0, e0⟩ := hs q hq
    have loop : ∀ (n i : Nat), i ≤ p0 → 4 < n + i → X7_portOf_b15 (nI a) n (nI a) (nI i) mi K := by
      intro n
      induction n with
      | zero =>
        intro i q1 q2
        exact absurd q2 (by omega)
      | succ n ih =>
        intro i q1 q2
        simp only [X7_portOf_b15]
        rw [nI_clamp (by omega), nI_clamp (n := a) (by omega), eq, nI_1]
        refine ⟨vp_in_nI (by omega) (by decide), va, fun _ => hK i (by omega), fun c => ih (i + 1) ?_ (by omega)⟩
        rcases Nat.lt_or_ge i p0 with z | z
        · exact z
        · exact absurd (by rw [show i = p0 by omega]; exact e0) c
    exact loop 5 0 (by omega) (by omega)
  · rw [nI_clamp (by omega), eq]
    exact hK q hq
theorem next_s {mi : km_I} {o i : Nat} {x3 x4 : Int32} {K : Int32 → km_I → Prop} (hs : SP mi) (hp : RP mi) (ho : o < 3) (hi : i ≤ 41) (hK : ∀ k, i ≤ k → k ≤ 41 → K (nI k) mi) : X7_next_w (nI o) (nI i) x3 x4 mi K := by
  have vo : vp_in (nI o) 3 := vp_in_nI ho (by decide)
  obtain ⟨⟨t, ht, et⟩, -⟩ := hp.2 o ho
  have loop : ∀ (n j : Nat), i ≤ j → j ≤ 41 → 41 < n + j → X7_next_b3 (nI o) (nI i) x3 x4 n (nI o) (nI i) x3 x4 (nI j) mi K := by
    intro n
    induction n with
    | zero =>
      intro j q1 q2 q3
      exact absurd q3 (by omega)
    | succ n ih =>
      intro j q1 q2 q3
      simp only [X7_next_b3]
      rw [nI_clamp (n := o) (by omega), et, nI_leI (by omega) (by omega), show (40 : Int32) = nI 40 from rfl, nx_mul, nI_add]
      have nx : j < t → X7_next_b51 (nI o) (nI i) x3 x4 (fun v0 v1 v2 v3 v4 m => X7_next_b3 (nI o) (nI i) x3 x4 n v0 v1 v2 v3 v4 m K) (nI o) (nI i) x3 x4 (nI j) mi K := fun hj => by
        unfold X7_next_b51
        rw [nI_1]
        exact ih (j + 1) (by omega) (by omega) (by omega)
      refine ⟨vo, fun _ => hK j q1 q2, fun c => ⟨vp_in_nI (by omega) (by decide), fun _ => nx (by omega), fun _ => portOf_s hs hp (by omega) (fun p h4 => ⟨vp_in_nI h4 (by decide), fun _ => hK j q1 q2, fun _ => nx (by omega)⟩)⟩⟩
  exact ⟨42, loop 42 i (Nat.le_refl _) hi (by omega)⟩
theorem tellsLike_s {mi : km_I} {x1 x2 : Int32} {K : Int32 → km_I → Prop} (hs : SP mi) (hp : RP mi) (hK : ∀ r, r = 0 ∨ r = 1 → K r mi) : X7_areTellsLike_w x1 x2 mi K := by
  have v1 : vp_in 1 3 := vp_in_nI (n := 1) (by decide) (by decide)
  have v2 : vp_in 2 3 := vp_in_nI (n := 2) (by decide) (by decide)
  have k0 := hK 0 (Or.inl rfl)
  have k1 := hK 1 (Or.inr rfl)
  obtain ⟨⟨t1, ht1, et1⟩, -⟩ := hp.2 1 (by decide)
  obtain ⟨⟨t2, ht2, et2⟩, -⟩ := hp.2 2 (by decide)
  have b111 : ∀ y3 y4, X7_areTellsLike_b111 x1 x2 x1 x2 y3 y4 mi K := fun y3 y4 => ⟨v1, fun _ => k0, fun _ => ⟨v2, fun _ => k0, fun _ => k1⟩⟩
  have loop : ∀ (n i j : Nat), i ≤ 41 → j ≤ 41 → 41 < n + i → X7_areTellsLike_b19 x1 x2 n x1 x2 (nI i) (nI j) mi K := by
    intro n
    induction n with
    | zero =>
      intro i j q1 q2 q3
      exact absurd q3 (by omega)
    | succ n ih =>
      intro i j q1 q2 q3
      simp only [X7_areTellsLike_b19]
      rw [show Int32.toNatClampNeg 1 = 1 from rfl, show Int32.toNatClampNeg 2 = 2 from rfl, et1, et2, nI_leI (by omega) (by omega), nI_leI (by omega) (by omega), show (40 : Int32) = nI 40 from rfl, show (80 : Int32) = nI 80 from rfl, nI_add, nI_add, nI_1, nI_1]
      refine ⟨v1, fun _ => b111 _ _, fun c1 => ⟨v2, fun _ => b111 _ _, fun c2 => portOf_s hs hp (by omega) (fun p h4 => portOf_s hs hp (by omega) (fun p' h4' => ⟨fun _ => k0, fun _ => ⟨vp_in_nI (by omega) (by decide), vp_in_nI (by omega) (by decide), fun _ => ?_, fun _ => k0⟩⟩))⟩⟩
      exact next_s (o := 1) hs hp (by decide) (by omega) (fun k hk1 hk2 => next_s (o := 2) hs hp (by decide) (by omega) (fun k' hk1' hk2' => ih k k' hk2 hk2' (by omega)))
  unfold X7_areTellsLike_w
  exact next_s (o := 1) (i := 0) hs hp (by decide) (by omega) (fun k hk1 hk2 => next_s (o := 2) (i := 0) hs hp (by decide) (by omega) (fun k' hk1' hk2' => ⟨42, loop 42 k k' hk2 hk2' (by omega)⟩))
/-- a PAIR among the first k -/
def PJ (mi : km_I) (A B k : Nat) (x1 x2 : Int32) : Prop := ∃ j, j < k ∧ mi A j = x1 ∧ mi B j = x2
theorem isPair_x {mi : km_I} {k : Nat} {x1 x2 : Int32} {K : Int32 → km_I → Prop} (hk : k < 7) (ek : mi 86 10 = nI k) (h1 : PJ mi 95 96 k x1 x2 → K 1 mi) (h0 : ¬ PJ mi 95 96 k x1 x2 → K 0 mi) : X7_isPair_w x1 x2 mi K := by
  have loop : ∀ (n i : Nat) (y3 : Int32), i ≤ k → k < n + i → ((y3 = 0 ∧ ¬ PJ mi 95 96 i x1 x2) ∨ (y3 = 1 ∧ PJ mi 95 96 i x1 x2)) → X7_isPair_b5 x1 x2 n x1 x2 y3 (nI i) mi K := by
    intro n
    induction n with
    | zero =>
      intro i y3 q1 q2
      exact absurd q2 (by omega)
    | succ n ih =>
      intro i y3 q1 q2 hy
      have b40 : i < k → PJ mi 95 96 (i + 1) x1 x2 → X7_isPair_b40 x1 x2 (fun v0 v1 v2 v3 m => X7_isPair_b5 x1 x2 n v0 v1 v2 v3 m K) x1 x2 y3 (nI i) mi K := fun hi hj => by
        unfold X7_isPair_b40 X7_isPair_b45
        rw [nI_1]
        exact ih (i + 1) 1 (by omega) (by omega) (Or.inr ⟨rfl, hj⟩)
      have b44 : i < k → ¬ PJ mi 95 96 (i + 1) x1 x2 → X7_isPair_b44 x1 x2 (fun v0 v1 v2 v3 m => X7_isPair_b5 x1 x2 n v0 v1 v2 v3 m K) x1 x2 y3 (nI i) mi K := fun hi hj => by
        unfold X7_isPair_b44 X7_isPair_b45
        rw [nI_1]
        exact ih (i + 1) 0 (by omega) (by omega) (Or.inl ⟨rfl, hj⟩)
      have up : PJ mi 95 96 i x1 x2 → PJ mi 95 96 (i + 1) x1 x2 := fun ⟨j, hj, e1, e2⟩ => ⟨j, by omega, e1, e2⟩
      have dn : ∀ (_ : ¬ PJ mi 95 96 i x1 x2) (_ : ¬ (mi 95 i = x1 ∧ mi 96 i = x2)), ¬ PJ mi 95 96 (i + 1) x1 x2 := fun hn hm ⟨j, hj, e1, e2⟩ => by
        rcases Nat.lt_or_ge j i with z | z
        · exact hn ⟨j, z, e1, e2⟩
        · rw [show j = i by omega] at e1 e2; exact hm ⟨e1, e2⟩
      simp only [X7_isPair_b5]
      rw [ek, nI_leI (by omega) (by omega), nI_clamp (by omega)]
      refine ⟨fun c => ?_, fun c => ⟨fun c3 => ?_, fun c3 => ?_⟩⟩
      · have ei : i = k := by omega
        rw [ei] at hy
        rcases hy with ⟨rfl, hn⟩ | ⟨rfl, hn⟩
        · exact ⟨Or.inl rfl, h0 hn⟩
        · exact ⟨Or.inr rfl, h1 hn⟩
      · rcases hy with ⟨rfl, hn⟩ | ⟨rfl, hn⟩
        · exact absurd rfl c3
        · exact b40 (by omega) (up hn)
      · rcases hy with ⟨rfl, hn⟩ | ⟨rfl, hn⟩
        · exact ⟨vp_in_nI (by omega) (by decide), fun c1 => b44 (by omega) (dn hn (fun e => c1 e.1)), fun c1 => ⟨vp_in_nI (by omega) (by decide), fun c2 => b44 (by omega) (dn hn (fun e => c2 e.2)), fun c2 => b40 (by omega) ⟨i, by omega, c1, c2⟩⟩⟩
        · exact absurd c3 (by decide)
  exact ⟨8, loop 8 0 0 (by omega) (by omega) (Or.inl ⟨rfl, fun ⟨j, hj, _⟩ => absurd hj (by omega)⟩)⟩
theorem areLike_s {mi : km_I} {K : Int32 → km_I → Prop} (hs : SP mi) (hp : RP mi) (hq : nb (mi 86 10) 7) (hK : ∀ r, r = 0 ∨ r = 1 → K r mi) : X7_areLike_w mi K := by
  have v1 : vp_in 1 3 := vp_in_nI (n := 1) (by decide) (by decide)
  have v2 : vp_in 2 3 := vp_in_nI (n := 2) (by decide) (by decide)
  obtain ⟨-, ⟨c1, hc1, ec1⟩⟩ := hp.2 1 (by decide)
  obtain ⟨kq, hkq, ekq⟩ := hq
  have b168 : ∀ (y2 : Int32) (Z : Int32 → Int32 → km_I → Prop), (∀ r, r = 0 ∨ r = 1 → Z r (y2 + 1) mi) → ∀ (n i : Nat) (y1 : Int32), i ≤ 3 → 3 < n + i → (y1 = 0 ∨ y1 = 1) → X7_areLike_b168 Z n y1 y2 (nI i) mi K := by
    intro y2 Z hZ n
    induction n with
    | zero =>
      intro i y1 q1 q2
      exact absurd q2 (by omega)
    | succ n ih =>
      intro i y1 q1 q2 hy
      simp only [X7_areLike_b168]
      rw [show (3 : Int32) = nI 3 from rfl, nI_leI (by omega) (by omega), nI_1]
      exact ⟨fun _ => hZ _ hy, fun c => ⟨fun _ => hZ _ hy, fun _ => tellsLike_s hs hp (fun r hr => ih (i + 1) r (by omega) (by omega) hr)⟩⟩
  have b157 : ∀ (n i : Nat) (y1 : Int32), i ≤ 4 → 4 < n + i → (y1 = 0 ∨ y1 = 1) → X7_areLike_b157 n y1 (nI i) mi K := by
    intro n
    induction n with
    | zero =>
      intro i y1 q1 q2
      exact absurd q2 (by omega)
    | succ n ih =>
      intro i y1 q1 q2 hy
      simp only [X7_areLike_b157]
      rw [show (4 : Int32) = nI 4 from rfl, nI_leI (by omega) (by omega)]
      refine ⟨fun _ => ⟨hy, hK _ hy⟩, fun c => ⟨fun _ => ⟨hy, hK _ hy⟩, fun _ => ⟨4, b168 _ _ (fun r hr => ?_) 4 0 y1 (by omega) (by omega) hy⟩⟩⟩
      rw [nI_1]
      exact ih (i + 1) r (by omega) (by omega) hr
  have b155 : ∀ y1 y2, (y1 = 0 ∨ y1 = 1) → X7_areLike_b155 y1 y2 mi K := fun y1 y2 hy => ⟨5, b157 5 0 y1 (by omega) (by omega) hy⟩
  have b68 : ∀ (n i : Nat) (y1 : Int32), i ≤ 3 → 3 < n + i → (y1 = 0 ∨ y1 = 1) → X7_areLike_b68 n y1 (nI i) mi K := by
    intro n
    induction n with
    | zero =>
      intro i y1 q1 q2
      exact absurd q2 (by omega)
    | succ n ih =>
      intro i y1 q1 q2 hy
      simp only [X7_areLike_b68]
      rw [show Int32.toNatClampNeg 1 = 1 from rfl, ec1, nI_leI (by omega) (by omega)]
      refine ⟨v1, fun _ => b155 _ _ hy, fun c => ⟨fun _ => b155 _ _ hy, fun _ => ?_⟩⟩
      have w2 : vp_in (2 + nI i) 6 := by
        rw [show (2 : Int32) = nI 2 from rfl, nI_add]
        exact vp_in_nI (by omega) (by decide)
      have w4 : vp_in (4 + nI i) 6 := by
        rw [show (4 : Int32) = nI 4 from rfl, nI_add]
        exact vp_in_nI (by omega) (by decide)
      have b147 : X7_areLike_b147 (fun v0 v1 m => X7_areLike_b68 n v0 v1 m K) y1 (nI i) mi K := by
        unfold X7_areLike_b147 X7_areLike_b148
        rw [nI_1]
        exact ih (i + 1) 0 (by omega) (by omega) (Or.inl rfl)
      have b148 : X7_areLike_b148 (fun v0 v1 m => X7_areLike_b68 n v0 v1 m K) y1 (nI i) 1 mi K := by
        unfold X7_areLike_b148
        rw [nI_1]
        exact ih (i + 1) 1 (by omega) (by omega) (Or.inr rfl)
      exact ⟨w2, w4, isPair_x hkq ekq (fun _ => ⟨fun _ => b147, fun _ => ⟨w2, w4, fun _ => b147, fun _ => ⟨w2, w4, fun _ => b147, fun _ => b148⟩⟩⟩) (fun _ => ⟨fun _ => b147, fun _ => ⟨w2, w4, fun _ => b147, fun _ => ⟨w2, w4, fun _ => b147, fun _ => b148⟩⟩⟩)⟩
  have b65 : ∀ z, (z = 0 ∨ z = 1) → X7_areLike_b65 z mi K := fun z hz => ⟨4, b68 4 0 z (by omega) (by omega) hz⟩
  have b64 : X7_areLike_b64 mi K := b65 0 (Or.inl rfl)
  unfold X7_areLike_w
  exact ⟨v1, v2, fun _ => b64, fun _ => ⟨v1, v2, fun _ => b64, fun _ => ⟨v1, v2, fun _ => b64, fun _ => ⟨v1, v2, fun _ => b64, fun _ => b65 1 (Or.inr rfl)⟩⟩⟩⟩
theorem rPlay_s {m0 mi : km_I} {s e : Nat} {x3 x4 x5 : Int32} {K : km_I → Prop} (hI : RI m0) (h : RT f m0 mi) (hs : s < 3) (he : e < 2) (hf : f → s ≠ 0) (hm : nb x3 6) (hK : ∀ mi', RT f m0 mi' → K mi') : X7_play_w (nI s) (nI e) x3 x4 x5 mi K :=
  play_s hs he hf (hI.mv h.1.1).2.1 h.2 hm (fun mi' hf hp => hK _ (h.fp hf hp))
theorem rLike_s {m0 mi : km_I} {K : Int32 → km_I → Prop} (hI : RI m0) (h : RT f m0 mi) (hK : ∀ r, r = 0 ∨ r = 1 → K r mi) : X7_areLike_w mi K := areLike_s (hI.mv h.1.1).2.2.1 h.2 (hI.mv h.1.1).2.2.2.1 hK
theorem rHeld_s {m0 mi : km_I} {x1 x2 : Int32} {K : Int32 → km_I → Prop} (hI : RI m0) (h : RT f m0 mi) (h1 : nb x1 6) (h2 : nb x2 6) (hK : ∀ r mi', RT f m0 mi' → K r mi') : X7_held_w x1 x2 mi K := by
  obtain ⟨k, hk, ek⟩ := hI.mk
  have v1 : vp_in 1 3 := vp_in_nI (n := 1) (by decide) (by decide)
  have v2 : vp_in 2 3 := vp_in_nI (n := 2) (by decide) (by decide)
  have b22 : ∀ (i : Nat) (Z : Int32 → Int32 → Int32 → Int32 → km_I → Prop), (∀ v m, RT f m0 m → Z x1 x2 v (nI (i + 1)) m) → ∀ (n j : Nat) (y3 : Int32) (mi : km_I), j ≤ 9 → 9 < n + j → RT f m0 mi → X7_held_b22 x1 x2 Z n x1 x2 y3 (nI i) (nI j) mi K := by
    intro i Z hZ n
    induction n with
    | zero =>
      intro j y3 mi q1 q2
      exact absurd q2 (by omega)
    | succ n ih =>
      intro j y3 mi q1 q2 h
      simp only [X7_held_b22]
      rw [h.1.1.2.2.1, ek, nI_ltI (by omega) (by omega), nI_1]
      have b99 : j ≤ k → ∀ v m, RT f m0 m → X7_held_b99 x1 x2 Z (fun v0 v1 v2 v3 v4 m => X7_held_b22 x1 x2 Z n v0 v1 v2 v3 v4 m K) x1 x2 v (nI i) (nI j) m K := fun hj v m hm => by
        unfold X7_held_b99
        rw [nI_1]
        exact ih (j + 1) v m (by omega) (by omega) hm
      refine ⟨fun _ => hZ _ _ h, fun c => rPlay_s (s := 1) (e := 0) hI h (by decide) (by decide) (fun _ => by decide) h1 (fun m39 h39 => rPlay_s (s := 2) (e := 1) hI h39 (by decide) (by decide) (fun _ => by decide) h2 (fun m50 h50 => ⟨v1, fun _ => b99 (by omega) _ _ h50, fun _ => ⟨v2, fun _ => rLike_s hI h50 (fun r _ => ⟨fun _ => b99 (by omega) _ _ h50, fun _ m88 e88 m94 e94 => hK _ _ ?_⟩), fun _ => b99 (by omega) _ _ h50⟩⟩))⟩
      rw [e94, e88]
      exact (h50.u86 (by decide) (by decide) (by decide)).u86 (by decide) (by decide) (by decide)
  have b10 : ∀ (n i : Nat) (y3 : Int32) (mi : km_I), i ≤ 9 → 9 < n + i → RT f m0 mi → X7_held_b10 x1 x2 n x1 x2 y3 (nI i) mi K := by
    intro n
    induction n with
    | zero =>
      intro i y3 mi q1 q2
      exact absurd q2 (by omega)
    | succ n ih =>
      intro i y3 mi q1 q2 h
      simp only [X7_held_b10]
      rw [h.1.1.2.2.1, ek, nI_ltI (by omega) (by omega)]
      exact ⟨fun _ => hK _ _ h, fun c => ⟨10, b22 i _ (fun v m hm => ih (i + 1) v m (by omega) (by omega) hm) 10 0 y3 mi (by omega) (by omega) h⟩⟩
  unfold X7_held_w
  intro m4 e4
  exact ⟨10, b10 10 0 1 m4 (by omega) (by omega) (by rw [e4]; exact h.u86 (by decide) (by decide) (by decide))⟩
