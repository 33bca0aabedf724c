/-! THE CLASS between calls; what its RUNS and WALKS may change -/
def CI (mi : km_I) : Prop := (mi 0 1 = nI 3 ∨ mi 0 1 = nI 7) ∧ (BI mi 1 ∧ BI mi 7) ∧ (∀ t, km_isM t → PM mi t) ∧ (PO mi 13 ∧ PO mi 17) ∧ nb (mi 21 0) 7 ∧ ∀ j, j < 6 → nb (mi 22 j) 6 ∧ nb (mi 23 j) 6
def FC (mi mi' : km_I) : Prop := (∀ p, (1 ≤ p ∧ p < 17) ∨ (21 ≤ p ∧ p < 24) ∨ (26 ≤ p ∧ p < 38) ∨ 86 ≤ p → mi' p = mi p) ∧ mi' 0 0 = mi 0 0 ∧ mi' 0 1 = mi 0 1
def CS (m0 mi : km_I) : Prop := FC m0 mi ∧ CI mi
theorem FC.rf (mi : km_I) : FC mi mi := ⟨fun _ _ => rfl, rfl, rfl⟩
theorem FC.tr {a b c : km_I} (h : FC a b) (h' : FC b c) : FC a c := ⟨fun p hp => (h'.1 p hp).trans (h.1 p hp), h'.2.1.trans h.2.1, h'.2.2.trans h.2.2⟩
theorem PM.mv {a c : km_I} {t : Nat} (h : PM a t) (e : ∀ p, t ≤ p → p < t + 12 → c p = a p) : PM c t := by
  obtain ⟨h1, h2, h3, h4⟩ := h
  refine ⟨fun j hj => by rw [e _ (by omega) (by omega)]; exact h1 j hj, by rw [e _ (by omega) (by omega)]; exact h2, by rw [e _ (by omega) (by omega)]; exact h3, fun i hi => by rw [e _ (by omega) (by omega)]; exact h4 i hi⟩
theorem PO.mv {a c : km_I} {o : Nat} (h : PO a o) (e : ∀ p, o ≤ p → p < o + 4 → c p = a p) : PO c o := fun p hp => by
  rw [e _ (by omega) (by omega), e _ (by omega) (by omega), e _ (by omega) (by omega)]
  exact h p hp
theorem M_ap {t t' : Nat} (h : km_isM t) (h' : km_isM t') : t = t' ∨ t + 12 ≤ t' ∨ t' + 12 ≤ t := by
  rcases h with rfl | rfl | rfl | rfl | rfl <;> rcases h' with rfl | rfl | rfl | rfl | rfl <;> decide
theorem M_rg {t : Nat} (h : km_isM t) : 26 ≤ t ∧ t + 12 ≤ 86 := by rcases h with rfl | rfl | rfl | rfl | rfl <;> decide
theorem CS.fm {m0 a c : km_I} {t : Nat} (h : CS m0 a) (ht : km_isM t) (hn : 38 ≤ t) (hf : FM a c t) (hp : PM c t) : CS m0 c := by
  obtain ⟨hF, c1, ⟨c2, c2'⟩, c3, ⟨c4, c4'⟩, c5, c6⟩ := h
  obtain ⟨r1, r2⟩ := M_rg ht
  refine ⟨hF.tr ⟨fun p hp => hf.1 p (by omega), by rw [hf.1 0 (by omega)], by rw [hf.1 0 (by omega)]⟩, by rw [hf.1 0 (by omega)]; exact c1, ⟨c2.mv (fun p _ _ => hf.1 p (by omega)), c2'.mv (fun p _ _ => hf.1 p (by omega))⟩, fun t' ht' => ?_, ⟨c4.mv (fun p _ _ => hf.1 p (by omega)), c4'.mv (fun p _ _ => hf.1 p (by omega))⟩, by rw [hf.1 21 (by omega)]; exact c5, fun j hj => by rw [hf.1 22 (by omega), hf.1 23 (by omega)]; exact c6 j hj⟩
  rcases M_ap ht ht' with e | e | e
  · subst e; exact hp
  · exact (c3 t' ht').mv (fun p _ _ => hf.1 p (by omega))
  · exact (c3 t' ht').mv (fun p _ _ => hf.1 p (by omega))
theorem CS.bi {m0 a : km_I} {b : Nat} (h : CS m0 a) (hb : km_isB b) : BI a b := by
  rcases hb with rfl | rfl
  · exact h.2.2.1.1
  · exact h.2.2.1.2
theorem go_c {m0 mi : km_I} {t b : Nat} {x1 x2 x3 : Int32} {K : km_I → Prop} (h : CS m0 mi) (ht : km_isM t) (hn : 38 ≤ t) (hb : km_isB b) (hm : nb x1 6) (hK : ∀ mi', CS m0 mi' → K mi') : X1_go_w t b x1 x2 x3 mi K :=
  go_s (h.2.2.2.1 t ht) (h.bi hb) (bt_ap hb ht) hm (fun mi' hf hp => hK _ (h.fm ht hn hf hp))
theorem runBoth_c {m0 mi : km_I} {x1 x2 x3 x4 : Int32} {K : Int32 → km_I → Prop} (h : CS m0 mi) (h1 : nb x1 6) (h2 : nb x2 6) (hK : ∀ r mi', CS m0 mi' → K r mi') : X6_runBoth_w x1 x2 x3 x4 mi K := by
  unfold X6_runBoth_w
  refine go_c h (by decide) (by decide) (by decide) h1 (fun m8 h8 => go_c h8 (by decide) (by decide) (by decide) h2 (fun m19 h19 => ?_))
  exact ⟨fun _ => hK _ _ h19, fun _ => ⟨fun _ => hK _ _ h19, fun _ => hK _ _ h19⟩⟩
theorem runsAlike_c {m0 mi : km_I} {o : Nat} {K : Int32 → km_I → Prop} (h : CS m0 mi) (ho : PO mi o) (hK : ∀ r, K r mi) : X6_runsAlike_w o mi K := by
  have p0 := h.2.2.2.1 38 (by decide)
  have p1 := h.2.2.2.1 50 (by decide)
  obtain ⟨a, ha, ea⟩ := p0.2.1
  unfold X6_runsAlike_w
  have k : X3_alike_w o 39 51 0 (mi 39 5) mi (fun r43 m43 => ((r43 = 0 → K 0 m43) ∧ (¬ r43 = 0 → K 1 m43))) := by
    rw [show mi 39 5 = nI a from ea, show (0 : Int32) = nI 0 from rfl]
    exact alike_s (by omega) (by omega) ho p0.1 p1.1 ⟨fun _ => hK _, fun _ => hK _⟩ ⟨fun _ => hK _, fun _ => hK _⟩
  exact endsLike_s ⟨fun _ => hK _, fun _ => ⟨fun _ => hK _, fun _ => k⟩⟩ ⟨fun _ => hK _, fun _ => ⟨fun _ => hK _, fun _ => k⟩⟩
theorem CI.mk {mi : km_I} (h : CI mi) : ∃ k, (k = 3 ∨ k = 7) ∧ mi 0 1 = nI k := by
  rcases h.1 with e | e
  · exact ⟨3, Or.inl rfl, e⟩
  · exact ⟨7, Or.inr rfl, e⟩
theorem CS.mk {m0 mi : km_I} (h : CS m0 mi) : ∃ k, (k = 3 ∨ k = 7) ∧ mi 0 1 = nI k ∧ m0 0 1 = nI k := by
  obtain ⟨k, hk, e⟩ := h.2.mk
  exact ⟨k, hk, e, by rw [← h.1.2.2]; exact e⟩
/-- fields of the object's own that no promise of the state rests on -/
theorem CS.u0 {m0 mi : km_I} {k : Nat} {v : Int32} (h : CS m0 mi) (hk : 13 ≤ k) : CS m0 (km_u mi 0 k v) := by
  have e : ∀ p, 1 ≤ p → km_u mi 0 k v p = mi p := fun p hp => km_u_off p (by omega)
  obtain ⟨hF, c1, ⟨c2, c2'⟩, c3, ⟨c4, c4'⟩, c5, c6⟩ := h
  refine ⟨hF.tr ⟨fun p hp => e p (by omega), km_u_k (by omega), km_u_k (by omega)⟩, by rw [km_u_k (by omega)]; exact c1, ⟨c2.mv (fun p _ _ => e p (by omega)), c2'.mv (fun p _ _ => e p (by omega))⟩, fun t ht => (c3 t ht).mv (fun p _ _ => e p (by have := M_rg ht; omega)), ⟨c4.mv (fun p _ _ => e p (by omega)), c4'.mv (fun p _ _ => e p (by omega))⟩, by rw [e 21 (by omega)]; exact c5, fun j hj => by rw [e 22 (by omega), e 23 (by omega)]; exact c6 j hj⟩
theorem held_i {m0 : km_I} {x1 x2 y1 y2 : Int32} {Z5 : Int32 → Int32 → Int32 → Int32 → km_I → Prop} {K : Int32 → km_I → Prop} {i : Nat} (h1 : nb y1 6) (h2 : nb y2 6) (hZ : ∀ v mi', CS m0 mi' → Z5 y1 y2 v (nI (i + 1)) mi') (hK : ∀ r mi', CS m0 mi' → K r mi') : ∀ (n j : Nat) (y3 : Int32) (mi : km_I), j ≤ 9 → 9 < n + j → CS m0 mi → X6_held_b17 x1 x2 Z5 n y1 y2 y3 (nI i) (nI j) mi K := by
  intro n
  induction n with
  | zero =>
    intro j y3 mi q1 q2
    exact absurd q2 (by omega)
  | succ n ih =>
    intro j y3 mi q1 q2 h
    obtain ⟨k, hk, ek, -⟩ := h.mk
    simp only [X6_held_b17]
    rw [ek, nI_ltI (by omega) (by omega), nI_1]
    refine ⟨fun _ => hZ _ _ h, fun c => runBoth_c h h1 h2 (fun r33 m33 h33 => ?_)⟩
    have nx : ∀ v m, CS m0 m → X6_held_b69 x1 x2 Z5 (fun v0 v1 v2 v3 v4 m => X6_held_b17 x1 x2 Z5 n v0 v1 v2 v3 v4 m K) y1 y2 v (nI i) (nI j) m K := fun v m hm => by
      unfold X6_held_b69
      rw [nI_1]
      exact ih (j + 1) v m (by omega) (by omega) hm
    refine ⟨fun _ => runsAlike_c h33 h33.2.2.2.2.1.1 (fun r49 => ⟨fun _ => nx _ _ h33, fun _ m58 e58 m64 e64 => hK _ _ ?_⟩), fun _ => nx _ _ h33⟩
    rw [e64, e58]
    exact (h33.u0 (by omega)).u0 (by omega)
theorem held_o {m0 : km_I} {x1 x2 y1 y2 : Int32} {K : Int32 → km_I → Prop} (h1 : nb y1 6) (h2 : nb y2 6) (hK : ∀ r mi', CS m0 mi' → K r mi') : ∀ (n i : Nat) (y3 : Int32) (mi : km_I), i ≤ 9 → 9 < n + i → CS m0 mi → X6_held_b5 x1 x2 n y1 y2 y3 (nI i) mi K := by
  intro n
  induction n with
  | zero =>
    intro i y3 mi q1 q2
    exact absurd q2 (by omega)
  | succ n ih =>
    intro i y3 mi q1 q2 h
    obtain ⟨k, hk, ek, -⟩ := h.mk
    simp only [X6_held_b5]
    rw [ek, nI_ltI (by omega) (by omega)]
    refine ⟨fun _ => hK _ _ h, fun c => ⟨10, ?_⟩⟩
    exact held_i h1 h2 (fun v mi' h' => ih (i + 1) v mi' (by omega) (by omega) h') hK 10 0 y3 mi (by omega) (by omega) h
theorem held_c {m0 mi : km_I} {x1 x2 : Int32} {K : Int32 → km_I → Prop} (h : CS m0 mi) (h1 : nb x1 6) (h2 : nb x2 6) (hK : ∀ r mi', CS m0 mi' → K r mi') : X6_held_w x1 x2 mi K := ⟨10, held_o h1 h2 hK 10 0 1 mi (by omega) (by omega) h⟩
/-- a METHOD that is there -/
theorem has_c {mi : km_I} {b : Nat} {x : Int32} {K : Int32 → km_I → Prop} (hb : BI mi b) (hK1 : nb x 6 → 0 ≤ x → x < mi b 0 → K 1 mi) (hK0 : (x < 0 ∨ mi b 0 ≤ x) → K 0 mi) : X0_has_w b x mi K := by
  obtain ⟨k, hk, ek⟩ := hb.1
  unfold X0_has_w
  refine ⟨fun c => hK0 (Or.inl c), fun c => ⟨fun c2 => hK0 (Or.inr c2), fun c2 => hK1 ?_ (Int32.not_lt.mp c) (Int32.not_le.mp c2)⟩⟩
  obtain ⟨j, hj, rfl⟩ := nI_of c
  rw [ek, nI_leI (by omega) (by omega)] at c2
  exact nb_of _ (by omega)
theorem isPair_c {mi : km_I} {x1 x2 : Int32} {K : Int32 → km_I → Prop} (h : CI mi) (hK1 : nb x1 6 → nb x2 6 → 0 ≤ x1 → x1 < mi 1 0 → 0 ≤ x2 → x2 < mi 7 0 → K 1 mi) (hK0 : (x1 < 0 ∨ mi 1 0 ≤ x1 ∨ x2 < 0 ∨ mi 7 0 ≤ x2) → K 0 mi) : X6_isPair_w x1 x2 mi K := by
  unfold X6_isPair_w
  refine has_c h.2.1.1 (fun a a1 a2 => ⟨fun c => absurd c (by decide), fun _ => has_c h.2.1.2 (fun b b1 b2 => ⟨fun c => absurd c (by decide), fun _ => hK1 a b a1 a2 b1 b2⟩) (fun c => ⟨fun _ => hK0 (by rcases c with c | c <;> simp [c]), fun c9 => absurd rfl c9⟩)⟩) (fun c => ⟨fun _ => hK0 (by rcases c with c | c <;> simp [c]), fun c9 => absurd rfl c9⟩)
theorem hold_c {m0 mi : km_I} {x1 x2 : Int32} {K : Int32 → km_I → Prop} (h : CS m0 mi) (hK : ∀ r mi', CS m0 mi' → K r mi') : X6_hold_w x1 x2 mi K := by
  unfold X6_hold_w
  have k48 : ∀ y3 z0 m, CS m0 m → X6_hold_b48 x1 x2 x1 x2 y3 z0 m K := fun y3 z0 m hm => by
    unfold X6_hold_b48
    intro m48 e48
    rw [e48]
    exact hK _ _ (hm.u0 (by omega))
  have k32 : ∀ y3 z0 m, CS m0 m → X6_hold_b32 x1 x2 x1 x2 y3 z0 m K := fun y3 z0 m hm => by
    unfold X6_hold_b32
    intro m32 e32
    have h9 : CS m0 m32 := by rw [e32]; exact hm.u0 (by omega)
    exact ⟨fun _ => k48 _ _ _ h9, fun _ => k48 _ _ _ h9⟩
  refine isPair_c h.2 (fun a b _ _ _ _ => ⟨fun _ => held_c h a b (fun r15 m15 h15 => ⟨fun _ => k32 _ _ _ h15, fun _ => k32 _ _ _ h15⟩), fun c => absurd c (by decide)⟩) (fun _ => ⟨fun c => absurd rfl c, fun _ => hK _ _ h⟩)
theorem match_c {m0 mi : km_I} {x1 : Int32} {K : Int32 → km_I → Prop} (h : CS m0 mi) (hK : ∀ r mi', CS m0 mi' → K r mi') : X6_match_w x1 mi K := by
  unfold X6_match_w
  refine has_c h.2.2.1.1 (fun a _ _ => ⟨fun _ => ⟨8, ?_⟩, fun c => absurd c (by decide)⟩) (fun _ => ⟨fun c => absurd rfl c, fun _ => hK _ _ h⟩)
  have loop : ∀ (n i : Nat) (mi : km_I), i ≤ 7 → 7 < n + i → CS m0 mi → X6_match_b16 x1 n x1 (nI i) mi K := by
    intro n
    induction n with
    | zero =>
      intro i mi q1 q2
      exact absurd q2 (by omega)
    | succ n ih =>
      intro i mi q1 q2 h
      obtain ⟨k, hk, ek⟩ := h.2.2.1.2.1
      simp only [X6_match_b16]
      rw [ek, nI_leI (by omega) (by omega), nI_1]
      refine ⟨fun _ => hK _ _ h, fun c => held_c h a (nb_of _ (by omega)) (fun r m hm => ⟨fun _ => ih (i + 1) m (by omega) (by omega) hm, fun _ => hK _ _ hm⟩)⟩
  exact loop 8 0 mi (by omega) (by omega) h
