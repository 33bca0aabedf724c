/-! THE REFERENCE is safe -/
def RB (mi : km_I) : Prop := (∀ j, j < 2 → nb (mi 87 j) 7) ∧ (∀ j, j < 12 → nb (mi 88 j) 25) ∧ ∀ j, j < 288 → okop (mi 89 j) (mi 90 j) (mi 91 j) (mi 92 j)
def RP (mi : km_I) : Prop := (∀ j, j < 120 → nb (mi 107 j) 4) ∧ ∀ o, o < 3 → nb (mi 106 o) 41 ∧ nb (mi 110 o) 3
def S0 (m0 mi : km_I) : Prop := mi 106 0 = m0 106 0 ∧ ∀ j, j < 40 → mi 107 j = m0 107 j ∧ mi 108 j = m0 108 j
theorem S0.rf (mi : km_I) : S0 mi mi := ⟨rfl, fun _ _ => ⟨rfl, rfl⟩⟩
theorem S0.tr {a b c : km_I} (h : S0 a b) (h' : S0 b c) : S0 a c := ⟨h'.1.trans h.1, fun j hj => ⟨(h'.2 j hj).1.trans (h.2 j hj).1, (h'.2 j hj).2.trans (h.2 j hj).2⟩⟩
theorem S0.mv {z a c : km_I} (h : S0 z a) (e : ∀ p, 106 ≤ p → p ≤ 108 → c p = a p) : S0 z c := ⟨by rw [e 106 (by omega) (by omega)]; exact h.1, fun j hj => by rw [e 107 (by omega) (by omega), e 108 (by omega) (by omega)]; exact h.2 j hj⟩
def FP (f : Prop) (m0 mi : km_I) : Prop := (∀ p, p < 86 ∨ (87 ≤ p ∧ p < 97) ∨ 114 ≤ p → mi p = m0 p) ∧ (∀ k, k ≠ 13 → k ≠ 18 → mi 86 k = m0 86 k) ∧ (f → S0 m0 mi)
def RM (f : Prop) (m0 mi : km_I) (s u g : Nat) : Prop := FP f m0 mi ∧ RB mi ∧ RP mi ∧ (u ≤ 8 ∧ mi 86 13 = nI u ∧ ∀ f, f < u → nb (mi 97 f) 6 ∧ nb (mi 98 f) 25 ∧ nb (mi 99 f) 6) ∧ (s < 3 ∧ mi 86 18 = nI s) ∧ (g ≤ 100 ∧ mi 104 s = nI g)
variable {f : Prop}
theorem FP.rf (mi : km_I) : FP f mi mi := ⟨fun _ _ => rfl, fun _ _ _ => rfl, fun _ => S0.rf mi⟩
theorem FP.tr {a b c : km_I} (h : FP f a b) (h' : FP f b c) : FP f a c := ⟨fun p hp => (h'.1 p hp).trans (h.1 p hp), fun k h1 h2 => (h'.2.1 k h1 h2).trans (h.2.1 k h1 h2), fun q => (h.2.2 q).tr (h'.2.2 q)⟩
theorem FP.u {a b : km_I} {p k : Nat} {v : Int32} (h : FP f a b) (hp : (97 ≤ p ∧ p < 114 ∧ p ≠ 106 ∧ p ≠ 107 ∧ p ≠ 108) ∨ (p = 86 ∧ (k = 13 ∨ k = 18))) : FP f a (km_u b p k v) := by
  refine ⟨fun q hq => ?_, fun j h1 h2 => ?_, fun hq => (h.2.2 hq).mv (fun p' _ _ => km_u_off p' (by omega))⟩
  · rw [km_u_off q (by omega)]; exact h.1 q hq
  · rw [← h.2.1 j h1 h2]
    rcases hp with hp | hp
    · exact km_u_p (by omega)
    · exact km_u_k (by omega)
theorem FP.ut {a b : km_I} {p k : Nat} {v : Int32} (h : FP f a b) (hp : p = 106 ∨ p = 107 ∨ p = 108) (hk : f → (p = 106 → k ≠ 0) ∧ (p ≠ 106 → 40 ≤ k)) : FP f a (km_u b p k v) := by
  refine ⟨fun q hq => by rw [km_u_off q (by omega)]; exact h.1 q hq, fun j h1 h2 => by rw [km_u_p (by omega)]; exact h.2.1 j h1 h2, fun hf => ?_⟩
  obtain ⟨s1, s2⟩ := h.2.2 hf
  obtain ⟨k1, k2⟩ := hk hf
  rcases hp with rfl | rfl | rfl
  · exact ⟨by rw [km_u_k (fun e => k1 rfl e.symm)]; exact s1, fun j hj => by rw [km_u_p (by omega), km_u_p (by omega)]; exact s2 j hj⟩
  · have z := k2 (by omega)
    exact ⟨by rw [km_u_p (by omega)]; exact s1, fun j hj => by rw [km_u_k (by omega), km_u_p (by omega)]; exact s2 j hj⟩
  · have z := k2 (by omega)
    exact ⟨by rw [km_u_p (by omega)]; exact s1, fun j hj => by rw [km_u_p (by omega), km_u_k (by omega)]; exact s2 j hj⟩
theorem RB.mv {a c : km_I} (h : RB a) (e : ∀ p, 87 ≤ p → p < 93 → c p = a p) : RB c := by
  obtain ⟨h1, h2, h3⟩ := h
  refine ⟨fun j hj => by rw [e _ (by omega) (by omega)]; exact h1 j hj, fun j hj => by rw [e _ (by omega) (by omega)]; exact h2 j hj, fun j hj => ?_⟩
  rw [e 89 (by omega) (by omega), e 90 (by omega) (by omega), e 91 (by omega) (by omega), e 92 (by omega) (by omega)]
  exact h3 j hj
theorem RB.u {a : km_I} {p k : Nat} {v : Int32} (h : RB a) (hp : p < 87 ∨ 93 ≤ p) : RB (km_u a p k v) := h.mv (fun q h1 h2 => km_u_off q (by omega))
theorem RP.u {a : km_I} {p k : Nat} {v : Int32} (h : RP a) (h1 : p ≠ 107) (h2 : p ≠ 106) (h3 : p ≠ 110) : RP (km_u a p k v) := ⟨fun j hj => by rw [km_u_p (fun e => h1 e.symm)]; exact h.1 j hj, fun o ho => by rw [km_u_p (fun e => h2 e.symm), km_u_p (fun e => h3 e.symm)]; exact h.2 o ho⟩
theorem RM.u {m0 mi : km_I} {s u g p k : Nat} {v : Int32} (h : RM f m0 mi s u g) (h1 : 97 ≤ p) (h2 : p < 114) (h3 : p ≠ 97 ∧ p ≠ 98 ∧ p ≠ 99 ∧ p ≠ 104 ∧ p ≠ 106 ∧ p ≠ 107 ∧ p ≠ 108 ∧ p ≠ 110) : RM f m0 (km_u mi p k v) s u g := by
  obtain ⟨a1, a2, a3, ⟨b1, b2, b3⟩, ⟨c1, c2⟩, d1, d2⟩ := h
  refine ⟨a1.u (by omega), a2.u (by omega), a3.u (by omega) (by omega) (by omega), ⟨b1, by rw [km_u_p (by omega)]; exact b2, fun f hf => ?_⟩, ⟨c1, by rw [km_u_p (by omega)]; exact c2⟩, d1, by rw [km_u_p (by omega)]; exact d2⟩
  rw [km_u_p (by omega), km_u_p (by omega), km_u_p (by omega)]
  exact b3 f hf
theorem RM.u8 {m0 mi : km_I} {s u g k : Nat} {v : Int32} (h : RM f m0 mi s u g) (hk : f → 40 ≤ k) : RM f m0 (km_u mi 108 k v) s u g := by
  obtain ⟨a1, a2, a3, ⟨b1, b2, b3⟩, ⟨c1, c2⟩, d1, d2⟩ := h
  refine ⟨a1.ut (by omega) (fun q => ⟨fun e => absurd e (by omega), fun _ => hk q⟩), a2.u (by omega), a3.u (by omega) (by omega) (by omega), ⟨b1, by rw [km_u_p (by omega)]; exact b2, fun f hf => ?_⟩, ⟨c1, by rw [km_u_p (by omega)]; exact c2⟩, d1, by rw [km_u_p (by omega)]; exact d2⟩
  rw [km_u_p (by omega), km_u_p (by omega), km_u_p (by omega)]
  exact b3 f hf
theorem throwsOut_s {m0 mi : km_I} {s u g : Nat} {x1 x2 : Int32} {K : km_I → Prop} (h : RM f m0 mi s u g) (hK : ∀ mi', RM f m0 mi' s u g → mi' 101 s = 1 → K mi') : X7_throwsOut_w x1 x2 mi K := by
  have hs := h.2.2.2.2.1
  have v : vp_in (nI s) 3 := vp_in_nI hs.1 (by decide)
  unfold X7_throwsOut_w
  rw [hs.2]
  refine ⟨v, fun m9 e9 => ?_⟩
  rw [nI_clamp (by omega)] at e9
  have h9 : RM f m0 m9 s u g := by rw [e9]; exact h.u (by omega) (by omega) (by omega)
  rw [h9.2.2.2.2.1.2]
  refine ⟨v, fun m19 e19 => ?_⟩
  have h19 : RM f m0 m19 s u g := by rw [e19]; exact h9.u (by omega) (by omega) (by omega)
  rw [h19.2.2.2.2.1.2]
  refine ⟨v, fun m29 e29 => hK _ ?_ ?_⟩
  · rw [e29]; exact h19.u (by omega) (by omega) (by omega)
  · rw [e29, km_u_p (by decide), e19, km_u_p (by decide), e9, km_u_at]
theorem end_s {m0 mi : km_I} {s u g : Nat} {v : Int32} (h : RM f m0 mi s u g) : RM f m0 (km_u mi 101 s v) s u g := h.u (by omega) (by omega) (by omega)
theorem returns_s {m0 mi : km_I} {s u g : Nat} {x1 : Int32} {K : km_I → Prop} (h : RM f m0 mi s (u + 1) g) (hK : ∀ mi', RM f m0 mi' s u g → (u = 0 → 0 ≤ mi' 101 s) → K mi') : X7_returns_w x1 mi K := by
  obtain ⟨a1, a2, a3, ⟨b1, b2, b3⟩, ⟨c1, c2⟩, d1, d2⟩ := h
  unfold X7_returns_w
  rw [b2, nI_pred]
  intro m7 e7
  have h7 : RM f m0 m7 s u g := by
    rw [e7]
    refine ⟨a1.u (by omega), a2.u (by omega), a3.u (by omega) (by omega) (by omega), ⟨by omega, km_u_at _ _ _ _, fun f hf => ?_⟩, ⟨c1, by rw [km_u_k (by omega)]; exact c2⟩, d1, by rw [km_u_p (by omega)]; exact d2⟩
    rw [km_u_p (by omega), km_u_p (by omega), km_u_p (by omega)]
    exact b3 f (by omega)
  have t7 : nb (m7 99 u) 6 := by rw [e7, km_u_p (by omega)]; exact (b3 u (by omega)).2.2
  have v : vp_in (nI s) 3 := vp_in_nI c1 (by decide)
  rw [h7.2.2.2.1.2.1, h7.2.2.2.2.1.2, nI_clamp (by omega)]
  refine ⟨fun c => ?_, fun c => ⟨v, fun m26 e26 => ?_⟩⟩
  · rcases u with _ | u
    · exact absurd nI_0 c
    obtain ⟨r, hr, er⟩ := t7
    rw [er, nI_pred, show (6 : Int32) = nI 6 from rfl, nx_mul, nI_add, nI_clamp (by omega)]
    refine ⟨vp_in_nI (by omega) (by decide), vp_in_nI (by omega) (by decide), fun m64 e64 => hK _ ?_ (fun e => absurd e (by omega))⟩
    rw [e64]
    exact h7.u (by omega) (by omega) (by omega)
  · rw [nI_clamp (by omega)] at e26
    have h26 : RM f m0 m26 s u g := by rw [e26]; exact h7.u (by omega) (by omega) (by omega)
    rw [h26.2.2.2.2.1.2]
    refine ⟨v, fun m36 e36 => hK _ ?_ (fun _ => ?_)⟩
    · rw [e36]; exact h26.u (by omega) (by omega) (by omega)
    · rw [e36, km_u_p (by decide), e26, km_u_at]; decide
theorem rEnter_s {m0 mi : km_I} {s u g : Nat} {x1 x2 x3 x4 : Int32} {K : km_I → Prop} (h : RM f m0 mi s u g) (hu : u < 8) (hm : nb x1 6) (ht : nb x4 6) (hK : ∀ mi', RM f m0 mi' s (u + 1) g → mi' 101 s = mi 101 s → K mi') : X7_enter_w x1 x2 x3 x4 mi K := by
  obtain ⟨a1, a2, a3, ⟨b1, b2, b3⟩, ⟨c1, c2⟩, d1, d2⟩ := h
  have v8 : vp_in (nI u) 8 := vp_in_nI hu (by decide)
  unfold X7_enter_w
  rw [b2]
  refine ⟨v8, fun m9 e9 => ?_⟩
  rw [nI_clamp (by omega)] at e9
  rw [show m9 86 13 = nI u from by rw [e9, km_u_p (by omega)]; exact b2]
  refine ⟨v8, fun m19 e19 => ?_⟩
  rw [nI_clamp (by omega)] at e19
  rw [show m19 86 13 = nI u from by rw [e19, km_u_p (by omega), e9, km_u_p (by omega)]; exact b2]
  refine ⟨v8, fun m30 e30 => ⟨7, ?_⟩⟩
  rw [nI_clamp (by omega)] at e30
  -- the frame that is being made
  have h30 : FP f m0 m30 ∧ RB m30 ∧ RP m30 ∧ m30 86 13 = nI u ∧ (∀ f, f < u + 1 → nb (m30 97 f) 6 ∧ nb (m30 98 f) 25 ∧ nb (m30 99 f) 6) ∧ m30 86 18 = nI s ∧ m30 104 s = nI g ∧ m30 101 s = mi 101 s := by
    subst e30; subst e19; subst e9
    refine ⟨((a1.u (by omega)).u (by omega)).u (by omega), ((a2.u (by omega)).u (by omega)).u (by omega), ((a3.u (by omega) (by omega) (by omega)).u (by omega) (by omega) (by omega)).u (by omega) (by omega) (by omega), by rw [km_u_p (by omega), km_u_p (by omega), km_u_p (by omega)]; exact b2, fun f hf => ?_, by rw [km_u_p (by omega), km_u_p (by omega), km_u_p (by omega)]; exact c2, by rw [km_u_p (by omega), km_u_p (by omega), km_u_p (by omega)]; exact d2, by rw [km_u_p (by omega), km_u_p (by omega), km_u_p (by omega)]⟩
    by_cases e : f = u
    · subst e
      refine ⟨?_, ?_, ?_⟩
      · rw [km_u_p (by decide), km_u_p (by decide), km_u_at]; exact hm
      · rw [km_u_p (by decide), km_u_at]; exact nb_0 (by decide)
      · rw [km_u_at]; exact ht
    · refine ⟨?_, ?_, ?_⟩
      · rw [km_u_p (by decide), km_u_p (by decide), km_u_k e]; exact (b3 f (by omega)).1
      · rw [km_u_p (by decide), km_u_k e, km_u_p (by decide)]; exact (b3 f (by omega)).2.1
      · rw [km_u_k e, km_u_p (by decide), km_u_p (by decide)]; exact (b3 f (by omega)).2.2
  clear e30
  have v3 : vp_in (nI s) 3 := vp_in_nI c1 (by decide)
  have loop : ∀ (n r : Nat) (m : km_I), r ≤ 6 → 6 < n + r → (FP f m0 m ∧ RB m ∧ RP m ∧ m 86 13 = nI u ∧ (∀ f, f < u + 1 → nb (m 97 f) 6 ∧ nb (m 98 f) 25 ∧ nb (m 99 f) 6) ∧ m 86 18 = nI s ∧ m 104 s = nI g ∧ m 101 s = mi 101 s) → X7_enter_b34 x1 x2 x3 x4 n x1 x2 x3 x4 (nI r) m K := by
    intro n
    induction n with
    | zero =>
      intro r m q1 q2
      exact absurd q2 (by omega)
    | succ n ih =>
      intro r m q1 q2 hh
      obtain ⟨f1, f2, f3, f4, f5, f6, f7, f8⟩ := hh
      simp only [X7_enter_b34]
      refine ⟨fun c m89 e89 => ?_, fun c => ?_⟩
      · rw [f4, nI_1] at e89
        have g13 : m89 86 13 = nI (u + 1) := by rw [e89, km_u_at]
        have g18 : m89 86 18 = nI s := by rw [e89, km_u_k (by omega)]; exact f6
        have kk : ∀ z, X7_enter_b132 x1 x2 x3 x4 x1 x2 x3 x4 (nI r) z (m89 86 18) m89 K := fun z => by
          unfold X7_enter_b132
          rw [g18]
          refine ⟨v3, fun m132 e132 => hK _ ?_ ?_⟩
          · rw [e132, e89]
            refine ⟨(f1.u (by omega)).u (by omega), (f2.u (by omega)).u (by omega), (f3.u (by omega) (by omega) (by omega)).u (by omega) (by omega) (by omega), ⟨by omega, by rw [km_u_p (by omega), km_u_at], fun f hf => ?_⟩, ⟨c1, by rw [km_u_p (by omega), km_u_k (by omega)]; exact f6⟩, d1, by rw [km_u_p (by omega), km_u_p (by omega)]; exact f7⟩
            rw [km_u_p (by omega), km_u_p (by omega), km_u_p (by omega), km_u_p (by omega), km_u_p (by omega), km_u_p (by omega)]
            exact f5 f hf
          · rw [e132, km_u_p (by omega), e89, km_u_p (by omega)]; exact f8
        have v3' : vp_in (m89 86 18) 3 := by rw [g18]; exact v3
        exact ⟨v3', fun _ => ⟨v3', kk _⟩, fun _ => kk _⟩
      · rw [show (6 : Int32) = nI 6 from rfl, nI_leI (by omega) (by omega)] at c
        have kk : ∀ z, X7_enter_b75 x1 x2 x3 x4 (fun v0 v1 v2 v3 v4 m => X7_enter_b34 x1 x2 x3 x4 n v0 v1 v2 v3 v4 m K) x1 x2 x3 x4 (nI r) z ((6 * (m 86 13)) + nI r) m K := fun z => by
          unfold X7_enter_b75
          rw [f4, show (6 : Int32) = nI 6 from rfl, nx_mul, nI_add, nI_1, nI_clamp (by omega)]
          refine ⟨vp_in_nI (by omega) (by decide), fun m75 e75 => ih (r + 1) m75 (by omega) (by omega) ?_⟩
          rw [e75]
          refine ⟨f1.u (by omega), f2.u (by omega), f3.u (by omega) (by omega) (by omega), by rw [km_u_p (by omega)]; exact f4, fun f hf => ?_, by rw [km_u_p (by omega)]; exact f6, by rw [km_u_p (by omega)]; exact f7, by rw [km_u_p (by omega)]; exact f8⟩
          rw [km_u_p (by omega), km_u_p (by omega), km_u_p (by omega)]
          exact f5 f hf
        exact ⟨fun _ => ⟨fun _ => kk _, fun _ => kk _⟩, fun _ => kk _⟩
  exact loop 7 0 m30 (by omega) (by omega) h30
theorem tell_s {m0 mi : km_I} {s u g : Nat} {x1 x2 : Int32} {K : km_I → Prop} (h : RM f m0 mi s u g) (hf : f → s ≠ 0) (hp : nb x1 4) (hK : ∀ mi', RM f m0 mi' s u g → K mi') : X7_tell_w x1 x2 mi K := by
  have hs := h.2.2.2.2.1
  have v : vp_in (nI s) 3 := vp_in_nI hs.1 (by decide)
  obtain ⟨⟨k, hk, ek⟩, -⟩ := h.2.2.1.2 s hs.1
  unfold X7_tell_w
  rw [hs.2, nI_clamp (by omega), ek]
  refine ⟨v, fun c => ?_, fun c => ⟨v, fun m23 e23 => hK _ (by rw [e23]; exact end_s h)⟩⟩
  have hk40 : k < 40 := by
    rcases Nat.lt_or_ge k 40 with q | q
    · exact q
    · exact absurd (by rw [show k = 40 by omega]; rfl) c
  rw [show (40 : Int32) = nI 40 from rfl, nx_mul, nI_add, nI_clamp (by omega)]
  have v2 : vp_in (nI (40 * s + k)) 120 := vp_in_nI (by omega) (by decide)
  refine ⟨v, v2, fun m49 e49 => ⟨v2, fun m56 e56 => ?_⟩⟩
  have h56 : RM f m0 m56 s u g := by
    obtain ⟨a1, a2, a3, ⟨b1, b2, b3⟩, ⟨c1, c2⟩, d1, d2⟩ := h
    rw [e56]
    refine RM.u8 ?_ (fun q => by have := hf q; omega)
    rw [e49]
    refine ⟨a1.ut (by omega) (fun q => ⟨fun e => absurd e (by omega), fun _ => by have := hf q; omega⟩), a2.u (by omega), ⟨fun j hj => ?_, fun o ho => by rw [km_u_p (by omega), km_u_p (by omega)]; exact a3.2 o ho⟩, ⟨b1, by rw [km_u_p (by omega)]; exact b2, fun f hf => by rw [km_u_p (by omega), km_u_p (by omega), km_u_p (by omega)]; exact b3 f hf⟩, ⟨c1, by rw [km_u_p (by omega)]; exact c2⟩, d1, by rw [km_u_p (by omega)]; exact d2⟩
    by_cases e : j = 40 * s + k
    · subst e; rw [km_u_at]; exact hp
    · rw [km_u_k e]; exact a3.1 j hj
  have e106 : m56 106 s = nI k := by rw [e56, km_u_p (by omega), e49, km_u_p (by omega)]; exact ek
  rw [h56.2.2.2.2.1.2, nI_clamp (by omega)]
  refine ⟨v, v2, fun m71 e71 => ?_⟩
  have h71 : RM f m0 m71 s u g := by rw [e71]; exact h56.u (by omega) (by omega) (by omega)
  have e106' : m71 106 s = nI k := by rw [e71, km_u_p (by omega)]; exact e106
  rw [h71.2.2.2.2.1.2, nI_clamp (by omega), e106', nI_1]
  refine ⟨v, v, fun m84 e84 => hK _ ?_⟩
  obtain ⟨a1, a2, a3, ⟨b1, b2, b3⟩, ⟨c1, c2⟩, d1, d2⟩ := h71
  rw [e84]
  refine ⟨a1.ut (by omega) (fun q => ⟨fun _ => hf q, fun e => absurd rfl e⟩), a2.u (by omega), ⟨fun j hj => by rw [km_u_p (by omega)]; exact a3.1 j hj, fun o ho => ⟨?_, by rw [km_u_p (by omega)]; exact (a3.2 o ho).2⟩⟩, ⟨b1, by rw [km_u_p (by omega)]; exact b2, fun f hf => by rw [km_u_p (by omega), km_u_p (by omega), km_u_p (by omega)]; exact b3 f hf⟩, ⟨c1, by rw [km_u_p (by omega)]; exact c2⟩, d1, by rw [km_u_p (by omega)]; exact d2⟩
  by_cases e : o = s
  · subst e; rw [km_u_at]; exact nb_of _ (by omega)
  · rw [km_u_k e]; exact (a3.2 o ho).1
