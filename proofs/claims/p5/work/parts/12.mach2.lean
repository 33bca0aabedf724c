theorem enter_l {m0 : km_I} {t b u : Nat} {x1 x2 x3 y1 y2 y3 : Int32} {K : km_I → Prop} (hbt : b + 6 ≤ t) (hu : u < 8) (hm : nb y1 6) (hK : ∀ mi', MS m0 mi' t b (u + 1) → K mi') : ∀ (n r : Nat) (mi : km_I), r ≤ 6 → 6 < n + r → MS m0 mi t b u → (∀ f, f + 1 = u → WF mi t b f) → X1_enter_b12 t b x1 x2 x3 n y1 y2 y3 (nI (u * 6)) (nI r) mi K := by
  intro n
  induction n with
  | zero => intro r mi h1 h2; omega
  | succ n ih =>
    intro r mi h1 h2 h hw
    simp only [X1_enter_b12]
    rw [show (6 : Int32) = nI 6 from rfl, nI_leI (by omega) (by omega)]
    refine ⟨fun c => ?_, fun c => ?_⟩
    · refine ⟨vp_in_nI (by omega) (by decide), fun m43 e43 => ?_⟩
      rw [nI_1, nI_clamp (by omega)]
      refine ⟨vp_in_nI (by omega) (by decide), fun m53 e53 => ?_⟩
      have a1 : MS m0 m53 t b u := by
        rw [e53, e43]
        exact (h.u hbt (by omega) (by omega) (by omega) (by omega) (by omega) (by omega) (by omega) (by omega)).u hbt (by omega) (by omega) (by omega) (by omega) (by omega) (by omega) (by omega) (by omega)
      have w1 : ∀ f, f + 1 = u → WF m53 t b f := fun f hf => by
        obtain ⟨m, l, b1, b2, b3, b4, b5⟩ := hw f hf
        rw [e53, e43]
        exact ⟨m, l, b1, b2, by rw [km_u_p (by omega), km_u_p (by omega)]; exact b3, by rw [km_u_p (by omega), km_u_p (by omega)]; exact b4, by rw [km_u_p (by omega), km_u_p (by omega)]; exact b5⟩
      rw [a1.2.2.1.2.1]
      refine ⟨vp_in_nI (by omega) (by decide), fun m63 e63 => ?_⟩
      rw [nI_clamp (by omega)] at e63
      have e8 : m63 t 8 = nI u := by rw [e63, km_u_p (by omega)]; exact a1.2.2.1.2.1
      rw [e8]
      refine ⟨vp_in_nI (by omega) (by decide), fun m73 e73 => ?_⟩
      rw [nI_clamp (by omega)] at e73
      have e8' : m73 t 8 = nI u := by rw [e73, km_u_p (by omega)]; exact e8
      rw [e8', nI_1]
      intro m81 e81
      have a2 : MS m0 m81 t b (u + 1) := by
        obtain ⟨f1, p1, ⟨g1, g2, g3, g4⟩, b1⟩ := a1
        subst e81; subst e73; subst e63
        refine ⟨((f1.u (by omega) (by omega) (by omega)).u (by omega) (by omega) (by omega)).u (by omega) (by omega) (by omega), ((p1.u (by omega) (by omega) (by omega)).u (by omega) (by omega) (by omega)).u (by omega) (by omega) (by omega), ⟨by omega, km_u_at _ _ _ _, fun f hf => ?_, fun f hf => ?_⟩, ((b1.u (by omega)).u (by omega)).u (by omega)⟩
        · rw [km_u_p (by omega), km_u_p (q := t + 9) (by omega), km_u_p (q := t + 9) (by omega)]
          by_cases e : f = u
          · subst e
            rw [km_u_at, km_u_at]
            exact ⟨hm, nb_0 (by decide)⟩
          · rw [km_u_k e, km_u_p (by omega), km_u_k e]
            exact g3 f (by omega)
        · have hh : WF m53 t b f := by
            rcases Nat.lt_or_ge (f + 1) u with q | q
            · exact g4 f q
            · exact w1 f (by omega)
          obtain ⟨m, l, b1', b2, b3, b4, b5⟩ := hh
          refine ⟨m, l, b1', b2, ?_, ?_, ?_⟩
          · rw [km_u_p (by omega), km_u_k (by omega), km_u_p (by omega)]; exact b3
          · rw [km_u_p (by omega), km_u_p (by omega), km_u_k (by omega)]; exact b4
          · rw [km_u_p (by omega), km_u_p (by omega), km_u_p (by omega)]; exact b5
      refine ⟨fun _ => hK _ a2, fun _ m106 e106 => hK _ ?_⟩
      rw [e106]
      exact a2.u hbt (by omega) (by omega) (by omega) (by omega) (by omega) (by omega) (by omega) (by omega)
    · rw [nI_add, nI_1]
      refine ⟨vp_in_nI (by omega) (by decide), fun m29 e29 => ?_⟩
      rw [nI_clamp (by omega)] at e29
      refine ih (r + 1) m29 (by omega) (by omega) ?_ (fun f hf => ?_)
      · rw [e29]
        exact h.u hbt (by omega) (by omega) (by omega) (by omega) (by omega) (by omega) (by omega) (by omega)
      · obtain ⟨m, l, b1, b2, b3, b4, b5⟩ := hw f hf
        rw [e29]
        exact ⟨m, l, b1, b2, by rw [km_u_p (by omega)]; exact b3, by rw [km_u_p (by omega)]; exact b4, by rw [km_u_p (by omega)]; exact b5⟩
theorem enter_s {m0 mi : km_I} {t b u : Nat} {x1 x2 x3 : Int32} {K : km_I → Prop} (h : MS m0 mi t b u) (hbt : b + 6 ≤ t) (hu : u < 8) (hm : nb x1 6) (hw : ∀ f, f + 1 = u → WF mi t b f) (hK : ∀ mi', MS m0 mi' t b (u + 1) → K mi') : X1_enter_w t b x1 x2 x3 mi K := by
  refine ⟨7, ?_⟩
  rw [h.2.2.1.2.1, show (6 : Int32) = nI 6 from rfl, nx_mul]
  exact enter_l hbt hu hm hK 7 0 mi (by omega) (by omega) h hw
theorem addTell_s {m0 mi : km_I} {t b u l : Nat} {p v : Int32} {K : km_I → Prop} (h : MS m0 mi t b (u + 1)) (hbt : b + 6 ≤ t) (hll : mi (t + 9) u = nI l) (hp : nb p 4) (h40 : ¬ mi (t + 1) 5 = 40) (hK : ∀ mi', MS m0 mi' t b (u + 1) → mi' (t + 9) u = nI l → K mi') : X5_addTell_w (t + 1) p v mi K := by
  obtain ⟨⟨f1, f2, f3⟩, ⟨a1, ⟨k, hk, ek⟩, a3, a4⟩, hg, hb⟩ := h
  have hk40 : k < 40 := by
    rcases Nat.lt_or_ge k 40 with q | q
    · exact q
    · exact absurd (by rw [ek, show k = 40 by omega]; rfl) h40
  unfold X5_addTell_w
  rw [ek]
  refine ⟨vp_in_nI (by omega) (by decide), fun m9 e9 => ?_⟩
  rw [nI_clamp (by omega)] at e9
  have e5 : m9 (t + 1) 5 = nI k := by rw [e9, km_u_p (by omega)]; exact ek
  rw [e5]
  refine ⟨vp_in_nI (by omega) (by decide), fun m19 e19 m27 e27 => ?_⟩
  rw [nI_clamp (by omega)] at e19
  have e5' : m19 (t + 1) 5 = nI k := by rw [e19, km_u_p (by omega)]; exact e5
  rw [e5', nI_1] at e27
  subst e27; subst e19; subst e9
  refine hK _ ⟨((FM.u (FM.u (FM.u ⟨f1, f2, f3⟩ (by omega) (by omega) (by omega)) (by omega) (by omega) (by omega)) (by omega) (by omega) (by omega))), ⟨fun j hj => ?_, ?_, ?_, fun i hi => ?_⟩, ?_, ?_⟩ ?_
  · rw [km_u_p (by omega), km_u_p (by omega)]
    by_cases e : j = k
    · subst e; rw [km_u_at]; exact hp
    · rw [km_u_k e]; exact a1 j hj
  · rw [km_u_at]; exact nb_of _ (by omega)
  · rw [km_u_k (by omega), km_u_p (by omega), km_u_p (by omega)]; exact a3
  · rw [km_u_p (by omega), km_u_p (by omega), km_u_p (by omega)]; exact a4 i hi
  · exact ((hg.u (by omega) (by omega) (by omega) (by omega)).u (by omega) (by omega) (by omega) (by omega)).u (by omega) (by omega) (by omega) (by omega)
  · exact ((hb.u (by omega)).u (by omega)).u (by omega)
  · rw [km_u_p (by omega), km_u_p (by omega), km_u_p (by omega)]; exact hll
theorem addCalling_s {m0 mi : km_I} {t b u l : Nat} {x1 x2 x3 : Int32} {K : km_I → Prop} (h : MS m0 mi t b (u + 1)) (hbt : b + 6 ≤ t) (hll : mi (t + 9) u = nI l) (h2 : ¬ mi (t + 1) 8 = 2) (hK : ∀ mi', MS m0 mi' t b (u + 1) → mi' (t + 9) u = nI l → K mi') : X5_addCalling_w (t + 1) x1 x2 x3 mi K := by
  obtain ⟨f1, ⟨a1, a2, ⟨k, hk, ek⟩, a4⟩, hg, hb⟩ := h
  have hk2 : k < 2 := by
    rcases Nat.lt_or_ge k 2 with q | q
    · exact q
    · exact absurd (by rw [ek, show k = 2 by omega]; rfl) h2
  unfold X5_addCalling_w
  rw [ek]
  refine ⟨vp_in_nI (by omega) (by decide), fun m9 e9 => ?_⟩
  rw [nI_clamp (by omega)] at e9
  have e5 : m9 (t + 1) 8 = nI k := by rw [e9, km_u_p (by omega)]; exact ek
  rw [e5]
  refine ⟨vp_in_nI (by omega) (by decide), fun m19 e19 => ?_⟩
  rw [nI_clamp (by omega)] at e19
  have e6 : m19 (t + 1) 8 = nI k := by rw [e19, km_u_p (by omega)]; exact e5
  rw [e6]
  refine ⟨vp_in_nI (by omega) (by decide), fun m29 e29 => ?_⟩
  rw [nI_clamp (by omega)] at e29
  have e7 : m29 (t + 1) 8 = nI k := by rw [e29, km_u_p (by omega)]; exact e6
  rw [e7]
  refine ⟨vp_in_nI (by omega) (by decide), fun m42 e42 m50 e50 => ?_⟩
  rw [nI_clamp (by omega)] at e42
  have e8 : m42 (t + 1) 8 = nI k := by rw [e42, km_u_p (by omega)]; exact e7
  have e9' : m29 (t + 1) 5 = mi (t + 1) 5 := by rw [e29, km_u_p (by omega), e19, km_u_p (by omega), e9, km_u_p (by omega)]
  rw [e8, nI_1] at e50
  rw [e9'] at e42
  subst e50; subst e42; subst e29; subst e19; subst e9
  refine hK _ ⟨((((f1.u (by omega) (by omega) (by omega)).u (by omega) (by omega) (by omega)).u (by omega) (by omega) (by omega)).u (by omega) (by omega) (by omega)).u (by omega) (by omega) (by omega), ⟨fun j hj => ?_, ?_, ?_, fun i hi => ?_⟩, ?_, ?_⟩ ?_
  · rw [km_u_p (by omega), km_u_p (by omega), km_u_p (by omega), km_u_p (by omega), km_u_p (by omega)]; exact a1 j hj
  · rw [km_u_k (by omega), km_u_p (by omega), km_u_p (by omega), km_u_p (by omega), km_u_p (by omega)]; exact a2
  · rw [km_u_at]; exact nb_of _ (by omega)
  · rw [km_u_p (by omega)]
    by_cases e : i = k
    · subst e; rw [km_u_at]; exact a2
    · rw [km_u_k e, km_u_p (by omega), km_u_p (by omega), km_u_p (by omega)]; exact a4 i hi
  · exact ((((hg.u (by omega) (by omega) (by omega) (by omega)).u (by omega) (by omega) (by omega) (by omega)).u (by omega) (by omega) (by omega) (by omega)).u (by omega) (by omega) (by omega) (by omega)).u (by omega) (by omega) (by omega) (by omega)
  · exact ((((hb.u (by omega)).u (by omega)).u (by omega)).u (by omega)).u (by omega)
  · rw [km_u_p (by omega), km_u_p (by omega), km_u_p (by omega), km_u_p (by omega), km_u_p (by omega)]; exact hll
theorem answer_s {m0 mi : km_I} {t b u l : Nat} {x1 x2 x3 x4 : Int32} {K : km_I → Prop} (h : MS m0 mi t b (u + 1)) (hbt : b + 6 ≤ t) (hl : l < 24) (hll : mi (t + 9) u = nI l) (hr : nb x1 6) (hK : ∀ mi' u', MS m0 mi' t b u' → K mi') : X1_answer_w t b x1 x2 x3 x4 mi K := by
  unfold X1_answer_w
  refine ⟨fun c => ⟨?_, ?_⟩, fun c => stop_s h hbt (fun mi' hm => hK _ _ hm)⟩
  · obtain ⟨k, hk, ek⟩ := h.2.1.2.2.1
    rw [ek]
    refine vp_in_nI ?_ (by decide)
    rcases Nat.lt_or_ge k 2 with q | q
    · exact q
    · exact absurd (by rw [ek, show k = 2 by omega]; rfl) c
  · refine addCalling_s h hbt hll c (fun m41 h41 hl41 => ⟨fun _ => put_s h41 hbt hl hl41 hr (fun mi' hm => hK _ _ hm), fun _ => stop_s h41 hbt (fun mi' hm => hK _ _ hm)⟩)
theorem ask_s {m0 mi : km_I} {t b u l : Nat} {x1 x2 x3 x4 : Int32} {K : km_I → Prop} (h : MS m0 mi t b (u + 1)) (hbt : b + 6 ≤ t) (hl : l < 24) (hll : mi (t + 9) u = nI l) (hr : nb x1 6) (hm : nb x2 6) (hw : WF mi t b u) (hK : ∀ mi' u', MS m0 mi' t b u' → K mi') : X1_ask_w t b x1 x2 x3 x4 mi K := by
  have key : ∀ r5, (¬ r5 = (0 : Int32) → (((mi t 6) = 0 → ((¬ (mi t 8) = 8 → X1_enter_w t b x2 x3 x4 mi (fun m70 => K m70)) ∧ ((mi t 8) = 8 → X1_stop_w t b 2 0 0 mi (fun m59 => K m59)))) ∧ (¬ (mi t 6) = 0 → X1_answer_w t b x1 x2 x3 x4 mi (fun m40 => K m40)))) ∧ (r5 = 0 → X1_stop_w t b 1 8 (x2 &&& (mi t 1)) mi (fun m21 => K m21)) := by
    intro r5
    refine ⟨fun _ => ⟨fun _ => ⟨fun c => ?_, fun _ => stop_s h hbt (fun mi' hm => hK _ _ hm)⟩, fun _ => answer_s h hbt hl hll hr hK⟩, fun _ => stop_s h hbt (fun mi' hm => hK _ _ hm)⟩
    refine enter_s h hbt ?_ hm (fun f hf => ?_) (fun mi' hm => hK _ _ hm)
    · have h1 := h.2.2.1.1
      rcases Nat.lt_or_ge (u + 1) 8 with q | q
      · exact q
      · exact absurd (by rw [h.2.2.1.2.1, show u + 1 = 8 by omega]; rfl) c
    · rw [show f = u by omega]; exact hw
  unfold X1_ask_w X0_has_w
  exact ⟨fun _ => key 0, fun _ => ⟨fun _ => key 0, fun _ => key 1⟩⟩
