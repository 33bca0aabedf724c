theorem result_s {x0 x1 x2 : Int32} {mi : km_I} {K : Int32 → km_I → Prop} (hK : ∀ v, K v mi) : X1_result_w x0 x1 x2 mi K := by
  unfold X1_result_w
  exact ⟨fun _ => hK _, fun _ => hK _, fun _ => hK _, fun _ => hK _, fun _ => ⟨fun c => ⟨c, hK _⟩, fun _ => hK _⟩, fun _ => ⟨fun c => ⟨c, hK _⟩, fun _ => hK _⟩, fun _ => hK _, fun _ => hK _, fun _ => ⟨fun _ => hK _, fun _ => hK _⟩⟩
theorem calculate_s {m0 mi : km_I} {t b u l : Nat} {x1 x2 x3 x4 : Int32} {K : km_I → Prop} (h : MS m0 mi t b (u + 1)) (hbt : b + 6 ≤ t) (hl : l < 24) (hll : mi (t + 9) u = nI l) (hr : nb x2 6) (hK : ∀ mi' u', MS m0 mi' t b u' → K mi') : X1_calculate_w t b x1 x2 x3 x4 mi K := by
  have k16 : X1_calculate_b16 t b x1 x2 x3 x4 x1 x2 x3 x4 mi K := by
    unfold X1_calculate_b16
    exact stop_s h hbt (fun mi' hm => hK _ _ hm)
  have k26 : X1_calculate_b26 t b x1 x2 x3 x4 x1 x2 x3 x4 mi K := by
    unfold X1_calculate_b26
    exact result_s (fun v => put_s h hbt hl hll hr (fun mi' hm => hK _ _ hm))
  unfold X1_calculate_w
  exact ⟨fun _ => k26, fun _ => ⟨fun _ => k16, fun _ => ⟨fun _ => k26, fun _ => k16⟩⟩⟩
/-- the top frame's line is set to one within the bounds -/
theorem line_s {m0 mi : km_I} {t b u : Nat} {v : Int32} (h : MS m0 mi t b (u + 1)) (hbt : b + 6 ≤ t) (hv : nb v 25) : MS m0 (km_u mi (t + 9) u v) t b (u + 1) := by
  obtain ⟨f1, p1, ⟨g1, g2, g3, g4⟩, b1⟩ := h
  refine ⟨f1.u (by omega) (by omega) (by omega), p1.u (by omega) (by omega) (by omega), ⟨g1, by rw [km_u_p (by omega)]; exact g2, fun f hf => ?_, fun f hf => ?_⟩, b1.u (by omega)⟩
  · rw [km_u_p (by omega)]
    refine ⟨(g3 f hf).1, ?_⟩
    by_cases e : f = u
    · subst e; rw [km_u_at]; exact hv
    · rw [km_u_k e]; exact (g3 f hf).2
  · obtain ⟨m, l', b1', b2, b3, b4, b5⟩ := g4 f hf
    exact ⟨m, l', b1', b2, by rw [km_u_p (by omega)]; exact b3, by rw [km_u_k (by omega)]; exact b4, by rw [km_u_p (by omega)]; exact b5⟩
set_option maxHeartbeats 1000000 in
theorem perform_s {m0 mi : km_I} {t b u m l : Nat} {K : km_I → Prop} (h : MS m0 mi t b (u + 1)) (hbt : b + 6 ≤ t) (hm : m < 6) (hl : l < 24) (e1 : mi (t + 10) u = nI m) (hll : mi (t + 9) u = nI l) (h40 : mi (b + 2) (24 * m + l) = 12 → ¬ mi (t + 1) 5 = 40) (hK : ∀ mi' u', MS m0 mi' t b u' → K mi') : X1_perform_w t b (nI (24 * m + l)) mi K := by
  have hin : vp_in (nI (24 * m + l)) 144 := vp_in_nI (by omega) (by decide)
  have hu := h.2.2.1.1
  obtain ⟨k, hk, ek, ra, la, pa, rb, lb, rc⟩ := h.2.2.2.2.2 (24 * m + l) (by omega)
  unfold X1_perform_w
  rw [nI_clamp (by omega)]
  refine ⟨hin, hin, hin, fun m41 e41 => ⟨hin, ?_⟩⟩
  have h1 : MS m0 m41 t b (u + 1) := by
    rw [e41]
    exact h.u hbt (by omega) (by omega) (by omega) (by omega) (by omega) (by omega) (by omega) (by omega)
  have hl1 : m41 (t + 9) u = nI l := by rw [e41, km_u_p (by omega)]; exact hll
  have eo : m41 (b + 2) (24 * m + l) = nI k := by rw [e41, km_u_p (by omega)]; exact ek
  have h51 : m41 (t + 1) 5 = mi (t + 1) 5 := by rw [e41, km_u_k (by omega)]
  have hw1 : k = 13 → WF m41 t b u := fun e => ⟨m, l, hm, hl, by rw [e41, km_u_p (by omega)]; exact e1, hl1, by rw [eo, e]⟩
  have h8 : m41 t 8 - 1 = nI u := by rw [h1.2.2.1.2.1, nI_pred]
  have kb : (2 ≤ k ∧ k ≤ 9) → X1_perform_b298 t b (nI (24 * m + l)) (nI (24 * m + l)) (mi (b + 3) (24 * m + l)) (mi (b + 4) (24 * m + l)) (mi (b + 5) (24 * m + l)) m41 K := fun hk2 => by
    unfold X1_perform_b298
    refine ⟨hin, get_s h1 (rb (by omega)) (fun v => get_s h1 (rc (by omega)) (fun w => ?_))⟩
    exact calculate_s h1 hbt hl hl1 (ra (by omega)) hK
  rw [eo, nI_toInt (by omega), h8]
  refine ⟨fun c => absurd c (by omega), fun c => ?_, fun c => ?_, fun c => kb (by omega), fun c => kb (by omega), fun c => kb (by omega), fun c => kb (by omega), fun c => kb (by omega), fun c => kb (by omega), fun c => kb (by omega), fun c => kb (by omega), fun c => ?_, fun c => ?_, fun c => ?_, fun c => ?_, fun c => ?_, fun c => ?_⟩
  · exact put_s h1 hbt hl hl1 (ra (by omega)) (fun mi' hm => hK _ _ hm)
  · exact get_s h1 (rb (by omega)) (fun v => put_s h1 hbt hl hl1 (ra (by omega)) (fun mi' hm => hK _ _ hm))
  · refine get_s h1 (ra (by omega)) (fun v => ?_)
    rw [h8, nI_clamp (by omega), hl1, nI_1]
    refine ⟨fun _ => ⟨vp_in_nI (by omega) (by decide), ?_⟩, fun _ => ?_⟩
    · unfold X1_perform_b189
      refine ⟨vp_in_nI (by omega) (by decide), fun m9 e9 => hK _ (u + 1) ?_⟩
      rw [e9, nI_clamp (by omega)]
      exact line_s h1 hbt (nb_of _ (by omega))
    · unfold X1_perform_b189
      refine ⟨vp_in_nI (by omega) (by decide), fun m9 e9 => hK _ (u + 1) ?_⟩
      rw [e9, nI_clamp (by omega)]
      exact line_s h1 hbt (lb (by omega))
  · refine ⟨vp_in_nI (by omega) (by decide), fun m9 e9 => hK _ (u + 1) ?_⟩
    rw [e9, nI_clamp (by omega)]
    exact line_s h1 hbt (la (by omega))
  · refine get_s h1 (rb (by omega)) (fun v => addTell_s h1 hbt hl1 (pa (by omega)) (by rw [h51]; exact h40 (by rw [ek, show k = 12 by omega]; rfl)) (fun m2 h2 hl2 => ?_))
    rw [h2.2.2.1.2.1, nI_pred]
    refine ⟨vp_in_nI (by omega) (by decide), vp_in_nI (by omega) (by decide), fun m9 e9 => hK _ (u + 1) ?_⟩
    rw [e9, nI_clamp (by omega), hl2, nI_1]
    exact line_s h2 hbt (nb_of _ (by omega))
  · refine get_s h1 (rc (by omega)) (fun v => ?_)
    refine ⟨fun c5 => ?_, fun c5 => ?_⟩
    · unfold X1_perform_b263
      refine get_s h1 ?_ (fun w => ask_s h1 hbt hl hl1 (ra (by omega)) (rb (by omega)) (hw1 (by omega)) hK)
      obtain ⟨q, hq, eq⟩ := rc (by omega)
      rw [eq, nI_1]
      refine nb_of _ ?_
      rcases Nat.lt_or_ge (q + 1) 6 with z | z
      · exact z
      · exact absurd (by rw [eq, show q = 5 by omega]; rfl) c5
    · unfold X1_perform_b263
      exact get_s h1 (nb_0 (by decide)) (fun w => ask_s h1 hbt hl hl1 (ra (by omega)) (rb (by omega)) (hw1 (by omega)) hK)
  · exact get_s h1 (ra (by omega)) (fun v => giveBack_s h1 hbt hK)
  · exact get_s h1 (rb (by omega)) (fun v => stop_s h1 hbt (fun mi' hm => hK _ _ hm))
theorem go_l {m0 : km_I} {t b : Nat} {x1 x2 x3 y1 y2 y3 : Int32} {K : km_I → Prop} (hbt : b + 6 ≤ t) (hK : ∀ mi' u', MS m0 mi' t b u' → K mi') : ∀ (n i u : Nat) (mi : km_I), i ≤ 1000 → 1000 < n + i → MS m0 mi t b u → X1_go_b22 t b x1 x2 x3 n y1 y2 y3 (nI i) mi K := by
  intro n
  induction n with
  | zero => intro i u mi h1 h2; omega
  | succ n ih =>
    intro i u mi h1 h2 h
    simp only [X1_go_b22]
    refine ⟨fun _ => hK _ _ h, fun c => ⟨fun _ => hK _ _ h, fun c2 => ?_⟩⟩
    have hi : i < 1000 := by
      rcases Nat.lt_or_ge i 1000 with q | q
      · exact q
      · exact absurd (nI_le (a := 1000) (b := i) q (by omega)) c
    rcases u with _ | u
    · exact absurd (by rw [h.2.2.1.2.1]; decide) c2
    have hu := h.2.2.1.1
    have next : ∀ mi' u', MS m0 mi' t b u' → X1_go_b115 t b x1 x2 x3 (fun v0 v1 v2 v3 m => X1_go_b22 t b x1 x2 x3 n v0 v1 v2 v3 m K) y1 y2 y3 (nI i) mi' K := fun mi' u' hm => by
      unfold X1_go_b115
      rw [nI_1]
      exact ih (i + 1) u' mi' (by omega) (by omega) hm
    obtain ⟨⟨m, hm, em⟩, ⟨l, hl, el⟩⟩ := h.2.2.1.2.2.1 u (by omega)
    rw [h.2.2.1.2.1, nI_pred, nI_clamp (by omega), em, el, nI_clamp (by omega)]
    refine ⟨vp_in_nI (by omega) (by decide), vp_in_nI (by omega) (by decide), vp_in_nI (by omega) (by decide), fun c3 => ?_, fun c3 => giveBack_s h hbt next⟩
    obtain ⟨z, hz, ez⟩ := h.2.2.2.2.1 m (by omega)
    rw [ez, nI_ltI (by omega) (by omega)] at c3
    refine top_s h.2.2.1.2.1 (by omega) hm (by omega) em el ⟨vp_in_nI (by omega) (by decide), ?_⟩
    rw [nI_clamp (by omega)]
    have kp : (mi (b + 2) (24 * m + l) = 12 → ¬ mi (t + 1) 5 = 40) → ((0 : Int32) = 0 → X1_placeOfTop_w t b mi (fun r109 m109 => X1_perform_w t b r109 m109 (fun m112 => X1_go_b115 t b x1 x2 x3 (fun v0 v1 v2 v3 m => X1_go_b22 t b x1 x2 x3 n v0 v1 v2 v3 m K) y1 y2 y3 (nI i) m112 K))) ∧ (¬ (0 : Int32) = 0 → X1_stop_w t b 2 0 0 mi (fun m101 => X1_go_b115 t b x1 x2 x3 (fun v0 v1 v2 v3 m => X1_go_b22 t b x1 x2 x3 n v0 v1 v2 v3 m K) y1 y2 y3 (nI i) m101 K)) := fun h40 =>
      ⟨fun _ => top_s h.2.2.1.2.1 (by omega) hm (by omega) em el (perform_s h hbt hm (by omega) em el h40 next), fun c4 => absurd rfl c4⟩
    have ks : ((1 : Int32) = 0 → X1_placeOfTop_w t b mi (fun r109 m109 => X1_perform_w t b r109 m109 (fun m112 => X1_go_b115 t b x1 x2 x3 (fun v0 v1 v2 v3 m => X1_go_b22 t b x1 x2 x3 n v0 v1 v2 v3 m K) y1 y2 y3 (nI i) m112 K))) ∧ (¬ (1 : Int32) = 0 → X1_stop_w t b 2 0 0 mi (fun m101 => X1_go_b115 t b x1 x2 x3 (fun v0 v1 v2 v3 m => X1_go_b22 t b x1 x2 x3 n v0 v1 v2 v3 m K) y1 y2 y3 (nI i) m101 K)) :=
      ⟨fun c4 => absurd c4 (by decide), fun _ => stop_s h hbt (fun mi' hm => next _ _ hm)⟩
    unfold X1_isSpentBy_w X1_isSpentBy_b30
    exact ⟨fun _ => ks, fun _ => ⟨fun c5 => kp (fun e => absurd e c5), fun c5 => ⟨fun c6 => kp (fun _ => c6), fun _ => ks⟩⟩⟩
theorem go_s {mi : km_I} {t b : Nat} {x1 x2 x3 : Int32} {K : km_I → Prop} (hpm : PM mi t) (hbi : BI mi b) (hbt : b + 6 ≤ t) (hm : nb x1 6) (hK : ∀ mi', FM mi mi' t → PM mi' t → K mi') : X1_go_w t b x1 x2 x3 mi K := by
  unfold X1_go_w X5_forget_w
  refine finish_s ?_
  intro m9 e9 m14 e14 m19 e19 m24 e24 m10 e10
  have h0 : MS mi m10 t b 0 := by
    obtain ⟨a1, a2, a3, a4⟩ := hpm
    subst e10; subst e24; subst e19; subst e14; subst e9
    refine ⟨((((((((FM.rf mi t).u (by omega) (by omega) (by omega)).u (by omega) (by omega) (by omega)).u (by omega) (by omega) (by omega)).u (by omega) (by omega) (by omega)).u (by omega) (by omega) (by omega)).u (by omega) (by omega) (by omega)).u (by omega) (by omega) (by omega)).u (by omega) (by omega) (by omega), ⟨fun j hj => ?_, ?_, ?_, fun i hi => ?_⟩, ⟨by omega, ?_, fun f hf => absurd hf (by omega), fun f hf => absurd hf (by omega)⟩, ?_⟩
    · rw [km_u_p (by omega), km_u_p (by omega), km_u_p (by omega), km_u_p (by omega), km_u_p (by omega), km_u_p (by omega), km_u_p (by omega), km_u_p (by omega)]; exact a1 j hj
    · rw [km_u_p (by omega), km_u_k (by omega), km_u_at]; exact nb_0 (by decide)
    · rw [km_u_p (by omega), km_u_at]; exact nb_0 (by decide)
    · rw [km_u_p (by omega), km_u_p (by omega), km_u_p (by omega), km_u_p (by omega), km_u_p (by omega), km_u_p (by omega), km_u_p (by omega), km_u_p (by omega)]; exact a4 i hi
    · rw [km_u_at]; exact nI_0.symm
    · exact (((((((hbi.u (by omega)).u (by omega)).u (by omega)).u (by omega)).u (by omega)).u (by omega)).u (by omega)).u (by omega)
  refine enter_s h0 hbt (by omega) hm (fun f hf => absurd hf (by omega)) (fun mi' h' => ⟨1001, ?_⟩)
  exact go_l hbt (fun mi' u' h' => hK _ h'.1 h'.2.1) 1001 0 1 mi' (by omega) (by omega) h'
