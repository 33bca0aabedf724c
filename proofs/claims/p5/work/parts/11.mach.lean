/-! A MACHINE is safe: it ends, keeps its bounds, changes only its own places -/
theorem PM.u {mi : km_I} {t p k : Nat} {v : Int32} (h : PM mi t) (h1 : p ≠ t + 2) (h2 : p ≠ t + 7) (h3 : p ≠ t + 1 ∨ (k ≠ 5 ∧ k ≠ 8)) : PM (km_u mi p k v) t := by
  obtain ⟨a1, a2, a3, a4⟩ := h
  refine ⟨fun j hj => ?_, ?_, ?_, fun i hi => ?_⟩
  · rw [km_u_p (by omega)]; exact a1 j hj
  · rcases h3 with h3 | h3
    · rw [km_u_p (by omega)]; exact a2
    · rw [km_u_k (by omega)]; exact a2
  · rcases h3 with h3 | h3
    · rw [km_u_p (by omega)]; exact a3
    · rw [km_u_k (by omega)]; exact a3
  · rw [km_u_p (by omega)]; exact a4 i hi
theorem GS.u {mi : km_I} {t b u p k : Nat} {v : Int32} (h : GS mi t b u) (h1 : p ≠ t + 9) (h2 : p ≠ t + 10) (h4 : p ≠ b + 2) (h3 : p ≠ t ∨ k ≠ 8) : GS (km_u mi p k v) t b u := by
  obtain ⟨a1, a2, a3, a4⟩ := h
  refine ⟨a1, ?_, fun f hf => ?_, fun f hf => ?_⟩
  · rcases h3 with h3 | h3
    · rw [km_u_p (by omega)]; exact a2
    · rw [km_u_k (by omega)]; exact a2
  · rw [km_u_p (by omega), km_u_p (by omega)]; exact a3 f hf
  · obtain ⟨m, l, b1, b2, b3, b4, b5⟩ := a4 f hf
    exact ⟨m, l, b1, b2, by rw [km_u_p (by omega)]; exact b3, by rw [km_u_p (by omega)]; exact b4, by rw [km_u_p (by omega)]; exact b5⟩
/-- frame f waits at a CALL -/
def WF (mi : km_I) (t b f : Nat) : Prop := ∃ m l, m < 6 ∧ l < 24 ∧ mi (t + 10) f = nI m ∧ mi (t + 9) f = nI l ∧ mi (b + 2) (24 * m + l) = nI 13
def MS (m0 mi : km_I) (t b u : Nat) : Prop := FM m0 mi t ∧ PM mi t ∧ GS mi t b u ∧ BI mi b
theorem BI.u {mi : km_I} {b p k : Nat} {v : Int32} (h : BI mi b) (hp : p < b ∨ b + 6 ≤ p) : BI (km_u mi p k v) b := h.mv (fun q h1 h2 => km_u_off q (by omega))
theorem MS.u {m0 mi : km_I} {t b u p k : Nat} {v : Int32} (h : MS m0 mi t b u) (hbt : b + 6 ≤ t) (h0 : t ≤ p) (h9 : p < t + 12) (h1 : p ≠ t + 9) (h2 : p ≠ t + 10) (h5 : p ≠ t + 2) (h7 : p ≠ t + 7) (h3 : p ≠ t ∨ (k ≠ 8 ∧ k ≠ 1 ∧ k ≠ 6)) (h4 : p ≠ t + 1 ∨ (k ≠ 5 ∧ k ≠ 8)) : MS m0 (km_u mi p k v) t b u :=
  ⟨h.1.u h0 h9 (by omega), h.2.1.u h5 h7 h4, h.2.2.1.u h1 h2 (by omega) (by omega), h.2.2.2.u (by omega)⟩
theorem finish_s {q : Nat} {x1 x2 x3 : Int32} {mi : km_I} {K : km_I → Prop} (h : K (km_u (km_u (km_u mi q 0 x1) q 1 x2) q 2 x3)) : X5_finish_w q x1 x2 x3 mi K := by
  unfold X5_finish_w
  intro m2 e2 m7 e7 m12 e12
  subst e2; subst e7; subst e12
  exact h
theorem stop_s {m0 mi : km_I} {t b u : Nat} {x1 x2 x3 : Int32} {K : km_I → Prop} (h : MS m0 mi t b u) (hbt : b + 6 ≤ t) (hK : ∀ mi', MS m0 mi' t b 0 → K mi') : X1_stop_w t b x1 x2 x3 mi K := by
  unfold X1_stop_w
  intro m2 e2
  subst e2
  refine finish_s (hK _ ?_)
  have h0 : MS m0 (km_u mi t 8 0) t b 0 := ⟨h.1.u (by omega) (by omega) (by omega), h.2.1.u (by omega) (by omega) (by omega), ⟨by omega, km_u_at _ _ _ _, fun f hf => absurd hf (by omega), fun f hf => absurd hf (by omega)⟩, h.2.2.2.u (by omega)⟩
  exact ((h0.u hbt (by omega) (by omega) (by omega) (by omega) (by omega) (by omega) (by omega) (by omega)).u hbt (by omega) (by omega) (by omega) (by omega) (by omega) (by omega) (by omega) (by omega)).u hbt (by omega) (by omega) (by omega) (by omega) (by omega) (by omega) (by omega) (by omega)
theorem reg_ix {u r : Nat} (hu : u < 8) (hr : r < 6) : ((nI (u + 1) - 1) * 6 + nI r) = nI (u * 6 + r) := by
  rw [nI_pred, show (6 : Int32) = nI 6 from rfl, nx_mul, nI_add]
theorem get_s {m0 mi : km_I} {t b u : Nat} {r : Int32} {K : Int32 → km_I → Prop} (h : MS m0 mi t b (u + 1)) (hr : nb r 6) (hK : ∀ v, K v mi) : X1_get_w t b r mi K := by
  obtain ⟨k, hk, rfl⟩ := hr
  have hu := h.2.2.1.1
  unfold X1_get_w
  rw [h.2.2.1.2.1, reg_ix (by omega) hk]
  exact ⟨vp_in_nI (by omega) (by decide), hK _⟩
theorem put_s {m0 mi : km_I} {t b u l : Nat} {r v : Int32} {K : km_I → Prop} (h : MS m0 mi t b (u + 1)) (hbt : b + 6 ≤ t) (hl : l < 24) (hll : mi (t + 9) u = nI l) (hr : nb r 6) (hK : ∀ mi', MS m0 mi' t b (u + 1) → K mi') : X1_put_w t b r v mi K := by
  obtain ⟨k, hk, rfl⟩ := hr
  have hu := h.2.2.1.1
  unfold X1_put_w
  rw [h.2.2.1.2.1, reg_ix (by omega) hk]
  refine ⟨vp_in_nI (by omega) (by decide), fun m16 e16 => ?_⟩
  rw [nI_clamp (by omega)] at e16
  have h1 : MS m0 m16 t b (u + 1) := by
    rw [e16]
    exact h.u hbt (by omega) (by omega) (by omega) (by omega) (by omega) (by omega) (by omega) (by omega)
  have h9 : m16 (t + 9) u = nI l := by rw [e16, km_u_p (by omega)]; exact hll
  rw [h1.2.2.1.2.1, nI_pred]
  refine ⟨vp_in_nI (by omega) (by decide), vp_in_nI (by omega) (by decide), fun m31 e31 => hK _ ?_⟩
  rw [nI_clamp (by omega), h9, nI_1] at e31
  obtain ⟨f1, p1, ⟨g1, g2, g3, g4⟩, b1⟩ := h1
  subst e31
  refine ⟨f1.u (by omega) (by omega) (by omega), p1.u (by omega) (by omega) (by omega), ⟨g1, by rw [km_u_p (by omega)]; exact g2, fun f hf => ?_, fun f hf => ?_⟩, b1.u (by omega)⟩
  · rw [km_u_p (by omega)]
    refine ⟨(g3 f hf).1, ?_⟩
    by_cases e : f = u
    · subst e; rw [km_u_at]; exact nb_of _ (by omega)
    · rw [km_u_k e]; exact (g3 f hf).2
  · obtain ⟨m, l', b1', b2, b3, b4, b5⟩ := g4 f hf
    exact ⟨m, l', b1', b2, by rw [km_u_p (by omega)]; exact b3, by rw [km_u_k (by omega)]; exact b4, by rw [km_u_p (by omega)]; exact b5⟩
theorem top_s {mi : km_I} {t b u m l : Nat} {K : Int32 → km_I → Prop} (h8 : mi t 8 = nI (u + 1)) (hu : u < 8) (hm : m < 6) (hl : l ≤ 24) (e1 : mi (t + 10) u = nI m) (e2 : mi (t + 9) u = nI l) (hK : K (nI (24 * m + l)) mi) : X1_placeOfTop_w t b mi K := by
  unfold X1_placeOfTop_w X0_placeOf_w
  rw [h8, nI_pred, nI_clamp (by omega), e1, e2, show (24 : Int32) = nI 24 from rfl, nx_mul, nI_add, Nat.mul_comm m 24]
  exact ⟨vp_in_nI (by omega) (by decide), vp_in_nI (by omega) (by decide), hK⟩
theorem GS.pop {mi : km_I} {t b u : Nat} (h : GS mi t b (u + 1)) (hbt : b + 6 ≤ t) : GS (km_u mi t 8 (nI u)) t b u := by
  obtain ⟨a1, a2, a3, a4⟩ := h
  refine ⟨by omega, km_u_at _ _ _ _, fun f hf => ?_, fun f hf => ?_⟩
  · rw [km_u_p (by omega), km_u_p (by omega)]; exact a3 f (by omega)
  · obtain ⟨m, l, b1, b2, b3, b4, b5⟩ := a4 f (by omega)
    exact ⟨m, l, b1, b2, by rw [km_u_p (by omega)]; exact b3, by rw [km_u_p (by omega)]; exact b4, by rw [km_u_p (by omega)]; exact b5⟩
theorem giveBack_s {m0 mi : km_I} {t b u : Nat} {v : Int32} {K : km_I → Prop} (h : MS m0 mi t b (u + 1)) (hbt : b + 6 ≤ t) (hK : ∀ mi' u', MS m0 mi' t b u' → K mi') : X1_giveBack_w t b v mi K := by
  have hu := h.2.2.1.1
  have h8 := h.2.2.1.2.1
  unfold X1_giveBack_w
  rw [h8, nI_pred]
  intro m7 e7
  have h1 : MS m0 m7 t b u := by
    rw [e7]
    exact ⟨h.1.u (by omega) (by omega) (by omega), h.2.1.u (by omega) (by omega) (by omega), h.2.2.1.pop hbt, h.2.2.2.u (by omega)⟩
  refine ⟨fun c => ?_, fun c => ?_⟩
  · rcases u with _ | u
    · exact absurd (h1.2.2.1.2.1.trans nI_0) c
    · have hw : WF m7 t b u := by
        rw [e7]
        obtain ⟨m, l, b1, b2, b3, b4, b5⟩ := h.2.2.1.2.2.2 u (by omega)
        exact ⟨m, l, b1, b2, by rw [km_u_p (by omega)]; exact b3, by rw [km_u_p (by omega)]; exact b4, by rw [km_u_p (by omega)]; exact b5⟩
      obtain ⟨m, l, b1, b2, b3, b4, b5⟩ := hw
      refine top_s h1.2.2.1.2.1 (by omega) b1 (by omega) b3 b4 ?_
      refine ⟨vp_in_nI (by omega) (by decide), ?_⟩
      rw [nI_clamp (by omega)]
      have ho := h1.2.2.2.2.2 (24 * m + l) (by omega)
      obtain ⟨k, hk, hk2, r1, -⟩ := ho
      have hk3 : k = 13 := by
        rw [b5] at hk2
        exact ((nI_eq (by omega) (by omega)).mp hk2).symm
      refine put_s h1 hbt b2 b4 (r1 (by omega)) (fun mi' hm => hK _ _ hm)
  · refine finish_s (hK _ u ?_)
    exact ((h1.u hbt (by omega) (by omega) (by omega) (by omega) (by omega) (by omega) (by omega) (by omega)).u hbt (by omega) (by omega) (by omega) (by omega) (by omega) (by omega) (by omega) (by omega)).u hbt (by omega) (by omega) (by omega) (by omega) (by omega) (by omega) (by omega) (by omega)
