/-! the reference's RUN -/
variable {f : Prop}
theorem RM.ln {m0 mi : km_I} {s u g fz : Nat} {v : Int32} (h : RM f m0 mi s u g) (hv : nb v 25) : RM f m0 (km_u mi 98 fz v) s u g := by
  obtain ⟨a1, a2, a3, ⟨b1, b2, b3⟩, ⟨c1, c2⟩, d1, d2⟩ := h
  refine ⟨a1.u (by omega), a2.u (by omega), a3.u (by omega) (by omega) (by omega), ⟨b1, by rw [km_u_p (by omega)]; exact b2, fun f' hf => ?_⟩, ⟨c1, by rw [km_u_p (by omega)]; exact c2⟩, d1, by rw [km_u_p (by omega)]; exact d2⟩
  obtain ⟨e1, e2, e3⟩ := b3 f' hf
  rw [km_u_p (by omega), km_u_p (q := 99) (by omega)]
  refine ⟨e1, ?_, e3⟩
  by_cases e : f' = fz
  · subst e; rw [km_u_at]; exact hv
  · rw [km_u_k e]; exact e2
theorem RM.bg {m0 mi : km_I} {s u g : Nat} (h : RM f m0 mi s u g) (hg : g < 100) : RM f m0 (km_u mi 104 s (nI (g + 1))) s u (g + 1) := by
  obtain ⟨a1, a2, a3, ⟨b1, b2, b3⟩, ⟨c1, c2⟩, d1, d2⟩ := h
  refine ⟨a1.u (by omega), a2.u (by omega), a3.u (by omega) (by omega) (by omega), ⟨b1, by rw [km_u_p (by omega)]; exact b2, fun f' hf => ?_⟩, ⟨c1, by rw [km_u_p (by omega)]; exact c2⟩, by omega, km_u_at _ _ _ _⟩
  rw [km_u_p (by omega), km_u_p (by omega), km_u_p (by omega)]
  exact b3 f' hf
theorem RM.cg {m0 mi : km_I} {s u g c : Nat} (h : RM f m0 mi s u g) (hc : c < 3) : RM f m0 (km_u mi 110 s (nI c)) s u g := by
  obtain ⟨a1, a2, a3, ⟨b1, b2, b3⟩, ⟨c1, c2⟩, d1, d2⟩ := h
  refine ⟨a1.u (by omega), a2.u (by omega), ⟨fun j hj => by rw [km_u_p (by omega)]; exact a3.1 j hj, fun o ho => ⟨by rw [km_u_p (by omega)]; exact (a3.2 o ho).1, ?_⟩⟩, ⟨b1, by rw [km_u_p (by omega)]; exact b2, fun f' hf => ?_⟩, ⟨c1, by rw [km_u_p (by omega)]; exact c2⟩, d1, by rw [km_u_p (by omega)]; exact d2⟩
  · by_cases e : o = s
    · subst e; rw [km_u_at]; exact nb_of _ hc
    · rw [km_u_k e]; exact (a3.2 o ho).2
  · rw [km_u_p (by omega), km_u_p (by omega), km_u_p (by omega)]
    exact b3 f' hf
theorem rem6 : ∀ c, c < 6 → (nI c + 1) - (nI c + 1) / 6 * 6 = nI ((c + 1) % 6) := by decide
theorem calls_s {m0 mi : km_I} {s u g i e : Nat} {K : km_I → Prop} (h : RM f m0 mi s (u + 1) g) (hi : i < 288) (he : e < 2) (ha : nb (mi 90 i) 6) (hb : nb (mi 91 i) 6) (hc : nb (mi 92 i) 6) (hK : ∀ mi' u', RM f m0 mi' s u' g → (u' = 0 → 0 ≤ mi' 101 s) → K mi') : X7_calls_w (nI i) (6 * nI u) (nI e) mi K := by
  have hu := h.2.2.2.1.1
  have h13 := h.2.2.2.1.2.1
  have hs := h.2.2.2.2.1
  have v : vp_in (nI s) 3 := vp_in_nI hs.1 (by decide)
  have vi : vp_in (nI i) 288 := vp_in_nI hi (by decide)
  obtain ⟨q, hq, eq⟩ := hc
  obtain ⟨-, ⟨c, hc, ec⟩⟩ := h.2.2.1.2 s hs.1
  unfold X7_calls_w
  rw [nI_clamp (by omega), nI_clamp (n := e) (by omega), eq, rem6 q hq, show (6 : Int32) = nI 6 from rfl, nx_mul, nI_add, nI_add, hs.2, nI_clamp (n := s) (by omega), ec]
  refine ⟨vi, vi, vp_in_nI (by omega) (by decide), vi, vp_in_nI (by omega) (by decide), vp_in_nI he (by decide), fun _ => ⟨fun _ => ⟨v, fun c2 => ⟨v, ?_⟩, fun _ => ⟨v, fun m135 e135 => hK _ (u + 1) (by rw [e135]; exact end_s h) (fun q => absurd q (by omega))⟩⟩, fun _ => ⟨fun c8 => ⟨vi, ?_⟩, fun _ => ⟨v, fun m90 e90 => hK _ (u + 1) (by rw [e90]; exact end_s h) (fun q => absurd q (by omega))⟩⟩⟩, fun _ => throwsOut_s h (fun mi' hm _ => hK _ _ hm (fun q => absurd q (by omega)))⟩
  · have hc2 : c < 2 := by
      rcases Nat.lt_or_ge c 2 with z | z
      · exact z
      · exact absurd (by rw [show c = 2 by omega]; rfl) c2
    rw [show (2 : Int32) = nI 2 from rfl, nx_mul, nI_add]
    have v6 : vp_in (nI (2 * s + c)) 6 := vp_in_nI (by omega) (by decide)
    refine ⟨v6, fun m165 e165 => ?_⟩
    have h165 : RM f m0 m165 s (u + 1) g := by rw [e165]; exact h.u (by omega) (by omega) (by omega)
    rw [h165.2.2.2.2.1.2, nx_mul, nI_add]
    refine ⟨v6, fun m181 e181 => ?_⟩
    have h181 : RM f m0 m181 s (u + 1) g := by rw [e181]; exact h165.u (by omega) (by omega) (by omega)
    rw [h181.2.2.2.2.1.2, nx_mul, nI_add]
    refine ⟨v6, fun m197 e197 => ?_⟩
    have h197 : RM f m0 m197 s (u + 1) g := by rw [e197]; exact h181.u (by omega) (by omega) (by omega)
    have e110 : m197 110 s = nI c := by rw [e197, km_u_p (by omega), e181, km_u_p (by omega), e165, km_u_p (by omega)]; exact ec
    rw [h197.2.2.2.2.1.2, nI_clamp (n := s) (by omega), e110, nI_1]
    refine ⟨v, v, fun m210 e210 => ?_⟩
    have h210 : RM f m0 m210 s (u + 1) g := by rw [e210]; exact h197.cg (by omega)
    have e90 : m210 90 i = mi 90 i := by rw [e210, km_u_p (by omega), e197, km_u_p (by omega), e181, km_u_p (by omega), e165, km_u_p (by omega)]
    have b227 : ∀ z y4 y5 y6 y7, X7_calls_b227 (nI i) (nI (6 * u)) (nI e) (nI i) (nI (6 * u)) (nI e) y4 y5 y6 y7 z m210 K := by
      intro z y4 y5 y6 y7
      unfold X7_calls_b227
      obtain ⟨w, hw, ew⟩ := ha
      rw [nI_clamp (by omega), e90, ew, nI_add]
      refine ⟨fun _ => ⟨vi, vp_in_nI (by omega) (by decide), fun m262 e262 => hK _ (u + 1) (by rw [e262]; exact h210.u (by omega) (by omega) (by omega)) (fun q => absurd q (by omega))⟩, fun _ => throwsOut_s h210 (fun mi' hm _ => hK _ _ hm (fun q => absurd q (by omega)))⟩
    exact ⟨fun _ => b227 _ _ _ _ _, fun _ => b227 _ _ _ _ _⟩
  · refine rEnter_s h ?_ hb ha (fun mi' hm _ => hK _ _ hm (fun q => absurd q (by omega)))
    rcases Nat.lt_or_ge (u + 1) 8 with z | z
    · exact z
    · exact absurd (by rw [h13, show u + 1 = 8 by omega]; rfl) c8
theorem reckoned_s {x0 x1 x2 : Int32} {mi : km_I} {K : Int32 → km_I → Prop} (h5 : x0 = 5 → ¬ x2 = 0) (h6 : x0 = 6 → ¬ x2 = 0) (hK : ∀ v, K v mi) : X7_reckoned_w x0 x1 x2 mi K := by
  unfold X7_reckoned_w
  exact ⟨fun _ => ⟨fun _ => hK _, fun _ => hK _⟩, fun _ => hK _, fun _ => hK _, fun _ => hK _, fun c => ⟨h5 (Int32.toInt_inj.mp (c.trans (by decide))), hK _⟩, fun c => ⟨h6 (Int32.toInt_inj.mp (c.trans (by decide))), hK _⟩, fun _ => hK _, fun _ => hK _⟩
set_option maxHeartbeats 1000000 in
theorem act_s {m0 mi : km_I} {s u g i e : Nat} {K : km_I → Prop} (h : RM f m0 mi s (u + 1) g) (hf : f → s ≠ 0) (hi : i < 288) (he : e < 2) (hK : ∀ mi' u', RM f m0 mi' s u' g → (u' = 0 → 0 ≤ mi' 101 s) → K mi') : X7_act_w (nI i) (nI u) (nI e) mi K := by
  have hu := h.2.2.2.1.1
  have vi : vp_in (nI i) 288 := vp_in_nI hi (by decide)
  have v8 : vp_in (nI u) 8 := vp_in_nI (by omega) (by decide)
  obtain ⟨k, hk, ek, ra, la, pa, rb, lb, rc⟩ := h.2.1.2.2 i hi
  have go : ∀ m', RM f m0 m' s (u + 1) g → K m' := fun m' hm => hK _ _ hm (fun q => absurd q (by omega))
  have rg : ∀ x, nb x 6 → vp_in (6 * nI u + x) 48 := fun x hx => by
    obtain ⟨w, hw, rfl⟩ := hx
    rw [show (6 : Int32) = nI 6 from rfl, nx_mul, nI_add]
    exact vp_in_nI (by omega) (by decide)
  unfold X7_act_w
  rw [nI_clamp (by omega), nI_clamp (n := u) (by omega)]
  have kb : (2 ≤ k ∧ k ≤ 9) → X7_act_b260 (nI i) (nI u) (nI e) (nI i) (nI u) (nI e) (6 * nI u) (mi 89 i) (mi 90 i) (mi 91 i) mi K := fun hk2 => by
    have b315 : ∀ y8 y9, (mi 89 i = 5 ∨ mi 89 i = 6 → ¬ y9 = 0) → X7_act_b315 (nI i) (nI u) (nI e) (nI i) (nI u) (nI e) (6 * nI u) (mi 89 i) (mi 90 i) (mi 91 i) y8 y9 mi K := fun y8 y9 hy => by
      unfold X7_act_b315
      exact reckoned_s (fun q => hy (Or.inl q)) (fun q => hy (Or.inr q)) (fun v => ⟨rg _ (ra (by omega)), fun m338 e338 => go _ (by rw [e338]; exact h.u (by omega) (by omega) (by omega))⟩)
    have b301 : ∀ y8 y9, X7_act_b301 (nI i) (nI u) (nI e) (nI i) (nI u) (nI e) (6 * nI u) (mi 89 i) (mi 90 i) (mi 91 i) y8 y9 mi K := fun y8 y9 => by
      unfold X7_act_b301
      exact ⟨fun c => b315 _ _ (fun _ => c), fun _ => throwsOut_s h (fun mi' hm _ => go _ hm)⟩
    unfold X7_act_b260
    rw [nI_clamp (by omega)]
    exact ⟨rg _ (rb (by omega)), vi, rg _ (rc (by omega)), fun _ => b301 _ _, fun c5 => ⟨fun c6 => b315 _ _ (fun o => absurd o (fun o => o.elim c5 c6)), fun _ => b301 _ _⟩⟩
  have b179 : ∀ z, nb z 25 → X7_act_b179 (nI i) (nI u) (nI e) (nI i) (nI u) (nI e) (6 * nI u) (mi 89 i) (mi 90 i) (mi 91 i) z (nI u) mi K := fun z hz => by
    unfold X7_act_b179
    exact ⟨v8, fun m179 e179 => go _ (by rw [e179]; exact h.ln hz)⟩
  have et : Int32.toInt (mi 89 i) = (k : Int) := by rw [ek, nI_toInt (by omega)]
  rw [et]
  refine ⟨vi, vi, vi, fun c => absurd c (by omega), fun c => ⟨rg _ (ra (by omega)), fun m123 e123 => go _ (by rw [e123]; exact h.u (by omega) (by omega) (by omega))⟩, fun c => ⟨rg _ (rb (by omega)), rg _ (ra (by omega)), fun m146 e146 => go _ (by rw [e146]; exact h.u (by omega) (by omega) (by omega))⟩, fun c => kb (by omega), fun c => kb (by omega), fun c => kb (by omega), fun c => kb (by omega), fun c => kb (by omega), fun c => kb (by omega), fun c => kb (by omega), fun c => kb (by omega), fun c => ⟨rg _ (ra (by omega)), fun _ => ⟨v8, b179 _ (h.2.2.2.1.2.2 u (by omega)).2.1⟩, fun _ => b179 _ (lb (by omega))⟩, fun c => ⟨v8, fun m190 e190 => go _ (by rw [e190]; exact h.ln (la (by omega)))⟩, fun c => ⟨rg _ (rb (by omega)), tell_s h hf (pa (by omega)) go⟩, fun c => calls_s h hi he (ra (by omega)) (rb (by omega)) (rc (by omega)) hK, fun c => ⟨rg _ (ra (by omega)), returns_s h (fun mi' hm h0 => hK _ _ hm h0)⟩, fun c => ⟨rg _ (rb (by omega)), throwsOut_s h (fun mi' hm _ => go _ hm)⟩⟩
set_option maxHeartbeats 1000000 in
theorem play_l {m0 : km_I} {s e : Nat} {x1 x2 x3 x4 x5 y3 y4 y5 : Int32} {K : km_I → Prop} (he : e < 2) (hf : f → s ≠ 0) (hK : ∀ mi' u g, RM f m0 mi' s u g → K mi') : ∀ (n u g : Nat) (mi : km_I), 10 * (100 - g) + u + 2 ≤ n ∨ (1 ≤ n ∧ 0 ≤ mi 101 s) → RM f m0 mi s u g → (u = 0 → 0 ≤ mi 101 s) → X7_play_b69 x1 x2 x3 x4 x5 n (nI s) (nI e) y3 y4 y5 mi K := by
  intro n
  induction n with
  | zero =>
    intro u g mi h1
    exact absurd h1 (by omega)
  | succ n ih =>
    intro u g mi h1 h h0
    have hs := h.2.2.2.2.1
    have v : vp_in (nI s) 3 := vp_in_nI hs.1 (by decide)
    simp only [X7_play_b69]
    rw [nI_clamp (n := s) (by omega)]
    refine ⟨v, fun _ => hK _ _ _ h, fun ce => ?_⟩
    have hn : 10 * (100 - g) + u + 2 ≤ n + 1 := by
      rcases h1 with q | q
      · exact q
      · exact absurd q.2 ce
    rcases u with _ | u
    · exact absurd (h0 rfl) ce
    have hu := h.2.2.2.1.1
    have h13 := h.2.2.2.1.2.1
    have hg := h.2.2.2.2.2
    obtain ⟨⟨m, hm, em⟩, ⟨l, hl, el⟩, -⟩ := h.2.2.2.1.2.2 u (by omega)
    have v8 : vp_in (nI u) 8 := vp_in_nI (by omega) (by decide)
    obtain ⟨z, hz, ez⟩ := h.2.1.2.1 (6 * e + m) (by omega)
    rw [h13, nI_pred, nI_clamp (n := u) (by omega), em, el, show (6 : Int32) = nI 6 from rfl, nx_mul, nI_add, nI_clamp (n := 6 * e + m) (by omega), ez, nI_ltI (by omega) (by omega), hg.2, show (24 : Int32) = nI 24 from rfl, nx_mul, nI_add, nI_1, nI_1]
    refine ⟨v8, v8, vp_in_nI (by omega) (by decide), fun c1 => ⟨v, fun c2 => ⟨v, v, fun m159 e159 => ⟨v8, fun m170 e170 => ?_⟩⟩, fun c2 => ⟨v, fun m146 e146 => ?_⟩⟩, fun c1 => returns_s h (fun mi' hm' h0' => ?_)⟩
    · have hg2 : g < 100 := by
        rcases Nat.lt_or_ge g 100 with q | q
        · exact q
        · exact absurd (by rw [show g = 100 by omega]; rfl) c2
      have h170 : RM f m0 m170 s (u + 1) (g + 1) := by rw [e170, e159]; exact (h.bg hg2).ln (nb_of _ (by omega))
      refine act_s h170 hf (by omega) he (fun mi' u' hm' h0' => ?_)
      unfold X7_play_b186
      have := hm'.2.2.2.1.1
      exact ih u' (g + 1) mi' (Or.inl (by omega)) hm' h0'
    · unfold X7_play_b186
      have e2 : m146 101 s = 2 := by rw [e146, km_u_at]
      refine ih (u + 1) g m146 (Or.inr ⟨by omega, by rw [e2]; decide⟩) (by rw [e146]; exact end_s h) (fun q => absurd q (by omega))
    · unfold X7_play_b186
      exact ih u g mi' (Or.inl (by omega)) hm' h0'
theorem play_s {mi : km_I} {s e : Nat} {x3 x4 x5 : Int32} {K : km_I → Prop} (hs : s < 3) (he : e < 2) (hf : f → s ≠ 0) (hb : RB mi) (hp : RP mi) (hm : nb x3 6) (hK : ∀ mi', FP f mi mi' → RP mi' → K mi') : X7_play_w (nI s) (nI e) x3 x4 x5 mi K := by
  have v : vp_in (nI s) 3 := vp_in_nI hs (by decide)
  unfold X7_play_w
  rw [nI_clamp (n := s) (by omega)]
  intro m2 e2 m7 e7
  refine ⟨v, fun m16 e16 => ⟨v, fun m23 e23 => ⟨v, fun m30 e30 => ⟨v, fun m37 e37 => ⟨v, fun m44 e44 => ⟨v, fun m51 e51 => ⟨v, fun m58 e58 => ?_⟩⟩⟩⟩⟩⟩⟩
  have h58 : RM f mi m58 s 0 0 := by
    have f7 : FP f mi m7 := by rw [e7, e2]; exact ((FP.rf mi).u (by omega)).u (by omega)
    have b7 : RB m7 := by rw [e7, e2]; exact (hb.u (by omega)).u (by omega)
    have p7 : RP m7 := by rw [e7, e2]; exact (hp.u (by omega) (by omega) (by omega)).u (by omega) (by omega) (by omega)
    have g13 : m7 86 13 = nI 0 := by rw [e7, km_u_at]; rfl
    have g18 : m7 86 18 = nI s := by rw [e7, km_u_k (by omega), e2, km_u_at]
    subst e58; subst e51; subst e44; subst e37; subst e30; subst e23; subst e16
    refine ⟨((((((f7.u (by omega)).u (by omega)).u (by omega)).u (by omega)).u (by omega)).ut (by omega) (fun q => ⟨fun _ => hf q, fun e => absurd rfl e⟩)).u (by omega), ((((((b7.u (by omega)).u (by omega)).u (by omega)).u (by omega)).u (by omega)).u (by omega)).u (by omega), ⟨fun j hj => ?_, fun o ho => ⟨?_, ?_⟩⟩, ⟨by omega, ?_, fun f hf => absurd hf (by omega)⟩, ⟨hs, ?_⟩, by omega, ?_⟩
    · rw [km_u_p (by omega), km_u_p (by omega), km_u_p (by omega), km_u_p (by omega), km_u_p (by omega), km_u_p (by omega), km_u_p (by omega)]; exact p7.1 j hj
    · rw [km_u_p (by omega)]
      by_cases e : o = s
      · subst e; rw [km_u_at]; exact nb_0 (by decide)
      · rw [km_u_k e, km_u_p (by omega), km_u_p (by omega), km_u_p (by omega), km_u_p (by omega), km_u_p (by omega)]; exact (p7.2 o ho).1
    · by_cases e : o = s
      · subst e; rw [km_u_at]; exact nb_0 (by decide)
      · rw [km_u_k e, km_u_p (by omega), km_u_p (by omega), km_u_p (by omega), km_u_p (by omega), km_u_p (by omega), km_u_p (by omega)]; exact (p7.2 o ho).2
    · rw [km_u_p (by omega), km_u_p (by omega), km_u_p (by omega), km_u_p (by omega), km_u_p (by omega), km_u_p (by omega), km_u_p (by omega)]; exact g13
    · rw [km_u_p (by omega), km_u_p (by omega), km_u_p (by omega), km_u_p (by omega), km_u_p (by omega), km_u_p (by omega), km_u_p (by omega)]; exact g18
    · rw [km_u_p (by omega), km_u_p (by omega), km_u_p (by omega), km_u_at]; rfl
  refine rEnter_s h58 (by omega) hm (nb_0 (by decide)) (fun mi' hm' _ => ⟨1003, ?_⟩)
  exact play_l he hf (fun mi' u g h' => hK _ h'.1 h'.2.2.1) 1003 1 0 mi' (Or.inl (by omega)) hm' (fun q => absurd q (by omega))
