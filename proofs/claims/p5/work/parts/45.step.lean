/-! one OP on both sides -/
theorem rs_step {mi mi' : km_I} {t b u mm l z g : Nat} (hm : mm < 6) (hl : l < 24) (e1 : mi (t + 10) u = nI mm) (hll : mi (t + 9) u = nI l) (ez : mi (b + 1) mm = nI z) (hz : z < 25) (hlz : l < z) (hg1 : g < 100)
    (hr : ∀ (mr m : km_I) (e : Nat), kb b e → RM False mr m 0 (u + 1) g → m 101 0 = -1 → SIM mi m t b e (u + 1) → RM False mr (km_u (km_u m 104 0 (nI (g + 1))) 98 u (nI (l + 1))) 0 (u + 1) (g + 1) → ∀ n, 10 * (100 - g) + u + 2 ≤ n → ∀ (x1 x2 x3 x4 x5 y3 y4 y5 : Int32) (Kr : km_I → Prop), (∀ m' u' g', RM False mr m' 0 u' g' → FIN mi' m' t → Kr m') → X7_act_w (nI (144 * e + (24 * mm + l))) (nI u) (nI e) (km_u (km_u m 104 0 (nI (g + 1))) 98 u (nI (l + 1))) (fun m' => X7_play_b69 x1 x2 x3 x4 x5 n (nI 0) (nI e) y3 y4 y5 m' Kr)) : RS t b mi mi' u g := by
  intro mr m e hbe hR h101 hS n hn x1 x2 x3 x4 x5 y3 y4 y5 Kr hf
  have em : m 97 u = nI mm := (hS.2.1.1 u (by omega)).trans e1
  have el : m 98 u = nI l := (hS.2.1.2.2.1 u rfl).trans hll
  have ez' : m 88 (6 * e + mm) = nI z := (hS.1.1 mm hm).trans ez
  obtain ⟨n', rfl⟩ : ∃ n', n = n' + 1 := ⟨n - 1, by omega⟩
  exact rp hR hbe.le.2.2 h101 em hm el (by omega) ez' hz (fun _ _ => hr mr m e hbe hR h101 hS ((hR.bg hg1).ln (nb_of _ (by omega))) n' (by omega) x1 x2 x3 x4 x5 y3 y4 y5 Kr hf) (fun _ c => absurd c (by omega)) (fun c => absurd c (by omega))
theorem throw_x {mr m : km_I} {u g : Nat} {x1 x2 : Int32} {K : km_I → Prop} (h : RM False mr m 0 u g) (hK : ∀ m', RM False mr m' 0 u g → m' 101 0 = 1 → (∀ p, 106 ≤ p → p ≤ 108 → m' p = m p) → K m') : X7_throwsOut_w x1 x2 m K := by
  have hs := h.2.2.2.2.1
  have c0 : (nI 0).toNatClampNeg = 0 := nI_clamp (by omega)
  unfold X7_throwsOut_w
  rw [hs.2, c0]
  refine ⟨v03, fun m9 e9 => ?_⟩
  have h9 : RM False mr m9 0 u g := by rw [e9]; exact h.u (by omega) (by omega) (by omega)
  rw [h9.2.2.2.2.1.2, c0]
  refine ⟨v03, fun m19 e19 => ?_⟩
  have h19 : RM False mr m19 0 u g := by rw [e19]; exact h9.u (by omega) (by omega) (by omega)
  rw [h19.2.2.2.2.1.2, c0]
  refine ⟨v03, fun m29 e29 => hK _ ?_ ?_ (fun p h1 h2 => ?_)⟩
  · rw [e29]; exact h19.u (by omega) (by omega) (by omega)
  · rw [e29, km_u_p (by decide), e19, km_u_p (by decide), e9, km_u_at]
  · rw [e29, km_u_off p (by omega), e19, km_u_off p (by omega), e9, km_u_off p (by omega)]
theorem tell_x {mr m : km_I} {u g k : Nat} {x1 x2 : Int32} {K : km_I → Prop} (h : RM False mr m 0 u g) (hp : nb x1 4) (e106 : m 106 0 = nI k) (hk : k < 40) (hK : ∀ w, RM False mr (km_u (km_u (km_u (km_u m 107 k x1) 108 k x2) 109 k w) 106 0 (nI (k + 1))) 0 u g → K (km_u (km_u (km_u (km_u m 107 k x1) 108 k x2) 109 k w) 106 0 (nI (k + 1)))) : X7_tell_w x1 x2 m K := by
  have q := tell_s (K := fun m' => RM False mr m' 0 u g) (x2 := x2) h (fun c => c.elim) hp (fun _ a => a)
  have h18 : m 86 18 = 0 := h.2.2.2.2.1.2
  have c0 : Int32.toNatClampNeg 0 = 0 := rfl
  have ix : (40 : Int32) * 0 + nI k = nI k := by rw [show (40 : Int32) * 0 = nI 0 from by decide, nI_add, Nat.zero_add]
  have ck : (nI k).toNatClampNeg = k := nI_clamp (by omega)
  have n40 : ¬ nI k = 40 := fun c => absurd ((nI_eq (b := 40) (by omega) (by decide)).mp c) (by omega)
  unfold X7_tell_w at q ⊢
  rw [h18, c0, e106, ix, ck] at q ⊢
  refine ⟨q.1, fun c => ⟨(q.2.1 c).1, (q.2.1 c).2.1, fun m49 e49 => ⟨((q.2.1 c).2.2 m49 e49).1, fun m56 e56 => ?_⟩⟩, fun c => absurd c n40⟩
  have q2 := ((q.2.1 c).2.2 m49 e49).2 m56 e56
  have f18 : m56 86 18 = 0 := by rw [e56, km_u_p (by omega), e49, km_u_p (by omega)]; exact h18
  rw [f18, c0] at q2 ⊢
  refine ⟨q2.1, q2.2.1, fun m71 e71 => ?_⟩
  have q3 := q2.2.2 m71 e71
  have g18 : m71 86 18 = 0 := by rw [e71, km_u_p (by omega)]; exact f18
  have g106 : m71 106 0 = nI k := by rw [e71, km_u_p (by omega), e56, km_u_p (by omega), e49, km_u_p (by omega)]; exact e106
  rw [g18, c0, g106, nI_1] at q3 ⊢
  refine ⟨q3.1, q3.2.1, fun m84 e84 => ?_⟩
  have q4 := q3.2.2 m84 e84
  rw [e84, e71, e56, e49] at q4 ⊢
  exact hK _ q4
theorem calls_x {mr m : km_I} {I u e g q w r c : Nat} {K : km_I → Prop} (h : RM False mr m 0 (u + 1) g) (hI : I < 288) (he : e < 2) (eb : m 91 I = nI q) (hq : q < 6) (ec : m 92 I = nI w) (hw : w < 6) (ea : m 90 I = nI r) (e87 : m 87 e = nI c) (hc : c < 7) (h19 : m 86 19 = 0) (k1 : c ≤ q → X7_throwsOut_w 8 (nI q) m K) (k2 : q < c → u + 1 = 8 → K (km_u m 101 0 2)) (k3 : q < c → u + 1 < 8 → X7_enter_w (nI q) (m 100 (6 * u + w)) (m 100 (6 * u + (w + 1) % 6)) (nI r) m K) : X7_calls_w (nI I) (6 * nI u) (nI e) m K := by
  have hu := h.2.2.2.1.1
  have h13 := h.2.2.2.1.2.1
  have h18 : m 86 18 = nI 0 := h.2.2.2.2.1.2
  have vi : vp_in (nI I) 288 := vp_in_nI hI (by decide)
  have cI : (nI I).toNatClampNeg = I := nI_clamp (by omega)
  have ce : (nI e).toNatClampNeg = e := nI_clamp (by omega)
  have c0 : (nI 0).toNatClampNeg = 0 := nI_clamp (by omega)
  have cw : (nI (6 * u + w)).toNatClampNeg = 6 * u + w := nI_clamp (by omega)
  have cw1 : (nI (6 * u + (w + 1) % 6)).toNatClampNeg = 6 * u + (w + 1) % 6 := nI_clamp (by omega)
  have z8 : nI (u + 1) = 8 ↔ u + 1 = 8 := nI_eq (b := 8) (by omega) (by decide)
  unfold X7_calls_w
  rw [cI, ec, rem6 w hw, ixu, ixu, cw, cw1, ce, eb, e87, nI_ltI (by omega) (by omega), h19, h13, h18, c0, ea, z8]
  refine ⟨vi, vi, vp_in_nI (by omega) (by decide), vi, vp_in_nI (by omega) (by decide), vp_in_nI he (by decide), fun a => ⟨fun n => absurd rfl n, fun _ => ⟨fun n => ⟨vi, k3 a (by omega)⟩, fun n => ⟨v03, fun m90 e90 => by rw [e90]; exact k2 a n⟩⟩⟩, fun a => k1 (by omega)⟩
theorem ret_x {m0 mi : km_I} {t b u g : Nat} {v : Int32} {K : km_I → Prop} (h : MS m0 mi t b (u + 1)) (hbt : b + 6 ≤ t) (hg : mi (t + 1) 3 = nI g) (h6 : mi t 6 = 0)
    (kE : ∀ mi2, u = 0 → MS m0 mi2 t b 0 → (∀ (mr m1 : km_I) (e : Nat), RM False mr m1 0 (u + 1) g → SIP mi m1 t b e (u + 1) → ∃ m2, RM False mr m2 0 0 g ∧ 0 ≤ m2 101 0 ∧ FIN mi2 m2 t ∧ ∀ Kr : km_I → Prop, Kr m2 → X7_returns_w v m1 Kr) → K mi2)
    (kN : ∀ mi2 u', u = u' + 1 → MS m0 mi2 t b (u' + 1) → mi2 (t + 1) 3 = nI g → mi2 t 6 = 0 → (∀ (mr m1 : km_I) (e : Nat), RM False mr m1 0 (u + 1) g → m1 101 0 = -1 → SIP mi m1 t b e (u + 1) → ∃ m2, RM False mr m2 0 (u' + 1) g ∧ m2 101 0 = -1 ∧ SIM mi2 m2 t b e (u' + 1) ∧ ∀ Kr : km_I → Prop, Kr m2 → X7_returns_w v m1 Kr) → K mi2) : X1_giveBack_w t b v mi K := by
  have hu := h.2.2.1.1
  have h8 := h.2.2.1.2.1
  unfold X1_giveBack_w
  rw [h8, nI_pred]
  intro m7 e7
  have h1 : MS m0 m7 t b u := by
    rw [e7]
    exact ⟨h.1.u (by omega) (by omega) (by omega), h.2.1.u (by omega) (by omega) (by omega), h.2.2.1.pop hbt, h.2.2.2.u (by omega)⟩
  have f8 : m7 t 8 = nI u := h1.2.2.1.2.1
  refine ⟨fun c => ?_, fun c => ?_⟩
  · rcases u with _ | u
    · exact absurd (f8.trans nI_0) c
    · obtain ⟨mm, l, b1, b2, b3, b4, b5⟩ := h.2.2.1.2.2.2 u (by omega)
      obtain ⟨k, hk, ek, r1, -⟩ := h.2.2.2.2.2 (24 * mm + l) (by omega)
      have hk3 : k = 13 := by
        rw [b5] at ek
        exact ((nI_eq (by omega) (by omega)).mp ek).symm
      obtain ⟨a, ha, ea⟩ := r1 (by omega)
      have g10 : m7 (t + 10) u = nI mm := by rw [e7, km_u_p (by omega)]; exact b3
      have g9 : m7 (t + 9) u = nI l := by rw [e7, km_u_p (by omega)]; exact b4
      refine top_s f8 (by omega) b1 (by omega) g10 g9 ⟨vp_in_nI (by omega) (by decide), ?_⟩
      rw [nI_clamp (by omega), show m7 (b + 3) (24 * mm + l) = nI a from by rw [e7, km_u_p (by omega)]; exact ea]
      refine put_x f8 (by omega) ha g9 (kN _ u rfl (line_s (h1.rg hbt) hbt (nb_of _ (by omega))) ?_ ?_ (fun mr m1 e hR h101 hS => ?_))
      · rw [km_u_p (by omega), km_u_p (by omega), e7, km_u_p (by omega)]; exact hg
      · rw [km_u_p (by omega), km_u_p (by omega), e7, km_u_k (by omega)]; exact h6
      · have e99 : m1 99 (u + 1) = nI a := by
          obtain ⟨-, mm', l', a1, a2, a3, a4, a5⟩ := hS.2.1.2.1 u (by omega)
          rw [b3, nI_eq (by omega) (by omega)] at a3
          rw [b4, nI_eq (by omega) (by omega)] at a4
          rw [a5, ← a3, ← a4]; exact ea
        have q := returns_s (K := fun m' => RM False mr m' 0 (u + 1) g) (x1 := v) hR (fun _ z _ => z)
        have h13 := hR.2.2.2.1.2.1
        have ixa : (6 : Int32) * nI u + nI a = nI (6 * u + a) := ix6 u a
        have ca : (nI (6 * u + a)).toNatClampNeg = 6 * u + a := nI_clamp (by omega)
        have cu1 : (nI (u + 1)).toNatClampNeg = u + 1 := nI_clamp (by omega)
        have ne : ¬ nI (u + 1) = 0 := nI_ne0 (by omega) (by omega)
        refine ⟨km_u (km_u m1 86 13 (nI (u + 1))) 100 (6 * u + a) v, ?_, ?_, ?_, fun Kr hKr => ?_⟩
        · unfold X7_returns_w at q
          rw [h13, nI_pred] at q
          have q1 := q _ rfl
          rw [km_u_at, cu1, km_u_p (by omega), e99, nI_pred, ixa, ca] at q1
          exact (q1.1 ne).2.2 _ rfl
        · rw [km_u_p (by omega), km_u_p (by omega)]; exact h101
        · rw [e7]
          exact hS.pop hbt b4
        · unfold X7_returns_w
          rw [h13, nI_pred]
          intro m8 e8
          have i13 : m8 86 13 = nI (u + 1) := by rw [e8, km_u_at]
          have i99 : m8 99 (u + 1) = nI a := by rw [e8, km_u_p (by omega)]; exact e99
          rw [i13, cu1, i99, nI_pred, ixa, ca]
          exact ⟨fun _ => ⟨vp_in_nI (by omega) (by decide), vp_in_nI (by omega) (by decide), fun m64 e64 => by rw [e64, e8]; exact hKr⟩, fun c9 => absurd c9 ne⟩
  · have u0 : u = 0 := by
      rw [f8] at c
      exact (nI_eq (b := 0) (by omega) (by decide)).mp c
    subst u0
    refine finish_s (kE _ rfl ?_ (fun mr m1 e hR hS => ?_))
    · exact ((h1.u hbt (by omega) (by omega) (by omega) (by omega) (by omega) (by omega) (by omega) (by omega)).u hbt (by omega) (by omega) (by omega) (by omega) (by omega) (by omega) (by omega) (by omega)).u hbt (by omega) (by omega) (by omega) (by omega) (by omega) (by omega) (by omega) (by omega)
    · have q := returns_s (K := fun m' => RM False mr m' 0 0 g) (x1 := v) hR (fun _ z _ => z)
      have h13 := hR.2.2.2.1.2.1
      have h18 : m1 86 18 = nI 0 := hR.2.2.2.2.1.2
      have c0 : (nI 0).toNatClampNeg = 0 := nI_clamp (by omega)
      refine ⟨km_u (km_u (km_u m1 86 13 (nI 0)) 101 0 0) 103 0 v, ?_, ?_, ⟨?_, ?_⟩, fun Kr hKr => ?_⟩
      · unfold X7_returns_w at q
        rw [h13, nI_pred] at q
        have q1 := q _ rfl
        rw [km_u_at, km_u_k (q := 86) (j := 18) (by omega), h18, c0] at q1
        have q2 := (q1.2 nI_0).2 _ rfl
        rw [km_u_p (by omega), km_u_k (by omega), h18, c0] at q2
        exact q2.2 _ rfl
      · rw [km_u_p (by omega), km_u_at]; decide
      · rw [km_u_p (by omega), km_u_at, km_u_k (by omega), km_u_k (by omega), km_u_at]
      · exact hS.2.2.mv (by rw [km_u_k (by omega), km_u_k (by omega), km_u_k (by omega), e7, km_u_p (by omega)]) (by rw [km_u_off (t + 2) (by omega), km_u_off (t + 2) (by omega), km_u_off (t + 2) (by omega), e7, km_u_off (t + 2) (by omega)]) (by rw [km_u_off (t + 3) (by omega), km_u_off (t + 3) (by omega), km_u_off (t + 3) (by omega), e7, km_u_off (t + 3) (by omega)]) (fun p _ _ => by rw [km_u_off p (by omega), km_u_off p (by omega), km_u_off p (by omega)])
      · unfold X7_returns_w
        rw [h13, nI_pred]
        intro m8 e8
        have i13 : m8 86 13 = nI 0 := by rw [e8, km_u_at]
        have i18 : m8 86 18 = nI 0 := by rw [e8, km_u_k (by omega)]; exact h18
        rw [i13, i18, c0]
        refine ⟨fun c9 => absurd nI_0 c9, fun _ => ⟨v03, fun m26 e26 => ?_⟩⟩
        have j18 : m26 86 18 = nI 0 := by rw [e26, km_u_p (by omega)]; exact i18
        rw [j18, c0]
        exact ⟨v03, fun m36 e36 => by rw [e36, e26, e8]; exact hKr⟩
