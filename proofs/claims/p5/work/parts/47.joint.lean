/-! run(): class and reference -/
theorem go_xs {mi : km_I} {t b : Nat} {x1 x2 x3 : Int32} {K : km_I → Prop} (hpm : PM mi t) (hbi : BI mi b) (hbt : b + 6 ≤ t) (hm : nb x1 6) (h6 : mi t 6 = 0) (hK : ∀ m10 mi1 mi', (∀ p, p ≠ t → p ≠ t + 1 → m10 p = mi p) → (∀ k, k ≠ 8 → m10 t k = mi t k) → m10 (t + 1) 5 = 0 → EC m10 mi1 t 0 x1 x2 x3 → MS mi mi' t b 0 → RS t b mi1 mi' 0 0 → K mi') : X1_go_w t b x1 x2 x3 mi K := by
  unfold X1_go_w X5_forget_w
  refine finish_s ?_
  intro m9 e9 m14 e14 m19 e19 m24 e24 m10 e10
  have f1 : ∀ p, p ≠ t → p ≠ t + 1 → m10 p = mi p := fun p a1 a2 => by rw [e10, km_u_off p a1, e24, km_u_off p a2, e19, km_u_off p a2, e14, km_u_off p a2, e9, km_u_off p a2, km_u_off p a2, km_u_off p a2, km_u_off p a2]
  have f2 : ∀ k, k ≠ 8 → m10 t k = mi t k := fun k a => by rw [e10, km_u_k a, e24, km_u_p (by omega), e19, km_u_p (by omega), e14, km_u_p (by omega), e9, km_u_p (by omega), km_u_p (by omega), km_u_p (by omega), km_u_p (by omega)]
  have f5 : m10 (t + 1) 5 = 0 := by rw [e10, km_u_p (by omega), e24, km_u_k (by omega), e19, km_u_at]
  have f3 : m10 (t + 1) 3 = 0 := by rw [e10, km_u_p (by omega), e24, km_u_k (by omega), e19, km_u_k (by omega), e14, km_u_k (by omega), e9, km_u_at]
  have h0 : MS mi m10 t b 0 := by
    obtain ⟨a1, a2, a3, a4⟩ := hpm
    subst e10; subst e24; subst e19; subst e14; subst e9
    refine ⟨((((((((FM.rf mi t).u (by omega) (by omega) (by omega)).u (by omega) (by omega) (by omega)).u (by omega) (by omega) (by omega)).u (by omega) (by omega) (by omega)).u (by omega) (by omega) (by omega)).u (by omega) (by omega) (by omega)).u (by omega) (by omega) (by omega)).u (by omega) (by omega) (by omega), ⟨fun j hj => ?_, ?_, ?_, fun i hi => ?_⟩, ⟨by omega, ?_, fun f hf => absurd hf (by omega), fun f hf => absurd hf (by omega)⟩, ?_⟩
    · rw [km_u_p (by omega), km_u_p (by omega), km_u_p (by omega), km_u_p (by omega), km_u_p (by omega), km_u_p (by omega), km_u_p (by omega), km_u_p (by omega)]; exact a1 j hj
    · rw [km_u_p (by omega), km_u_k (by omega), km_u_at]; exact nb_0 (by decide)
    · rw [km_u_p (by omega), km_u_at]; exact nb_0 (by decide)
    · rw [km_u_p (by omega), km_u_p (by omega), km_u_p (by omega), km_u_p (by omega), km_u_p (by omega), km_u_p (by omega), km_u_p (by omega), km_u_p (by omega)]; exact a4 i hi
    · rw [km_u_at]; exact nI_0.symm
    · exact (((((((hbi.u (by omega)).u (by omega)).u (by omega)).u (by omega)).u (by omega)).u (by omega)).u (by omega)).u (by omega)
  refine enter_x h0 hbt (by omega) hm (fun f hf => absurd hf (by omega)) (fun mi1 h1 hEC => ⟨1001, ?_⟩)
  refine go_x hbt 1001 0 0 0 mi1 (by omega) (by omega) (by omega) h1 ?_ (by omega) ?_ (fun mi' hm' hr => hK m10 mi1 mi' f1 f2 f5 hEC hm' hr)
  · rw [hEC.2.2.1 3 (by omega), f3]; exact nI_0.symm
  · rw [hEC.2.1 6 (by omega), f2 6 (by omega)]; exact h6
theorem play_xs {m : km_I} {e : Nat} {x3 x4 x5 : Int32} {K : km_I → Prop} (hb : RB m) (hp : RP m) (hm : nb x3 6) (hK : ∀ m1, RM False m m1 0 1 0 → m1 101 0 = -1 → m1 106 0 = 0 → m1 97 0 = x3 → m1 98 0 = 0 → (∃ old, ∀ j, m1 100 j = RG 0 x4 x5 old j) → X7_play_b69 (nI 0) (nI e) x3 x4 x5 1003 (nI 0) (nI e) x3 x4 x5 m1 K) : X7_play_w (nI 0) (nI e) x3 x4 x5 m K := by
  have v : vp_in (nI 0) 3 := v03
  unfold X7_play_w
  rw [nI_clamp (n := 0) (by omega)]
  intro m2 e2 m7 e7
  refine ⟨v, fun m16 e16 => ⟨v, fun m23 e23 => ⟨v, fun m30 e30 => ⟨v, fun m37 e37 => ⟨v, fun m44 e44 => ⟨v, fun m51 e51 => ⟨v, fun m58 e58 => ?_⟩⟩⟩⟩⟩⟩⟩
  have i101 : m58 101 0 = -1 := by rw [e58, km_u_p (by omega), e51, km_u_p (by omega), e44, km_u_p (by omega), e37, km_u_p (by omega), e30, km_u_p (by omega), e23, km_u_p (by omega), e16, km_u_at]
  have i106 : m58 106 0 = 0 := by rw [e58, km_u_p (by omega), e51, km_u_at]
  have h58 : RM False m m58 0 0 0 := by
    have f7 : FP False m m7 := by rw [e7, e2]; exact ((FP.rf m).u (by omega)).u (by omega)
    have b7 : RB m7 := by rw [e7, e2]; exact (hb.u (by omega)).u (by omega)
    have p7 : RP m7 := by rw [e7, e2]; exact (hp.u (by omega) (by omega) (by omega)).u (by omega) (by omega) (by omega)
    have g13 : m7 86 13 = nI 0 := by rw [e7, km_u_at]; rfl
    have g18 : m7 86 18 = nI 0 := by rw [e7, km_u_k (by omega), e2, km_u_at]
    clear i101 i106
    subst e58; subst e51; subst e44; subst e37; subst e30; subst e23; subst e16
    refine ⟨((((((f7.u (by omega)).u (by omega)).u (by omega)).u (by omega)).u (by omega)).ut (by omega) (fun q => q.elim)).u (by omega), ((((((b7.u (by omega)).u (by omega)).u (by omega)).u (by omega)).u (by omega)).u (by omega)).u (by omega), ⟨fun j hj => ?_, fun o ho => ⟨?_, ?_⟩⟩, ⟨by omega, ?_, fun f hf => absurd hf (by omega)⟩, ⟨by omega, ?_⟩, by omega, ?_⟩
    · rw [km_u_p (by omega), km_u_p (by omega), km_u_p (by omega), km_u_p (by omega), km_u_p (by omega), km_u_p (by omega), km_u_p (by omega)]; exact p7.1 j hj
    · rw [km_u_p (by omega)]
      by_cases e : o = 0
      · subst e; rw [km_u_at]; exact nb_0 (by decide)
      · rw [km_u_k e, km_u_p (by omega), km_u_p (by omega), km_u_p (by omega), km_u_p (by omega), km_u_p (by omega)]; exact (p7.2 o ho).1
    · by_cases e : o = 0
      · subst e; rw [km_u_at]; exact nb_0 (by decide)
      · rw [km_u_k e, km_u_p (by omega), km_u_p (by omega), km_u_p (by omega), km_u_p (by omega), km_u_p (by omega), km_u_p (by omega)]; exact (p7.2 o ho).2
    · rw [km_u_p (by omega), km_u_p (by omega), km_u_p (by omega), km_u_p (by omega), km_u_p (by omega), km_u_p (by omega), km_u_p (by omega)]; exact g13
    · rw [km_u_p (by omega), km_u_p (by omega), km_u_p (by omega), km_u_p (by omega), km_u_p (by omega), km_u_p (by omega), km_u_p (by omega)]; exact g18
    · rw [km_u_p (by omega), km_u_p (by omega), km_u_p (by omega), km_u_at]; rfl
  refine renter_x h58 (by omega) hm (nb_0 (by decide)) (fun m1 h1 hER => ⟨1003, hK m1 h1 ?_ ?_ ?_ ?_ ⟨_, hER.2.2.2.2.2.2⟩⟩)
  · rw [hER.2.2.1 101 (by omega) (by omega) (by omega) (by omega) (by omega) (by omega)]; exact i101
  · rw [hER.2.2.1 106 (by omega) (by omega) (by omega) (by omega) (by omega) (by omega)]; exact i106
  · rw [hER.2.2.2.1 0, if_pos rfl]
  · rw [hER.2.2.2.2.1 0, if_pos rfl]
set_option maxHeartbeats 1000000 in
theorem j_run {mi : km_I} {x1 x2 x3 x4 : Int32} {G : Prop → Prop} {K : Int32 → Int32 → km_I → Prop} (hG : ∀ P, P → G P) (h : JJ mi) (hK : ∀ r mi', JJ mi' → K r r mi') : X6_run_w x1 x2 x3 x4 mi (fun r m => G (X7_run_w x1 x2 x3 x4 m (K r))) := by
  have num : ∀ {x : Int32} {m : km_I} {K' : Int32 → km_I → Prop}, m 86 1 = mi 0 1 → ((0 : Int32) ≤ x → x ≤ mi 0 1 → K' 1 m) → ((x < 0 ∨ mi 0 1 < x) → K' 0 m) → X7_isNumber_w x m K' := fun e p1 p0 => by
    unfold X7_isNumber_w
    rw [e]
    exact kz_in (fun a b => ⟨Or.inr rfl, p1 a b⟩) (fun o => ⟨Or.inl rfl, p0 o⟩)
  have em : mi 86 1 = mi 0 1 := h.2.2.1.2
  unfold X6_run_w
  refine cIs h (fun e b j k hbe q1 q2 ek hj hk => kz_ifn1 ?_) (fun hn => kz_ifn0 (hG _ ?_))
  · subst q1; subst q2
    have hl := hbe.le
    have hB := h.bi hbe
    have hJ := h.jb hbe
    have e87 : mi 87 e = nI k := hJ.1.trans ek
    obtain ⟨⟨t1, t6⟩, tt⟩ := h.2.2.2.2.2.2
    refine kz_within (fun a1 a2 => kz_if1 (kz_within (fun b1 b2 => kz_ifn1 ?_) (fun o => kz_ifn0 (hG _ ?_)))) (fun o => kz_if0 (hG _ ?_))
    · refine bO hl.2.2 (fun b' hbe' => ?_)
      obtain rfl := hbe.eq hbe'
      refine ⟨hbe.is, go_xs (h.1.2.2.1 26 (by decide)) hB (by omega) (nb_of _ (by omega)) t6 (fun m10 mi1 mi' f1 f2 f5 hEC hMS hRS => hG _ ?_)⟩
      have hF := hMS.1
      have o87 : ∀ p, 38 ≤ p → mi' p = mi p := fun p hp => hF.1 p (by omega)
      unfold X7_run_w
      refine rIs1 hl.2.2 hk (by rw [o87 87 (by omega)]; exact e87) hj (kz_ifn1 (num (by rw [o87 86 (by omega)]; exact em) (fun _ _ => kz_if1 (num (by rw [o87 86 (by omega)]; exact em) (fun _ _ => kz_ifn1 (fun m34 e34 => ?_)) (fun o => (kz_out o b1 b2).elim))) (fun o => (kz_out o a1 a2).elim)))
      have o34 : ∀ p, 87 ≤ p → m34 p = mi p := fun p hp => by rw [e34, km_u_off p (by omega)]; exact o87 p (by omega)
      have hRB : RB m34 := h.rb.mv (fun p _ _ => o34 p (by omega))
      have hRP : RP m34 := h.2.1.mv (fun p _ _ => o34 p (by omega))
      obtain ⟨c1, c2, c3, c4, c5, c6, c7⟩ := hEC
      refine play_xs (e := e) hRB hRP (nb_of _ (by omega)) (fun m1 hR h101 h106 h97 h98 h100 => ?_)
      obtain ⟨old, h100⟩ := h100
      have obb : ∀ p, b' ≤ p → p < b' + 6 → mi1 p = mi p := fun p p1 p2 => by rw [c4 p (by omega) (by omega) (by omega) (by omega) (by omega)]; exact f1 p (by omega) (by omega)
      have o1 : ∀ p, 87 ≤ p → p < 93 → m1 p = mi p := fun p p1 p2 => by rw [hR.1.1 p (by omega)]; exact o34 p p1
      have hS : SIM mi1 m1 26 b' e (0 + 1) := by
        refine ⟨⟨fun i hi => ?_, fun i hi => ?_, ?_, ?_, ?_, ?_⟩, ⟨fun k' hk' => ?_, fun k' hk' => absurd hk' (by omega), fun k' hk' => ?_, fun i hi => ?_⟩, ?_, fun i k' z1 z2 z3 => ?_⟩
        · rw [o1 88 (by omega) (by omega), obb (b' + 1) (by omega) (by omega)]; exact hJ.2.1 i hi
        · rw [o1 89 (by omega) (by omega), o1 90 (by omega) (by omega), o1 91 (by omega) (by omega), o1 92 (by omega) (by omega), obb (b' + 2) (by omega) (by omega), obb (b' + 3) (by omega) (by omega), obb (b' + 4) (by omega) (by omega), obb (b' + 5) (by omega) (by omega)]; exact hJ.2.2.2 i hi
        · rw [o1 87 (by omega) (by omega), obb b' (by omega) (by omega)]; exact hJ.1
        · rw [hR.1.2.1 1 (by omega) (by omega), e34, km_u_k (by omega), o87 86 (by omega), em, c2 1 (by omega), f2 1 (by omega)]; exact t1.symm
        · rw [hR.1.2.1 19 (by omega) (by omega), e34, km_u_at]
        · rw [c2 6 (by omega), f2 6 (by omega)]; exact t6
        · obtain rfl : k' = 0 := by omega
          rw [h97, c5, if_pos rfl]
        · obtain rfl : k' = 0 := by omega
          rw [h98, c6, if_pos rfl]
        · rw [h100, c7]
          unfold RG
          rw [if_pos (show 6 * 0 ≤ i ∧ i < 6 * 0 + 6 by omega), if_pos (show 6 * 0 ≤ i ∧ i < 6 * 0 + 6 by omega)]
        · rw [h106, c3 5 (by omega)]; exact f5.symm
        · rw [c3 5 (by omega), f5, show (0 : Int32) = nI 0 from rfl, nI_eq (by omega) (by omega)] at z1
          exact absurd z2 (by omega)
      refine hRS m34 m1 e hbe hR h101 hS 1003 (by omega) _ _ _ _ _ _ _ _ _ (fun m' u' g' hR' hFin => ⟨v03, ?_⟩)
      rw [show Int32.toNatClampNeg 0 = 0 from rfl, show m' 101 0 = mi' 27 0 from hFin.1]
      refine hK _ _ ?_
      have low : ∀ p, p < 86 → m' p = mi' p := fun p hp => by rw [hR'.1.1 p (Or.inl hp), e34, km_u_off p (by omega)]
      have up : ∀ p, 87 ≤ p → p < 97 → m' p = mi p := fun p p1 p2 => by rw [hR'.1.1 p (by omega)]; exact o34 p p1
      have cl : ∀ p, p < 26 ∨ (38 ≤ p ∧ p < 86) → m' p = mi p := fun p hp => by rw [low p (by omega)]; exact hF.1 p (by omega)
      have e86 : ∀ k', k' = 0 ∨ k' = 1 ∨ k' = 10 → m' 86 k' = mi 86 k' := fun k' hk' => by rw [hR'.1.2.1 k' (by omega) (by omega), e34, km_u_k (by omega), o87 86 (by omega)]
      obtain ⟨⟨d1, ⟨d2, d2'⟩, d3, ⟨d4, d4'⟩, d5, d6⟩, -, ⟨w1, w2⟩, ⟨j1, j7⟩, ⟨p1, p2⟩, ⟨s1, s2⟩, -⟩ := h
      refine ⟨⟨by rw [cl 0 (by omega)]; exact d1, ⟨d2.mv (fun p _ _ => cl p (by omega)), d2'.mv (fun p _ _ => cl p (by omega))⟩, fun t ht => ?_, ⟨d4.mv (fun p _ _ => cl p (by omega)), d4'.mv (fun p _ _ => cl p (by omega))⟩, by rw [cl 21 (by omega)]; exact d5, fun i hi => by rw [cl 22 (by omega), cl 23 (by omega)]; exact d6 i hi⟩, hR'.2.2.1, ⟨by rw [e86 0 (by omega), cl 0 (by omega)]; exact w1, by rw [e86 1 (by omega), cl 0 (by omega)]; exact w2⟩, ⟨j1.mv (fun p _ _ => cl p (by omega)) (fun p _ _ => up p (by omega) (by omega)), j7.mv (fun p _ _ => cl p (by omega)) (fun p _ _ => up p (by omega) (by omega))⟩, ⟨fun p hp => by rw [up 93 (by omega) (by omega), up 94 (by omega) (by omega), cl 14 (by omega), cl 15 (by omega)]; exact p1 p hp, fun p q hp hq => by rw [cl 14 (by omega), cl 16 (by omega)]; exact p2 p q hp hq⟩, ⟨by rw [e86 10 (by omega), cl 21 (by omega)]; exact s1, fun i hi => by rw [up 95 (by omega) (by omega), up 96 (by omega) (by omega), cl 22 (by omega), cl 23 (by omega)]; exact s2 i hi⟩, ⟨by rw [low 26 (by omega), cl 0 (by omega), hF.2.1]; exact t1, by rw [low 26 (by omega), hF.2.2]; exact t6⟩, by rw [low 27 (by omega)]; exact hFin.2.1, fun i k' z1 z2 z3 => by rw [low 28 (by omega), low 29 (by omega)]; rw [low 27 (by omega)] at z1; exact hFin.2.2 i k' z1 z2 z3⟩
      have ht' := M_rg ht
      by_cases e26 : t = 26
      · subst e26
        exact hMS.2.1.mv (fun p _ _ => low p (by omega))
      · have ht38 : 38 ≤ t := by
          rcases ht with rfl | rfl | rfl | rfl | rfl
          · exact absurd rfl e26
          · decide
          · decide
          · decide
          · decide
        exact (d3 t ht).mv (fun p _ _ => cl p (by omega))
    · unfold X7_run_w
      exact rIs1 hl.2.2 hk e87 hj (kz_ifn1 (num em (fun _ _ => kz_if1 (num em (fun b1 b2 => (kz_out o b1 b2).elim) (fun _ => kz_ifn0 (hK _ _ h)))) (fun o => (kz_out o a1 a2).elim)))
    · unfold X7_run_w
      exact rIs1 hl.2.2 hk e87 hj (kz_ifn1 (num em (fun a1 a2 => (kz_out o a1 a2).elim) (fun _ => kz_if0 (hK _ _ h))))
  · unfold X7_run_w
    exact rIs0 h hn (kz_ifn0 (hK _ _ h))
