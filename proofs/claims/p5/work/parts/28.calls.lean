/-! CLASS AND REFERENCE TOGETHER: the calls whose answers are not compared; the start -/
theorem jz_below {x : Int32} {t : Nat} (ht : t < 2 ^ 31) (a : (0 : Int32) ≤ x) (b : x ≤ nI t - 1) : ∃ j, j < t ∧ x = nI j := by
  rcases t with _ | t
  · exact absurd (Int32.le_trans a b) (by decide)
  · rw [nI_pred] at b
    exact kz_nb (n := t) (by omega) a b
theorem v03 : vp_in 0 3 := vp_in_nI (n := 0) (by decide) (by decide)
theorem j_told {mi : km_I} {x1 x2 : Int32} {G : Prop → Prop} {K : Int32 → Int32 → km_I → Prop} (hG : ∀ P, P → G P) (h : JJ mi) (hK : ∀ r mi', JJ mi' → K r r mi') : X6_told_w x1 x2 mi (fun r m => G (X7_told_w x1 x2 m (K r))) := by
  obtain ⟨t, ht, et⟩ := (h.1.2.2.1 26 (by decide)).2.1
  have et' : mi 27 5 = nI t := et
  have e106 : mi 106 0 = nI t := h.2.2.2.2.2.2.2.1.trans et'
  have ref : ∀ r, (0 : Int32) ≤ x2 → x2 ≤ 1 → ((x1 < 0 ∨ nI t - 1 < x1) → K r (-1) mi) → (∀ j, j < t → x1 = nI j → x2 = 0 → K r (mi 28 j) mi) → (∀ j, j < t → x1 = nI j → ¬ x2 = 0 → K r (mi 29 j) mi) → X7_told_w x1 x2 mi (K r) := by
    intro r a1 a2 k1 k2 k3
    unfold X7_told_w
    refine kz_in (fun _ _ => kz_ifn1 ⟨v03, ?_⟩) (fun o => (kz_out o a1 a2).elim)
    rw [show Int32.toNatClampNeg 0 = 0 from rfl, e106]
    refine kz_in (fun b1 b2 => kz_ifn1 ?_) (fun o => kz_ifn0 (k1 o))
    obtain ⟨j, hj, rfl⟩ := jz_below (by omega) b1 b2
    have z := h.2.2.2.2.2.2.2.2 j t et' hj (by omega)
    rw [nI_clamp (by omega), z.1, z.2]
    exact ⟨fun c => ⟨vp_in_nI (by omega) (by decide), k3 j hj rfl c⟩, fun c => ⟨vp_in_nI (by omega) (by decide), k2 j hj rfl c⟩⟩
  unfold X6_told_w
  refine kz_within (fun a1 a2 => kz_ifn1 ?_) (fun o => kz_ifn0 (hG _ ?_))
  · rw [et']
    refine kz_within (fun b1 b2 => kz_ifn1 ?_) (fun o => kz_ifn0 (hG _ (ref _ a1 a2 (fun _ => hK _ _ h) (fun j hj e => ?_) (fun j hj e => ?_))))
    · obtain ⟨j, hj, rfl⟩ := jz_below (by omega) b1 b2
      rw [nI_clamp (by omega)]
      have no : ¬ (nI j < 0 ∨ nI t - 1 < nI j) := fun o => kz_out o b1 b2
      refine ⟨fun c => ⟨vp_in_nI (by omega) (by decide), hG _ (ref _ a1 a2 (fun o => absurd o no) (fun j' hj' e c' => absurd c' c) (fun j' hj' e _ => ?_))⟩, fun c => ⟨vp_in_nI (by omega) (by decide), hG _ (ref _ a1 a2 (fun o => absurd o no) (fun j' hj' e _ => ?_) (fun j' hj' e c' => absurd c c'))⟩⟩
      · rw [nI_eq (by omega) (by omega)] at e
        rw [e]; exact hK _ _ h
      · rw [nI_eq (by omega) (by omega)] at e
        rw [e]; exact hK _ _ h
    · rcases t with _ | t
      · exact absurd hj (by omega)
      · rw [e, nI_pred] at o
        exact (kz_out o (nI_pos' (by omega)) (nI_le (by omega) (by omega))).elim
    · rcases t with _ | t
      · exact absurd hj (by omega)
      · rw [e, nI_pred] at o
        exact (kz_out o (nI_pos' (by omega)) (nI_le (by omega) (by omega))).elim
  · unfold X7_told_w
    exact kz_in (fun a1 a2 => (kz_out o a1 a2).elim) (fun _ => kz_ifn0 (hK _ _ h))
theorem j_ran {mi : km_I} {x1 : Int32} {G : Prop → Prop} {K : Int32 → Int32 → km_I → Prop} (hG : ∀ P, P → G P) (h : JJ mi) (hK : ∀ r r' mi', JJ mi' → K r r' mi') : X6_ran_w x1 mi (fun r m => G (X7_ran_w x1 m (K r))) := by
  have ref : ∀ r, X7_ran_w x1 mi (K r) := fun r => ⟨fun _ => hK _ _ _ h, fun _ => ⟨v03, hK _ _ _ h⟩, fun _ => ⟨v03, hK _ _ _ h⟩, fun _ => ⟨v03, hK _ _ _ h⟩, fun _ => ⟨v03, hK _ _ _ h⟩, fun _ => ⟨v03, hK _ _ _ h⟩⟩
  exact ⟨fun _ => hG _ (ref _), fun _ => hG _ (ref _), fun _ => hG _ (ref _), fun _ => hG _ (ref _), fun _ => hG _ (ref _), fun _ => hG _ (ref _)⟩
theorem j_first {mi : km_I} {x1 : Int32} {G : Prop → Prop} {K : Int32 → Int32 → km_I → Prop} (hG : ∀ P, P → G P) (h : JJ mi) (hK : ∀ r r' mi', JJ mi' → K r r' mi') : X6_first_w x1 mi (fun r m => G (X7_first_w x1 m (K r))) := by
  have ref : ∀ r, X7_first_w x1 mi (K r) := fun r => ⟨fun _ => ⟨fun _ => hK _ _ _ h, fun _ => hK _ _ _ h⟩, fun _ => hK _ _ _ h⟩
  exact ⟨fun _ => hG _ (ref _), fun _ => hG _ (ref _), fun _ => hG _ (ref _)⟩
theorem j_why {mi : km_I} {x1 : Int32} {G : Prop → Prop} {K : Int32 → Int32 → km_I → Prop} (hG : ∀ P, P → G P) (h : JJ mi) (hK : ∀ r r' mi', JJ mi' → K r r' mi') : X6_why_w x1 mi (fun r m => G (X7_why_w x1 m (K r))) := by
  have ref : ∀ r, X7_why_w x1 mi (K r) := by
    intro r
    unfold X7_why_w
    exact kz_in (fun a b => kz_ifn1 ⟨fun _ => hK _ _ _ h, fun _ => ⟨(kz_nb (n := 4) (by decide) a b).vin (by decide) (by decide), hK _ _ _ h⟩⟩) (fun _ => kz_ifn0 (hK _ _ _ h))
  unfold X6_why_w
  exact kz_within (fun a b => kz_if1 ⟨(kz_nb (n := 4) (by decide) a b).vin (by decide) (by decide), hG _ (ref _)⟩) (fun _ => kz_if0 (hG _ (ref _)))
theorem j_hold {mi : km_I} {x1 x2 : Int32} {G : Prop → Prop} {K : Int32 → Int32 → km_I → Prop} (hG : ∀ P, P → G P) (h : JJ mi) (hK : ∀ r r' mi', JJ mi' → K r r' mi') : X6_hold_w x1 x2 mi (fun r m => G (X7_hold_w x1 x2 m (K r))) := hold_c h.cs (fun r m hm => hG _ (rHold_s (f := True) (h.big0 hm).ri (h.big0 hm).2.1 (fun r' m' h' => hK _ _ _ (h.big hm h'.1.1 h'.2 (h'.1.2.2 trivial)))))
theorem j_match {mi : km_I} {x1 : Int32} {G : Prop → Prop} {K : Int32 → Int32 → km_I → Prop} (hG : ∀ P, P → G P) (h : JJ mi) (hK : ∀ r r' mi', JJ mi' → K r r' mi') : X6_match_w x1 mi (fun r m => G (X7_match_w x1 m (K r))) := match_c h.cs (fun r m hm => hG _ (rMatch_s (f := True) (h.big0 hm).ri (h.big0 hm).2.1 (fun r' m' h' => hK _ _ _ (h.big hm h'.1.1 h'.2 (h'.1.2.2 trivial)))))
theorem j_find {E : km_E} {mi : km_I} {x1 x2 : Int32} {G : Prop → Prop} {K : Int32 → Int32 → km_I → Prop} (h1 : E.2.2.1 1 = 24) (hE : ∀ j, E.2.2.2.1 1 j = km_renL.getD j 0) (hG : ∀ P, P → G P) (h : JJ mi) (hK : ∀ r r' mi', JJ mi' → K r r' mi') : X6_find_w E x1 x2 mi (fun r m => G (X7_find_w x1 x2 m (K r))) := find_c h.cs h1 hE (fun r m hm => hG _ (rFind_s (f := True) (h.big0 hm).ri (h.big0 hm).2.1 (fun r' m' h1' h2' h3' => hK _ _ _ (h.big hm h1' h2' (h3' trivial)))))
theorem j_prove {mi : km_I} {G : Prop → Prop} {K : Int32 → Int32 → km_I → Prop} (hG : ∀ P, P → G P) (h : JJ mi) (hK : ∀ r r' mi', JJ mi' → K r r' mi') : X6_prove_w mi (fun r m => G (X7_prove_w m (K r))) := prove_c h.cs (fun r m hm => hG _ (rProve_s (f := True) (h.big0 hm).ri (h.big0 hm).2.1 (fun r' m' h' => hK _ _ _ (h.big hm h'.1.1 h'.2 (h'.1.2.2 trivial)))))
/-! the start -/
theorem jz_14 (w mk : Int32) : ∀ p, p < 4 → km_M0 w mk w mk 14 p = nI p := by
  intro p hp
  rcases p with _ | _ | _ | _ | p
  · rfl
  · rfl
  · rfl
  · rfl
  · omega
theorem jz_16 (w mk : Int32) : ∀ p, p < 4 → km_M0 w mk w mk 16 p = nI p := by
  intro p hp
  rcases p with _ | _ | _ | _ | p
  · rfl
  · rfl
  · rfl
  · rfl
  · omega
theorem jz_18 (w mk : Int32) : ∀ p, p < 4 → km_M0 w mk w mk 18 p = nI p := by
  intro p hp
  rcases p with _ | _ | _ | _ | p
  · rfl
  · rfl
  · rfl
  · rfl
  · omega
theorem jz_20 (w mk : Int32) : ∀ p, p < 4 → km_M0 w mk w mk 20 p = nI p := by
  intro p hp
  rcases p with _ | _ | _ | _ | p
  · rfl
  · rfl
  · rfl
  · rfl
  · omega
theorem jz_93 (w mk : Int32) : ∀ p, p < 4 → km_M0 w mk w mk 93 p = nI p := by
  intro p hp
  rcases p with _ | _ | _ | _ | p
  · rfl
  · exact (by decide : (0 + 1 : Int32) = nI 1)
  · exact (by decide : ((0 + 1) + 1 : Int32) = nI 2)
  · exact (by decide : (((0 + 1) + 1) + 1 : Int32) = nI 3)
  · omega
theorem okop0 : okop 0 0 0 0 := ⟨0, by decide, nI_0.symm, fun _ => nb_0 (by decide), fun c => absurd c (by decide), fun c => absurd c (by decide), fun c => absurd c (by decide), fun c => absurd c (by decide), fun _ => nb_0 (by decide)⟩
theorem jz_J (w mk : Int32) (hm : mk = nI 3 ∨ mk = nI 7) : JJ (km_M0 w mk w mk) := by
  have z : ∀ {n : Nat}, 0 < n → nb 0 n := fun h => nb_0 h
  refine ⟨⟨hm, ⟨⟨z (by decide), fun j _ => z (by decide), fun j _ => okop0⟩, ⟨z (by decide), fun j _ => z (by decide), fun j _ => okop0⟩⟩, ?_, ⟨fun p hp => ⟨?_, z (by decide), ?_⟩, fun p hp => ⟨?_, z (by decide), ?_⟩⟩, z (by decide), fun j _ => ⟨z (by decide), z (by decide)⟩⟩, ⟨fun j _ => z (by decide), fun o _ => ⟨z (by decide), z (by decide)⟩⟩, ⟨rfl, rfl⟩, ⟨⟨rfl, fun j _ => rfl, fun k j _ _ _ => rfl, fun j _ => ⟨rfl, rfl, rfl, rfl⟩⟩, ⟨rfl, fun j _ => rfl, fun k j _ _ _ => rfl, fun j _ => ⟨rfl, rfl, rfl, rfl⟩⟩⟩, ⟨fun p hp => ⟨?_, rfl⟩, fun p q hp hq => ?_⟩, ⟨rfl, fun j _ => ⟨rfl, rfl⟩⟩, ⟨⟨rfl, rfl⟩, rfl, fun j k q1 q2 q3 => ⟨rfl, rfl⟩⟩⟩
  · intro t ht
    rcases ht with rfl | rfl | rfl | rfl | rfl
    · exact ⟨fun j _ => z (by decide), z (by decide), z (by decide), fun i _ => z (by decide)⟩
    · exact ⟨fun j _ => z (by decide), z (by decide), z (by decide), fun i _ => z (by decide)⟩
    · exact ⟨fun j _ => z (by decide), z (by decide), z (by decide), fun i _ => z (by decide)⟩
    · exact ⟨fun j _ => z (by decide), z (by decide), z (by decide), fun i _ => z (by decide)⟩
    · exact ⟨fun j _ => z (by decide), z (by decide), z (by decide), fun i _ => z (by decide)⟩
  · exact ⟨p, hp, jz_14 w mk p hp⟩
  · exact ⟨p, hp, jz_16 w mk p hp⟩
  · exact ⟨p, hp, jz_18 w mk p hp⟩
  · exact ⟨p, hp, jz_20 w mk p hp⟩
  · rw [jz_93 w mk p hp, jz_14 w mk p hp]
  · rw [jz_14 w mk p hp, jz_16 w mk q hq]
    exact ⟨fun e => e.symm, fun e => e.symm⟩
