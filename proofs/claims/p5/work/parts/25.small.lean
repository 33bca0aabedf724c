/-! CLASS AND REFERENCE TOGETHER: method, clear, group, drop, rename, assume -/
theorem ix6 (e j : Nat) : (6 : Int32) * nI e + nI j = nI (6 * e + j) := by rw [show (6 : Int32) = nI 6 from rfl, nx_mul, nI_add]
theorem j_method {mi : km_I} {x1 : Int32} {G : Prop → Prop} {K : Int32 → Int32 → km_I → Prop} (hG : ∀ P, P → G P) (h : JJ mi) (hK : ∀ r mi', JJ mi' → K r r mi') : X6_method_w x1 mi (fun r m => G (X7_method_w x1 m (K r))) := by
  unfold X6_method_w
  refine kz_within (fun a1 a2 => kz_ifn1 ?_) (fun o => kz_ifn0 (hG _ ?_))
  · obtain ⟨e, he, rfl⟩ := kz_nb (n := 1) (by decide) a1 a2
    refine bO he (fun b hbe => ⟨hbe.is, ?_⟩)
    have hl := hbe.le
    have hB := h.bi hbe
    have hJ := h.jb hbe
    obtain ⟨k, hk, ek⟩ := hB.1
    have e87 : mi 87 e = nI k := hJ.1.trans ek
    have vk : vp_in (nI e) 2 := vp_in_nI he (by decide)
    have ce : (nI e).toNatClampNeg = e := nI_clamp (by omega)
    rw [ek]
    refine ⟨fun c m8 e8 => hG _ ?_, fun c => hG _ ?_⟩
    · have k6 : k < 6 := by
        rcases Nat.lt_or_ge k 6 with q | q
        · exact q
        · exact absurd (by rw [show k = 6 by omega]; rfl) c
      rw [ek, nI_1] at e8
      unfold X7_method_w
      refine kz_in (fun _ _ => kz_ifn1 ⟨vk, ?_⟩) (fun o => (kz_out o a1 a2).elim)
      have f87 : m8 87 e = nI k := by rw [e8, km_u_p (by omega)]; exact e87
      rw [ce, f87, ek, ix6, nI_clamp (by omega)]
      refine ⟨fun _ => ⟨vk, vp_in_nI (by omega) (by decide), fun m44 e44 => ⟨vk, vk, fun m54 e54 => hK _ _ ?_⟩⟩, fun c2 => absurd c2 c⟩
      have g87 : m44 87 e = nI k := by rw [e44, km_u_p (by omega)]; exact f87
      rw [g87, nI_1] at e54
      have cc : m54 = km_u (km_u (km_u mi b 0 (nI (k + 1))) 88 (6 * e + k) 0) 87 e (nI (k + 1)) := by rw [e54, e44, e8]
      clear e54 e44 e8 f87 g87
      subst cc
      have z0 := hJ.2.2.1 k k ek (Nat.le_refl _) k6
      refine h.ub hbe (fun p h1 h2 => ?_) (fun p h1 => ?_) ?_ (fun j hj => ?_) (fun p h1 h2 j hj => ?_) ?_ ?_
      · rw [km_u_off p (by omega), km_u_off p (by omega), km_u_off p (by omega)]
      · rw [km_u_off p (by omega), km_u_off p (by omega), km_u_off p (by omega)]
      · rw [km_u_k (by omega), km_u_p (by omega), km_u_p (by omega)]
      · rw [km_u_p (by omega), km_u_k (by omega), km_u_p (by omega)]
      · rw [km_u_p (by omega), km_u_p (by omega), km_u_p (by omega)]
      · refine ⟨?_, fun j hj => ?_, fun j hj => ?_⟩
        · rw [km_u_p (by omega), km_u_p (by omega), km_u_at]
          exact nb_of _ (by omega)
        · rw [km_u_p (by omega), km_u_p (by omega), km_u_p (by omega)]
          exact hB.2.1 j hj
        · rw [km_u_off (b + 2) (by omega), km_u_off (b + 2) (by omega), km_u_off (b + 2) (by omega), km_u_off (b + 3) (by omega), km_u_off (b + 3) (by omega), km_u_off (b + 3) (by omega), km_u_off (b + 4) (by omega), km_u_off (b + 4) (by omega), km_u_off (b + 4) (by omega), km_u_off (b + 5) (by omega), km_u_off (b + 5) (by omega), km_u_off (b + 5) (by omega)]
          exact hB.2.2 j hj
      · refine ⟨?_, fun j hj => ?_, fun k' j q1 q2 q3 => ?_, fun j hj => ?_⟩
        · rw [km_u_at, km_u_p (by omega), km_u_p (by omega), km_u_at]
        · rw [km_u_p (q := 88) (by omega), km_u_p (q := b + 1) (by omega), km_u_p (q := b + 1) (by omega), km_u_p (q := b + 1) (by omega)]
          by_cases ej : j = k
          · rw [ej, km_u_at]; exact z0.symm
          · rw [km_u_k (by omega), km_u_p (by omega)]; exact hJ.2.1 j hj
        · rw [km_u_p (by omega), km_u_p (by omega), km_u_at, nI_eq (by omega) (by omega)] at q1
          rw [km_u_p (by omega), km_u_p (by omega), km_u_p (by omega)]
          exact hJ.2.2.1 k j ek (by omega) q3
        · rw [km_u_off 89 (by omega), km_u_off 89 (by omega), km_u_off 89 (by omega), km_u_off 90 (by omega), km_u_off 90 (by omega), km_u_off 90 (by omega), km_u_off 91 (by omega), km_u_off 91 (by omega), km_u_off 91 (by omega), km_u_off 92 (by omega), km_u_off 92 (by omega), km_u_off 92 (by omega), km_u_off (b + 2) (by omega), km_u_off (b + 2) (by omega), km_u_off (b + 2) (by omega), km_u_off (b + 3) (by omega), km_u_off (b + 3) (by omega), km_u_off (b + 3) (by omega), km_u_off (b + 4) (by omega), km_u_off (b + 4) (by omega), km_u_off (b + 4) (by omega), km_u_off (b + 5) (by omega), km_u_off (b + 5) (by omega), km_u_off (b + 5) (by omega)]
          exact hJ.2.2.2 j hj
    · unfold X7_method_w
      refine kz_in (fun _ _ => kz_ifn1 ⟨vk, ?_⟩) (fun o => (kz_out o a1 a2).elim)
      rw [ce, e87]
      exact ⟨fun c2 => absurd c c2, fun _ => hK _ _ h⟩
  · unfold X7_method_w
    exact kz_in (fun a1 a2 => (kz_out o a1 a2).elim) (fun _ => kz_ifn0 (hK _ _ h))
theorem j_clear {mi : km_I} {x1 x2 : Int32} {G : Prop → Prop} {K : Int32 → Int32 → km_I → Prop} (hG : ∀ P, P → G P) (h : JJ mi) (hK : ∀ r mi', JJ mi' → K r r mi') : X6_clear_w x1 x2 mi (fun r m => G (X7_clear_w x1 x2 m (K r))) := by
  unfold X6_clear_w
  refine cIs h (fun e b j k hbe q1 q2 ek hj hk => kz_if1 ?_) (fun hn => kz_if0 (hG _ ?_))
  · subst q1; subst q2
    have hl := hbe.le
    have hB := h.bi hbe
    have hJ := h.jb hbe
    have e87 : mi 87 e = nI k := hJ.1.trans ek
    have vj : vp_in (nI j) 6 := vp_in_nI (by omega) (by decide)
    have cj : (nI j).toNatClampNeg = j := nI_clamp (by omega)
    refine bO hl.2.2 (fun b' hbe' => ?_)
    obtain rfl := hbe.eq hbe'
    refine ⟨hbe.is, vj, vj, fun m13 e13 => hG _ ?_⟩
    rw [cj] at e13 ⊢
    unfold X7_clear_w
    have v12 : vp_in (nI (6 * e + j)) 12 := vp_in_nI (by omega) (by decide)
    refine rIs1 hl.2.2 hk (by rw [e13, km_u_p (by omega)]; exact e87) hj (kz_ifn1 ?_)
    rw [ix6, nI_clamp (by omega)]
    refine ⟨v12, v12, fun m35 e35 => ?_⟩
    have f88 : m13 88 (6 * e + j) = mi (b' + 1) j := by rw [e13, km_u_p (by omega)]; exact hJ.2.1 j (by omega)
    rw [f88]
    refine hK _ _ ?_
    have cc : m35 = km_u (km_u mi (b' + 1) j 0) 88 (6 * e + j) 0 := by rw [e35, e13]
    clear e35 e13 f88
    subst cc
    refine h.ub hbe (fun p h1 h2 => ?_) (fun p h1 => ?_) ?_ (fun i hi => ?_) (fun p h1 h2 i hi => ?_) ?_ ?_
    · rw [km_u_off p (by omega), km_u_off p (by omega)]
    · rw [km_u_off p (by omega), km_u_off p (by omega)]
    · rw [km_u_p (by omega), km_u_p (by omega)]
    · rw [km_u_k (by omega), km_u_p (by omega)]
    · rw [km_u_p (by omega), km_u_p (by omega)]
    · refine ⟨?_, fun i hi => ?_, fun i hi => ?_⟩
      · rw [km_u_p (by omega), km_u_p (by omega)]; exact hB.1
      · rw [km_u_p (by omega)]
        by_cases ei : i = j
        · rw [ei, km_u_at]; exact nb_0 (by decide)
        · rw [km_u_k ei]; exact hB.2.1 i hi
      · rw [km_u_off (b' + 2) (by omega), km_u_off (b' + 2) (by omega), km_u_off (b' + 3) (by omega), km_u_off (b' + 3) (by omega), km_u_off (b' + 4) (by omega), km_u_off (b' + 4) (by omega), km_u_off (b' + 5) (by omega), km_u_off (b' + 5) (by omega)]
        exact hB.2.2 i hi
    · refine ⟨?_, fun i hi => ?_, fun k' i q1 q2 q3 => ?_, fun i hi => ?_⟩
      · rw [km_u_p (by omega), km_u_p (by omega), km_u_p (by omega), km_u_p (by omega)]; exact hJ.1
      · rw [km_u_p (q := b' + 1) (by omega)]
        by_cases ei : i = j
        · rw [ei, km_u_at, km_u_at]
        · rw [km_u_k (by omega), km_u_k ei, km_u_p (by omega)]; exact hJ.2.1 i hi
      · rw [km_u_p (by omega), km_u_p (by omega)] at q1
        rw [km_u_p (by omega)]
        by_cases ei : i = j
        · rw [ei, km_u_at]
        · rw [km_u_k ei]; exact hJ.2.2.1 k' i q1 q2 q3
      · rw [km_u_off 89 (by omega), km_u_off 89 (by omega), km_u_off 90 (by omega), km_u_off 90 (by omega), km_u_off 91 (by omega), km_u_off 91 (by omega), km_u_off 92 (by omega), km_u_off 92 (by omega), km_u_off (b' + 2) (by omega), km_u_off (b' + 2) (by omega), km_u_off (b' + 3) (by omega), km_u_off (b' + 3) (by omega), km_u_off (b' + 4) (by omega), km_u_off (b' + 4) (by omega), km_u_off (b' + 5) (by omega), km_u_off (b' + 5) (by omega)]
        exact hJ.2.2.2 i hi
  · unfold X7_clear_w
    exact rIs0 h hn (kz_ifn0 (hK _ _ h))
theorem port_c {x : Int32} {m : km_I} {K : Int32 → km_I → Prop} (k1 : (0 : Int32) ≤ x → x ≤ 3 → K 1 m) (k0 : (x < 0 ∨ 3 < x) → K 0 m) : X6_isPort_w x m K := kz_within (fun a b => ⟨Or.inr rfl, k1 a b⟩) (fun o => ⟨Or.inl rfl, k0 o⟩)
theorem j_group {mi : km_I} {x1 x2 : Int32} {G : Prop → Prop} {K : Int32 → Int32 → km_I → Prop} (hG : ∀ P, P → G P) (h : JJ mi) (hK : ∀ r mi', JJ mi' → K r r mi') : X6_group_w x1 x2 mi (fun r m => G (X7_group_w x1 x2 m (K r))) := by
  unfold X6_group_w
  refine port_c (fun a1 a2 => kz_ifn1 ?_) (fun o => kz_ifn0 (hG _ ?_))
  · refine kz_within (fun b1 b2 => kz_ifn1 ?_) (fun o => kz_ifn0 (hG _ ?_))
    · obtain ⟨p, hp, rfl⟩ := kz_nb (n := 3) (by decide) a1 a2
      have hg := kz_nb (n := 3) (by decide) b1 b2
      have vp : vp_in (nI p) 4 := vp_in_nI hp (by decide)
      have cp : (nI p).toNatClampNeg = p := nI_clamp (by omega)
      refine ⟨vp, vp, fun m41 e41 => hG _ ?_⟩
      rw [cp] at e41 ⊢
      unfold X7_group_w
      refine kz_in (fun _ _ => kz_ifn1 (kz_in (fun _ _ => kz_ifn1 ?_) (fun o => (kz_out o b1 b2).elim))) (fun o => (kz_out o a1 a2).elim)
      rw [cp]
      refine ⟨vp, vp, fun m37 e37 => ?_⟩
      have f94 : m41 94 p = mi 15 p := by rw [e41, km_u_p (by omega)]; exact (h.2.2.2.2.1.1 p hp).2
      rw [f94]
      refine hK _ _ ?_
      have cc : m37 = km_u (km_u mi 15 p x2) 94 p x2 := by rw [e37, e41]
      clear e37 e41 f94
      subst cc
      obtain ⟨p1, p2⟩ := h.2.2.2.2.1
      refine h.up (fun q hq => ?_) (fun q hq => ?_) ⟨fun q hq => ?_, fun q r hq hr => ?_⟩
      · rw [km_u_off q (by omega), km_u_off q (by omega)]
      · obtain ⟨g1, g2, g3⟩ := h.1.2.2.2.1.1 q hq
        refine ⟨by rw [km_u_p (by omega), km_u_p (by omega)]; exact g1, ?_, by rw [km_u_p (by omega), km_u_p (by omega)]; exact g3⟩
        rw [km_u_p (by omega)]
        by_cases ei : q = p
        · rw [ei, km_u_at]; exact hg
        · rw [km_u_k ei]; exact g2
      · rw [km_u_p (q := 93) (by omega), km_u_p (q := 93) (by omega), km_u_p (q := 14) (by omega), km_u_p (q := 14) (by omega), km_u_p (q := 15) (by omega)]
        refine ⟨(p1 q hq).1, ?_⟩
        by_cases ei : q = p
        · rw [ei, km_u_at, km_u_at]
        · rw [km_u_k ei, km_u_k ei, km_u_k ei]; exact (p1 q hq).2
      · rw [km_u_p (by omega), km_u_p (by omega), km_u_p (by omega), km_u_p (by omega)]
        exact p2 q r hq hr
    · unfold X7_group_w
      exact kz_in (fun _ _ => kz_ifn1 (kz_in (fun b1 b2 => (kz_out o b1 b2).elim) (fun _ => kz_ifn0 (hK _ _ h)))) (fun o => (kz_out o a1 a2).elim)
  · unfold X7_group_w
    exact kz_in (fun a1 a2 => (kz_out o a1 a2).elim) (fun _ => kz_ifn0 (hK _ _ h))
theorem j_drop {mi : km_I} {G : Prop → Prop} {K : Int32 → Int32 → km_I → Prop} (hG : ∀ P, P → G P) (h : JJ mi) (hK : ∀ r mi', JJ mi' → K r r mi') : X6_drop_w mi (fun r m => G (X7_drop_w m (K r))) := by
  intro m13 e13
  refine hG _ (fun m7 e7 => ?_)
  have f : m13 86 10 = mi 21 0 := by rw [e13, km_u_p (by omega)]; exact h.2.2.2.2.2.1.1
  rw [f]
  refine hK _ _ ?_
  have cc : m7 = km_u (km_u mi 21 0 0) 86 10 0 := by rw [e7, e13]
  clear e7 e13 f
  subst cc
  refine h.uq (fun p hp => by rw [km_u_off p (by omega), km_u_off p (by omega)]) (by rw [km_u_k (by omega), km_u_p (by omega)]) (by rw [km_u_k (by omega), km_u_p (by omega)]) ?_ (fun j hj => ?_) ⟨?_, fun j hj => ?_⟩
  · rw [km_u_p (by omega), km_u_at]; exact nb_0 (by decide)
  · rw [km_u_p (by omega), km_u_p (by omega), km_u_p (by omega), km_u_p (by omega)]
    exact h.1.2.2.2.2.2 j hj
  · rw [km_u_at, km_u_p (by omega), km_u_at]
  · rw [km_u_p (q := 95) (by omega), km_u_p (q := 95) (by omega), km_u_p (q := 96) (by omega), km_u_p (q := 96) (by omega), km_u_p (q := 22) (by omega), km_u_p (q := 22) (by omega), km_u_p (q := 23) (by omega), km_u_p (q := 23) (by omega)]
    exact h.2.2.2.2.2.1.2 j hj
theorem rename_l {x1 x2 : Int32} {p q w : Nat} {mi : km_I} {K : Int32 → km_I → Prop} (hp : p < 4) (hK : ∀ m, (∀ z, z ≠ 93 → m z = mi z) → (∀ j, j < 4 → m 93 j = if j = p then nI q else if mi 93 j = nI q then nI w else mi 93 j) → K (nI w) m) : ∀ (n i : Nat) (m : km_I), i ≤ 4 → 4 < n + i → (∀ z, z ≠ 93 → m z = mi z) → (∀ j, j < 4 → m 93 j = if j < i ∧ mi 93 j = nI q then nI w else mi 93 j) → X7_rename_b31 x1 x2 n (nI p) (nI q) (nI w) (nI i) m K := by
  intro n
  induction n with
  | zero =>
    intro i m q1 q2
    exact absurd q2 (by omega)
  | succ n ih =>
    intro i m q1 q2 hz hj
    simp only [X7_rename_b31, X7_rename_b56]
    rw [show (4 : Int32) = nI 4 from rfl, nI_leI (by omega) (by omega), nI_clamp (by omega), nI_clamp (by omega), nI_1]
    refine ⟨fun c => ⟨vp_in_nI hp (by decide), fun m68 e68 => hK _ (fun z hz' => by rw [e68, km_u_off z hz']; exact hz z hz') (fun j hj' => ?_)⟩, fun c => ⟨vp_in_nI (by omega) (by decide), fun c1 => ?_, fun c1 => ⟨vp_in_nI (by omega) (by decide), fun m55 e55 => ?_⟩⟩⟩
    · rw [e68]
      by_cases ej : j = p
      · rw [ej, km_u_at, if_pos rfl]
      · rw [km_u_k ej, if_neg ej, hj j hj']
        by_cases ez : mi 93 j = nI q
        · rw [if_pos ⟨by omega, ez⟩, if_pos ez]
        · rw [if_neg (fun a => ez a.2), if_neg ez]
    · have ei : m 93 i = mi 93 i := by rw [hj i (by omega), if_neg (fun a => absurd a.1 (Nat.lt_irrefl i))]
      refine ih (i + 1) m (by omega) (by omega) hz (fun j hj' => ?_)
      rw [hj j hj']
      by_cases ez : mi 93 j = nI q
      · by_cases el : j < i
        · rw [if_pos ⟨el, ez⟩, if_pos ⟨by omega, ez⟩]
        · rw [if_neg (fun a => el a.1), if_neg]
          rintro ⟨a, -⟩
          have : j = i := by omega
          subst this
          exact c1 (ei.trans ez)
      · rw [if_neg (fun a => ez a.2), if_neg (fun a => ez a.2)]
    · have ei : m 93 i = mi 93 i := by rw [hj i (by omega), if_neg (fun a => absurd a.1 (Nat.lt_irrefl i))]
      refine ih (i + 1) m55 (by omega) (by omega) (fun z hz' => by rw [e55, km_u_off z hz']; exact hz z hz') (fun j hj' => ?_)
      rw [e55]
      by_cases el : j = i
      · subst el
        rw [km_u_at, if_pos ⟨by omega, ei.symm.trans c1⟩]
      · rw [km_u_k el, hj j hj']
        by_cases ez : mi 93 j = nI q
        · by_cases el2 : j < i
          · rw [if_pos ⟨el2, ez⟩, if_pos ⟨by omega, ez⟩]
          · rw [if_neg (fun a => el2 a.1), if_neg (fun a => absurd a.1 (by omega))]
        · rw [if_neg (fun a => ez a.2), if_neg (fun a => ez a.2)]
theorem j_rename {mi : km_I} {x1 x2 : Int32} {G : Prop → Prop} {K : Int32 → Int32 → km_I → Prop} (hG : ∀ P, P → G P) (h : JJ mi) (hK : ∀ r mi', JJ mi' → K r r mi') : X6_rename_w x1 x2 mi (fun r m => G (X7_rename_w x1 x2 m (K r))) := by
  unfold X6_rename_w
  refine port_c (fun a1 a2 => kz_if1 ?_) (fun o => kz_if0 (hG _ ?_))
  · refine port_c (fun b1 b2 => kz_ifn1 ?_) (fun o => kz_ifn0 (hG _ ?_))
    · obtain ⟨p, hp, rfl⟩ := kz_nb (n := 3) (by decide) a1 a2
      obtain ⟨q, hq, rfl⟩ := kz_nb (n := 3) (by decide) b1 b2
      have vp : vp_in (nI p) 4 := vp_in_nI hp (by decide)
      have vq : vp_in (nI q) 4 := vp_in_nI hq (by decide)
      have cp : (nI p).toNatClampNeg = p := nI_clamp (by omega)
      have cq : (nI q).toNatClampNeg = q := nI_clamp (by omega)
      have hPO := h.1.2.2.2.1.1
      obtain ⟨p1, p2⟩ := h.2.2.2.2.1
      obtain ⟨w, hw, ew⟩ := (hPO p hp).1
      obtain ⟨k, hk, ek⟩ := (hPO q hq).2.2
      have ew' : mi 14 p = nI w := ew
      have ek' : mi 16 q = nI k := ek
      have vk : vp_in (nI k) 4 := vp_in_nI hk (by decide)
      have vw : vp_in (nI w) 4 := vp_in_nI hw (by decide)
      have ck : (nI k).toNatClampNeg = k := nI_clamp (by omega)
      have cw : (nI w).toNatClampNeg = w := nI_clamp (by omega)
      unfold X3_swapIn_w
      rw [cp, cq, show mi (13 + 3) q = nI k from ek, show mi (13 + 1) p = nI w from ew]
      refine ⟨vp, vq, vk, fun m6 e6 => ⟨vw, fun m13 e13 => ⟨vp, fun n6 f6 => ⟨vq, fun n13 f13 => hG _ ?_⟩⟩⟩⟩
      rw [ck] at e6
      rw [cw] at e13
      rw [cp] at f6
      rw [cq] at f13
      have cc : n13 = km_u (km_u (km_u (km_u mi 14 k (nI w)) 16 w (nI k)) 14 p (nI q)) 16 q (nI p) := by rw [f13, f6, e13, e6]
      clear f13 f6 e13 e6
      have off : ∀ z, z ≠ 14 → z ≠ 16 → n13 z = mi z := fun z h1 h2 => by rw [cc, km_u_off z h2, km_u_off z h1, km_u_off z h2, km_u_off z h1]
      have v14 : ∀ j, n13 14 j = if j = p then nI q else if j = k then nI w else mi 14 j := fun j => by
        rw [cc, km_u_p (by omega)]
        by_cases ej : j = p
        · rw [ej, km_u_at, if_pos rfl]
        · rw [km_u_k ej, if_neg ej, km_u_p (by omega)]
          by_cases ez : j = k
          · rw [ez, km_u_at, if_pos rfl]
          · rw [km_u_k ez, if_neg ez]
      have v16 : ∀ j, n13 16 j = if j = q then nI p else if j = w then nI k else mi 16 j := fun j => by
        rw [cc]
        by_cases ej : j = q
        · rw [ej, km_u_at, if_pos rfl]
        · rw [km_u_k ej, if_neg ej, km_u_p (by omega)]
          by_cases ez : j = w
          · rw [ez, km_u_at, if_pos rfl]
          · rw [km_u_k ez, if_neg ez, km_u_p (by omega)]
      clear cc
      unfold X7_rename_w
      refine kz_in (fun _ _ => kz_if1 (kz_in (fun _ _ => kz_ifn1 ⟨vp, 5, ?_⟩) (fun o => (kz_out o b1 b2).elim))) (fun o => (kz_out o a1 a2).elim)
      have g93 : n13 93 p = nI w := by rw [off 93 (by omega) (by omega)]; exact (p1 p hp).1.trans ew'
      rw [cp, g93]
      refine rename_l (mi := n13) hp (fun m hz hm => hK _ _ ?_) 5 0 n13 (by omega) (by omega) (fun _ _ => rfl) (fun j _ => by rw [if_neg (fun a => absurd a.1 (Nat.not_lt_zero j))])
      have v93 : ∀ j, j < 4 → m 93 j = m 14 j := fun j hj => by
        rw [hm j hj, off 93 (by omega) (by omega), hz 14 (by omega), v14 j, (p1 j hj).1]
        by_cases ej : j = p
        · rw [if_pos ej, if_pos ej]
        · rw [if_neg ej, if_neg ej]
          by_cases ez : j = k
          · rw [if_pos ez, if_pos ((p2 j q hj hq).2 (by rw [ez]; exact ek'))]
          · rw [if_neg ez, if_neg]
            intro c
            have c2 := (p2 j q hj hq).1 c
            rw [ek', nI_eq (by omega) (by omega)] at c2
            exact ez c2.symm
      have n14 : ∀ j, j < 4 → ∃ x, x < 4 ∧ mi 14 j = nI x := fun j hj => (hPO j hj).1
      have n16 : ∀ j, j < 4 → ∃ x, x < 4 ∧ mi 16 j = nI x := fun j hj => (hPO j hj).2.2
      have ekq : mi 14 k = nI q := (p2 k q hk hq).2 ek'
      have ewp : mi 16 w = nI p := (p2 p w hp hw).1 ew'
      refine h.up (fun z hz' => by rw [hz z (by omega)]; exact off z (by omega) (by omega)) (fun j hj => ⟨?_, ?_, ?_⟩) ⟨fun j hj => ⟨v93 j hj, ?_⟩, fun j r hj hr => ?_⟩
      · rw [hz _ (by omega), v14 j]
        by_cases ej : j = p
        · rw [if_pos ej]; exact nb_of _ hq
        · rw [if_neg ej]
          by_cases ez : j = k
          · rw [if_pos ez]; exact nb_of _ hw
          · rw [if_neg ez]; exact (hPO j hj).1
      · rw [hz _ (by omega), off _ (by omega) (by omega)]; exact (hPO j hj).2.1
      · rw [hz _ (by omega), v16 j]
        by_cases ej : j = q
        · rw [if_pos ej]; exact nb_of _ hp
        · rw [if_neg ej]
          by_cases ez : j = w
          · rw [if_pos ez]; exact nb_of _ hk
          · rw [if_neg ez]; exact (hPO j hj).2.2
      · rw [hz 94 (by omega), hz 15 (by omega), off 94 (by omega) (by omega), off 15 (by omega) (by omega)]; exact (p1 j hj).2
      · rw [hz 14 (by omega), hz 16 (by omega), v14 j, v16 r]
        obtain ⟨fj, hfj, efj⟩ := n14 j hj
        obtain ⟨gr, hgr, egr⟩ := n16 r hr
        have i1 := p2 j r hj hr
        have i2 := p2 j q hj hq
        have i3 := p2 p r hp hr
        have i4 := p2 k r hk hr
        have i5 := p2 j w hj hw
        rw [efj, egr, nI_eq (by omega) (by omega), nI_eq (by omega) (by omega)] at i1
        rw [efj, ek', nI_eq (by omega) (by omega), nI_eq (by omega) (by omega)] at i2
        rw [ew', egr, nI_eq (by omega) (by omega), nI_eq (by omega) (by omega)] at i3
        rw [ekq, egr, nI_eq (by omega) (by omega), nI_eq (by omega) (by omega)] at i4
        rw [efj, ewp, nI_eq (by omega) (by omega), nI_eq (by omega) (by omega)] at i5
        rw [efj, egr]
        by_cases ej : j = p
        · rw [if_pos ej]
          by_cases er : r = q
          · rw [if_pos er, ej, er]
            exact ⟨fun _ => rfl, fun _ => rfl⟩
          · rw [if_neg er]
            by_cases er2 : r = w
            · rw [if_pos er2, nI_eq (by omega) (by omega), nI_eq (by omega) (by omega)]; omega
            · rw [if_neg er2, nI_eq (by omega) (by omega), nI_eq (by omega) (by omega)]; omega
        · rw [if_neg ej]
          by_cases ez : j = k
          · rw [if_pos ez]
            by_cases er : r = q
            · rw [if_pos er, nI_eq (by omega) (by omega), nI_eq (by omega) (by omega)]; omega
            · rw [if_neg er]
              by_cases er2 : r = w
              · rw [if_pos er2, nI_eq (by omega) (by omega), nI_eq (by omega) (by omega)]; omega
              · rw [if_neg er2, nI_eq (by omega) (by omega), nI_eq (by omega) (by omega)]; omega
          · rw [if_neg ez]
            by_cases er : r = q
            · rw [if_pos er, nI_eq (by omega) (by omega), nI_eq (by omega) (by omega)]; omega
            · rw [if_neg er]
              by_cases er2 : r = w
              · rw [if_pos er2, nI_eq (by omega) (by omega), nI_eq (by omega) (by omega)]; omega
              · rw [if_neg er2, nI_eq (by omega) (by omega), nI_eq (by omega) (by omega)]; omega
    · unfold X7_rename_w
      exact kz_in (fun _ _ => kz_if1 (kz_in (fun b1 b2 => (kz_out o b1 b2).elim) (fun _ => kz_ifn0 (hK _ _ h)))) (fun o => (kz_out o a1 a2).elim)
  · unfold X7_rename_w
    exact kz_in (fun a1 a2 => (kz_out o a1 a2).elim) (fun _ => kz_if0 (hK _ _ h))
