/-! CLASS AND REFERENCE TOGETHER: assume, op, count -/
theorem pairHas_x {mi : km_I} {k : Nat} {x1 x2 : Int32} {K : Int32 → km_I → Prop} (hk : k < 7) (ek : mi 21 0 = nI k) (h1 : PJ mi 22 23 k x1 x2 → K 1 mi) (h0 : ¬ PJ mi 22 23 k x1 x2 → K 0 mi) : X2_has_w x1 x2 mi K := by
  have loop : ∀ (n i : Nat), i ≤ k → k < n + i → ¬ PJ mi 22 23 i x1 x2 → X2_has_b2 x1 x2 n x1 x2 (nI i) mi K := by
    intro n
    induction n with
    | zero =>
      intro i q1 q2
      exact absurd q2 (by omega)
    | succ n ih =>
      intro i q1 q2 hn
      have nx : i < k → ¬ (mi 22 i = x1 ∧ mi 23 i = x2) → X2_has_b32 x1 x2 (fun v0 v1 v2 m => X2_has_b2 x1 x2 n v0 v1 v2 m K) x1 x2 (nI i) mi K := fun hi hm => by
        unfold X2_has_b32
        rw [nI_1]
        refine ih (i + 1) (by omega) (by omega) ?_
        rintro ⟨j, hj, e1, e2⟩
        rcases Nat.lt_or_ge j i with z | z
        · exact hn ⟨j, z, e1, e2⟩
        · rw [show j = i by omega] at e1 e2; exact hm ⟨e1, e2⟩
      simp only [X2_has_b2]
      rw [ek, nI_leI (by omega) (by omega), nI_clamp (by omega)]
      refine ⟨fun c => h0 (by rw [show k = i by omega]; exact hn), fun c => ⟨vp_in_nI (by omega) (by decide), fun c1 => nx (by omega) (fun a => c1 a.1), fun c1 => ⟨vp_in_nI (by omega) (by decide), fun c2 => nx (by omega) (fun a => c2 a.2), fun c2 => h1 ⟨i, by omega, c1, c2⟩⟩⟩⟩
  exact ⟨8, loop 8 0 (by omega) (by omega) (fun ⟨j, hj, _⟩ => absurd hj (Nat.not_lt_zero j))⟩
theorem cPair {mi : km_I} {x1 x2 : Int32} {K : Int32 → km_I → Prop} (h : JJ mi) (h1 : ∀ j1 j2 k1 k2, x1 = nI j1 → x2 = nI j2 → mi 1 0 = nI k1 → mi 7 0 = nI k2 → j1 < k1 → j2 < k2 → k1 < 7 → k2 < 7 → K 1 mi) (h0 : ¬ (isM mi (nI 0) x1 ∧ isM mi (nI 1) x2) → K 0 mi) : X6_isPair_w x1 x2 mi K := by
  unfold X6_isPair_w
  exact has_x h (Or.inl ⟨rfl, rfl⟩) (fun j1 k1 q1 q2 q3 q4 => kz_if1 (has_x h (Or.inr ⟨rfl, rfl⟩) (fun j2 k2 r1 r2 r3 r4 => kz_if1 (h1 j1 j2 k1 k2 q1 r1 q2 r2 q3 r3 q4 r4)) (fun hn => kz_if0 (h0 (fun a => hn a.2))))) (fun hn => kz_if0 (h0 (fun a => hn a.1)))
theorem isM.ex {mi : km_I} {e b : Nat} {x : Int32} (hbe : kb b e) (h : isM mi (nI e) x) : ∃ j k, x = nI j ∧ mi b 0 = nI k ∧ j < k ∧ k < 7 := by
  obtain ⟨e', b', j, k, hbe', q1, q2, q3, q4, q5⟩ := h
  have hl := hbe.le
  have hl' := hbe'.le
  rw [nI_eq (by omega) (by omega)] at q1
  subst q1
  rw [hbe.eq hbe'] at q3
  exact ⟨j, k, q2, q3, q4, q5⟩
/-- the reference refuses a pair that is not there -/
theorem rPair0 {mi : km_I} {x1 x2 : Int32} {A : km_I → Prop} {K : Int32 → km_I → Prop} (h : JJ mi) (hn : ¬ (isM mi (nI 0) x1 ∧ isM mi (nI 1) x2)) (hK : K (-101) mi) : X7_isMethod_w 0 x1 mi (fun r3 m3 => ((r3 = 0 → K (-101) m3) ∧ (¬ r3 = 0 → X7_isMethod_w 1 x2 m3 (fun r12 m12 => ((¬ r12 = 0 → A m12) ∧ (r12 = 0 → K (-101) m12)))))) := by
  by_cases a : isM mi (nI 0) x1
  · obtain ⟨j, k, rfl, q2, q3, q4⟩ := a.ex (Or.inl ⟨rfl, rfl⟩)
    exact rIs1 (e := 0) (by decide) q4 (h.2.2.2.1.1.1.trans q2) q3 (kz_if1 (rIs0 h (fun c => hn ⟨a, c⟩) (kz_ifn0 hK)))
  · exact rIs0 h a (kz_if0 hK)
theorem j_assume {mi : km_I} {x1 x2 : Int32} {G : Prop → Prop} {K : Int32 → Int32 → km_I → Prop} (hG : ∀ P, P → G P) (h : JJ mi) (hK : ∀ r mi', JJ mi' → K r r mi') : X6_assume_w x1 x2 mi (fun r m => G (X7_assume_w x1 x2 m (K r))) := by
  unfold X6_assume_w
  obtain ⟨k, hk, ek⟩ := h.1.2.2.2.2.1
  have e86 : mi 86 10 = nI k := h.2.2.2.2.2.1.1.trans ek
  have hJ := h.2.2.2.2.2.1.2
  have pj : PJ mi 95 96 k x1 x2 ↔ PJ mi 22 23 k x1 x2 := ⟨fun ⟨j, hj, a, b⟩ => ⟨j, hj, (hJ j (by omega)).1.symm.trans a, (hJ j (by omega)).2.symm.trans b⟩, fun ⟨j, hj, a, b⟩ => ⟨j, hj, (hJ j (by omega)).1.trans a, (hJ j (by omega)).2.trans b⟩⟩
  refine cPair h (fun j1 j2 k1 k2 q1 r1 q2 r2 q3 r3 q4 r4 => kz_ifn1 ?_) (fun hn => kz_ifn0 (hG _ ?_))
  · have n1 : nb x1 6 := ⟨j1, by omega, q1⟩
    have n2 : nb x2 6 := ⟨j2, by omega, r1⟩
    have f87 : mi 87 0 = nI k1 := h.2.2.2.1.1.1.trans q2
    have g87 : mi 87 1 = nI k2 := h.2.2.2.1.2.1.trans r2
    have ref : ∀ (m : km_I) (r : Int32), m 87 = mi 87 → m 86 = mi 86 → m 95 = mi 95 → m 96 = mi 96 → (PJ mi 22 23 k x1 x2 → K r (-103) m) → (¬ PJ mi 22 23 k x1 x2 → k = 6 → K r (-104) m) → (¬ PJ mi 22 23 k x1 x2 → k < 6 → ∀ m', m' = km_u (km_u (km_u m 95 k x1) 96 k x2) 86 10 (nI (k + 1)) → K r (nI k) m') → X7_assume_w x1 x2 m (K r) := by
      intro m r z1 z2 z3 z4 k1' k2' k3'
      have pm : PJ m 95 96 k x1 x2 ↔ PJ mi 22 23 k x1 x2 := by
        rw [← pj]
        unfold PJ
        rw [z3, z4]
      have m86 : m 86 10 = nI k := by rw [z2]; exact e86
      unfold X7_assume_w
      rw [q1, r1]
      refine rIs1 (e := 0) (by decide) q4 (by rw [z1]; exact f87) q3 (kz_if1 (rIs1 (e := 1) (by decide) r4 (by rw [z1]; exact g87) r3 (kz_ifn1 ?_)))
      rw [← q1, ← r1]
      refine isPair_x hk m86 (fun a => kz_if1 (k1' (pm.1 a))) (fun a => kz_if0 ?_)
      have na : ¬ PJ mi 22 23 k x1 x2 := fun c => a (pm.2 c)
      rw [m86]
      have z6 : nI k = 6 ↔ k = 6 := nI_eq (b := 6) (by omega) (by decide)
      rw [z6]
      refine ⟨fun c => ⟨vp_in_nI (by omega) (by decide), fun m54 e54 => ?_⟩, fun c => k2' na c⟩
      have m54' : m54 86 10 = nI k := by rw [e54, km_u_p (by omega)]; exact m86
      rw [m54']
      refine ⟨vp_in_nI (by omega) (by decide), fun m64 e64 m72 e72 => ?_⟩
      have m64' : m64 86 10 = nI k := by rw [e64, km_u_p (by omega)]; exact m54'
      rw [m64', nI_1] at e72
      rw [show m72 86 10 = nI (k + 1) from by rw [e72, km_u_at], nI_pred]
      refine k3' na (by omega) m72 ?_
      rw [nI_clamp (by omega)] at e54 e64
      rw [e72, e64, e54]
    refine pairHas_x hk ek (fun a => kz_if1 (hG _ (ref mi _ rfl rfl rfl rfl (fun _ => hK _ _ h) (fun c => absurd a c) (fun c => absurd a c)))) (fun a => kz_if0 ?_)
    have z6 : nI k = 6 ↔ k = 6 := nI_eq (b := 6) (by omega) (by decide)
    rw [ek, z6]
    refine ⟨fun c => ?_, fun c => hG _ (ref mi _ rfl rfl rfl rfl (fun c2 => absurd c2 a) (fun _ _ => hK _ _ h) (fun _ c2 => absurd c (by omega)))⟩
    have k6 : k < 6 := by omega
    unfold X2_add_w
    rw [ek, nI_clamp (by omega)]
    refine ⟨vp_in_nI k6 (by decide), fun m9 e9 => ?_⟩
    have f9 : m9 21 0 = nI k := by rw [e9, km_u_p (by omega)]; exact ek
    rw [f9, nI_clamp (by omega)]
    refine ⟨vp_in_nI k6 (by decide), fun m19 e19 m28 e28 => hG _ ?_⟩
    have f19 : m19 21 0 = nI k := by rw [e19, km_u_p (by omega)]; exact f9
    rw [f19, nI_1] at e28
    rw [f19]
    have off : ∀ z, z ≠ 21 → z ≠ 22 → z ≠ 23 → m28 z = mi z := fun z y1 y2 y3 => by rw [e28, km_u_off z y1, e19, km_u_off z y3, e9, km_u_off z y2]
    refine ref m28 _ (off 87 (by omega) (by omega) (by omega)) (off 86 (by omega) (by omega) (by omega)) (off 95 (by omega) (by omega) (by omega)) (off 96 (by omega) (by omega) (by omega)) (fun c2 => absurd c2 a) (fun _ c2 => absurd c2 (by omega)) (fun _ _ m' e' => hK _ _ ?_)
    have cc : m' = km_u (km_u (km_u (km_u (km_u (km_u mi 22 k x1) 23 k x2) 21 0 (nI (k + 1))) 95 k x1) 96 k x2) 86 10 (nI (k + 1)) := by rw [e', e28, e19, e9]
    clear e' e28 e19 e9 off f19 f9
    subst cc
    refine h.uq (fun p hp => ?_) ?_ ?_ ?_ (fun j hj => ?_) ⟨?_, fun j hj => ?_⟩
    · rw [km_u_off p (by omega), km_u_off p (by omega), km_u_off p (by omega), km_u_off p (by omega), km_u_off p (by omega), km_u_off p (by omega)]
    · rw [km_u_k (by omega), km_u_p (by omega), km_u_p (by omega), km_u_p (by omega), km_u_p (by omega), km_u_p (by omega)]
    · rw [km_u_k (by omega), km_u_p (by omega), km_u_p (by omega), km_u_p (by omega), km_u_p (by omega), km_u_p (by omega)]
    · rw [km_u_p (by omega), km_u_p (by omega), km_u_p (by omega), km_u_at]; exact nb_of _ (by omega)
    · obtain ⟨g1, g2⟩ := h.1.2.2.2.2.2 j hj
      constructor
      · rw [km_u_p (by omega), km_u_p (by omega), km_u_p (by omega), km_u_p (by omega), km_u_p (by omega)]
        by_cases ej : j = k
        · rw [ej, km_u_at]; exact n1
        · rw [km_u_k ej]; exact g1
      · rw [km_u_p (by omega), km_u_p (by omega), km_u_p (by omega), km_u_p (by omega)]
        by_cases ej : j = k
        · rw [ej, km_u_at]; exact n2
        · rw [km_u_k ej, km_u_p (by omega)]; exact g2
    · rw [km_u_at, km_u_p (by omega), km_u_p (by omega), km_u_p (by omega), km_u_at]
    · constructor
      · rw [km_u_p (q := 95) (by omega), km_u_p (q := 95) (by omega), km_u_p (q := 22) (by omega), km_u_p (q := 22) (by omega), km_u_p (q := 22) (by omega), km_u_p (q := 22) (by omega), km_u_p (q := 22) (by omega)]
        by_cases ej : j = k
        · rw [ej, km_u_at, km_u_at]
        · rw [km_u_k ej, km_u_k ej, km_u_p (by omega), km_u_p (by omega), km_u_p (by omega)]; exact (hJ j hj).1
      · rw [km_u_p (q := 96) (by omega), km_u_p (q := 23) (by omega), km_u_p (q := 23) (by omega), km_u_p (q := 23) (by omega), km_u_p (q := 23) (by omega)]
        by_cases ej : j = k
        · rw [ej, km_u_at, km_u_at]
        · rw [km_u_k (q := 96) ej, km_u_p (q := 96) (by omega), km_u_p (q := 96) (by omega), km_u_p (q := 96) (by omega), km_u_p (q := 96) (by omega), km_u_k (q := 23) ej, km_u_p (q := 23) (by omega)]; exact (hJ j hj).2
  · unfold X7_assume_w
    exact rPair0 h hn (hK _ _ h)
/-! op -/
def opT (j : Nat) : Nat := [1, 2, 0, 1, 1, 0, 1, 1, 1, 1, 1, 1, 1, 1, 1, 1, 1, 1, 1, 1, 1, 1, 1, 1, 1, 1, 1, 1, 1, 1, 1, 3, 0, 3, 0, 0, 4, 1, 0, 1, 5, 1, 1, 0, 0, 6, 1, 0].getD j 0
theorem opT_x : ∀ j, j < 48 → km_opL.getD j 0 = nI (opT j) := by decide +kernel
theorem opT_le : ∀ j, j < 48 → opT j ≤ 6 := by decide +kernel
theorem opT_r : ∀ k, k < 10 → 2 ≤ k → opT (3 * k + 0) = 1 ∧ opT (3 * k + 1) = 1 ∧ opT (3 * k + 2) = 1 := by decide +kernel
theorem opT_k : ∀ k, k < 16 → (k ≠ 11 ∧ k ≠ 12 ∧ k ≠ 15 → opT (3 * k + 0) = 1) ∧ (k = 11 → opT (3 * k + 0) = 3) ∧ (k = 12 → opT (3 * k + 0) = 4) ∧ (k ≠ 0 ∧ k ≠ 10 ∧ k ≠ 11 ∧ k ≠ 14 → opT (3 * k + 1) = 1 ∨ opT (3 * k + 1) = 5) ∧ (k = 10 → opT (3 * k + 1) = 3) ∧ ((2 ≤ k ∧ k ≤ 9) ∨ k = 13 → opT (3 * k + 2) = 1) := by decide +kernel
def OPD (M : Int32) (t : Nat) (x : Int32) : Prop := (t = 1 → 0 ≤ x ∧ x ≤ 5) ∧ (t = 2 → 0 ≤ x ∧ x ≤ M) ∧ (t = 3 → 0 ≤ x ∧ x ≤ 24) ∧ (t = 4 → 0 ≤ x ∧ x ≤ 3) ∧ (t = 5 → 0 ≤ x ∧ x ≤ 5) ∧ (t = 6 → 2 ≤ x ∧ x ≤ 7)
theorem opd0 {M x : Int32} : OPD M 0 x := by simp [OPD]
theorem opd1 {M x : Int32} : OPD M 1 x ↔ 0 ≤ x ∧ x ≤ 5 := by simp [OPD]
theorem opd2 {M x : Int32} : OPD M 2 x ↔ 0 ≤ x ∧ x ≤ M := by simp [OPD]
theorem opd3 {M x : Int32} : OPD M 3 x ↔ 0 ≤ x ∧ x ≤ 24 := by simp [OPD]
theorem opd4 {M x : Int32} : OPD M 4 x ↔ 0 ≤ x ∧ x ≤ 3 := by simp [OPD]
theorem opd5 {M x : Int32} : OPD M 5 x ↔ 0 ≤ x ∧ x ≤ 5 := by simp [OPD]
theorem opd6 {M x : Int32} : OPD M 6 x ↔ 2 ≤ x ∧ x ≤ 7 := by simp [OPD]
theorem fits_x {E : km_E} {k i : Nat} {x : Int32} {mi : km_I} {K : Int32 → km_I → Prop} (h0 : E.2.2.1 0 = 48) (hE : ∀ j, E.2.2.2.1 0 j = km_opL.getD j 0) (hk : k < 16) (hi : i < 3) (k1 : OPD (mi 0 1) (opT (3 * k + i)) x → K 1 mi) (k0 : ¬ OPD (mi 0 1) (opT (3 * k + i)) x → K 0 mi) : X6_fits_w E (nI k) (nI i) x mi K := by
  unfold X6_fits_w
  have ix : (3 : Int32) * nI k + nI i = nI (3 * k + i) := by rw [show (3 : Int32) = nI 3 from rfl, nx_mul, nI_add]
  have ht := opT_le (3 * k + i) (by omega)
  rw [ix, nI_clamp (by omega), hE, opT_x _ (by omega), h0, nI_toInt (by omega)]
  generalize opT (3 * k + i) = t at ht k1 k0 ⊢
  refine ⟨vp_in_nI (by omega) (by decide), fun c => k1 ?_, fun c => ?_, fun c => ?_, fun c => ?_, fun c => ?_, fun c => ?_, fun c => ?_⟩
  · obtain rfl : t = 0 := by omega
    exact opd0
  · obtain rfl : t = 1 := by omega
    exact kz_within (fun a b => ⟨Or.inr rfl, k1 (opd1.2 ⟨a, b⟩)⟩) (fun o => ⟨Or.inl rfl, k0 (fun q => kz_out o (opd1.1 q).1 (opd1.1 q).2)⟩)
  · obtain rfl : t = 2 := by omega
    exact kz_within (fun a b => ⟨Or.inr rfl, k1 (opd2.2 ⟨a, b⟩)⟩) (fun o => ⟨Or.inl rfl, k0 (fun q => kz_out o (opd2.1 q).1 (opd2.1 q).2)⟩)
  · obtain rfl : t = 3 := by omega
    exact kz_within (fun a b => ⟨Or.inr rfl, k1 (opd3.2 ⟨a, b⟩)⟩) (fun o => ⟨Or.inl rfl, k0 (fun q => kz_out o (opd3.1 q).1 (opd3.1 q).2)⟩)
  · obtain rfl : t = 4 := by omega
    exact port_c (fun a b => ⟨Or.inr rfl, k1 (opd4.2 ⟨a, b⟩)⟩) (fun o => ⟨Or.inl rfl, k0 (fun q => kz_out o (opd4.1 q).1 (opd4.1 q).2)⟩)
  · obtain rfl : t = 5 := by omega
    exact kz_within (fun a b => ⟨Or.inr rfl, k1 (opd5.2 ⟨a, b⟩)⟩) (fun o => ⟨Or.inl rfl, k0 (fun q => kz_out o (opd5.1 q).1 (opd5.1 q).2)⟩)
  · obtain rfl : t = 6 := by omega
    exact kz_within (fun a b => ⟨Or.inr rfl, k1 (opd6.2 ⟨a, b⟩)⟩) (fun o => ⟨Or.inl rfl, k0 (fun q => kz_out o (opd6.1 q).1 (opd6.1 q).2)⟩)
def OKR (M o a b c : Int32) : Prop := ∃ k, k < 16 ∧ o = nI k ∧ OPD M (opT (3 * k + 0)) a ∧ OPD M (opT (3 * k + 1)) b ∧ OPD M (opT (3 * k + 2)) c
theorem OKR.of {M a b c : Int32} {k : Nat} (hk : k < 16) : OKR M (nI k) a b c ↔ OPD M (opT (3 * k + 0)) a ∧ OPD M (opT (3 * k + 1)) b ∧ OPD M (opT (3 * k + 2)) c := by
  constructor
  · rintro ⟨k', hk', e, r⟩
    rw [nI_eq (by omega) (by omega)] at e
    subst e
    exact r
  · exact fun r => ⟨k, hk, rfl, r⟩
theorem OKR.ok {M o a b c : Int32} (h : OKR M o a b c) : okop o a b c := by
  obtain ⟨k, hk, e, h1, h2, h3⟩ := h
  obtain ⟨t1, t2, t3, t4, t5, t6⟩ := opT_k k hk
  refine ⟨k, hk, e, fun q => ?_, fun q => ?_, fun q => ?_, fun q => ?_, fun q => ?_, fun q => ?_⟩
  · exact kz_nb (n := 5) (by decide) (h1.1 (t1 q)).1 (h1.1 (t1 q)).2
  · exact kz_nb (n := 24) (by decide) (h1.2.2.1 (t2 q)).1 (h1.2.2.1 (t2 q)).2
  · exact kz_nb (n := 3) (by decide) (h1.2.2.2.1 (t3 q)).1 (h1.2.2.2.1 (t3 q)).2
  · rcases t4 q with z | z
    · exact kz_nb (n := 5) (by decide) (h2.1 z).1 (h2.1 z).2
    · exact kz_nb (n := 5) (by decide) (h2.2.2.2.2.1 z).1 (h2.2.2.2.2.1 z).2
  · exact kz_nb (n := 24) (by decide) (h2.2.2.1 (t5 q)).1 (h2.2.2.1 (t5 q)).2
  · exact kz_nb (n := 5) (by decide) (h3.1 (t6 q)).1 (h3.1 (t6 q)).2
theorem right_x {M x1 x2 x3 x4 : Int32} {mi : km_I} {K : Int32 → km_I → Prop} (hM : mi 86 1 = M) (k1 : OKR M x1 x2 x3 x4 → K 1 mi) (k0 : ¬ OKR M x1 x2 x3 x4 → K 0 mi) : X7_isRight_w x1 x2 x3 x4 mi K := by
  have rg : ∀ {x : Int32} {K' : Int32 → km_I → Prop}, ((0 : Int32) ≤ x → x ≤ 5 → K' 1 mi) → ((x < 0 ∨ 5 < x) → K' 0 mi) → X7_isRegister_w x mi K' := fun p1 p0 => kz_in (fun a b => ⟨Or.inr rfl, p1 a b⟩) (fun o => ⟨Or.inl rfl, p0 o⟩)
  have nm : ∀ {x : Int32} {K' : Int32 → km_I → Prop}, ((0 : Int32) ≤ x → x ≤ M → K' 1 mi) → ((x < 0 ∨ M < x) → K' 0 mi) → X7_isNumber_w x mi K' := fun p1 p0 => by
    unfold X7_isNumber_w
    rw [hM]
    exact kz_in (fun a b => ⟨Or.inr rfl, p1 a b⟩) (fun o => ⟨Or.inl rfl, p0 o⟩)
  have b232 : ((Int32.toInt x1 < 0 ∨ 15 < Int32.toInt x1) ∨ (2 ≤ Int32.toInt x1 ∧ Int32.toInt x1 ≤ 9)) → X7_isRight_b232 x1 x2 x3 x4 x1 x2 x3 x4 mi K := by
    intro hx
    unfold X7_isRight_b232
    refine kz_in (fun a b => kz_if1 ?_) (fun o => kz_if0 (k0 ?_))
    · obtain ⟨k, hk, rfl⟩ := kz_nb (n := 9) (by decide) (Int32.le_trans (by decide) a) b
      have hk2 : 2 ≤ k := by
        rw [show (2 : Int32) = nI 2 from rfl, nI_leI (by omega) (by omega)] at a
        exact a
      obtain ⟨t1, t2, t3⟩ := opT_r k (by omega) hk2
      have iff : OKR M (nI k) x2 x3 x4 ↔ (0 ≤ x2 ∧ x2 ≤ 5) ∧ (0 ≤ x3 ∧ x3 ≤ 5) ∧ (0 ≤ x4 ∧ x4 ≤ 5) := by rw [OKR.of (by omega), t1, t2, t3, opd1, opd1, opd1]
      exact rg (fun a1 a2 => kz_if1 (rg (fun b1 b2 => kz_if1 (rg (fun c1 c2 => kz_if1 (k1 (iff.2 ⟨⟨a1, a2⟩, ⟨b1, b2⟩, ⟨c1, c2⟩⟩))) (fun o => kz_if0 (k0 (fun q => kz_out o (iff.1 q).2.2.1 (iff.1 q).2.2.2))))) (fun o => kz_if0 (k0 (fun q => kz_out o (iff.1 q).2.1.1 (iff.1 q).2.1.2))))) (fun o => kz_if0 (k0 (fun q => kz_out o (iff.1 q).1.1 (iff.1 q).1.2)))
    · rintro ⟨k, hk, rfl, -⟩
      rw [nI_toInt (by omega)] at hx
      rw [show (2 : Int32) = nI 2 from rfl, show (9 : Int32) = nI 9 from rfl, nI_ltI (by omega) (by omega), nI_ltI (by omega) (by omega)] at o
      omega
  have ex : ∀ k : Nat, k < 16 → Int32.toInt x1 = (k : Int) → x1 = nI k := fun k hk c => Int32.toInt_inj.mp (by rw [c, nI_toInt (by omega)])
  unfold X7_isRight_w
  refine ⟨fun c => b232 (Or.inl c), fun c => ?_, fun c => ?_, fun c => b232 (Or.inr (by omega)), fun c => b232 (Or.inr (by omega)), fun c => b232 (Or.inr (by omega)), fun c => b232 (Or.inr (by omega)), fun c => b232 (Or.inr (by omega)), fun c => b232 (Or.inr (by omega)), fun c => b232 (Or.inr (by omega)), fun c => b232 (Or.inr (by omega)), fun c => ?_, fun c => ?_, fun c => ?_, fun c => ?_, fun c => ?_, fun c => ?_⟩
  · obtain rfl := ex 0 (by decide) c
    have iff : OKR M (nI 0) x2 x3 x4 ↔ (0 ≤ x2 ∧ x2 ≤ 5) ∧ (0 ≤ x3 ∧ x3 ≤ M) := by
      rw [OKR.of (by decide)]
      exact ⟨fun q => ⟨opd1.1 q.1, opd2.1 q.2.1⟩, fun q => ⟨opd1.2 q.1, opd2.2 q.2, opd0⟩⟩
    exact rg (fun a1 a2 => kz_if1 (nm (fun b1 b2 => kz_if1 (k1 (iff.2 ⟨⟨a1, a2⟩, ⟨b1, b2⟩⟩))) (fun o => kz_if0 (k0 (fun q => kz_out o (iff.1 q).2.1 (iff.1 q).2.2))))) (fun o => kz_if0 (k0 (fun q => kz_out o (iff.1 q).1.1 (iff.1 q).1.2)))
  · obtain rfl := ex 1 (by decide) c
    have iff : OKR M (nI 1) x2 x3 x4 ↔ (0 ≤ x2 ∧ x2 ≤ 5) ∧ (0 ≤ x3 ∧ x3 ≤ 5) := by
      rw [OKR.of (by decide)]
      exact ⟨fun q => ⟨opd1.1 q.1, opd1.1 q.2.1⟩, fun q => ⟨opd1.2 q.1, opd1.2 q.2, opd0⟩⟩
    exact rg (fun a1 a2 => kz_if1 (rg (fun b1 b2 => kz_if1 (k1 (iff.2 ⟨⟨a1, a2⟩, ⟨b1, b2⟩⟩))) (fun o => kz_if0 (k0 (fun q => kz_out o (iff.1 q).2.1 (iff.1 q).2.2))))) (fun o => kz_if0 (k0 (fun q => kz_out o (iff.1 q).1.1 (iff.1 q).1.2)))
  · obtain rfl := ex 10 (by decide) c
    have iff : OKR M (nI 10) x2 x3 x4 ↔ (0 ≤ x2 ∧ x2 ≤ 5) ∧ (0 ≤ x3 ∧ x3 ≤ 24) := by
      rw [OKR.of (by decide)]
      exact ⟨fun q => ⟨opd1.1 q.1, opd3.1 q.2.1⟩, fun q => ⟨opd1.2 q.1, opd3.2 q.2, opd0⟩⟩
    exact rg (fun a1 a2 => kz_if1 (kz_in (fun b1 b2 => kz_if1 (k1 (iff.2 ⟨⟨a1, a2⟩, ⟨b1, b2⟩⟩))) (fun o => kz_if0 (k0 (fun q => kz_out o (iff.1 q).2.1 (iff.1 q).2.2))))) (fun o => kz_if0 (k0 (fun q => kz_out o (iff.1 q).1.1 (iff.1 q).1.2)))
  · obtain rfl := ex 11 (by decide) c
    have iff : OKR M (nI 11) x2 x3 x4 ↔ 0 ≤ x2 ∧ x2 ≤ 24 := by
      rw [OKR.of (by decide)]
      exact ⟨fun q => opd3.1 q.1, fun q => ⟨opd3.2 q, opd0, opd0⟩⟩
    exact kz_in (fun a b => ⟨Or.inr rfl, k1 (iff.2 ⟨a, b⟩)⟩) (fun o => ⟨Or.inl rfl, k0 (fun q => kz_out o (iff.1 q).1 (iff.1 q).2)⟩)
  · obtain rfl := ex 12 (by decide) c
    have iff : OKR M (nI 12) x2 x3 x4 ↔ (0 ≤ x2 ∧ x2 ≤ 3) ∧ (0 ≤ x3 ∧ x3 ≤ 5) := by
      rw [OKR.of (by decide)]
      exact ⟨fun q => ⟨opd4.1 q.1, opd1.1 q.2.1⟩, fun q => ⟨opd4.2 q.1, opd1.2 q.2, opd0⟩⟩
    exact kz_in (fun a1 a2 => kz_if1 (rg (fun b1 b2 => kz_if1 (k1 (iff.2 ⟨⟨a1, a2⟩, ⟨b1, b2⟩⟩))) (fun o => kz_if0 (k0 (fun q => kz_out o (iff.1 q).2.1 (iff.1 q).2.2))))) (fun o => kz_if0 (k0 (fun q => kz_out o (iff.1 q).1.1 (iff.1 q).1.2)))
  · obtain rfl := ex 13 (by decide) c
    have iff : OKR M (nI 13) x2 x3 x4 ↔ (0 ≤ x2 ∧ x2 ≤ 5) ∧ (0 ≤ x3 ∧ x3 ≤ 5) ∧ (0 ≤ x4 ∧ x4 ≤ 5) := by
      rw [OKR.of (by decide)]
      exact ⟨fun q => ⟨opd1.1 q.1, opd5.1 q.2.1, opd1.1 q.2.2⟩, fun q => ⟨opd1.2 q.1, opd5.2 q.2.1, opd1.2 q.2.2⟩⟩
    exact rg (fun a1 a2 => kz_if1 (kz_in (fun b1 b2 => kz_if1 (rg (fun c1 c2 => kz_if1 (k1 (iff.2 ⟨⟨a1, a2⟩, ⟨b1, b2⟩, ⟨c1, c2⟩⟩))) (fun o => kz_if0 (k0 (fun q => kz_out o (iff.1 q).2.2.1 (iff.1 q).2.2.2))))) (fun o => kz_if0 (k0 (fun q => kz_out o (iff.1 q).2.1.1 (iff.1 q).2.1.2))))) (fun o => kz_if0 (k0 (fun q => kz_out o (iff.1 q).1.1 (iff.1 q).1.2)))
  · obtain rfl := ex 14 (by decide) c
    have iff : OKR M (nI 14) x2 x3 x4 ↔ 0 ≤ x2 ∧ x2 ≤ 5 := by
      rw [OKR.of (by decide)]
      exact ⟨fun q => opd1.1 q.1, fun q => ⟨opd1.2 q, opd0, opd0⟩⟩
    exact rg (fun a b => ⟨Or.inr rfl, k1 (iff.2 ⟨a, b⟩)⟩) (fun o => ⟨Or.inl rfl, k0 (fun q => kz_out o (iff.1 q).1 (iff.1 q).2)⟩)
  · obtain rfl := ex 15 (by decide) c
    have iff : OKR M (nI 15) x2 x3 x4 ↔ (2 ≤ x2 ∧ x2 ≤ 7) ∧ (0 ≤ x3 ∧ x3 ≤ 5) := by
      rw [OKR.of (by decide)]
      exact ⟨fun q => ⟨opd6.1 q.1, opd1.1 q.2.1⟩, fun q => ⟨opd6.2 q.1, opd1.2 q.2, opd0⟩⟩
    exact kz_in (fun a1 a2 => kz_if1 (rg (fun b1 b2 => kz_if1 (k1 (iff.2 ⟨⟨a1, a2⟩, ⟨b1, b2⟩⟩))) (fun o => kz_if0 (k0 (fun q => kz_out o (iff.1 q).2.1 (iff.1 q).2.2))))) (fun o => kz_if0 (k0 (fun q => kz_out o (iff.1 q).1.1 (iff.1 q).1.2)))
