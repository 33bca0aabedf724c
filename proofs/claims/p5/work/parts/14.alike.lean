/-! LIKE or not: an answer 0 or 1, and nothing changes -/
def PO (mi : km_I) (o : Nat) : Prop := ∀ p, p < 4 → nb (mi (o + 1) p) 4 ∧ nb (mi (o + 2) p) 4 ∧ nb (mi (o + 3) p) 4
theorem nb.ix {x : Int32} {n : Nat} (h : nb x n) (hn : n < 2 ^ 31) : ∃ k, k < n ∧ x.toNatClampNeg = k ∧ x = nI k := by
  obtain ⟨k, hk, rfl⟩ := h
  exact ⟨k, hk, nI_clamp (by omega), rfl⟩
theorem nextIn_l {o q2 : Nat} {x1 x3 x4 y1 y3 : Int32} {mi : km_I} {K : Int32 → km_I → Prop} {e : Nat} (he : e ≤ 40) (ho : PO mi o) (hq : ∀ j, j < 40 → nb (mi (q2 + 1) j) 4) (hK : ∀ j, j ≤ e → K (nI j) mi) : ∀ (n i : Nat), i ≤ 41 → 41 < n + i → X3_nextIn_b3 o x1 q2 x3 x4 n y1 y3 (nI e) (nI i) mi K := by
  intro n
  induction n with
  | zero =>
    intro i h1 h2
    exact absurd h2 (by omega)
  | succ n ih =>
    intro i h1 h2
    simp only [X3_nextIn_b3]
    refine ⟨fun _ => hK e (Nat.le_refl _), fun c => ?_⟩
    rw [nI_leI (by omega) (by omega)] at c
    obtain ⟨a, ha, ea, -⟩ := (hq i (by omega)).ix (by decide)
    obtain ⟨d, hd, ed, -⟩ := (ho a ha).2.2.ix (by decide)
    rw [nI_clamp (by omega), ea, nI_1]
    refine ⟨vp_in_nI (by omega) (by decide), (hq i (by omega)).vin (by decide) (by decide), (ho a ha).2.2.vin (by decide) (by decide), fun _ => ih (i + 1) (by omega) (by omega), fun _ => hK i (by omega)⟩
theorem nextIn_s {o q2 : Nat} {x1 : Int32} {mi : km_I} {K : Int32 → km_I → Prop} {a e : Nat} (ha : a ≤ 41) (he : e ≤ 40) (ho : PO mi o) (hq : ∀ j, j < 40 → nb (mi (q2 + 1) j) 4) (hK : ∀ j, j ≤ e → K (nI j) mi) : X3_nextIn_w o x1 q2 (nI a) (nI e) mi K := ⟨42, nextIn_l he ho hq hK 42 a ha (by omega)⟩
theorem alikeIn_l {o q2 q3 : Nat} {x1 x4 x5 y1 y4 : Int32} {mi : km_I} {K : Int32 → km_I → Prop} {c : Nat} (hc : c ≤ 40) (ho : PO mi o) (hq2 : ∀ j, j < 40 → nb (mi (q2 + 1) j) 4) (hq3 : ∀ j, j < 40 → nb (mi (q3 + 1) j) 4) (hK0 : K 0 mi) (hK1 : K 1 mi) : ∀ (n i j : Nat), i ≤ 41 → j ≤ 41 → 41 < n + i → X3_alikeIn_b8 o x1 q2 q3 x4 x5 n y1 y4 (nI c) (nI j) (nI i) mi K := by
  intro n
  induction n with
  | zero =>
    intro i j h1 h2 h3
    exact absurd h3 (by omega)
  | succ n ih =>
    intro i j h1 h2 h3
    simp only [X3_alikeIn_b8]
    refine ⟨fun _ => nextIn_s h2 hc ho hq3 (fun r _ => ⟨fun _ => hK0, fun _ => hK1⟩), fun c1 => ?_⟩
    rw [nI_leI (by omega) (by omega)] at c1
    obtain ⟨z, hz, ez, -⟩ := (hq2 i (by omega)).ix (by decide)
    rw [nI_clamp (by omega), ez]
    refine ⟨vp_in_nI (by omega) (by decide), (hq2 i (by omega)).vin (by decide) (by decide), fun _ => ?_, fun _ => nextIn_s h2 hc ho hq3 (fun r hr => ⟨fun _ => hK0, fun c2 => ?_⟩)⟩
    · unfold X3_alikeIn_b93
      rw [nI_1]
      exact ih (i + 1) j (by omega) h2 (by omega)
    · have hr2 : r < c := by
        rcases Nat.lt_or_ge r c with q | q
        · exact q
        · exact absurd (by rw [show r = c by omega]) c2
      refine ⟨vp_in_nI (by omega) (by decide), ?_⟩
      rw [nI_clamp (by omega)]
      refine ⟨(hq3 r (by omega)).vin (by decide) (by decide), fun _ => hK0, fun _ => ⟨vp_in_nI (by omega) (by decide), vp_in_nI (by omega) (by decide), fun _ => ?_, fun _ => hK0⟩⟩
      unfold X3_alikeIn_b93
      rw [nI_1, nI_1]
      exact ih (i + 1) (r + 1) (by omega) (by omega) (by omega)
theorem alike_s {o q1 q2 : Nat} {mi : km_I} {K : Int32 → km_I → Prop} {a c : Nat} (ha : a ≤ 40) (hc : c ≤ 40) (ho : PO mi o) (hq1 : ∀ j, j < 40 → nb (mi (q1 + 1) j) 4) (hq2 : ∀ j, j < 40 → nb (mi (q2 + 1) j) 4) (hK0 : K 0 mi) (hK1 : K 1 mi) : X3_alike_w o q1 q2 (nI a) (nI c) mi K := by
  have loop : ∀ (n i : Nat), i ≤ 4 → 4 < n + i → X3_alike_b3 o q1 q2 (nI a) (nI c) n (nI a) (nI c) (nI i) mi K := by
    intro n
    induction n with
    | zero =>
      intro i h1 h2
      exact absurd h2 (by omega)
    | succ n ih =>
      intro i h1 h2
      simp only [X3_alike_b3]
      refine ⟨fun _ => hK1, fun c9 => ⟨42, ?_⟩⟩
      have hi : i < 4 := by
        rcases Nat.lt_or_ge i 4 with q | q
        · exact q
        · exact absurd (by rw [show i = 4 by omega]; decide) c9
      refine alikeIn_l hc ho hq1 hq2 ⟨fun h => absurd rfl h, fun _ => hK0⟩ ⟨fun _ => ?_, fun h => absurd h (by decide)⟩ 42 a a (by omega) (by omega) (by omega)
      rw [nI_1]
      exact ih (i + 1) (by omega) (by omega)
  exact ⟨5, loop 5 0 (by omega) (by omega)⟩
theorem endsLike_s {q q1 : Nat} {mi : km_I} {K : Int32 → km_I → Prop} (hK0 : K 0 mi) (hK1 : K 1 mi) : X5_endsLike_w q q1 mi K := by
  unfold X5_endsLike_w
  exact ⟨fun _ => hK0, fun _ => ⟨fun _ => hK0, fun _ => hK1⟩⟩
