/-! CLASS AND REFERENCE TOGETHER: what they share between calls -/
def kb (b e : Nat) : Prop := (b = 1 ∧ e = 0) ∨ (b = 7 ∧ e = 1)
theorem kb.le {b e : Nat} (h : kb b e) : 1 ≤ b ∧ b + 6 ≤ 13 ∧ e < 2 := by
  rcases h with ⟨rfl, rfl⟩ | ⟨rfl, rfl⟩ <;> decide
theorem kb.is {b e : Nat} (h : kb b e) : km_isB b := by
  rcases h with ⟨rfl, rfl⟩ | ⟨rfl, rfl⟩
  · exact Or.inl rfl
  · exact Or.inr rfl
theorem kb.eq {b c e : Nat} (h : kb b e) (h' : kb c e) : c = b := by
  unfold kb at h h'
  omega
theorem kb_of {e : Nat} (h : e < 2) : ∃ b, kb b e := by
  rcases Nat.lt_or_ge e 1 with q | q
  · exact ⟨1, Or.inl ⟨rfl, by omega⟩⟩
  · exact ⟨7, Or.inr ⟨rfl, by omega⟩⟩
def JB (mi : km_I) (b e : Nat) : Prop := mi 87 e = mi b 0 ∧ (∀ j, j < 6 → mi 88 (6 * e + j) = mi (b + 1) j) ∧ (∀ k j, mi b 0 = nI k → k ≤ j → j < 6 → mi (b + 1) j = 0) ∧ ∀ j, j < 144 → mi 89 (144 * e + j) = mi (b + 2) j ∧ mi 90 (144 * e + j) = mi (b + 3) j ∧ mi 91 (144 * e + j) = mi (b + 4) j ∧ mi 92 (144 * e + j) = mi (b + 5) j
def JP (mi : km_I) : Prop := (∀ p, p < 4 → mi 93 p = mi 14 p ∧ mi 94 p = mi 15 p) ∧ ∀ p q, p < 4 → q < 4 → (mi 14 p = nI q ↔ mi 16 q = nI p)
def JQ (mi : km_I) : Prop := mi 86 10 = mi 21 0 ∧ ∀ j, j < 6 → mi 95 j = mi 22 j ∧ mi 96 j = mi 23 j
def JC (mi : km_I) : Prop := mi 86 0 = mi 0 0 ∧ mi 86 1 = mi 0 1
/-- the latest run() as both sides show it -/
def JT (mi : km_I) : Prop := (mi 26 1 = mi 0 1 ∧ mi 26 6 = 0) ∧ mi 106 0 = mi 27 5 ∧ ∀ j k, mi 27 5 = nI k → j < k → k ≤ 40 → mi 107 j = mi 28 j ∧ mi 108 j = mi 29 j
theorem JT.mv {a c : km_I} (h : JT a) (e : ∀ p, 26 ≤ p → p < 30 → c p = a p) (e0 : c 0 1 = a 0 1) (es : S0 a c) : JT c := by
  obtain ⟨⟨h1, h2⟩, h3, h4⟩ := h
  refine ⟨⟨by rw [e 26 (by omega) (by omega), e0]; exact h1, by rw [e 26 (by omega) (by omega)]; exact h2⟩, by rw [es.1, e 27 (by omega) (by omega)]; exact h3, fun j k q1 q2 q3 => ?_⟩
  rw [e 27 (by omega) (by omega)] at q1
  rw [(es.2 j (by omega)).1, (es.2 j (by omega)).2, e 28 (by omega) (by omega), e 29 (by omega) (by omega)]
  exact h4 j k q1 q2 q3
def JJ (mi : km_I) : Prop := CI mi ∧ RP mi ∧ JC mi ∧ (JB mi 1 0 ∧ JB mi 7 1) ∧ JP mi ∧ JQ mi ∧ JT mi
theorem JJ.jb {mi : km_I} {b e : Nat} (h : JJ mi) (hb : kb b e) : JB mi b e := by
  rcases hb with ⟨rfl, rfl⟩ | ⟨rfl, rfl⟩
  · exact h.2.2.2.1.1
  · exact h.2.2.2.1.2
theorem JJ.bi {mi : km_I} {b e : Nat} (h : JJ mi) (hb : kb b e) : BI mi b := by
  rcases hb with ⟨rfl, rfl⟩ | ⟨rfl, rfl⟩
  · exact h.1.2.1.1
  · exact h.1.2.1.2
theorem JJ.rb {mi : km_I} (h : JJ mi) : RB mi := by
  have b0 := h.1.2.1.1
  have b1 := h.1.2.1.2
  obtain ⟨x1, x2, -, x4⟩ := h.2.2.2.1.1
  obtain ⟨y1, y2, -, y4⟩ := h.2.2.2.1.2
  refine ⟨fun j hj => ?_, fun j hj => ?_, fun j hj => ?_⟩
  · rcases Nat.lt_or_ge j 1 with q | q
    · rw [show j = 0 by omega, x1]; exact b0.1
    · rw [show j = 1 by omega, y1]; exact b1.1
  · rcases Nat.lt_or_ge j 6 with q | q
    · have z := x2 j q
      rw [show 6 * 0 + j = j by omega] at z
      rw [z]; exact b0.2.1 j q
    · have z := y2 (j - 6) (by omega)
      rw [show 6 * 1 + (j - 6) = j by omega] at z
      rw [z]; exact b1.2.1 (j - 6) (by omega)
  · rcases Nat.lt_or_ge j 144 with q | q
    · obtain ⟨z1, z2, z3, z4⟩ := x4 j q
      rw [show 144 * 0 + j = j by omega] at z1 z2 z3 z4
      rw [z1, z2, z3, z4]; exact b0.2.2 j q
    · obtain ⟨z1, z2, z3, z4⟩ := y4 (j - 144) (by omega)
      rw [show 144 * 1 + (j - 144) = j by omega] at z1 z2 z3 z4
      rw [z1, z2, z3, z4]; exact b1.2.2 (j - 144) (by omega)
theorem JJ.ri {mi : km_I} (h : JJ mi) : RI mi := by
  refine ⟨by rw [h.2.2.1.2]; exact h.1.1, h.rb, fun q hq => ?_, by rw [h.2.2.2.2.2.1.1]; exact h.1.2.2.2.2.1, fun j hj => ?_⟩
  · obtain ⟨p, hp, ep⟩ := (h.1.2.2.2.1.1 q hq).2.2
    exact ⟨p, hp, (h.2.2.2.2.1.1 p hp).1.trans ((h.2.2.2.2.1.2 p q hp hq).2 ep)⟩
  · rw [(h.2.2.2.2.2.1.2 j hj).1, (h.2.2.2.2.2.1.2 j hj).2]
    exact h.1.2.2.2.2.2 j hj
theorem CI.mv {a c : km_I} (h : CI a) (e : ∀ p, p < 86 → c p = a p) : CI c := by
  obtain ⟨c1, ⟨c2, c2'⟩, c3, ⟨c4, c4'⟩, c5, c6⟩ := h
  exact ⟨by rw [e 0 (by omega)]; exact c1, ⟨c2.mv (fun p _ _ => e p (by omega)), c2'.mv (fun p _ _ => e p (by omega))⟩, fun t ht => (c3 t ht).mv (fun p _ _ => e p (by have := M_rg ht; omega)), ⟨c4.mv (fun p _ _ => e p (by omega)), c4'.mv (fun p _ _ => e p (by omega))⟩, by rw [e 21 (by omega)]; exact c5, fun j hj => by rw [e 22 (by omega), e 23 (by omega)]; exact c6 j hj⟩
theorem CI.ub {a c : km_I} {b f : Nat} (h : CI a) (hb : kb b f) (e : ∀ p, p < 86 → (p < b ∨ b + 6 ≤ p) → c p = a p) (hB : BI c b) : CI c := by
  obtain ⟨c1, ⟨c2, c2'⟩, c3, ⟨c4, c4'⟩, c5, c6⟩ := h
  have hl := hb.le
  refine ⟨by rw [e 0 (by omega) (by omega)]; exact c1, ?_, fun t ht => (c3 t ht).mv (fun p _ _ => e p (by have := M_rg ht; omega) (by have := M_rg ht; omega)), ⟨c4.mv (fun p _ _ => e p (by omega) (by omega)), c4'.mv (fun p _ _ => e p (by omega) (by omega))⟩, by rw [e 21 (by omega) (by omega)]; exact c5, fun j hj => by rw [e 22 (by omega) (by omega), e 23 (by omega) (by omega)]; exact c6 j hj⟩
  rcases hb with ⟨rfl, rfl⟩ | ⟨rfl, rfl⟩
  · exact ⟨hB, c2'.mv (fun p _ _ => e p (by omega) (by omega))⟩
  · exact ⟨c2.mv (fun p _ _ => e p (by omega) (by omega)), hB⟩
theorem CI.up {a c : km_I} (h : CI a) (e : ∀ p, p < 86 → (p < 13 ∨ 17 ≤ p) → c p = a p) (hP : PO c 13) : CI c := by
  obtain ⟨c1, ⟨c2, c2'⟩, c3, ⟨c4, c4'⟩, c5, c6⟩ := h
  exact ⟨by rw [e 0 (by omega) (by omega)]; exact c1, ⟨c2.mv (fun p _ _ => e p (by omega) (by omega)), c2'.mv (fun p _ _ => e p (by omega) (by omega))⟩, fun t ht => (c3 t ht).mv (fun p _ _ => e p (by have := M_rg ht; omega) (by have := M_rg ht; omega)), ⟨hP, c4'.mv (fun p _ _ => e p (by omega) (by omega))⟩, by rw [e 21 (by omega) (by omega)]; exact c5, fun j hj => by rw [e 22 (by omega) (by omega), e 23 (by omega) (by omega)]; exact c6 j hj⟩
theorem CI.uq {a c : km_I} (h : CI a) (e : ∀ p, p < 86 → (p < 21 ∨ 24 ≤ p) → c p = a p) (h1 : nb (c 21 0) 7) (h2 : ∀ j, j < 6 → nb (c 22 j) 6 ∧ nb (c 23 j) 6) : CI c := by
  obtain ⟨c1, ⟨c2, c2'⟩, c3, ⟨c4, c4'⟩, c5, c6⟩ := h
  exact ⟨by rw [e 0 (by omega) (by omega)]; exact c1, ⟨c2.mv (fun p _ _ => e p (by omega) (by omega)), c2'.mv (fun p _ _ => e p (by omega) (by omega))⟩, fun t ht => (c3 t ht).mv (fun p _ _ => e p (by have := M_rg ht; omega) (by have := M_rg ht; omega)), ⟨c4.mv (fun p _ _ => e p (by omega) (by omega)), c4'.mv (fun p _ _ => e p (by omega) (by omega))⟩, h1, h2⟩
theorem RP.mv {a c : km_I} (h : RP a) (e : ∀ p, 97 ≤ p → p < 114 → c p = a p) : RP c := ⟨fun j hj => by rw [e 107 (by omega) (by omega)]; exact h.1 j hj, fun o ho => by rw [e 106 (by omega) (by omega), e 110 (by omega) (by omega)]; exact h.2 o ho⟩
theorem JB.pt {a c : km_I} {b e : Nat} (h : JB a b e) (e1 : ∀ p, b ≤ p → p < b + 6 → c p = a p) (e2 : c 87 e = a 87 e) (e3 : ∀ j, j < 6 → c 88 (6 * e + j) = a 88 (6 * e + j)) (e4 : ∀ p, 89 ≤ p → p < 93 → ∀ j, j < 144 → c p (144 * e + j) = a p (144 * e + j)) : JB c b e := by
  obtain ⟨h1, h2, h3, h4⟩ := h
  refine ⟨by rw [e2, e1 b (by omega) (by omega)]; exact h1, fun j hj => by rw [e3 j hj, e1 (b + 1) (by omega) (by omega)]; exact h2 j hj, fun k j => by rw [e1 b (by omega) (by omega), e1 (b + 1) (by omega) (by omega)]; exact h3 k j, fun j hj => ?_⟩
  rw [e4 89 (by omega) (by omega) j hj, e4 90 (by omega) (by omega) j hj, e4 91 (by omega) (by omega) j hj, e4 92 (by omega) (by omega) j hj, e1 (b + 2) (by omega) (by omega), e1 (b + 3) (by omega) (by omega), e1 (b + 4) (by omega) (by omega), e1 (b + 5) (by omega) (by omega)]
  exact h4 j hj
theorem JB.mv {a c : km_I} {b e : Nat} (h : JB a b e) (e1 : ∀ p, b ≤ p → p < b + 6 → c p = a p) (e2 : ∀ p, 87 ≤ p → p < 93 → c p = a p) : JB c b e := h.pt e1 (by rw [e2 87 (by omega) (by omega)]) (fun j _ => by rw [e2 88 (by omega) (by omega)]) (fun p h1 h2 j _ => by rw [e2 p (by omega) (by omega)])
theorem JJ.ub {a c : km_I} {b e : Nat} (h : JJ a) (hbe : kb b e) (e1 : ∀ p, p < 86 → (p < b ∨ b + 6 ≤ p) → c p = a p) (e2 : ∀ p, p = 86 ∨ 93 ≤ p → c p = a p) (e3 : c 87 (1 - e) = a 87 (1 - e)) (e4 : ∀ j, j < 6 → c 88 (6 * (1 - e) + j) = a 88 (6 * (1 - e) + j)) (e5 : ∀ p, 89 ≤ p → p < 93 → ∀ j, j < 144 → c p (144 * (1 - e) + j) = a p (144 * (1 - e) + j)) (hB : BI c b) (hJ : JB c b e) : JJ c := by
  obtain ⟨hC, hR, ⟨q1, q2⟩, ⟨j1, j7⟩, ⟨p1, p2⟩, ⟨s1, s2⟩, jt⟩ := h
  have hl := hbe.le
  refine ⟨hC.ub hbe e1 hB, hR.mv (fun p _ _ => e2 p (by omega)), ⟨by rw [e2 86 (by omega), e1 0 (by omega) (by omega)]; exact q1, by rw [e2 86 (by omega), e1 0 (by omega) (by omega)]; exact q2⟩, ?_, ⟨fun p hp => by rw [e2 93 (by omega), e2 94 (by omega), e1 14 (by omega) (by omega), e1 15 (by omega) (by omega)]; exact p1 p hp, fun p q hp hq => by rw [e1 14 (by omega) (by omega), e1 16 (by omega) (by omega)]; exact p2 p q hp hq⟩, ⟨by rw [e2 86 (by omega), e1 21 (by omega) (by omega)]; exact s1, fun j hj => by rw [e2 95 (by omega), e2 96 (by omega), e1 22 (by omega) (by omega), e1 23 (by omega) (by omega)]; exact s2 j hj⟩, jt.mv (fun p _ _ => e1 p (by omega) (by omega)) (by rw [e1 0 (by omega) (by omega)]) ((S0.rf a).mv (fun p _ _ => e2 p (by omega)))⟩
  rcases hbe with ⟨rfl, rfl⟩ | ⟨rfl, rfl⟩
  · exact ⟨hJ, j7.pt (fun p _ _ => e1 p (by omega) (by omega)) e3 e4 e5⟩
  · exact ⟨j1.pt (fun p _ _ => e1 p (by omega) (by omega)) e3 e4 e5, hJ⟩
theorem JJ.up {a c : km_I} (h : JJ a) (e : ∀ p, (p < 13 ∨ (17 ≤ p ∧ p < 93) ∨ 95 ≤ p) → c p = a p) (hP : PO c 13) (hJ : JP c) : JJ c := by
  obtain ⟨hC, hR, ⟨q1, q2⟩, ⟨j1, j7⟩, -, ⟨s1, s2⟩, jt⟩ := h
  exact ⟨hC.up (fun p _ _ => e p (by omega)) hP, hR.mv (fun p _ _ => e p (by omega)), ⟨by rw [e 86 (by omega), e 0 (by omega)]; exact q1, by rw [e 86 (by omega), e 0 (by omega)]; exact q2⟩, ⟨j1.mv (fun p _ _ => e p (by omega)) (fun p _ _ => e p (by omega)), j7.mv (fun p _ _ => e p (by omega)) (fun p _ _ => e p (by omega))⟩, hJ, ⟨by rw [e 86 (by omega), e 21 (by omega)]; exact s1, fun j hj => by rw [e 95 (by omega), e 96 (by omega), e 22 (by omega), e 23 (by omega)]; exact s2 j hj⟩, jt.mv (fun p _ _ => e p (by omega)) (by rw [e 0 (by omega)]) ((S0.rf a).mv (fun p _ _ => e p (by omega)))⟩
theorem JJ.uq {a c : km_I} (h : JJ a) (e : ∀ p, (p < 21 ∨ (24 ≤ p ∧ p < 86) ∨ (87 ≤ p ∧ p < 95) ∨ 97 ≤ p) → c p = a p) (e0 : c 86 0 = a 86 0) (e1 : c 86 1 = a 86 1) (h1 : nb (c 21 0) 7) (h2 : ∀ j, j < 6 → nb (c 22 j) 6 ∧ nb (c 23 j) 6) (hJ : JQ c) : JJ c := by
  obtain ⟨hC, hR, ⟨q1, q2⟩, ⟨j1, j7⟩, ⟨p1, p2⟩, -, jt⟩ := h
  exact ⟨hC.uq (fun p _ _ => e p (by omega)) h1 h2, hR.mv (fun p _ _ => e p (by omega)), ⟨by rw [e0, e 0 (by omega)]; exact q1, by rw [e1, e 0 (by omega)]; exact q2⟩, ⟨j1.mv (fun p _ _ => e p (by omega)) (fun p _ _ => e p (by omega)), j7.mv (fun p _ _ => e p (by omega)) (fun p _ _ => e p (by omega))⟩, ⟨fun p hp => by rw [e 93 (by omega), e 94 (by omega), e 14 (by omega), e 15 (by omega)]; exact p1 p hp, fun p q hp hq => by rw [e 14 (by omega), e 16 (by omega)]; exact p2 p q hp hq⟩, hJ, jt.mv (fun p _ _ => e p (by omega)) (by rw [e 0 (by omega)]) ((S0.rf a).mv (fun p _ _ => e p (by omega)))⟩
theorem JJ.big {a m c : km_I} (h : JJ a) (h1 : CS a m) (h2 : FR m c) (h3 : RP c) (h4 : S0 m c) : JJ c := by
  have hC : CI c := h1.2.mv (fun p hp => h2.1 p (Or.inl hp))
  have e : ∀ p, (1 ≤ p ∧ p < 17) ∨ (21 ≤ p ∧ p < 24) ∨ (87 ≤ p ∧ p < 97) → c p = a p := fun p hp => (h2.1 p (by omega)).trans (h1.1.1 p (by omega))
  obtain ⟨-, -, ⟨q1, q2⟩, ⟨j1, j7⟩, ⟨p1, p2⟩, ⟨s1, s2⟩, jt⟩ := h
  refine ⟨hC, h3, ⟨?_, ?_⟩, ⟨j1.mv (fun p _ _ => e p (by omega)) (fun p _ _ => e p (by omega)), j7.mv (fun p _ _ => e p (by omega)) (fun p _ _ => e p (by omega))⟩, ⟨fun p hp => by rw [e 93 (by omega), e 94 (by omega), e 14 (by omega), e 15 (by omega)]; exact p1 p hp, fun p q hp hq => by rw [e 14 (by omega), e 16 (by omega)]; exact p2 p q hp hq⟩, ⟨?_, fun j hj => by rw [e 95 (by omega), e 96 (by omega), e 22 (by omega), e 23 (by omega)]; exact s2 j hj⟩, jt.mv (fun p _ _ => (h2.1 p (by omega)).trans (h1.1.1 p (by omega))) (by rw [h2.1 0 (by omega)]; exact h1.1.2.2) (((S0.rf a).mv (fun p _ _ => h1.1.1 p (by omega))).tr h4)⟩
  · rw [h2.2.1, h1.1.1 86 (by omega), q1, h2.1 0 (by omega), h1.1.2.1]
  · rw [h2.2.2.1, h1.1.1 86 (by omega), q2, h2.1 0 (by omega), h1.1.2.2]
  · rw [h2.2.2.2, h1.1.1 86 (by omega), s1, e 21 (by omega)]
theorem JJ.cs {mi : km_I} (h : JJ mi) : CS mi mi := ⟨FC.rf mi, h.1⟩
theorem JJ.big0 {a m : km_I} (h : JJ a) (h1 : CS a m) : JJ m := h.big h1 (FR.rf m) (h.2.1.mv (fun p _ _ => h1.1.1 p (by omega))) (S0.rf m)
/-! a METHOD that is there -/
def isM (mi : km_I) (x1 x2 : Int32) : Prop := ∃ e b j k, kb b e ∧ x1 = nI e ∧ x2 = nI j ∧ mi b 0 = nI k ∧ j < k ∧ k < 7
theorem bO {e : Nat} {mi : km_I} {K : Nat → km_I → Prop} (he : e < 2) (h : ∀ b, kb b e → K b mi) : X6_buildOf_w (nI e) mi K := by
  have z : nI e = 0 ↔ e = 0 := nI_eq (b := 0) (by omega) (by decide)
  exact ⟨fun c => h 7 (Or.inr ⟨rfl, by rw [z] at c; omega⟩), fun c => h 1 (Or.inl ⟨rfl, z.1 c⟩)⟩
theorem has_x {mi : km_I} {b e : Nat} {x : Int32} {K : Int32 → km_I → Prop} (h : JJ mi) (hbe : kb b e) (h1 : ∀ j k, x = nI j → mi b 0 = nI k → j < k → k < 7 → K 1 mi) (h0 : ¬ isM mi (nI e) x → K 0 mi) : X0_has_w b x mi K := by
  obtain ⟨k, hk, ek⟩ := (h.bi hbe).1
  have hl := hbe.le
  refine ⟨fun c => h0 ?_, fun c => ⟨fun c2 => h0 ?_, fun c2 => ?_⟩⟩
  · rintro ⟨e', b', j, k', hbe', q1, q2, q3, q4, q5⟩
    rw [q2] at c
    exact nI_pos (by omega) c
  · rintro ⟨e', b', j, k', hbe', q1, q2, q3, q4, q5⟩
    have hl' := hbe'.le
    rw [nI_eq (by omega) (by omega)] at q1
    subst q1
    rw [hbe.eq hbe', ek, nI_eq (by omega) (by omega)] at q3
    rw [q2, ek, nI_leI (by omega) (by omega)] at c2
    omega
  · obtain ⟨j, hj, rfl⟩ := nI_of c
    rw [ek, nI_leI (by omega) hj] at c2
    exact h1 j k rfl ek (by omega) hk
theorem cIs {mi : km_I} {x1 x2 : Int32} {K : Int32 → km_I → Prop} (h : JJ mi) (h1 : ∀ e b j k, kb b e → x1 = nI e → x2 = nI j → mi b 0 = nI k → j < k → k < 7 → K 1 mi) (h0 : ¬ isM mi x1 x2 → K 0 mi) : X6_isMethod_w x1 x2 mi K := by
  unfold X6_isMethod_w
  refine kz_within (fun a1 a2 => kz_if1 ?_) (fun o => kz_if0 (h0 ?_))
  · obtain ⟨e, he, rfl⟩ := kz_nb (n := 1) (by decide) a1 a2
    exact bO he (fun b hbe => ⟨hbe.is, has_x h hbe (fun j k q1 q2 q3 q4 => kz_if1 (h1 e b j k hbe rfl q1 q2 q3 q4)) (fun hn => kz_if0 (h0 hn))⟩)
  · rintro ⟨e', b', j, k', hbe', q1, -⟩
    have hl := hbe'.le
    rw [q1] at o
    exact kz_out o (nI_pos' (by omega)) (show nI e' ≤ nI 1 from nI_le (by omega) (by decide))
theorem rIs1 {e j k : Nat} {mi : km_I} {K : Int32 → km_I → Prop} (he : e < 2) (hk : k < 7) (ek : mi 87 e = nI k) (hj : j < k) (hK : K 1 mi) : X7_isMethod_w (nI e) (nI j) mi K := by
  unfold X7_isMethod_w
  refine kz_in (fun _ _ => kz_if1 ⟨vp_in_nI he (by decide), ?_⟩) (fun o => (kz_out o (nI_pos' (by omega)) (show nI e ≤ nI 1 from nI_le (by omega) (by decide))).elim)
  rw [nI_clamp (by omega), ek]
  obtain ⟨k', rfl⟩ : ∃ k', k = k' + 1 := ⟨k - 1, by omega⟩
  rw [nI_pred]
  exact kz_in (fun _ _ => kz_if1 hK) (fun o => (kz_out o (nI_pos' (by omega)) (nI_le (by omega) (by omega))).elim)
theorem rIs0 {mi : km_I} {x1 x2 : Int32} {K : Int32 → km_I → Prop} (h : JJ mi) (hn : ¬ isM mi x1 x2) (hK : K 0 mi) : X7_isMethod_w x1 x2 mi K := by
  unfold X7_isMethod_w
  refine kz_in (fun a1 a2 => kz_if1 ?_) (fun _ => kz_if0 hK)
  obtain ⟨e, he, rfl⟩ := kz_nb (n := 1) (by decide) a1 a2
  obtain ⟨b, hbe⟩ := kb_of (show e < 2 from he)
  obtain ⟨k, hk, ek⟩ := (h.bi hbe).1
  refine ⟨vp_in_nI he (by decide), kz_in (fun b1 b2 => absurd ?_ hn) (fun _ => kz_if0 hK)⟩
  rw [nI_clamp (by omega), (h.jb hbe).1, ek] at b2
  rcases k with _ | k
  · exact absurd (Int32.le_trans b1 b2) (by decide)
  · rw [nI_pred] at b2
    obtain ⟨j, hj, rfl⟩ := kz_nb (n := k) (by omega) b1 b2
    exact ⟨e, b, j, k + 1, hbe, rfl, rfl, ek, by omega, hk⟩
