/-! both sides do the same OP: they stand beside each other again -/
theorem SIM.put {mi m : km_I} {t b e u l r : Nat} {v gm : Int32} (hbt : b + 6 ≤ t) (h : SIM mi m t b e (u + 1)) : SIM (km_u (km_u (km_u mi (t + 1) 3 gm) (t + 8) (6 * u + r) v) (t + 9) u (nI (l + 1))) (km_u (km_u (km_u m 104 0 gm) 98 u (nI (l + 1))) 100 (6 * u + r) v) t b e (u + 1) := by
  obtain ⟨hs, ⟨d1, d2, d3, d4⟩, ht⟩ := h
  refine ⟨hs.mv (fun p _ _ => by rw [km_u_off p (by omega), km_u_off p (by omega), km_u_off p (by omega)]) (by rw [km_u_p (by omega), km_u_p (by omega), km_u_p (by omega)]) (by rw [km_u_p (by omega), km_u_p (by omega), km_u_p (by omega)]) (fun p _ _ => by rw [km_u_off p (by omega), km_u_off p (by omega), km_u_off p (by omega)]) (by rw [km_u_p (by omega), km_u_p (by omega), km_u_p (by omega)]) (by rw [km_u_p (by omega), km_u_p (by omega), km_u_p (by omega)]), ⟨fun k hk => ?_, fun k hk => ?_, fun k hk => ?_, fun j hj => ?_⟩, ht.mv (by rw [km_u_p (by omega), km_u_p (by omega), km_u_k (by omega)]) (by rw [km_u_off (t + 2) (by omega), km_u_off (t + 2) (by omega), km_u_off (t + 2) (by omega)]) (by rw [km_u_off (t + 3) (by omega), km_u_off (t + 3) (by omega), km_u_off (t + 3) (by omega)]) (fun p _ _ => by rw [km_u_off p (by omega), km_u_off p (by omega), km_u_off p (by omega)])⟩
  · rw [km_u_p (q := 97) (by omega), km_u_p (q := 97) (by omega), km_u_p (q := 97) (by omega), km_u_p (q := t + 10) (by omega), km_u_p (q := t + 10) (by omega), km_u_p (q := t + 10) (by omega)]
    exact d1 k hk
  · obtain ⟨q1, mm, l', a1, a2, a3, a4, a5⟩ := d2 k hk
    refine ⟨?_, mm, l', a1, a2, ?_, ?_, ?_⟩
    · rw [km_u_p (q := 98) (by omega), km_u_k (q := 98) (by omega), km_u_p (q := 98) (by omega), km_u_k (q := t + 9) (by omega), km_u_p (q := t + 9) (by omega), km_u_p (q := t + 9) (by omega)]
      exact q1
    · rw [km_u_p (by omega), km_u_p (by omega), km_u_p (by omega)]; exact a3
    · rw [km_u_k (by omega), km_u_p (by omega), km_u_p (by omega)]; exact a4
    · rw [km_u_p (q := 99) (by omega), km_u_p (q := 99) (by omega), km_u_p (q := 99) (by omega), km_u_p (q := b + 3) (by omega), km_u_p (q := b + 3) (by omega), km_u_p (q := b + 3) (by omega)]; exact a5
  · obtain rfl : k = u := by omega
    rw [km_u_p (q := 98) (by omega), km_u_at, km_u_at]
  · rw [km_u_p (q := t + 8) (by omega)]
    by_cases ej : j = 6 * u + r
    · rw [ej, km_u_at, km_u_at]
    · rw [km_u_k (q := 100) ej, km_u_p (q := 100) (by omega), km_u_p (q := 100) (by omega), km_u_k (q := t + 8) ej, km_u_p (q := t + 8) (by omega)]
      exact d4 j hj
theorem SIM.line {mi m : km_I} {t b e u : Nat} {w w0 gm : Int32} (hbt : b + 6 ≤ t) (h : SIM mi m t b e (u + 1)) : SIM (km_u (km_u mi (t + 1) 3 gm) (t + 9) u w) (km_u (km_u (km_u m 104 0 gm) 98 u w0) 98 u w) t b e (u + 1) := by
  obtain ⟨hs, ⟨d1, d2, d3, d4⟩, ht⟩ := h
  refine ⟨hs.mv (fun p _ _ => by rw [km_u_off p (by omega), km_u_off p (by omega)]) (by rw [km_u_p (by omega), km_u_p (by omega)]) (by rw [km_u_p (by omega), km_u_p (by omega)]) (fun p _ _ => by rw [km_u_off p (by omega), km_u_off p (by omega), km_u_off p (by omega)]) (by rw [km_u_p (by omega), km_u_p (by omega), km_u_p (by omega)]) (by rw [km_u_p (by omega), km_u_p (by omega), km_u_p (by omega)]), ⟨fun k hk => ?_, fun k hk => ?_, fun k hk => ?_, fun j hj => ?_⟩, ht.mv (by rw [km_u_p (by omega), km_u_k (by omega)]) (by rw [km_u_off (t + 2) (by omega), km_u_off (t + 2) (by omega)]) (by rw [km_u_off (t + 3) (by omega), km_u_off (t + 3) (by omega)]) (fun p _ _ => by rw [km_u_off p (by omega), km_u_off p (by omega), km_u_off p (by omega)])⟩
  · rw [km_u_p (q := 97) (by omega), km_u_p (q := 97) (by omega), km_u_p (q := 97) (by omega), km_u_p (q := t + 10) (by omega), km_u_p (q := t + 10) (by omega)]
    exact d1 k hk
  · obtain ⟨q1, mm, l', a1, a2, a3, a4, a5⟩ := d2 k hk
    refine ⟨?_, mm, l', a1, a2, ?_, ?_, ?_⟩
    · rw [km_u_k (q := 98) (by omega), km_u_k (q := 98) (by omega), km_u_p (q := 98) (by omega), km_u_k (q := t + 9) (by omega), km_u_p (q := t + 9) (by omega)]
      exact q1
    · rw [km_u_p (by omega), km_u_p (by omega)]; exact a3
    · rw [km_u_k (by omega), km_u_p (by omega)]; exact a4
    · rw [km_u_p (q := 99) (by omega), km_u_p (q := 99) (by omega), km_u_p (q := 99) (by omega), km_u_p (q := b + 3) (by omega), km_u_p (q := b + 3) (by omega)]; exact a5
  · obtain rfl : k = u := by omega
    rw [km_u_at, km_u_at]
  · rw [km_u_p (q := 100) (by omega), km_u_p (q := 100) (by omega), km_u_p (q := 100) (by omega), km_u_p (q := t + 8) (by omega), km_u_p (q := t + 8) (by omega)]
    exact d4 j hj
theorem SIM.tell {mi m : km_I} {t b e u l k : Nat} {p v w gm : Int32} (hbt : b + 6 ≤ t) (h : SIM mi m t b e (u + 1)) (e5 : mi (t + 1) 5 = nI k) (hk : k < 40) : SIM (km_u (km_u (km_u (km_u (km_u mi (t + 1) 3 gm) (t + 2) k p) (t + 3) k v) (t + 1) 5 (nI (k + 1))) (t + 9) u (nI (l + 1))) (km_u (km_u (km_u (km_u (km_u (km_u m 104 0 gm) 98 u (nI (l + 1))) 107 k p) 108 k v) 109 k w) 106 0 (nI (k + 1))) t b e (u + 1) := by
  obtain ⟨hs, ⟨d1, d2, d3, d4⟩, ht1, ht2⟩ := h
  refine ⟨hs.mv (fun p _ _ => by rw [km_u_off p (by omega), km_u_off p (by omega), km_u_off p (by omega), km_u_off p (by omega), km_u_off p (by omega)]) (by rw [km_u_p (by omega), km_u_p (by omega), km_u_p (by omega), km_u_p (by omega), km_u_p (by omega)]) (by rw [km_u_p (by omega), km_u_p (by omega), km_u_p (by omega), km_u_p (by omega), km_u_p (by omega)]) (fun p _ _ => by rw [km_u_off p (by omega), km_u_off p (by omega), km_u_off p (by omega), km_u_off p (by omega), km_u_off p (by omega), km_u_off p (by omega)]) (by rw [km_u_p (by omega), km_u_p (by omega), km_u_p (by omega), km_u_p (by omega), km_u_p (by omega), km_u_p (by omega)]) (by rw [km_u_p (by omega), km_u_p (by omega), km_u_p (by omega), km_u_p (by omega), km_u_p (by omega), km_u_p (by omega)]), ⟨fun k' hk' => ?_, fun k' hk' => ?_, fun k' hk' => ?_, fun j hj => ?_⟩, ?_, fun j k' q1 q2 q3 => ?_⟩
  · rw [km_u_p (q := 97) (by omega), km_u_p (q := 97) (by omega), km_u_p (q := 97) (by omega), km_u_p (q := 97) (by omega), km_u_p (q := 97) (by omega), km_u_p (q := 97) (by omega), km_u_p (q := t + 10) (by omega), km_u_p (q := t + 10) (by omega), km_u_p (q := t + 10) (by omega), km_u_p (q := t + 10) (by omega), km_u_p (q := t + 10) (by omega)]
    exact d1 k' hk'
  · obtain ⟨q1, mm, l', a1, a2, a3, a4, a5⟩ := d2 k' hk'
    refine ⟨?_, mm, l', a1, a2, ?_, ?_, ?_⟩
    · rw [km_u_p (q := 98) (by omega), km_u_p (q := 98) (by omega), km_u_p (q := 98) (by omega), km_u_p (q := 98) (by omega), km_u_k (q := 98) (by omega), km_u_p (q := 98) (by omega), km_u_k (q := t + 9) (by omega), km_u_p (q := t + 9) (by omega), km_u_p (q := t + 9) (by omega), km_u_p (q := t + 9) (by omega), km_u_p (q := t + 9) (by omega)]
      exact q1
    · rw [km_u_p (by omega), km_u_p (by omega), km_u_p (by omega), km_u_p (by omega), km_u_p (by omega)]; exact a3
    · rw [km_u_k (by omega), km_u_p (by omega), km_u_p (by omega), km_u_p (by omega), km_u_p (by omega)]; exact a4
    · rw [km_u_p (q := 99) (by omega), km_u_p (q := 99) (by omega), km_u_p (q := 99) (by omega), km_u_p (q := 99) (by omega), km_u_p (q := 99) (by omega), km_u_p (q := 99) (by omega), km_u_p (q := b + 3) (by omega), km_u_p (q := b + 3) (by omega), km_u_p (q := b + 3) (by omega), km_u_p (q := b + 3) (by omega), km_u_p (q := b + 3) (by omega)]; exact a5
  · obtain rfl : k' = u := by omega
    rw [km_u_p (q := 98) (by omega), km_u_p (q := 98) (by omega), km_u_p (q := 98) (by omega), km_u_p (q := 98) (by omega), km_u_at, km_u_at]
  · rw [km_u_p (q := 100) (by omega), km_u_p (q := 100) (by omega), km_u_p (q := 100) (by omega), km_u_p (q := 100) (by omega), km_u_p (q := 100) (by omega), km_u_p (q := 100) (by omega), km_u_p (q := t + 8) (by omega), km_u_p (q := t + 8) (by omega), km_u_p (q := t + 8) (by omega), km_u_p (q := t + 8) (by omega), km_u_p (q := t + 8) (by omega)]
    exact d4 j hj
  · rw [km_u_at, km_u_p (by omega), km_u_at]
  · rw [km_u_p (by omega), km_u_at, nI_eq (by omega) (by omega)] at q1
    rw [km_u_p (q := 107) (by omega), km_u_p (q := 107) (by omega), km_u_p (q := 107) (by omega), km_u_p (q := 108) (by omega), km_u_p (q := 108) (by omega), km_u_p (q := t + 2) (by omega), km_u_p (q := t + 2) (by omega), km_u_p (q := t + 2) (by omega), km_u_p (q := t + 3) (by omega), km_u_p (q := t + 3) (by omega)]
    by_cases ej : j = k
    · rw [ej, km_u_at, km_u_at, km_u_at, km_u_at]
      exact ⟨rfl, rfl⟩
    · have z := ht2 j k e5 (by omega) (by omega)
      rw [km_u_k (q := 107) ej, km_u_p (q := 107) (by omega), km_u_p (q := 107) (by omega), km_u_k (q := 108) ej, km_u_p (q := 108) (by omega), km_u_p (q := 108) (by omega), km_u_p (q := 108) (by omega), km_u_k (q := t + 2) ej, km_u_p (q := t + 2) (by omega), km_u_k (q := t + 3) ej, km_u_p (q := t + 3) (by omega), km_u_p (q := t + 3) (by omega)]
      exact z
theorem SIM.call {mi mi' m m' : km_I} {t b e u mm l : Nat} {x1 x2 x3 x4 gm : Int32} (hbt : b + 6 ≤ t) (h : SIM mi m t b e (u + 1)) (hm : mm < 6) (hl : l < 24) (e1 : mi (t + 10) u = nI mm) (hll : mi (t + 9) u = nI l) (ex : x4 = mi (b + 3) (24 * mm + l)) (hc : EC (km_u mi (t + 1) 3 gm) mi' t (u + 1) x1 x2 x3) (hr : ER (km_u (km_u m 104 0 gm) 98 u (nI (l + 1))) m' (u + 1) x1 x2 x3 x4) : SIM mi' m' t b e (u + 2) := by
  obtain ⟨hs, ⟨d1, d2, d3, d4⟩, ht⟩ := h
  obtain ⟨c1, c2, c3, c4, c5, c6, c7⟩ := hc
  obtain ⟨r1, r2, r3, r4, r5, r6, r7⟩ := hr
  have ob : ∀ p, b ≤ p → p < b + 6 → mi' p = mi p := fun p h1 h2 => by rw [c4 p (by omega) (by omega) (by omega) (by omega) (by omega), km_u_off p (by omega)]
  refine ⟨hs.mv ob (by rw [c2 1 (by omega), km_u_p (by omega)]) (by rw [c2 6 (by omega), km_u_p (by omega)]) (fun p _ _ => by rw [r3 p (by omega) (by omega) (by omega) (by omega) (by omega) (by omega), km_u_off p (by omega), km_u_off p (by omega)]) (by rw [r2 1 (by omega), km_u_p (by omega), km_u_p (by omega)]) (by rw [r2 19 (by omega), km_u_p (by omega), km_u_p (by omega)]), ⟨fun k hk => ?_, fun k hk => ?_, fun k hk => ?_, fun j hj => ?_⟩, ht.mv (by rw [c3 5 (by omega), km_u_k (by omega)]) (by rw [c4 (t + 2) (by omega) (by omega) (by omega) (by omega) (by omega), km_u_off (t + 2) (by omega)]) (by rw [c4 (t + 3) (by omega) (by omega) (by omega) (by omega) (by omega), km_u_off (t + 3) (by omega)]) (fun p _ _ => by rw [r3 p (by omega) (by omega) (by omega) (by omega) (by omega) (by omega), km_u_off p (by omega), km_u_off p (by omega)])⟩
  · rw [r4 k, c5 k]
    by_cases ek : k = u + 1
    · rw [if_pos ek, if_pos ek]
    · rw [if_neg ek, if_neg ek, km_u_p (q := 97) (by omega), km_u_p (q := 97) (by omega), km_u_p (q := t + 10) (by omega)]
      exact d1 k (by omega)
  · rw [r5 k, if_neg (by omega), c6 k, if_neg (by omega), c5 k, if_neg (by omega), r6 (k + 1), km_u_p (q := t + 9) (by omega), km_u_p (q := t + 10) (by omega)]
    by_cases ek : k = u
    · subst ek
      refine ⟨by rw [km_u_at, hll, nI_1], mm, l, hm, hl, e1, hll, ?_⟩
      rw [if_pos rfl, ob (b + 3) (by omega) (by omega)]
      exact ex
    · obtain ⟨q1, mm', l', a1, a2, a3, a4, a5⟩ := d2 k (by omega)
      refine ⟨by rw [km_u_k (q := 98) ek, km_u_p (q := 98) (by omega)]; exact q1, mm', l', a1, a2, a3, a4, ?_⟩
      rw [if_neg (by omega), ob (b + 3) (by omega) (by omega), km_u_p (q := 99) (by omega), km_u_p (q := 99) (by omega)]
      exact a5
  · obtain rfl : k = u + 1 := by omega
    rw [r5, c6, if_pos rfl, if_pos rfl]
  · rw [r7 j, c7 j]
    unfold RG
    by_cases a : 6 * (u + 1) ≤ j ∧ j < 6 * (u + 1) + 6
    · rw [if_pos a, if_pos a]
    · rw [if_neg a, if_neg a, km_u_p (q := 100) (by omega), km_u_p (q := 100) (by omega), km_u_p (q := t + 8) (by omega)]
      exact d4 j (by omega)
/-- without the top METHOD's LINE -/
def SIP (mi m : km_I) (t b e u : Nat) : Prop := ST mi m t b e ∧ ((∀ k, k < u → m 97 k = mi (t + 10) k) ∧ (∀ k, k + 1 < u → m 98 k = mi (t + 9) k + 1 ∧ ∃ mm l, mm < 6 ∧ l < 24 ∧ mi (t + 10) k = nI mm ∧ mi (t + 9) k = nI l ∧ m 99 (k + 1) = mi (b + 3) (24 * mm + l)) ∧ ∀ j, j < 6 * u → m 100 j = mi (t + 8) j) ∧ TE mi m t
theorem SIM.ip {mi m : km_I} {t b e u : Nat} (h : SIM mi m t b e u) : SIP mi m t b e u := ⟨h.1, ⟨h.2.1.1, h.2.1.2.1, h.2.1.2.2.2⟩, h.2.2⟩
theorem SIM.op {mi m : km_I} {t b e u : Nat} {w0 gm : Int32} (hbt : b + 6 ≤ t) (h : SIM mi m t b e (u + 1)) : SIP (km_u mi (t + 1) 3 gm) (km_u (km_u m 104 0 gm) 98 u w0) t b e (u + 1) := by
  obtain ⟨hs, ⟨d1, d2, d3, d4⟩, ht⟩ := h
  refine ⟨hs.mv (fun p _ _ => by rw [km_u_off p (by omega)]) (by rw [km_u_p (by omega)]) (by rw [km_u_p (by omega)]) (fun p _ _ => by rw [km_u_off p (by omega), km_u_off p (by omega)]) (by rw [km_u_p (by omega), km_u_p (by omega)]) (by rw [km_u_p (by omega), km_u_p (by omega)]), ⟨fun k hk => ?_, fun k hk => ?_, fun j hj => ?_⟩, ht.mv (by rw [km_u_k (by omega)]) (by rw [km_u_off (t + 2) (by omega)]) (by rw [km_u_off (t + 3) (by omega)]) (fun p _ _ => by rw [km_u_off p (by omega), km_u_off p (by omega)])⟩
  · rw [km_u_p (q := 97) (by omega), km_u_p (q := 97) (by omega), km_u_p (q := t + 10) (by omega)]
    exact d1 k hk
  · obtain ⟨q1, mm, l', a1, a2, a3, a4, a5⟩ := d2 k hk
    refine ⟨?_, mm, l', a1, a2, ?_, ?_, ?_⟩
    · rw [km_u_k (q := 98) (by omega), km_u_p (q := 98) (by omega), km_u_p (q := t + 9) (by omega)]
      exact q1
    · rw [km_u_p (by omega)]; exact a3
    · rw [km_u_p (by omega)]; exact a4
    · rw [km_u_p (q := 99) (by omega), km_u_p (q := 99) (by omega), km_u_p (q := b + 3) (by omega)]; exact a5
  · rw [km_u_p (q := 100) (by omega), km_u_p (q := 100) (by omega), km_u_p (q := t + 8) (by omega)]
    exact d4 j hj
theorem SIP.pop {mi m : km_I} {t b e u l r : Nat} {v w : Int32} (hbt : b + 6 ≤ t) (h : SIP mi m t b e (u + 2)) (hll : mi (t + 9) u = nI l) : SIM (km_u (km_u (km_u mi t 8 w) (t + 8) (6 * u + r) v) (t + 9) u (nI (l + 1))) (km_u (km_u m 86 13 w) 100 (6 * u + r) v) t b e (u + 1) := by
  obtain ⟨hs, ⟨d1, d2, d4⟩, ht⟩ := h
  refine ⟨hs.mv (fun p _ _ => by rw [km_u_off p (by omega), km_u_off p (by omega), km_u_off p (by omega)]) (by rw [km_u_p (by omega), km_u_p (by omega), km_u_k (by omega)]) (by rw [km_u_p (by omega), km_u_p (by omega), km_u_k (by omega)]) (fun p _ _ => by rw [km_u_off p (by omega), km_u_off p (by omega)]) (by rw [km_u_p (by omega), km_u_k (by omega)]) (by rw [km_u_p (by omega), km_u_k (by omega)]), ⟨fun k hk => ?_, fun k hk => ?_, fun k hk => ?_, fun j hj => ?_⟩, ht.mv (by rw [km_u_p (by omega), km_u_p (by omega), km_u_p (by omega)]) (by rw [km_u_off (t + 2) (by omega), km_u_off (t + 2) (by omega), km_u_off (t + 2) (by omega)]) (by rw [km_u_off (t + 3) (by omega), km_u_off (t + 3) (by omega), km_u_off (t + 3) (by omega)]) (fun p _ _ => by rw [km_u_off p (by omega), km_u_off p (by omega)])⟩
  · rw [km_u_p (q := 97) (by omega), km_u_p (q := 97) (by omega), km_u_p (q := t + 10) (by omega), km_u_p (q := t + 10) (by omega), km_u_p (q := t + 10) (by omega)]
    exact d1 k (by omega)
  · obtain ⟨q1, mm, l', a1, a2, a3, a4, a5⟩ := d2 k (by omega)
    refine ⟨?_, mm, l', a1, a2, ?_, ?_, ?_⟩
    · rw [km_u_p (q := 98) (by omega), km_u_p (q := 98) (by omega), km_u_k (q := t + 9) (by omega), km_u_p (q := t + 9) (by omega), km_u_p (q := t + 9) (by omega)]
      exact q1
    · rw [km_u_p (by omega), km_u_p (by omega), km_u_p (by omega)]; exact a3
    · rw [km_u_k (by omega), km_u_p (by omega), km_u_p (by omega)]; exact a4
    · rw [km_u_p (q := 99) (by omega), km_u_p (q := 99) (by omega), km_u_p (q := b + 3) (by omega), km_u_p (q := b + 3) (by omega), km_u_p (q := b + 3) (by omega)]; exact a5
  · obtain rfl : k = u := by omega
    rw [km_u_p (q := 98) (by omega), km_u_p (q := 98) (by omega), km_u_at, (d2 k (by omega)).1, hll, nI_1]
  · rw [km_u_p (q := t + 8) (by omega)]
    by_cases ej : j = 6 * u + r
    · rw [ej, km_u_at, km_u_at]
    · rw [km_u_k (q := 100) ej, km_u_p (q := 100) (by omega), km_u_k (q := t + 8) ej, km_u_p (q := t + 8) (by omega)]
      exact d4 j (by omega)
