/-! find: the class -/
theorem nx_and (a b : Nat) : nI a &&& nI b = nI (a &&& b) := by
  apply Int32.toBitVec_inj.1
  show BitVec.ofNat 32 a &&& BitVec.ofNat 32 b = BitVec.ofNat 32 (a &&& b)
  apply BitVec.eq_of_getLsbD_eq
  intro i hi
  simp [hi]
theorem nx_xor (a b : Nat) : nI a ^^^ nI b = nI (a ^^^ b) := by
  apply Int32.toBitVec_inj.1
  show BitVec.ofNat 32 a ^^^ BitVec.ofNat 32 b = BitVec.ofNat 32 (a ^^^ b)
  apply BitVec.eq_of_getLsbD_eq
  intro i hi
  simp [hi]
theorem nx_cnt : ∀ j : Fin 32, (UInt32.ofNat j.val &&& Int32.toUInt32 31).toNat % 32 = j.val := by decide +kernel
theorem kx_ush {k j : Nat} (hk : k < 2 ^ 31) (hj : j < 32) : ((nI k).toUInt32 >>> ((nI j).toUInt32 &&& Int32.toUInt32 31)).toInt32 = nI (k >>> j) := by
  have hs : k >>> j ≤ k := by
    rw [Nat.shiftRight_eq_div_pow]
    exact Nat.div_le_self _ _
  have e2 : UInt32.ofNat k >>> (UInt32.ofNat j &&& Int32.toUInt32 31) = UInt32.ofNat (k >>> j) := by
    apply UInt32.toNat_inj.1
    have h1 : (UInt32.ofNat k).toNat = k := Nat.mod_eq_of_lt (by omega)
    have h2 : (UInt32.ofNat (k >>> j)).toNat = k >>> j := Nat.mod_eq_of_lt (by omega)
    rw [UInt32.toNat_shiftRight, nx_cnt ⟨j, hj⟩, h1, h2]
  show (UInt32.ofNat k >>> (UInt32.ofNat j &&& Int32.toUInt32 31)).toInt32 = _
  rw [e2]
  rfl
theorem kx_of (x : Int32) : ∃ n, n < 2 ^ 32 ∧ x = nI n := ⟨x.toBitVec.toNat, x.toBitVec.isLt, Int32.toBitVec_inj.mp (by show x.toBitVec = BitVec.ofNat 32 x.toBitVec.toNat; simp)⟩
/-- the ones below the lowest bit of k -/
theorem low_lt {k : Nat} (h0 : 0 < k) (h : k < 2 ^ 24) : (k ^^^ 4294967295) &&& (k - 1) < 2 ^ 23 := by
  rcases Nat.lt_or_ge (k - 1) (2 ^ 23) with q | q
  · exact Nat.lt_of_le_of_lt Nat.and_le_right q
  · apply Nat.lt_pow_two_of_testBit
    intro i hi
    rw [Nat.testBit_and, Nat.testBit_xor]
    rcases Nat.eq_or_lt_of_le hi with e | e
    · subst e
      have h1 : k.testBit 23 = true := by
        rw [Nat.testBit_eq_decide_div_mod_eq]
        simp only [decide_eq_true_eq]
        omega
      have h3 : Nat.testBit 4294967295 23 = true := by decide
      rw [h1, h3]
      rfl
    · have h2 : (k - 1).testBit i = false := Nat.testBit_lt_two_pow (Nat.lt_of_lt_of_le (by omega : k - 1 < 2 ^ 24) (Nat.pow_le_pow_right (by decide) e))
      rw [h2, Bool.and_false]
theorem ntz_s {k : Nat} {mi : km_I} {K : Int32 → km_I → Prop} (h0 : 0 < k) (h : k < 2 ^ 24) (hK : ∀ j, j < 24 → K (nI j) mi) : J6_numberOfTrailingZeros_0f7a4_w (nI k) mi K := by
  have e1 : (nI k ^^^ (-1)) &&& (nI k - 1) = nI ((k ^^^ 4294967295) &&& (k - 1)) := by
    rw [show (-1 : Int32) = nI 4294967295 from by decide, nx_xor, show (1 : Int32) = nI 1 from rfl, nx_sub (by omega), nx_and]
  have hv := low_lt h0 h
  generalize (k ^^^ 4294967295) &&& (k - 1) = v at e1 hv
  have b74 : ∀ y1 v', y1 + v' / 2 < 24 → v' < 2 ^ 31 → J6_numberOfTrailingZeros_0f7a4_b74 (nI k) (nI v') (nI y1) mi K := fun y1 v' hh hh2 => by
    unfold J6_numberOfTrailingZeros_0f7a4_b74
    rw [show Int32.toUInt32 1 = (nI 1).toUInt32 from rfl, kx_ush hh2 (by decide), Nat.shiftRight_eq_div_pow, nI_add]
    exact hK _ (by simpa using hh)
  have b62 : ∀ y1 v', v' < 2 ^ 31 → (v' ≤ 4 → y1 + v' / 2 < 24) → (4 < v' → y1 + 2 + v' / 4 / 2 < 24) → J6_numberOfTrailingZeros_0f7a4_b62 (nI k) (nI v') (nI y1) mi K := fun y1 v' hh h1 h2 => by
    unfold J6_numberOfTrailingZeros_0f7a4_b62
    rw [show (4 : Int32) = nI 4 from rfl, nI_leI (by omega) (by omega), show Int32.toUInt32 2 = (nI 2).toUInt32 from rfl, kx_ush hh (by decide), Nat.shiftRight_eq_div_pow, show (2 : Int32) = nI 2 from rfl, nI_add]
    exact ⟨fun c => b74 _ _ (h1 c) hh, fun c => b74 _ _ (h2 (by omega)) (by omega)⟩
  have b49 : ∀ y1 v', v' < 256 + 1 → y1 + 6 < 24 → (v' ≤ 127 ∨ y1 + 9 < 24) → J6_numberOfTrailingZeros_0f7a4_b49 (nI k) (nI v') (nI y1) mi K := fun y1 v' hh h1 h2 => by
    unfold J6_numberOfTrailingZeros_0f7a4_b49
    rw [show (16 : Int32) = nI 16 from rfl, nI_leI (by omega) (by omega), show Int32.toUInt32 4 = (nI 4).toUInt32 from rfl, kx_ush (by omega) (by decide), Nat.shiftRight_eq_div_pow, show (4 : Int32) = nI 4 from rfl, nI_add]
    exact ⟨fun c => b62 _ _ (by omega) (by omega) (by omega), fun c => b62 _ _ (by omega) (by omega) (by omega)⟩
  have b34 : ∀ y1 v', v' < 65536 + 1 → (y1 = 1 ∨ (y1 = 17 ∧ v' ≤ 127)) → J6_numberOfTrailingZeros_0f7a4_b34 (nI k) (nI v') (nI y1) mi K := fun y1 v' hh h1 => by
    unfold J6_numberOfTrailingZeros_0f7a4_b34
    rw [show (256 : Int32) = nI 256 from rfl, nI_leI (by omega) (by omega), show Int32.toUInt32 8 = (nI 8).toUInt32 from rfl, kx_ush (by omega) (by decide), Nat.shiftRight_eq_div_pow, show (8 : Int32) = nI 8 from rfl, nI_add]
    exact ⟨fun c => b49 _ _ (by omega) (by omega) (by omega), fun c => b49 _ _ (by omega) (by omega) (by omega)⟩
  unfold J6_numberOfTrailingZeros_0f7a4_w
  rw [e1]
  refine ⟨fun _ => ⟨fun c => ?_, fun c => ?_⟩, fun c => ?_⟩
  · rw [show (65536 : Int32) = nI 65536 from rfl, nI_leI (by omega) (by omega)] at c
    exact b34 1 v (by omega) (Or.inl rfl)
  · rw [show (65536 : Int32) = nI 65536 from rfl, nI_leI (by omega) (by omega)] at c
    rw [show Int32.toUInt32 16 = (nI 16).toUInt32 from rfl, kx_ush (by omega) (by decide), Nat.shiftRight_eq_div_pow]
    exact b34 17 _ (by omega) (Or.inr ⟨rfl, by omega⟩)
  · rw [show (0 : Int32) = nI 0 from rfl, nI_ltI (by omega) (by omega)] at c
    rw [show v = 0 by omega]
    exact hK 0 (by decide)
theorem CS.tr17 {m0 a c : km_I} (h : CS m0 a) (e : ∀ p, p < 17 ∨ 21 ≤ p → c p = a p) (hp : PO c 17) : CS m0 c := by
  obtain ⟨hF, c1, ⟨c2, c2'⟩, c3, ⟨c4, c4'⟩, c5, c6⟩ := h
  refine ⟨hF.tr ⟨fun p hp => e p (by omega), by rw [e 0 (by omega)], by rw [e 0 (by omega)]⟩, by rw [e 0 (by omega)]; exact c1, ⟨c2.mv (fun p _ _ => e p (by omega)), c2'.mv (fun p _ _ => e p (by omega))⟩, fun t ht => (c3 t ht).mv (fun p _ _ => e p (by have := M_rg ht; omega)), ⟨c4.mv (fun p _ _ => e p (by omega)), hp⟩, by rw [e 21 (by omega)]; exact c5, fun j hj => by rw [e 22 (by omega), e 23 (by omega)]; exact c6 j hj⟩
theorem name_c {m0 mi : km_I} {x1 x2 : Int32} {K : km_I → Prop} (h : CS m0 mi) (h1 : nb x1 4) (h2 : nb x2 4) (hK : ∀ mi', CS m0 mi' → K mi') : X3_name_w 17 x1 x2 mi K := by
  unfold X3_name_w
  refine ⟨h1.vin (by decide) (by decide), fun m6 e6 => ⟨h2.vin (by decide) (by decide), fun m13 e13 => hK _ ?_⟩⟩
  have ho := h.2.2.2.2.1.2
  refine h.tr17 (fun p hp => by rw [e13, km_u_off p (by omega), e6, km_u_off p (by omega)]) (fun p hp => ?_)
  obtain ⟨a1, a2, a3⟩ := ho p hp
  rw [e13, e6]
  refine ⟨?_, by rw [km_u_p (by decide), km_u_p (by decide)]; exact a2, ?_⟩
  · rw [km_u_p (by decide)]
    by_cases e : p = x1.toNatClampNeg
    · subst e; rw [km_u_at]; exact h2
    · rw [km_u_k e]; exact a1
  · by_cases e : p = x2.toNatClampNeg
    · subst e; rw [km_u_at]; exact h1
    · rw [km_u_k e, km_u_p (by decide)]; exact a3
theorem ren_ok : ∀ j, j < 24 → (0 ≤ (km_renL.getD j 0 / 1000).toInt ∧ (km_renL.getD j 0 / 1000).toInt < 4) ∧ (0 ≤ (km_renL.getD j 0 / 100 - km_renL.getD j 0 / 100 / 10 * 10).toInt ∧ (km_renL.getD j 0 / 100 - km_renL.getD j 0 / 100 / 10 * 10).toInt < 4) ∧ (0 ≤ (km_renL.getD j 0 / 10 - km_renL.getD j 0 / 10 / 10 * 10).toInt ∧ (km_renL.getD j 0 / 10 - km_renL.getD j 0 / 10 / 10 * 10).toInt < 4) ∧ (0 ≤ (km_renL.getD j 0 - km_renL.getD j 0 / 10 * 10).toInt ∧ (km_renL.getD j 0 - km_renL.getD j 0 / 10 * 10).toInt < 4) := by decide +kernel
theorem nb4 {x : Int32} (h : 0 ≤ x.toInt ∧ x.toInt < 4) : nb x 4 := nb_in (vp_in_iff.mpr h) (by decide)
theorem takeNames_c {m0 mi : km_I} {j : Nat} {K : km_I → Prop} (h : CS m0 mi) (hj : j < 24) (hK : ∀ mi', CS m0 mi' → K mi') : X3_takeNames_w 17 (km_renL.getD j 0) mi K := by
  obtain ⟨r1, r2, r3, r4⟩ := ren_ok j hj
  unfold X3_takeNames_w
  exact name_c h (nb_0 (by decide)) (nb4 r1) (fun m7 h7 => name_c h7 (nb_of 1 (by decide)) (nb4 r2) (fun m19 h19 => name_c h19 (nb_of 2 (by decide)) (nb4 r3) (fun m31 h31 => name_c h31 (nb_of 3 (by decide)) (nb4 r4) hK)))
theorem and_nb {k : Nat} (z : Int32) : ∃ k', k' ≤ k ∧ nI k &&& z = nI k' := by
  obtain ⟨n, -, rfl⟩ := kx_of z
  exact ⟨k &&& n, Nat.and_le_left, nx_and k n⟩
theorem stillAlike_c {m0 mi : km_I} {E : km_E} {x1 x2 : Int32} {K : Int32 → km_I → Prop} (h : CS m0 mi) (hE : E.2.2.1 1 = 24) (hEf : ∀ j, E.2.2.2.1 1 j = km_renL.getD j 0) (hx : nb x1 (2 ^ 24)) (hK : ∀ r mi', nb r (2 ^ 24) → CS m0 mi' → K r mi') : X6_stillAlike_w E x1 x2 mi K := by
  have loop : ∀ (n i : Nat) (y3 : Int32) (mi : km_I), i ≤ 24 → 24 < n + i → nb y3 (2 ^ 24) → CS m0 mi → X6_stillAlike_b13 E x1 x2 n x1 x2 y3 (nI i) mi K := by
    intro n
    induction n with
    | zero =>
      intro i y3 mi q1 q2
      exact absurd q2 (by omega)
    | succ n ih =>
      intro i y3 mi q1 q2 hy h
      simp only [X6_stillAlike_b13]
      rw [hE, show Int32.ofNat 24 = nI 24 from rfl, nI_leI (by omega) (by omega), nI_clamp (by omega), hEf]
      have nx : i < 24 → ∀ v m, nb v (2 ^ 24) → CS m0 m → X6_stillAlike_b64 E x1 x2 (fun v0 v1 v2 v3 m => X6_stillAlike_b13 E x1 x2 n v0 v1 v2 v3 m K) x1 x2 v (nI i) m K := fun hi v m hv hm => by
        unfold X6_stillAlike_b64
        rw [nI_1]
        exact ih (i + 1) v m (by omega) (by omega) hv hm
      refine ⟨fun _ => hK _ _ hy h, fun c => ⟨fun _ => nx (by omega) _ _ hy h, fun _ => ⟨vp_in_nI (by omega) (by decide), takeNames_c h (by omega) (fun m41 h41 => runsAlike_c h41 h41.2.2.2.2.1.2 (fun r => ⟨fun _ => nx (by omega) _ _ hy h41, fun _ => nx (by omega) _ _ ?_ h41⟩))⟩⟩⟩
      obtain ⟨k, hk, rfl⟩ := hy
      obtain ⟨k', hk', e⟩ := and_nb (k := k) ((1 <<< (nI i &&& 31)) ^^^ (-1))
      rw [e]
      exact nb_of _ (by omega)
  unfold X6_stillAlike_w X6_stillAlike_b9
  exact ⟨fun _ => ⟨25, loop 25 0 0 mi (by omega) (by omega) (nb_0 (by decide)) h⟩, fun _ => ⟨25, loop 25 0 x1 mi (by omega) (by omega) hx h⟩⟩
theorem find_c {m0 mi : km_I} {E : km_E} {x1 x2 : Int32} {K : Int32 → km_I → Prop} (h : CS m0 mi) (hE : E.2.2.1 1 = 24) (hEf : ∀ j, E.2.2.2.1 1 j = km_renL.getD j 0) (hK : ∀ r mi', CS m0 mi' → K r mi') : X6_find_w E x1 x2 mi K := by
  unfold X6_find_w
  refine isPair_c h.2 (fun a b _ _ _ _ => ⟨fun _ => ?_, fun c => absurd c (by decide)⟩) (fun _ => ⟨fun c => absurd rfl c, fun _ => hK _ _ h⟩)
  unfold X3_takeGroups_w
  intro m20 e20
  have h20 : CS m0 m20 := by
    refine h.tr17 (fun p hp => by rw [e20]; funext j; show (if p = 17 + 2 ∧ j < 4 then _ else _) = _; rw [if_neg (by omega)]) (fun p hp => ?_)
    obtain ⟨a1, a2, a3⟩ := h.2.2.2.2.1.2 p hp
    rw [e20]
    refine ⟨?_, ?_, ?_⟩
    · show nb (if 17 + 1 = 17 + 2 ∧ p < 4 then _ else _) 4
      rw [if_neg (by omega)]; exact a1
    · show nb (if 17 + 2 = 17 + 2 ∧ p < 4 then _ else _) 4
      rw [if_pos ⟨rfl, hp⟩]; exact (h.2.2.2.2.1.1 p hp).2.1
    · show nb (if 17 + 3 = 17 + 2 ∧ p < 4 then _ else _) 4
      rw [if_neg (by omega)]; exact a3
  have inner : ∀ (i : Nat) (Z : Int32 → Int32 → Int32 → Int32 → km_I → Prop), (∀ v m, nb v (2 ^ 24) → CS m0 m → Z x1 x2 v (nI (i + 1)) m) → ∀ (n j : Nat) (y3 : Int32) (mi : km_I), j ≤ 9 → 9 < n + j → nb y3 (2 ^ 24) → CS m0 mi → X6_find_b41 E x1 x2 Z n x1 x2 y3 (nI i) (nI j) mi K := by
    intro i Z hZ n
    induction n with
    | zero =>
      intro j y3 mi q1 q2
      exact absurd q2 (by omega)
    | succ n ih =>
      intro j y3 mi q1 q2 hy h
      obtain ⟨k, hk, ek, -⟩ := h.mk
      simp only [X6_find_b41]
      rw [ek, nI_ltI (by omega) (by omega), nI_1]
      have nx : j < 9 → ∀ v m, nb v (2 ^ 24) → CS m0 m → X6_find_b70 E x1 x2 Z (fun v0 v1 v2 v3 v4 m => X6_find_b41 E x1 x2 Z n v0 v1 v2 v3 v4 m K) x1 x2 v (nI i) (nI j) m K := fun hj v m hv hm => by
        unfold X6_find_b70
        rw [nI_1]
        exact ih (j + 1) v m (by omega) (by omega) hv hm
      exact ⟨fun _ => hZ _ _ hy h, fun c => ⟨fun _ => nx (by omega) _ _ hy h, fun _ => runBoth_c h a b (fun r m hm => stillAlike_c hm hE hEf hy (fun r' m' hr' hm' => nx (by omega) _ _ hr' hm'))⟩⟩
  have outer : ∀ (n i : Nat) (y3 : Int32) (mi : km_I), i ≤ 9 → 9 < n + i → nb y3 (2 ^ 24) → CS m0 mi → X6_find_b29 E x1 x2 n x1 x2 y3 (nI i) mi K := by
    intro n
    induction n with
    | zero =>
      intro i y3 mi q1 q2
      exact absurd q2 (by omega)
    | succ n ih =>
      intro i y3 mi q1 q2 hy h
      obtain ⟨k, hk, ek, -⟩ := h.mk
      simp only [X6_find_b29]
      rw [ek, nI_ltI (by omega) (by omega), hE]
      refine ⟨fun _ => ⟨fun c => ?_, fun _ => hK _ _ h⟩, fun _ => ⟨10, inner i _ (fun v m hv hm => ih (i + 1) v m (by omega) (by omega) hv hm) 10 0 y3 mi (by omega) (by omega) hy h⟩⟩
      obtain ⟨z, hz, rfl⟩ := hy
      refine ntz_s ?_ hz (fun j hj => ⟨vp_in_nI hj (by decide), hK _ _ h⟩)
      rcases Nat.eq_zero_or_pos z with e | e
      · exact absurd (by rw [e]; rfl) c
      · exact e
  exact ⟨10, outer 10 0 16777215 m20 (by omega) (by omega) ⟨16777215, by decide, rfl⟩ h20⟩
