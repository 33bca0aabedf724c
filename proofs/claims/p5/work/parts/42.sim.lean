/-! the class's RUN and the reference's, held beside each other -/
def ST (mi m : km_I) (t b e : Nat) : Prop := (∀ j, j < 6 → m 88 (6 * e + j) = mi (b + 1) j) ∧ (∀ j, j < 144 → m 89 (144 * e + j) = mi (b + 2) j ∧ m 90 (144 * e + j) = mi (b + 3) j ∧ m 91 (144 * e + j) = mi (b + 4) j ∧ m 92 (144 * e + j) = mi (b + 5) j) ∧ m 87 e = mi b 0 ∧ m 86 1 = mi t 1 ∧ m 86 19 = 0 ∧ mi t 6 = 0
def TE (mi m : km_I) (t : Nat) : Prop := m 106 0 = mi (t + 1) 5 ∧ ∀ j k, mi (t + 1) 5 = nI k → j < k → k ≤ 40 → m 107 j = mi (t + 2) j ∧ m 108 j = mi (t + 3) j
def SD (mi m : km_I) (t b u : Nat) : Prop := (∀ k, k < u → m 97 k = mi (t + 10) k) ∧ (∀ k, k + 1 < u → m 98 k = mi (t + 9) k + 1 ∧ ∃ mm l, mm < 6 ∧ l < 24 ∧ mi (t + 10) k = nI mm ∧ mi (t + 9) k = nI l ∧ m 99 (k + 1) = mi (b + 3) (24 * mm + l)) ∧ (∀ k, k + 1 = u → m 98 k = mi (t + 9) k) ∧ ∀ j, j < 6 * u → m 100 j = mi (t + 8) j
def SIM (mi m : km_I) (t b e u : Nat) : Prop := ST mi m t b e ∧ SD mi m t b u ∧ TE mi m t
def FIN (mi m : km_I) (t : Nat) : Prop := m 101 0 = mi (t + 1) 0 ∧ TE mi m t
theorem ST.mv {a c x y : km_I} {t b e : Nat} (h : ST a x t b e) (e1 : ∀ p, b ≤ p → p < b + 6 → c p = a p) (e2 : c t 1 = a t 1) (e3 : c t 6 = a t 6) (e4 : ∀ p, 87 ≤ p → p < 93 → y p = x p) (e5 : y 86 1 = x 86 1) (e6 : y 86 19 = x 86 19) : ST c y t b e := by
  obtain ⟨h1, h2, h3, h4, h5, h6⟩ := h
  refine ⟨fun j hj => by rw [e4 88 (by omega) (by omega), e1 (b + 1) (by omega) (by omega)]; exact h1 j hj, fun j hj => ?_, by rw [e4 87 (by omega) (by omega), e1 b (by omega) (by omega)]; exact h3, by rw [e5, e2]; exact h4, by rw [e6]; exact h5, by rw [e3]; exact h6⟩
  rw [e4 89 (by omega) (by omega), e4 90 (by omega) (by omega), e4 91 (by omega) (by omega), e4 92 (by omega) (by omega), e1 (b + 2) (by omega) (by omega), e1 (b + 3) (by omega) (by omega), e1 (b + 4) (by omega) (by omega), e1 (b + 5) (by omega) (by omega)]
  exact h2 j hj
theorem TE.mv {a c x y : km_I} {t : Nat} (h : TE a x t) (e1 : c (t + 1) 5 = a (t + 1) 5) (e2 : c (t + 2) = a (t + 2)) (e3 : c (t + 3) = a (t + 3)) (e4 : ∀ p, 106 ≤ p → p ≤ 108 → y p = x p) : TE c y t := by
  refine ⟨by rw [e4 106 (by omega) (by omega), e1]; exact h.1, fun j k q1 q2 q3 => ?_⟩
  rw [e1] at q1
  rw [e4 107 (by omega) (by omega), e4 108 (by omega) (by omega), e2, e3]
  exact h.2 j k q1 q2 q3
/-- a METHOD is under way in the class's machine (u + 1 of them, g OPS begun); the class will end as mi': then so does the reference, from whatever stands beside it -/
def RS (t b : Nat) (mi mi' : km_I) (u g : Nat) : Prop := ∀ (mr m : km_I) (e : Nat), kb b e → RM False mr m 0 (u + 1) g → m 101 0 = -1 → SIM mi m t b e (u + 1) → ∀ n, 10 * (100 - g) + u + 3 ≤ n → ∀ (x1 x2 x3 x4 x5 y3 y4 y5 : Int32) (Kr : km_I → Prop), (∀ m' u' g', RM False mr m' 0 u' g' → FIN mi' m' t → Kr m') → X7_play_b69 x1 x2 x3 x4 x5 n (nI 0) (nI e) y3 y4 y5 m Kr
theorem rp_end {e n : Nat} {m : km_I} {x1 x2 x3 x4 x5 y3 y4 y5 : Int32} {Kr : km_I → Prop} (h : 0 ≤ m 101 0) (hK : Kr m) : X7_play_b69 x1 x2 x3 x4 x5 (n + 1) (nI 0) (nI e) y3 y4 y5 m Kr := by
  simp only [X7_play_b69]
  rw [nI_clamp (n := 0) (by omega)]
  exact ⟨v03, fun _ => hK, fun c => absurd h c⟩
theorem rp {mr m : km_I} {e u g mm l z n : Nat} {x1 x2 x3 x4 x5 y3 y4 y5 : Int32} {Kr : km_I → Prop} (h : RM False mr m 0 (u + 1) g) (he : e < 2) (h101 : m 101 0 = -1) (em : m 97 u = nI mm) (hm : mm < 6) (el : m 98 u = nI l) (hl : l < 25) (ez : m 88 (6 * e + mm) = nI z) (hz : z < 25)
    (k1 : l < z → g < 100 → X7_act_w (nI (144 * e + (24 * mm + l))) (nI u) (nI e) (km_u (km_u m 104 0 (nI (g + 1))) 98 u (nI (l + 1))) (fun m' => X7_play_b69 x1 x2 x3 x4 x5 n (nI 0) (nI e) y3 y4 y5 m' Kr))
    (k2 : l < z → g = 100 → X7_play_b69 x1 x2 x3 x4 x5 n (nI 0) (nI e) y3 y4 y5 (km_u m 101 0 2) Kr)
    (k3 : z ≤ l → X7_returns_w 0 m (fun m' => X7_play_b69 x1 x2 x3 x4 x5 n (nI 0) (nI e) y3 y4 y5 m' Kr)) : X7_play_b69 x1 x2 x3 x4 x5 (n + 1) (nI 0) (nI e) y3 y4 y5 m Kr := by
  have hu := h.2.2.2.1.1
  have h13 := h.2.2.2.1.2.1
  have hg := h.2.2.2.2.2
  have v8 : vp_in (nI u) 8 := vp_in_nI (by omega) (by decide)
  have v : vp_in (nI 0) 3 := v03
  simp only [X7_play_b69, X7_play_b186]
  rw [nI_clamp (n := 0) (by omega), h101]
  refine ⟨v, fun c => absurd c (by decide), fun ce => ?_⟩
  rw [h13, nI_pred, nI_clamp (n := u) (by omega), em, el, show (6 : Int32) = nI 6 from rfl, nx_mul, nI_add, nI_clamp (n := 6 * e + mm) (by omega), ez, nI_ltI (by omega) (by omega), hg.2, show (24 : Int32) = nI 24 from rfl, nx_mul, nI_add, nI_1, nI_1]
  have z100 : nI g = 100 ↔ g = 100 := nI_eq (b := 100) (by omega) (by decide)
  rw [z100]
  refine ⟨v8, v8, vp_in_nI (by omega) (by decide), fun c1 => ⟨v, fun c2 => ⟨v, v, fun m159 e159 => ⟨v8, fun m170 e170 => ?_⟩⟩, fun c2 => ⟨v, fun m146 e146 => ?_⟩⟩, fun c1 => k3 (by omega)⟩
  · rw [e170, e159, show 24 * (6 * e + mm) + l = 144 * e + (24 * mm + l) by omega]
    exact k1 c1 (by omega)
  · rw [e146]
    exact k2 c1 c2
/-! what the OPS compute -/
def RES (k : Nat) (s t : Int32) : Int32 := if k = 2 then s + t else if k = 3 then s - t else if k = 4 then s * t else if k = 5 then s / t else if k = 6 then s - s / t * t else if k = 7 then s &&& t else if k = 8 then s ^^^ t else if t ≤ s then 0 else 1
theorem result_x {k : Nat} {s t : Int32} {mi : km_I} {K : Int32 → km_I → Prop} (h2 : 2 ≤ k) (h9 : k ≤ 9) (h0 : k = 5 ∨ k = 6 → ¬ t = 0) (hK : K (RES k s t) mi) : X1_result_w (nI k) s t mi K := by
  unfold X1_result_w
  rw [nI_toInt (by omega)]
  refine ⟨fun c => absurd c (by omega), fun c => ?_, fun c => ?_, fun c => ?_, fun c => ?_, fun c => ?_, fun c => ?_, fun c => ?_, fun c => ?_⟩
  · obtain rfl : k = 2 := by omega
    exact hK
  · obtain rfl : k = 3 := by omega
    exact hK
  · obtain rfl : k = 4 := by omega
    exact hK
  · obtain rfl : k = 5 := by omega
    exact ⟨fun n => ⟨n, hK⟩, fun e => absurd e (h0 (Or.inl rfl))⟩
  · obtain rfl : k = 6 := by omega
    exact ⟨fun n => ⟨n, hK⟩, fun e => absurd e (h0 (Or.inr rfl))⟩
  · obtain rfl : k = 7 := by omega
    exact hK
  · obtain rfl : k = 8 := by omega
    exact hK
  · obtain rfl : k = 9 := by omega
    have e : RES 9 s t = if t ≤ s then 0 else 1 := rfl
    rw [e] at hK
    refine ⟨fun q => ?_, fun q => ?_⟩
    · rw [if_pos q] at hK; exact hK
    · rw [if_neg q] at hK; exact hK
theorem reckoned_x {k : Nat} {s t : Int32} {mi : km_I} {K : Int32 → km_I → Prop} (h2 : 2 ≤ k) (h9 : k ≤ 9) (h0 : k = 5 ∨ k = 6 → ¬ t = 0) (hK : K (RES k s t) mi) : X7_reckoned_w (nI k) s t mi K := by
  unfold X7_reckoned_w
  rw [nI_toInt (by omega)]
  refine ⟨fun c => ?_, fun c => ?_, fun c => ?_, fun c => ?_, fun c => ?_, fun c => ?_, fun c => ?_, fun c => ?_⟩
  · obtain rfl : k = 9 := by omega
    have e : RES 9 s t = if t ≤ s then 0 else 1 := rfl
    rw [e] at hK
    refine ⟨fun q => ?_, fun q => ?_⟩
    · rw [if_pos q] at hK; exact hK
    · rw [if_neg q] at hK; exact hK
  · obtain rfl : k = 2 := by omega
    exact hK
  · obtain rfl : k = 3 := by omega
    exact hK
  · obtain rfl : k = 4 := by omega
    exact hK
  · obtain rfl : k = 5 := by omega
    exact ⟨h0 (Or.inl rfl), hK⟩
  · obtain rfl : k = 6 := by omega
    exact ⟨h0 (Or.inr rfl), hK⟩
  · obtain rfl : k = 7 := by omega
    exact hK
  · obtain rfl : k = 8 := by omega
    exact hK
/-! exact rows of the class -/
theorem get_x {mi : km_I} {t b u r : Nat} {K : Int32 → km_I → Prop} (h8 : mi t 8 = nI (u + 1)) (hu : u < 8) (hr : r < 6) (hK : K (mi (t + 8) (6 * u + r)) mi) : X1_get_w t b (nI r) mi K := by
  unfold X1_get_w
  rw [h8, reg_ix hu hr, nI_clamp (by omega), Nat.mul_comm u 6]
  exact ⟨vp_in_nI (by omega) (by decide), hK⟩
theorem put_x {mi : km_I} {t b u r l : Nat} {v : Int32} {K : km_I → Prop} (h8 : mi t 8 = nI (u + 1)) (hu : u < 8) (hr : r < 6) (hll : mi (t + 9) u = nI l) (hK : K (km_u (km_u mi (t + 8) (6 * u + r) v) (t + 9) u (nI (l + 1)))) : X1_put_w t b (nI r) v mi K := by
  unfold X1_put_w
  rw [h8, reg_ix hu hr, nI_clamp (by omega), Nat.mul_comm u 6]
  refine ⟨vp_in_nI (by omega) (by decide), fun m16 e16 => ?_⟩
  have f8 : m16 t 8 = nI (u + 1) := by rw [e16, km_u_p (by omega)]; exact h8
  have f9 : m16 (t + 9) u = nI l := by rw [e16, km_u_p (by omega)]; exact hll
  rw [f8, nI_pred, nI_clamp (by omega), f9, nI_1]
  refine ⟨vp_in_nI hu (by decide), vp_in_nI hu (by decide), fun m31 e31 => ?_⟩
  rw [e31, e16]
  exact hK
theorem stop_x {mi : km_I} {t b : Nat} {x1 x2 x3 : Int32} {K : km_I → Prop} (hK : K (km_u (km_u (km_u (km_u mi t 8 0) (t + 1) 0 x1) (t + 1) 1 x2) (t + 1) 2 x3)) : X1_stop_w t b x1 x2 x3 mi K := by
  unfold X1_stop_w
  intro m2 e2
  rw [e2]
  exact finish_s hK
/-- a machine that has been stopped -/
theorem MS.stop {m0 mi : km_I} {t b u : Nat} {x1 x2 x3 : Int32} (h : MS m0 mi t b u) (hbt : b + 6 ≤ t) : MS m0 (km_u (km_u (km_u (km_u mi t 8 0) (t + 1) 0 x1) (t + 1) 1 x2) (t + 1) 2 x3) t b 0 := by
  have h0 : MS m0 (km_u mi t 8 0) t b 0 := ⟨h.1.u (by omega) (by omega) (by omega), h.2.1.u (by omega) (by omega) (by omega), ⟨by omega, km_u_at _ _ _ _, fun f hf => absurd hf (by omega), fun f hf => absurd hf (by omega)⟩, h.2.2.2.u (by omega)⟩
  exact ((h0.u hbt (by omega) (by omega) (by omega) (by omega) (by omega) (by omega) (by omega) (by omega)).u hbt (by omega) (by omega) (by omega) (by omega) (by omega) (by omega) (by omega) (by omega)).u hbt (by omega) (by omega) (by omega) (by omega) (by omega) (by omega) (by omega) (by omega)
/-- an OP has been begun -/
theorem MS.op {m0 mi : km_I} {t b u : Nat} {v : Int32} (h : MS m0 mi t b u) (hbt : b + 6 ≤ t) : MS m0 (km_u mi (t + 1) 3 v) t b u := h.u hbt (by omega) (by omega) (by omega) (by omega) (by omega) (by omega) (by omega) (by omega)
/-- a REGISTER has been written -/
theorem MS.rg {m0 mi : km_I} {t b u j : Nat} {v : Int32} (h : MS m0 mi t b u) (hbt : b + 6 ≤ t) : MS m0 (km_u mi (t + 8) j v) t b u := h.u hbt (by omega) (by omega) (by omega) (by omega) (by omega) (by omega) (by omega) (by omega)
