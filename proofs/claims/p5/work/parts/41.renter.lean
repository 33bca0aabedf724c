variable {f : Prop}
/-- what the reference's enter leaves -/
def ER (m m' : km_I) (u : Nat) (x1 x2 x3 x4 : Int32) : Prop := m' 86 13 = nI (u + 1) ∧ (∀ k, k ≠ 13 → m' 86 k = m 86 k) ∧ (∀ p, p ≠ 86 → p ≠ 97 → p ≠ 98 → p ≠ 99 → p ≠ 100 → p ≠ 105 → m' p = m p) ∧ (∀ k, m' 97 k = if k = u then x1 else m 97 k) ∧ (∀ k, m' 98 k = if k = u then 0 else m 98 k) ∧ (∀ k, m' 99 k = if k = u then x4 else m 99 k) ∧ ∀ j, m' 100 j = RG u x2 x3 (m 100) j
theorem renter_and {x1 x2 x3 x4 y1 y2 y3 y4 : Int32} {K1 K2 : km_I → Prop} : ∀ (n n' : Nat) (y5 : Int32) (mi : km_I), X7_enter_b34 x1 x2 x3 x4 n y1 y2 y3 y4 y5 mi K1 → X7_enter_b34 x1 x2 x3 x4 n' y1 y2 y3 y4 y5 mi K2 → X7_enter_b34 x1 x2 x3 x4 n y1 y2 y3 y4 y5 mi (fun m => K1 m ∧ K2 m) := by
  intro n
  induction n with
  | zero =>
    intro n' y5 mi h
    exact False.elim h
  | succ n ih =>
    intro n' y5 mi h h'
    rcases n' with _ | n'
    · exact False.elim h'
    · simp only [X7_enter_b34, X7_enter_b75, X7_enter_b132] at h h' ⊢
      refine ⟨fun c m89 e89 => ?_, fun c => ?_⟩
      · have a := h.1 c m89 e89
        have a' := h'.1 c m89 e89
        exact ⟨a.1, fun q => ⟨(a.2.1 q).1, (a.2.1 q).2.1, fun m e => ⟨(a.2.1 q).2.2 m e, (a'.2.1 q).2.2 m e⟩⟩, fun q => ⟨(a.2.2 q).1, fun m e => ⟨(a.2.2 q).2 m e, (a'.2.2 q).2 m e⟩⟩⟩
      · have a := h.2 c
        have a' := h'.2 c
        exact ⟨fun q => ⟨fun q2 => ⟨((a.1 q).1 q2).1, fun m e => ih n' _ _ (((a.1 q).1 q2).2 m e) (((a'.1 q).1 q2).2 m e)⟩, fun q2 => ⟨((a.1 q).2 q2).1, fun m e => ih n' _ _ (((a.1 q).2 q2).2 m e) (((a'.1 q).2 q2).2 m e)⟩⟩, fun q => ⟨(a.2 q).1, fun m e => ih n' _ _ ((a.2 q).2 m e) ((a'.2 q).2 m e)⟩⟩
theorem renter_mono {x1 x2 x3 x4 y1 y2 y3 y4 : Int32} {K1 K2 : km_I → Prop} : ∀ (n : Nat) (y5 : Int32) (mi : km_I), X7_enter_b34 x1 x2 x3 x4 n y1 y2 y3 y4 y5 mi K1 → (∀ m, K1 m → K2 m) → X7_enter_b34 x1 x2 x3 x4 n y1 y2 y3 y4 y5 mi K2 := by
  intro n
  induction n with
  | zero =>
    intro y5 mi h
    exact False.elim h
  | succ n ih =>
    intro y5 mi h hk
    simp only [X7_enter_b34, X7_enter_b75, X7_enter_b132] at h ⊢
    refine ⟨fun c m89 e89 => ?_, fun c => ?_⟩
    · have a := h.1 c m89 e89
      exact ⟨a.1, fun q => ⟨(a.2.1 q).1, (a.2.1 q).2.1, fun m e => hk _ ((a.2.1 q).2.2 m e)⟩, fun q => ⟨(a.2.2 q).1, fun m e => hk _ ((a.2.2 q).2 m e)⟩⟩
    · have a := h.2 c
      exact ⟨fun q => ⟨fun q2 => ⟨((a.1 q).1 q2).1, fun m e => ih _ _ (((a.1 q).1 q2).2 m e) hk⟩, fun q2 => ⟨((a.1 q).2 q2).1, fun m e => ih _ _ (((a.1 q).2 q2).2 m e) hk⟩⟩, fun q => ⟨(a.2 q).1, fun m e => ih _ _ ((a.2 q).2 m e) hk⟩⟩
theorem renter_xl {u : Nat} {x1 x2 x3 x4 y1 y2 y3 y4 : Int32} {m0 : km_I} {K : km_I → Prop} (hu : u < 8) (h13 : m0 86 13 = nI u) (h18 : nb (m0 86 18) 3) (hK : ∀ m', (m' 86 13 = nI (u + 1) ∧ (∀ k, k ≠ 13 → m' 86 k = m0 86 k) ∧ (∀ p, p ≠ 86 → p ≠ 100 → p ≠ 105 → m' p = m0 p) ∧ ∀ j, m' 100 j = RG u y2 y3 (m0 100) j) → K m') : ∀ (n r : Nat) (mi : km_I), r ≤ 6 → 6 < n + r → (∀ p, p ≠ 100 → mi p = m0 p) → (∀ j, mi 100 j = if 6 * u ≤ j ∧ j < 6 * u + r then (if j = 6 * u then y2 else if j = 6 * u + 1 then y3 else 0) else m0 100 j) → X7_enter_b34 x1 x2 x3 x4 n y1 y2 y3 y4 (nI r) mi K := by
  intro n
  induction n with
  | zero => intro r mi h1 h2; omega
  | succ n ih =>
    intro r mi h1 h2 hp hr
    have e13 : mi 86 13 = nI u := by rw [hp 86 (by omega)]; exact h13
    simp only [X7_enter_b34, X7_enter_b75, X7_enter_b132]
    rw [show (6 : Int32) = nI 6 from rfl, nI_leI (by omega) (by omega)]
    refine ⟨fun c m89 e89 => ?_, fun c => ?_⟩
    · rw [e13, nI_1] at e89
      have v18 : vp_in (m89 86 18) 3 := by
        rw [e89, km_u_k (by omega), hp 86 (by omega)]
        exact h18.vin (by decide) (by decide)
      have fin : ∀ (k : Nat) (v : Int32) (m : km_I), m = km_u m89 105 k v → K m := fun k v m e => hK m ⟨by rw [e, km_u_p (by omega), e89, km_u_at], fun k' a => by rw [e, km_u_p (by omega), e89, km_u_k a, hp 86 (by omega)], fun p a1 a2 a3 => by rw [e, km_u_off p a3, e89, km_u_off p a1]; exact hp p a2, fun j => by
        rw [e, km_u_p (by omega), e89, km_u_p (by omega), hr j]
        unfold RG
        by_cases a : 6 * u ≤ j ∧ j < 6 * u + 6
        · rw [if_pos a, if_pos (by omega)]
        · rw [if_neg a, if_neg (by omega)]⟩
      exact ⟨v18, fun _ => ⟨v18, v18, fun m e => fin _ _ m e⟩, fun _ => ⟨v18, fun m e => fin _ _ m e⟩⟩
    · have ix : nI 6 * mi 86 13 + nI r = nI (6 * u + r) := by rw [e13, nx_mul, nI_add]
      have v48 : vp_in (nI 6 * mi 86 13 + nI r) 48 := by rw [ix]; exact vp_in_nI (by omega) (by decide)
      have nx : ∀ (v : Int32) (m : km_I), m = km_u mi 100 (nI 6 * mi 86 13 + nI r).toNatClampNeg v → (v = if r = 0 then y2 else if r = 1 then y3 else 0) → X7_enter_b34 x1 x2 x3 x4 n y1 y2 y3 y4 (nI r + 1) m K := fun v m e ev => by
        rw [nI_1]
        rw [ix, nI_clamp (by omega)] at e
        refine ih (r + 1) m (by omega) (by omega) (fun p a => by rw [e, km_u_off p a]; exact hp p a) (fun j => ?_)
        rw [e]
        by_cases a : j = 6 * u + r
        · rw [a, km_u_at, if_pos (by omega), ev]
          by_cases a0 : r = 0
          · rw [if_pos a0, if_pos (show 6 * u + r = 6 * u by omega)]
          · rw [if_neg a0, if_neg (show ¬ 6 * u + r = 6 * u by omega)]
            by_cases a1 : r = 1
            · rw [if_pos a1, if_pos (show 6 * u + r = 6 * u + 1 by omega)]
            · rw [if_neg a1, if_neg (show ¬ 6 * u + r = 6 * u + 1 by omega)]
        · rw [km_u_k a, hr j]
          by_cases a2 : 6 * u ≤ j ∧ j < 6 * u + r
          · rw [if_pos a2, if_pos (show 6 * u ≤ j ∧ j < 6 * u + (r + 1) by omega)]
          · rw [if_neg a2, if_neg (show ¬ (6 * u ≤ j ∧ j < 6 * u + (r + 1)) by omega)]
      have z0 : nI r = 0 ↔ r = 0 := nI_eq (b := 0) (by omega) (by decide)
      have z1 : nI r = 1 ↔ r = 1 := nI_eq (b := 1) (by omega) (by decide)
      rw [z0, z1]
      exact ⟨fun q => ⟨fun q2 => ⟨v48, fun m e => nx _ m e (by rw [if_neg q, if_neg q2])⟩, fun q2 => ⟨v48, fun m e => nx _ m e (by rw [if_neg q, if_pos q2])⟩⟩, fun q => ⟨v48, fun m e => nx _ m e (by rw [if_pos q])⟩⟩
theorem renter_x {m0 mi : km_I} {s u g : Nat} {x1 x2 x3 x4 : Int32} {K : km_I → Prop} (h : RM f m0 mi s u g) (hu : u < 8) (hm : nb x1 6) (ht : nb x4 6) (hK : ∀ mi', RM f m0 mi' s (u + 1) g → ER mi mi' u x1 x2 x3 x4 → K mi') : X7_enter_w x1 x2 x3 x4 mi K := by
  have a := rEnter_s (K := fun m => RM f m0 m s (u + 1) g) (x2 := x2) (x3 := x3) h hu hm ht (fun _ q _ => q)
  have h13 := h.2.2.2.1.2.1
  have h18 : nb (mi 86 18) 3 := ⟨s, h.2.2.2.2.1.1, h.2.2.2.2.1.2⟩
  unfold X7_enter_w at a ⊢
  rw [h13, nI_clamp (by omega)] at a ⊢
  refine ⟨a.1, fun m9 e9 => ?_⟩
  have a1 := a.2 m9 e9
  have f13 : m9 86 13 = nI u := by rw [e9, km_u_p (by omega)]; exact h13
  rw [f13, nI_clamp (by omega)] at a1 ⊢
  refine ⟨a1.1, fun m19 e19 => ?_⟩
  have a2 := a1.2 m19 e19
  have g13 : m19 86 13 = nI u := by rw [e19, km_u_p (by omega)]; exact f13
  rw [g13, nI_clamp (by omega)] at a2 ⊢
  refine ⟨a2.1, fun m30 e30 => ?_⟩
  obtain ⟨n, a3⟩ := a2.2 m30 e30
  have i13 : m30 86 13 = nI u := by rw [e30, km_u_p (by omega)]; exact g13
  have off : ∀ p, p ≠ 97 → p ≠ 98 → p ≠ 99 → m30 p = mi p := fun p b1 b2 b3 => by rw [e30, km_u_off p b3, e19, km_u_off p b2, e9, km_u_off p b1]
  have c : X7_enter_b34 x1 x2 x3 x4 7 x1 x2 x3 x4 (nI 0) m30 (fun m => ER mi m u x1 x2 x3 x4) := renter_xl (m0 := m30) hu i13 (by rw [off 86 (by omega) (by omega) (by omega)]; exact h18) (fun m' q => by
    obtain ⟨q1, q2, q3, q4⟩ := q
    refine ⟨q1, fun k b => by rw [q2 k b, off 86 (by omega) (by omega) (by omega)], fun p b0 b1 b2 b3 b4 b5 => by rw [q3 p b0 b4 b5]; exact off p b1 b2 b3, fun k => ?_, fun k => ?_, fun k => ?_, fun j => ?_⟩
    · rw [q3 97 (by omega) (by omega) (by omega), e30, km_u_p (by omega), e19, km_u_p (by omega), e9]
      by_cases b : k = u
      · rw [b, km_u_at, if_pos rfl]
      · rw [km_u_k b, if_neg b]
    · rw [q3 98 (by omega) (by omega) (by omega), e30, km_u_p (by omega), e19]
      by_cases b : k = u
      · rw [b, km_u_at, if_pos rfl]
      · rw [km_u_k b, if_neg b, e9, km_u_p (by omega)]
    · rw [q3 99 (by omega) (by omega) (by omega), e30]
      by_cases b : k = u
      · rw [b, km_u_at, if_pos rfl]
      · rw [km_u_k b, if_neg b, e19, km_u_p (by omega), e9, km_u_p (by omega)]
    · rw [q4 j, off 100 (by omega) (by omega) (by omega)]) 7 0 m30 (by omega) (by omega) (fun _ _ => rfl) (fun j => by rw [if_neg (by omega)])
  have d := renter_and n 7 _ m30 a3 c
  exact ⟨n, renter_mono n _ m30 d (fun m q => hK m q.1 q.2)⟩
