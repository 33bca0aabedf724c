/-! what entering a METHOD does, exactly, on both sides -/
def RG (u : Nat) (x y : Int32) (old : Nat → Int32) (j : Nat) : Int32 := if 6 * u ≤ j ∧ j < 6 * u + 6 then (if j = 6 * u then x else if j = 6 * u + 1 then y else 0) else old j
theorem enter_and {t b : Nat} {x1 x2 x3 y1 y2 y3 : Int32} {K1 K2 : km_I → Prop} : ∀ (n n' : Nat) (y4 y5 : Int32) (mi : km_I), X1_enter_b12 t b x1 x2 x3 n y1 y2 y3 y4 y5 mi K1 → X1_enter_b12 t b x1 x2 x3 n' y1 y2 y3 y4 y5 mi K2 → X1_enter_b12 t b x1 x2 x3 n y1 y2 y3 y4 y5 mi (fun m => K1 m ∧ K2 m) := by
  intro n
  induction n with
  | zero =>
    intro n' y4 y5 mi h
    exact False.elim h
  | succ n ih =>
    intro n' y4 y5 mi h h'
    rcases n' with _ | n'
    · exact False.elim h'
    · simp only [X1_enter_b12] at h h' ⊢
      refine ⟨fun c => ⟨(h.1 c).1, fun m43 e43 => ⟨((h.1 c).2 m43 e43).1, fun m53 e53 => ⟨(((h.1 c).2 m43 e43).2 m53 e53).1, fun m63 e63 => ⟨((((h.1 c).2 m43 e43).2 m53 e53).2 m63 e63).1, fun m73 e73 m81 e81 => ?_⟩⟩⟩⟩, fun c => ⟨(h.2 c).1, fun m29 e29 => ih n' _ _ _ ((h.2 c).2 m29 e29) ((h'.2 c).2 m29 e29)⟩⟩
      have a := ((((h.1 c).2 m43 e43).2 m53 e53).2 m63 e63).2 m73 e73 m81 e81
      have a' := ((((h'.1 c).2 m43 e43).2 m53 e53).2 m63 e63).2 m73 e73 m81 e81
      exact ⟨fun q => ⟨a.1 q, a'.1 q⟩, fun q m106 e106 => ⟨a.2 q m106 e106, a'.2 q m106 e106⟩⟩
theorem enter_mono {t b : Nat} {x1 x2 x3 y1 y2 y3 : Int32} {K1 K2 : km_I → Prop} : ∀ (n : Nat) (y4 y5 : Int32) (mi : km_I), X1_enter_b12 t b x1 x2 x3 n y1 y2 y3 y4 y5 mi K1 → (∀ m, K1 m → K2 m) → X1_enter_b12 t b x1 x2 x3 n y1 y2 y3 y4 y5 mi K2 := by
  intro n
  induction n with
  | zero =>
    intro y4 y5 mi h
    exact False.elim h
  | succ n ih =>
    intro y4 y5 mi h hk
    simp only [X1_enter_b12] at h ⊢
    refine ⟨fun c => ⟨(h.1 c).1, fun m43 e43 => ⟨((h.1 c).2 m43 e43).1, fun m53 e53 => ⟨(((h.1 c).2 m43 e43).2 m53 e53).1, fun m63 e63 => ⟨((((h.1 c).2 m43 e43).2 m53 e53).2 m63 e63).1, fun m73 e73 m81 e81 => ?_⟩⟩⟩⟩, fun c => ⟨(h.2 c).1, fun m29 e29 => ih _ _ _ ((h.2 c).2 m29 e29) hk⟩⟩
    have a := ((((h.1 c).2 m43 e43).2 m53 e53).2 m63 e63).2 m73 e73 m81 e81
    exact ⟨fun q => hk _ (a.1 q), fun q m106 e106 => hk _ (a.2 q m106 e106)⟩
/-- what the class's enter leaves -/
def EC (mi mi' : km_I) (t u : Nat) (x1 x2 x3 : Int32) : Prop := mi' t 8 = nI (u + 1) ∧ (∀ k, k ≠ 8 → mi' t k = mi t k) ∧ (∀ k, k ≠ 4 → mi' (t + 1) k = mi (t + 1) k) ∧ (∀ p, p ≠ t → p ≠ t + 1 → p ≠ t + 8 → p ≠ t + 9 → p ≠ t + 10 → mi' p = mi p) ∧ (∀ f, mi' (t + 10) f = if f = u then x1 else mi (t + 10) f) ∧ (∀ f, mi' (t + 9) f = if f = u then 0 else mi (t + 9) f) ∧ ∀ j, mi' (t + 8) j = RG u x2 x3 (mi (t + 8)) j
theorem enter_xl {t b u : Nat} {x1 x2 x3 y1 y2 y3 : Int32} {m0 : km_I} {K : km_I → Prop} (hu : u < 8) (h8 : m0 t 8 = nI u) (hK : ∀ mi', EC m0 mi' t u y1 y2 y3 → K mi') : ∀ (n r : Nat) (mi : km_I), r ≤ 6 → 6 < n + r → (∀ p, p ≠ t + 8 → mi p = m0 p) → (∀ j, mi (t + 8) j = if 6 * u ≤ j ∧ j < 6 * u + r then 0 else m0 (t + 8) j) → X1_enter_b12 t b x1 x2 x3 n y1 y2 y3 (nI (6 * u)) (nI r) mi K := by
  intro n
  induction n with
  | zero => intro r mi h1 h2; omega
  | succ n ih =>
    intro r mi h1 h2 hp hr
    simp only [X1_enter_b12]
    rw [show (6 : Int32) = nI 6 from rfl, nI_leI (by omega) (by omega)]
    refine ⟨fun c => ?_, fun c => ?_⟩
    · refine ⟨vp_in_nI (by omega) (by decide), fun m43 e43 => ?_⟩
      rw [nI_clamp (by omega)] at e43
      rw [nI_1, nI_clamp (by omega)]
      refine ⟨vp_in_nI (by omega) (by decide), fun m53 e53 => ?_⟩
      have f8 : m53 t 8 = nI u := by rw [e53, km_u_p (by omega), e43, km_u_p (by omega), hp t (by omega)]; exact h8
      rw [f8, nI_clamp (by omega)]
      refine ⟨vp_in_nI hu (by decide), fun m63 e63 => ?_⟩
      have g8 : m63 t 8 = nI u := by rw [e63, km_u_p (by omega)]; exact f8
      rw [g8, nI_clamp (by omega)]
      refine ⟨vp_in_nI hu (by decide), fun m73 e73 => ?_⟩
      have i8 : m73 t 8 = nI u := by rw [e73, km_u_p (by omega)]; exact g8
      rw [i8, nI_1]
      intro m81 e81
      have off : ∀ p, p ≠ t → p ≠ t + 8 → p ≠ t + 9 → p ≠ t + 10 → m81 p = m0 p := fun p a1 a2 a3 a4 => by rw [e81, km_u_off p a1, e73, km_u_off p a4, e63, km_u_off p a3, e53, km_u_off p a2, e43, km_u_off p a2]; exact hp p a2
      have r8 : ∀ j, m81 (t + 8) j = RG u y2 y3 (m0 (t + 8)) j := fun j => by
        rw [e81, km_u_p (by omega), e73, km_u_p (by omega), e63, km_u_p (by omega), e53]
        unfold RG
        by_cases a : j = 6 * u + 1
        · rw [a, km_u_at, if_pos (by omega), if_neg (by omega), if_pos rfl]
        · rw [km_u_k a, e43]
          by_cases a2 : j = 6 * u
          · rw [a2, km_u_at, if_pos (by omega), if_pos rfl]
          · rw [km_u_k a2, hr j, if_neg a2, if_neg a]
            by_cases a3 : 6 * u ≤ j ∧ j < 6 * u + 6
            · rw [if_pos a3, if_pos (by omega)]
            · rw [if_neg a3, if_neg (by omega)]
      have r9 : ∀ f, m81 (t + 9) f = if f = u then 0 else m0 (t + 9) f := fun f => by
        rw [e81, km_u_p (by omega), e73, km_u_p (by omega), e63]
        by_cases a : f = u
        · rw [a, km_u_at, if_pos rfl]
        · rw [km_u_k a, if_neg a, e53, km_u_p (by omega), e43, km_u_p (by omega), hp (t + 9) (by omega)]
      have r10 : ∀ f, m81 (t + 10) f = if f = u then y1 else m0 (t + 10) f := fun f => by
        rw [e81, km_u_p (by omega), e73]
        by_cases a : f = u
        · rw [a, km_u_at, if_pos rfl]
        · rw [km_u_k a, if_neg a, e63, km_u_p (by omega), e53, km_u_p (by omega), e43, km_u_p (by omega), hp (t + 10) (by omega)]
      have rt : m81 t 8 = nI (u + 1) := by rw [e81, km_u_at]
      have rk : ∀ k, k ≠ 8 → m81 t k = m0 t k := fun k a => by rw [e81, km_u_k a, e73, km_u_p (by omega), e63, km_u_p (by omega), e53, km_u_p (by omega), e43, km_u_p (by omega), hp t (by omega)]
      refine ⟨fun _ => hK _ ⟨rt, rk, fun k _ => by rw [off (t + 1) (by omega) (by omega) (by omega) (by omega)], fun p a1 _ a2 a3 a4 => off p a1 a2 a3 a4, r10, r9, r8⟩, fun _ m106 e106 => hK _ ⟨?_, fun k a => ?_, fun k a => ?_, fun p a1 a5 a2 a3 a4 => ?_, fun f => ?_, fun f => ?_, fun j => ?_⟩⟩
      · rw [e106, km_u_p (by omega)]; exact rt
      · rw [e106, km_u_p (by omega)]; exact rk k a
      · rw [e106, km_u_k a, off (t + 1) (by omega) (by omega) (by omega) (by omega)]
      · rw [e106, km_u_off p a5]; exact off p a1 a2 a3 a4
      · rw [e106, km_u_p (by omega)]; exact r10 f
      · rw [e106, km_u_p (by omega)]; exact r9 f
      · rw [e106, km_u_p (by omega)]; exact r8 j
    · rw [nI_add, nI_1]
      refine ⟨vp_in_nI (by omega) (by decide), fun m29 e29 => ?_⟩
      rw [nI_clamp (by omega)] at e29
      refine ih (r + 1) m29 (by omega) (by omega) (fun p a => by rw [e29, km_u_off p a]; exact hp p a) (fun j => ?_)
      rw [e29]
      by_cases a : j = 6 * u + r
      · rw [a, km_u_at, if_pos (by omega)]
      · rw [km_u_k a, hr j]
        by_cases a2 : 6 * u ≤ j ∧ j < 6 * u + r
        · rw [if_pos a2, if_pos (by omega)]
        · rw [if_neg a2, if_neg (by omega)]
theorem enter_x {m0 mi : km_I} {t b u : Nat} {x1 x2 x3 : Int32} {K : km_I → Prop} (h : MS m0 mi t b u) (hbt : b + 6 ≤ t) (hu : u < 8) (hm : nb x1 6) (hw : ∀ f, f + 1 = u → WF mi t b f) (hK : ∀ mi', MS m0 mi' t b (u + 1) → EC mi mi' t u x1 x2 x3 → K mi') : X1_enter_w t b x1 x2 x3 mi K := by
  have a := enter_s (K := fun m => MS m0 m t b (u + 1)) (x2 := x2) (x3 := x3) h hbt hu hm hw (fun _ q => q)
  obtain ⟨n, a⟩ := a
  have h8 := h.2.2.1.2.1
  rw [h8, show (6 : Int32) = nI 6 from rfl, nx_mul, Nat.mul_comm] at a
  have c : X1_enter_b12 t b x1 x2 x3 7 x1 x2 x3 (nI (6 * u)) (nI 0) mi (fun m => EC mi m t u x1 x2 x3) := enter_xl hu h8 (fun _ q => q) 7 0 mi (by omega) (by omega) (fun _ _ => rfl) (fun j => by rw [if_neg (by omega)])
  have d := enter_and n 7 _ _ mi a c
  refine ⟨n, ?_⟩
  rw [h8, show (6 : Int32) = nI 6 from rfl, nx_mul, Nat.mul_comm]
  exact enter_mono n _ _ mi d (fun m q => hK m q.1 q.2)
