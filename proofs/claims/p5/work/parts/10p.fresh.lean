/-! ONE CALL ON A FRESH OBJECT -/
theorem kz_in {x lo hi : Int32} {mi : km_I} {K : Int32 → km_I → Prop} (h1 : lo ≤ x → x ≤ hi → K 1 mi) (h0 : (x < lo ∨ hi < x) → K 0 mi) : X7_in_w x lo hi mi K :=
  ⟨fun c => h0 (Or.inl c), fun c => ⟨fun c2 => h0 (Or.inr c2), fun c2 => h1 (Int32.not_lt.mp c) (Int32.not_lt.mp c2)⟩⟩
theorem kz_within {x lo hi : Int32} {mi : km_I} {K : Int32 → km_I → Prop} (h1 : lo ≤ x → x ≤ hi → K 1 mi) (h0 : (x < lo ∨ hi < x) → K 0 mi) : X6_within_w x lo hi mi K :=
  ⟨fun c => h0 (Or.inl c), fun c => ⟨fun c2 => h0 (Or.inr c2), fun c2 => h1 (Int32.not_lt.mp c) (Int32.not_lt.mp c2)⟩⟩
theorem kz_nb {x : Int32} {n : Nat} (hn : n < 2 ^ 31) (h0 : (0 : Int32) ≤ x) (h1 : x ≤ nI n) : nb x (n + 1) := by
  obtain ⟨j, hj, rfl⟩ := nI_of (Int32.not_lt.mpr h0)
  rw [nI_leI hj hn] at h1
  exact nb_of _ (by omega)
theorem kz_out {x lo hi : Int32} (h : x < lo ∨ hi < x) (h1 : lo ≤ x) (h2 : x ≤ hi) : False := by
  rcases h with h | h
  · exact (Int32.not_lt.mpr h1) h
  · exact (Int32.not_lt.mpr h2) h
theorem kz_if1 {A B : Prop} (h : B) : ((1 : Int32) = 0 → A) ∧ (¬ (1 : Int32) = 0 → B) := ⟨fun c => absurd c (by decide), fun _ => h⟩
theorem kz_if0 {A B : Prop} (h : A) : ((0 : Int32) = 0 → A) ∧ (¬ (0 : Int32) = 0 → B) := ⟨fun _ => h, fun c => absurd rfl c⟩
theorem kz_ifn1 {A B : Prop} (h : A) : (¬ (1 : Int32) = 0 → A) ∧ ((1 : Int32) = 0 → B) := ⟨fun _ => h, fun c => absurd c (by decide)⟩
theorem kz_ifn0 {A B : Prop} (h : B) : (¬ (0 : Int32) = 0 → A) ∧ ((0 : Int32) = 0 → B) := ⟨fun c => absurd rfl c, fun _ => h⟩
theorem kz_has {b : Nat} {x : Int32} {mi : km_I} {K : Int32 → km_I → Prop} (h : mi b 0 = 0) (hK : K 0 mi) : X0_has_w b x mi K :=
  ⟨fun _ => hK, fun c => ⟨fun _ => hK, fun c2 => absurd (by rw [h]; exact Int32.not_lt.mp c) c2⟩⟩
theorem kz6_isMethod {x1 x2 : Int32} {mi : km_I} {K : Int32 → km_I → Prop} (h1 : mi 1 0 = 0) (h7 : mi 7 0 = 0) (hK : K 0 mi) : X6_isMethod_w x1 x2 mi K := by
  unfold X6_isMethod_w
  refine kz_within (fun _ _ => kz_if1 ?_) (fun _ => kz_if0 hK)
  exact ⟨fun _ => ⟨Or.inr rfl, kz_has h7 (kz_if0 hK)⟩, fun _ => ⟨Or.inl rfl, kz_has h1 (kz_if0 hK)⟩⟩
theorem kz7_isMethod {x1 x2 : Int32} {mi : km_I} {K : Int32 → km_I → Prop} (h : ∀ j, mi 87 j = 0) (hK : K 0 mi) : X7_isMethod_w x1 x2 mi K := by
  unfold X7_isMethod_w
  refine kz_in (fun a b => kz_if1 ⟨(kz_nb (n := 1) (by decide) a b).vin (by decide) (by decide), ?_⟩) (fun _ => kz_if0 hK)
  rw [h]
  exact kz_in (fun a b => absurd (Int32.le_trans a b) (by decide)) (fun _ => kz_if0 hK)
theorem kz6_isPair {x1 x2 : Int32} {mi : km_I} {K : Int32 → km_I → Prop} (h1 : mi 1 0 = 0) (hK : K 0 mi) : X6_isPair_w x1 x2 mi K := by
  unfold X6_isPair_w
  exact kz_has h1 (kz_if0 hK)
theorem kz_rename_l {x1 x2 y2 y3 : Int32} {p : Nat} {K : Int32 → km_I → Prop} (hp : p < 4) (hK : ∀ m, K y3 m) : ∀ (n i : Nat) (mi : km_I), i ≤ 4 → 4 < n + i → X7_rename_b31 x1 x2 n (nI p) y2 y3 (nI i) mi K := by
  intro n
  induction n with
  | zero =>
    intro i mi q1 q2
    exact absurd q2 (by omega)
  | succ n ih =>
    intro i mi q1 q2
    simp only [X7_rename_b31]
    rw [show (4 : Int32) = nI 4 from rfl, nI_leI (by omega) (by omega)]
    have nx : i < 4 → ∀ m, X7_rename_b56 x1 x2 (fun v0 v1 v2 v3 m => X7_rename_b31 x1 x2 n v0 v1 v2 v3 m K) (nI p) y2 y3 (nI i) m K := fun hi m => by
      unfold X7_rename_b56
      rw [nI_1]
      exact ih (i + 1) m (by omega) (by omega)
    exact ⟨fun _ => ⟨vp_in_nI hp (by decide), fun m68 _ => hK m68⟩, fun c => ⟨vp_in_nI (by omega) (by decide), fun _ => nx (by omega) _, fun _ => ⟨vp_in_nI (by omega) (by decide), fun m55 _ => nx (by omega) _⟩⟩⟩
theorem kz_and (a b : Nat) : nI a &&& nI b = nI (a &&& b) := by
  apply Int32.toBitVec_inj.1
  show BitVec.ofNat 32 a &&& BitVec.ofNat 32 b = BitVec.ofNat 32 (a &&& b)
  apply BitVec.eq_of_getLsbD_eq
  intro i hi
  simp [hi]
theorem kz_2 (x : Int32) : x &&& 1 = 0 ∨ x &&& 1 = 1 := by
  obtain ⟨n, -, rfl⟩ : ∃ n : Nat, n < 2 ^ 32 ∧ x = nI n := ⟨x.toBitVec.toNat, x.toBitVec.isLt, Int32.toBitVec_inj.mp (by show x.toBitVec = BitVec.ofNat 32 x.toBitVec.toNat; simp)⟩
  rw [show (1 : Int32) = nI 1 from rfl, kz_and, Nat.and_one_is_mod]
  rcases Nat.mod_two_eq_zero_or_one n with q | q <;> rw [q]
  · exact Or.inl rfl
  · exact Or.inr rfl
