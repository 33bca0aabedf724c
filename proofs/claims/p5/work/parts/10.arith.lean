/-! NUMBERS: small ones by their Nats -/
theorem nx_mul (a b : Nat) : nI a * nI b = nI (a * b) := (Int32.ofNat_mul a b).symm
theorem nx_sub {a b : Nat} (h : b ≤ a) : nI a - nI b = nI (a - b) := by
  have h1 := nI_add (a - b) b
  rw [Nat.sub_add_cancel h] at h1
  rw [← h1]
  exact Int32.add_sub_cancel _ _
/-- a number below n -/
def nb (x : Int32) (n : Nat) : Prop := ∃ k, k < n ∧ x = nI k
theorem nb.vin {x : Int32} {n N : Nat} (h : nb x n) (hn : n ≤ N) (hN : N < 2 ^ 31) : vp_in x N := by
  obtain ⟨k, hk, rfl⟩ := h
  exact vp_in_nI (by omega) hN
theorem nb.mono {x : Int32} {n N : Nat} (h : nb x n) (hn : n ≤ N) : nb x N := by
  obtain ⟨k, hk, rfl⟩ := h
  exact ⟨k, by omega, rfl⟩
theorem nb_of (k : Nat) {n : Nat} (h : k < n) : nb (nI k) n := ⟨k, h, rfl⟩
theorem nb_0 {n : Nat} (h : 0 < n) : nb 0 n := ⟨0, h, nI_0.symm⟩
theorem nb.lt {x : Int32} {n : Nat} (h : nb x n) (hn : n < 2 ^ 31) : x.toNatClampNeg < n := by
  obtain ⟨k, hk, rfl⟩ := h
  rw [nI_clamp (by omega)]
  exact hk
theorem nb_in {x : Int32} {n : Nat} (h : vp_in x n) (hn : n < 2 ^ 31) : nb x n := by
  obtain ⟨j, hj, rfl⟩ := vp_in_of h hn
  exact ⟨j, hj, rfl⟩
theorem ia_in {i : Int32} {n : Nat} (h1 : 0 ≤ i.toInt) (h2 : i.toInt < (n : Int)) : vp_in i n := vp_in_iff.mpr ⟨h1, h2⟩
/-- what an OP's operands may be -/
def okop (o a b c : Int32) : Prop := ∃ k, k < 16 ∧ o = nI k ∧ (k ≠ 11 ∧ k ≠ 12 ∧ k ≠ 15 → nb a 6) ∧ (k = 11 → nb a 25) ∧ (k = 12 → nb a 4) ∧ (k ≠ 0 ∧ k ≠ 10 ∧ k ≠ 11 ∧ k ≠ 14 → nb b 6) ∧ (k = 10 → nb b 25) ∧ ((2 ≤ k ∧ k ≤ 9) ∨ k = 13 → nb c 6)
/-- a build -/
def BI (mi : km_I) (b : Nat) : Prop := nb (mi b 0) 7 ∧ (∀ j, j < 6 → nb (mi (b + 1) j) 25) ∧ ∀ j, j < 144 → okop (mi (b + 2) j) (mi (b + 3) j) (mi (b + 4) j) (mi (b + 5) j)
/-- a machine, at any time -/
def PM (mi : km_I) (t : Nat) : Prop := (∀ j, j < 40 → nb (mi (t + 2) j) 4) ∧ nb (mi (t + 1) 5) 41 ∧ nb (mi (t + 1) 8) 3 ∧ ∀ i, i < 2 → nb (mi (t + 7) i) 41
/-- a machine under way, with u METHODS -/
def GS (mi : km_I) (t b u : Nat) : Prop := u ≤ 8 ∧ mi t 8 = nI u ∧ (∀ f, f < u → nb (mi (t + 10) f) 6 ∧ nb (mi (t + 9) f) 25) ∧ ∀ f, f + 1 < u → ∃ m l, m < 6 ∧ l < 24 ∧ mi (t + 10) f = nI m ∧ mi (t + 9) f = nI l ∧ mi (b + 2) (24 * m + l) = nI 13
/-- only the machine's own places have changed, and not its mask and kind -/
def FM (mi mi' : km_I) (t : Nat) : Prop := (∀ p, p < t ∨ t + 12 ≤ p → mi' p = mi p) ∧ mi' t 1 = mi t 1 ∧ mi' t 6 = mi t 6
theorem FM.rf (mi : km_I) (t : Nat) : FM mi mi t := ⟨fun _ _ => rfl, rfl, rfl⟩
theorem FM.tr {a b c : km_I} {t : Nat} (h : FM a b t) (h' : FM b c t) : FM a c t := ⟨fun p hp => (h'.1 p hp).trans (h.1 p hp), h'.2.1.trans h.2.1, h'.2.2.trans h.2.2⟩
theorem FM.u {a b : km_I} {t : Nat} (h : FM a b t) {p k : Nat} {v : Int32} (h1 : t ≤ p) (h2 : p < t + 12) (h3 : p ≠ t ∨ (k ≠ 1 ∧ k ≠ 6)) : FM a (km_u b p k v) t := by
  refine ⟨fun q hq => ?_, ?_, ?_⟩
  · rw [km_u_off q (by omega)]; exact h.1 q hq
  · rw [← h.2.1]
    rcases h3 with h3 | h3
    · exact km_u_p (by omega)
    · exact km_u_k (by omega)
  · rw [← h.2.2]
    rcases h3 with h3 | h3
    · exact km_u_p (by omega)
    · exact km_u_k (by omega)
theorem BI.mv {a c : km_I} {b : Nat} (h : BI a b) (e : ∀ p, b ≤ p → p < b + 6 → c p = a p) : BI c b := by
  obtain ⟨h1, h2, h3⟩ := h
  refine ⟨by rw [e b (by omega) (by omega)]; exact h1, fun j hj => by rw [e _ (by omega) (by omega)]; exact h2 j hj, fun j hj => ?_⟩
  rw [e (b + 2) (by omega) (by omega), e (b + 3) (by omega) (by omega), e (b + 4) (by omega) (by omega), e (b + 5) (by omega) (by omega)]
  exact h3 j hj
/-- places of builds and machines are apart -/
theorem bt_ap {b t : Nat} (hb : km_isB b) (ht : km_isM t) : b + 6 ≤ t := by rcases hb with rfl | rfl <;> rcases ht with rfl | rfl | rfl | rfl | rfl <;> decide
theorem BI.fm {a c : km_I} {b t : Nat} (h : BI a b) (hf : FM a c t) (hbt : b + 6 ≤ t) : BI c b := h.mv (fun p h1 h2 => hf.1 p (by omega))
