/-! THE LAW'S LOOP (p5: the answers of run are compared) -/
theorem law_7 : ∀ L, L < 7 → nI L - 7 < 0 := by decide +kernel
set_option maxHeartbeats 1000000 in
theorem law_l {E : km_E} {L : Nat} (hL : L ≤ 3585) (h0 : E.2.2.1 0 = 48) (h1 : E.2.2.1 1 = 24) (h2 : E.2.2.1 2 = L) (f0 : ∀ j, E.2.2.2.1 0 j = km_opL.getD j 0) (f1 : ∀ j, E.2.2.2.1 1 j = km_renL.getD j 0) : ∀ (n i : Nat) (mi : km_I), 1 ≤ i → i ≤ L + 7 → L + 7 < 7 * n + i → JJ mi → L_law_b28 E n (nI i) mi := by
  intro n
  induction n with
  | zero =>
    intro i mi q1 q2 q3
    exact absurd q3 (by omega)
  | succ n ih =>
    intro i mi q1 q2 q3 h
    refine ⟨fun _ => trivial, fun c => ?_⟩
    have hi : i + 7 ≤ L := by
      rw [h2] at c
      rcases Nat.lt_or_ge L 7 with q | q
      · exact absurd (Int32.lt_of_lt_of_le (law_7 L q) (nI_pos' (by omega))) c
      · rw [show Int32.ofNat L - 7 = nI (L - 7) from nx_sub (b := 7) q, nI_ltI (by omega) (by omega)] at c
        omega
    have v : ∀ k : Nat, k < 7 → vp_in (nI i + nI k) (E.2.2.1 2) := fun k hk => by
      rw [h2, nI_add]
      exact vp_in_nI (by omega) (by omega)
    have v0 : vp_in (nI i) (E.2.2.1 2) := by
      rw [h2]
      exact vp_in_nI (by omega) (by omega)
    have v1 : vp_in (nI i + 1) (E.2.2.1 2) := v 1 (by decide)
    have v2 : vp_in (nI i + 2) (E.2.2.1 2) := v 2 (by decide)
    have v3 : vp_in (nI i + 3) (E.2.2.1 2) := v 3 (by decide)
    have v4 : vp_in (nI i + 4) (E.2.2.1 2) := v 4 (by decide)
    have v5 : vp_in (nI i + 5) (E.2.2.1 2) := v 5 (by decide)
    have v6 : vp_in (nI i + 6) (E.2.2.1 2) := v 6 (by decide)
    have nx : ∀ m, JJ m → L_law_b647 E (fun v0 m => L_law_b28 E n v0 m) (nI i) m := fun m hm => by
      unfold L_law_b647
      rw [show nI i + 7 = nI (i + 7) from nI_add i 7]
      exact ih (i + 7) m (by omega) (by omega) (by omega) hm
    refine ⟨v0, fun _ => nx _ h, fun _ => ?_, fun _ => ?_, fun _ => ?_, fun _ => ?_, fun _ => ?_, fun _ => ?_, fun _ => ?_, fun _ => ?_, fun _ => ?_, fun _ => ?_, fun _ => ?_, fun _ => ?_, fun _ => ?_, fun _ => ?_, fun _ => ?_, fun _ => ?_, fun _ => ?_⟩
    · exact ⟨v1, j_method (G := (fun P => vp_in (nI i + 1) (E.2.2.1 2) ∧ P)) (fun P p => ⟨v1, p⟩) h (fun r m hm => nx m hm)⟩
    · exact ⟨v1, v2, v3, v4, v5, v6, j_op (G := (fun P => vp_in (nI i + 1) (E.2.2.1 2) ∧ vp_in (nI i + 2) (E.2.2.1 2) ∧ vp_in (nI i + 3) (E.2.2.1 2) ∧ vp_in (nI i + 4) (E.2.2.1 2) ∧ vp_in (nI i + 5) (E.2.2.1 2) ∧ vp_in (nI i + 6) (E.2.2.1 2) ∧ P)) h0 f0 (fun P p => ⟨v1, v2, v3, v4, v5, v6, p⟩) h (fun r m hm => nx m hm)⟩
    · exact ⟨v1, v2, j_clear (G := (fun P => vp_in (nI i + 1) (E.2.2.1 2) ∧ vp_in (nI i + 2) (E.2.2.1 2) ∧ P)) (fun P p => ⟨v1, v2, p⟩) h (fun r m hm => nx m hm)⟩
    · exact ⟨v1, v2, v3, v4, j_run (G := (fun P => vp_in (nI i + 1) (E.2.2.1 2) ∧ vp_in (nI i + 2) (E.2.2.1 2) ∧ vp_in (nI i + 3) (E.2.2.1 2) ∧ vp_in (nI i + 4) (E.2.2.1 2) ∧ P)) (fun P p => ⟨v1, v2, v3, v4, p⟩) h (fun r m hm => ⟨fun _ => nx m hm, fun c => c rfl⟩)⟩
    · exact ⟨v1, j_ran (G := (fun P => vp_in (nI i + 1) (E.2.2.1 2) ∧ P)) (fun P p => ⟨v1, p⟩) h (fun r r' m hm => nx m hm)⟩
    · exact ⟨v1, v2, j_told (G := (fun P => vp_in (nI i + 1) (E.2.2.1 2) ∧ vp_in (nI i + 2) (E.2.2.1 2) ∧ P)) (fun P p => ⟨v1, v2, p⟩) h (fun r m hm => nx m hm)⟩
    · exact ⟨v1, v2, j_rename (G := (fun P => vp_in (nI i + 1) (E.2.2.1 2) ∧ vp_in (nI i + 2) (E.2.2.1 2) ∧ P)) (fun P p => ⟨v1, v2, p⟩) h (fun r m hm => nx m hm)⟩
    · exact ⟨v1, v2, j_group (G := (fun P => vp_in (nI i + 1) (E.2.2.1 2) ∧ vp_in (nI i + 2) (E.2.2.1 2) ∧ P)) (fun P p => ⟨v1, v2, p⟩) h (fun r m hm => nx m hm)⟩
    · exact ⟨v1, v2, j_hold (G := (fun P => vp_in (nI i + 1) (E.2.2.1 2) ∧ vp_in (nI i + 2) (E.2.2.1 2) ∧ P)) (fun P p => ⟨v1, v2, p⟩) h (fun r r' m hm => nx m hm)⟩
    · exact ⟨v1, j_first (G := (fun P => vp_in (nI i + 1) (E.2.2.1 2) ∧ P)) (fun P p => ⟨v1, p⟩) h (fun r r' m hm => nx m hm)⟩
    · exact ⟨v1, j_match (G := (fun P => vp_in (nI i + 1) (E.2.2.1 2) ∧ P)) (fun P p => ⟨v1, p⟩) h (fun r r' m hm => nx m hm)⟩
    · exact ⟨v1, v2, j_find (G := (fun P => vp_in (nI i + 1) (E.2.2.1 2) ∧ vp_in (nI i + 2) (E.2.2.1 2) ∧ P)) h1 f1 (fun P p => ⟨v1, v2, p⟩) h (fun r r' m hm => nx m hm)⟩
    · exact ⟨v1, v2, j_assume (G := (fun P => vp_in (nI i + 1) (E.2.2.1 2) ∧ vp_in (nI i + 2) (E.2.2.1 2) ∧ P)) (fun P p => ⟨v1, v2, p⟩) h (fun r m hm => nx m hm)⟩
    · exact j_drop (G := (fun P => P)) (fun P p => p) h (fun r m hm => nx m hm)
    · exact j_prove (G := (fun P => P)) (fun P p => p) h (fun r r' m hm => nx m hm)
    · exact ⟨v1, j_why (G := (fun P => vp_in (nI i + 1) (E.2.2.1 2) ∧ P)) (fun P p => ⟨v1, p⟩) h (fun r r' m hm => nx m hm)⟩
    · exact ⟨v1, j_count (G := (fun P => vp_in (nI i + 1) (E.2.2.1 2) ∧ P)) (fun P p => ⟨v1, p⟩) h (fun r m hm => nx m hm)⟩
theorem km_pure_j : km_pure := by
  intro E L hL h0 h1 h2 f0 f1 w mk w2 mk2 q1 q2
  have hw : w2 = w ∧ mk2 = mk ∧ (mk = nI 3 ∨ mk = nI 7) := by
    rcases kz_2 (km_cv E) with e | e
    · rcases q1 with ⟨_, rfl, rfl⟩ | ⟨c, _, _⟩
      · rcases q2 with ⟨_, rfl, rfl⟩ | ⟨c, _, _⟩
        · exact ⟨rfl, rfl, Or.inl rfl⟩
        · exact absurd (e.symm.trans c) (by decide)
      · exact absurd e c
    · rcases q1 with ⟨c, _, _⟩ | ⟨_, rfl, rfl⟩
      · exact absurd (e.symm.trans c) (by decide)
      · rcases q2 with ⟨c, _, _⟩ | ⟨_, rfl, rfl⟩
        · exact absurd e c
        · exact ⟨rfl, rfl, Or.inr rfl⟩
  obtain ⟨rfl, rfl, hm⟩ := hw
  exact ⟨L + 8, law_l hL h0 h1 h2 f0 f1 (L + 8) 1 _ (by omega) (by omega) (by omega) (jz_J _ _ hm)⟩
theorem whole_start {p : Program} {e : Env} {s : State} {m : MethodId} {below : List Frame} {meth : Method} {c : Code} (l : Launch) {b L : Nat} {xs : Nat → Int32} (hL : L ≤ 3585) (C0 : lw_At p s m meth c b L xs) : W p l e room_1 s m #[Value.ref b] below meth c s.heap [] 0 0 (lw_Z below #[Value.ref b] s) (entryFrame m ([Value.ref b] : List Value).toArray 4) := whole_open km_pure_j l hL C0
