/-! the reference: hold, match, find, prove, run end and change only their own places -/
variable {f : Prop}
theorem rIsM {mi : km_I} {x1 x2 : Int32} {K : Int32 → km_I → Prop} (hb : RB mi) (h1 : ∀ e, e < 2 → x1 = nI e → nb x2 6 → K 1 mi) (h0 : K 0 mi) : X7_isMethod_w x1 x2 mi K := by
  unfold X7_isMethod_w
  refine kz_in (fun a b => kz_if1 ?_) (fun _ => kz_if0 h0)
  obtain ⟨e, he, rfl⟩ := kz_nb (n := 1) (by decide) a b
  obtain ⟨k, hk, ek⟩ := hb.1 e he
  rw [nI_clamp (by omega), ek]
  refine ⟨vp_in_nI he (by decide), kz_in (fun a b => kz_if1 (h1 e he rfl ?_)) (fun _ => kz_if0 h0)⟩
  rcases k with _ | k
  · exact absurd (Int32.le_trans a b) (by decide)
  · rw [nI_pred] at b
    exact (kz_nb (n := k) (by omega) a b).mono (by omega)
theorem rHold_s {mi : km_I} {x1 x2 : Int32} {K : Int32 → km_I → Prop} (hI : RI mi) (hp : RP mi) (hK : ∀ r mi', RT f mi mi' → K r mi') : X7_hold_w x1 x2 mi K := by
  have h : RT f mi mi := ⟨⟨FR.rf mi, rfl, fun _ => S0.rf mi⟩, hp⟩
  have b57 : ∀ y3 z m, RT f mi m → X7_hold_b57 x1 x2 x1 x2 y3 z m K := fun y3 z m hm => by
    unfold X7_hold_b57
    intro m57 e57
    exact hK _ _ (by rw [e57]; exact hm.u86 (by decide) (by decide) (by decide))
  have b41 : ∀ y3 z m, RT f mi m → X7_hold_b41 x1 x2 x1 x2 y3 z m K := fun y3 z m hm => by
    unfold X7_hold_b41
    intro m41 e41
    have h9 : RT f mi m41 := by rw [e41]; exact hm.u86 (by decide) (by decide) (by decide)
    exact ⟨fun _ => b57 _ _ _ h9, fun _ => b57 _ _ _ h9⟩
  unfold X7_hold_w
  exact rIsM hI.2.1 (fun _ _ _ ha => kz_if1 (rIsM hI.2.1 (fun _ _ _ hb => kz_ifn1 (rHeld_s hI h ha hb (fun r m hm => ⟨fun _ => b41 _ _ _ hm, fun _ => b41 _ _ _ hm⟩))) (kz_ifn0 (hK _ _ h)))) (kz_if0 (hK _ _ h))
theorem rMatch_s {mi : km_I} {x1 : Int32} {K : Int32 → km_I → Prop} (hI : RI mi) (hp : RP mi) (hK : ∀ r mi', RT f mi mi' → K r mi') : X7_match_w x1 mi K := by
  have h : RT f mi mi := ⟨⟨FR.rf mi, rfl, fun _ => S0.rf mi⟩, hp⟩
  unfold X7_match_w
  refine rIsM hI.2.1 (fun _ _ _ ha => kz_ifn1 ⟨8, ?_⟩) (kz_ifn0 (hK _ _ h))
  obtain ⟨k, hk, ek⟩ := hI.2.1.1 1 (by decide)
  have loop : ∀ (n i : Nat) (m : km_I), i ≤ 7 → 7 < n + i → RT f mi m → X7_match_b14 x1 n x1 (nI i) m K := by
    intro n
    induction n with
    | zero =>
      intro i m q1 q2
      exact absurd q2 (by omega)
    | succ n ih =>
      intro i m q1 q2 hm
      simp only [X7_match_b14]
      rw [show Int32.toNatClampNeg 1 = 1 from rfl, hm.1.1.1 87 (by omega), ek, nI_leI (by omega) (by omega), nI_1]
      exact ⟨vp_in_nI (n := 1) (by decide) (by decide), fun _ => hK _ _ hm, fun c => rHeld_s hI hm ha (nb_of _ (by omega)) (fun r m' hm' => ⟨fun _ => ih (i + 1) m' (by omega) (by omega) hm', fun _ => hK _ _ hm'⟩)⟩
  exact loop 8 0 mi (by omega) (by omega) h
theorem ren_v : ∀ n, n < 256 → ∀ p, p < 4 → (nI n >>> ((6 - (2 * nI p)) &&& 31)) &&& 3 = nI ((n / 4 ^ (3 - p)) % 4) := by decide +kernel
theorem ren_15 : ∀ n, n < 256 → ((((0 ||| ((1 : Int32) <<< (nI (n / 4 ^ (3 - 0) % 4) &&& 31))) ||| ((1 : Int32) <<< (nI (n / 4 ^ (3 - 1) % 4) &&& 31))) ||| ((1 : Int32) <<< (nI (n / 4 ^ (3 - 2) % 4) &&& 31))) ||| ((1 : Int32) <<< (nI (n / 4 ^ (3 - 3) % 4) &&& 31))) = 15 → ∀ q, q < 4 → n / 4 ^ (3 - 0) % 4 = q ∨ n / 4 ^ (3 - 1) % 4 = q ∨ n / 4 ^ (3 - 2) % 4 = q ∨ n / 4 ^ (3 - 3) % 4 = q := by decide +kernel
theorem renames_s {mi : km_I} {n : Nat} {K : Int32 → km_I → Prop} (hn : n < 256) (hK0 : ∀ m, (∀ p, p ≠ 93 → m p = mi p) → (∀ j, 4 ≤ j → m 93 j = mi 93 j) → K 0 m) (hK1 : ∀ m, (∀ p, p ≠ 93 → m p = mi p) → (∀ j, 4 ≤ j → m 93 j = mi 93 j) → SP m → K 1 m) : X7_renames_w (nI n) mi K := by
  have s0 := ren_v n hn 0 (by decide)
  have s1 := ren_v n hn 1 (by decide)
  have s2 := ren_v n hn 2 (by decide)
  have s3 := ren_v n hn 3 (by decide)
  have c0 : Int32.toNatClampNeg 0 = 0 := rfl
  have c1 : Int32.toNatClampNeg (0 + 1) = 1 := rfl
  have c2 : Int32.toNatClampNeg (0 + 1 + 1) = 2 := rfl
  have c3 : Int32.toNatClampNeg (0 + 1 + 1 + 1) = 3 := rfl
  refine ⟨5, ?_⟩
  refine ⟨fun c => absurd c (by decide), fun _ => ⟨vp_in_nI (n := 0) (by decide) (by decide), fun a ea => ⟨vp_in_nI (n := 0) (by decide) (by decide), ?_⟩⟩⟩
  refine ⟨fun c => absurd c (by decide), fun _ => ⟨vp_in_nI (n := 1) (by decide) (by decide), fun b eb => ⟨vp_in_nI (n := 1) (by decide) (by decide), ?_⟩⟩⟩
  refine ⟨fun c => absurd c (by decide), fun _ => ⟨vp_in_nI (n := 2) (by decide) (by decide), fun c ec => ⟨vp_in_nI (n := 2) (by decide) (by decide), ?_⟩⟩⟩
  refine ⟨fun c => absurd c (by decide), fun _ => ⟨vp_in_nI (n := 3) (by decide) (by decide), fun d ed => ⟨vp_in_nI (n := 3) (by decide) (by decide), ?_⟩⟩⟩
  have f0 : a 93 0 = nI ((n / 4 ^ (3 - 0)) % 4) := by rw [ea, ← s0]; exact km_u_at _ _ _ _
  have f1 : b 93 1 = nI ((n / 4 ^ (3 - 1)) % 4) := by rw [eb, ← s1]; exact km_u_at _ _ _ _
  have f2 : c 93 2 = nI ((n / 4 ^ (3 - 2)) % 4) := by rw [ec, ← s2]; exact km_u_at _ _ _ _
  have f3 : d 93 3 = nI ((n / 4 ^ (3 - 3)) % 4) := by rw [ed, ← s3]; exact km_u_at _ _ _ _
  have eb' : b = km_u a 93 1 (nI ((n / 4 ^ (3 - 1)) % 4)) := by rw [eb, ← s1]; rfl
  have ec' : c = km_u b 93 2 (nI ((n / 4 ^ (3 - 2)) % 4)) := by rw [ec, ← s2]; rfl
  have ed' : d = km_u c 93 3 (nI ((n / 4 ^ (3 - 3)) % 4)) := by rw [ed, ← s3]; rfl
  have ea' : a = km_u mi 93 0 (nI ((n / 4 ^ (3 - 0)) % 4)) := by rw [ea, ← s0]; rfl
  have ho : ∀ p, p ≠ 93 → d p = mi p := fun p hp => by rw [ed', km_u_off p hp, ec', km_u_off p hp, eb', km_u_off p hp, ea', km_u_off p hp]
  have hj4 : ∀ j, 4 ≤ j → d 93 j = mi 93 j := fun j hj => by rw [ed', km_u_k (by omega), ec', km_u_k (by omega), eb', km_u_k (by omega), ea', km_u_k (by omega)]
  have g0 : d 93 0 = nI ((n / 4 ^ (3 - 0)) % 4) := by rw [ed', km_u_k (by omega), ec', km_u_k (by omega), eb', km_u_k (by omega), f0]
  have g1 : d 93 1 = nI ((n / 4 ^ (3 - 1)) % 4) := by rw [ed', km_u_k (by omega), ec', km_u_k (by omega), f1]
  have g2 : d 93 2 = nI ((n / 4 ^ (3 - 2)) % 4) := by rw [ed', km_u_k (by omega), f2]
  refine ⟨fun _ => ⟨fun _ => hK0 d ho hj4, fun e15 => hK1 d ho hj4 (fun q hq => ?_)⟩, fun c => absurd (by decide) c⟩
  rw [c0, c1, c2, c3, f0, f1, f2, f3] at e15
  rcases ren_15 n hn e15 q hq with e | e | e | e
  · exact ⟨0, by decide, by rw [g0, e]⟩
  · exact ⟨1, by decide, by rw [g1, e]⟩
  · exact ⟨2, by decide, by rw [g2, e]⟩
  · exact ⟨3, by decide, by rw [f3, e]⟩
/-- while find tries its RENAMINGS -/
def FQ (f : Prop) (m0 mi : km_I) : Prop := ((∀ p, p < 86 ∨ (87 ≤ p ∧ p < 97 ∧ p ≠ 93) → mi p = m0 p) ∧ (∀ j, 4 ≤ j → mi 93 j = m0 93 j) ∧ (mi 86 0 = m0 86 0 ∧ mi 86 1 = m0 86 1 ∧ mi 86 10 = m0 86 10) ∧ (∀ p, p < 4 → mi 114 p = m0 93 p) ∧ RP mi) ∧ (f → S0 m0 mi)
theorem FQ.ri {m0 mi : km_I} (h : FQ f m0 mi) (hI : RI m0) (hs : SP mi) : RI mi := by
  obtain ⟨h1, h2, h3, h4, h5⟩ := hI
  obtain ⟨⟨e1, e2, ⟨e3, e4, e5⟩, e6, e7⟩, e8⟩ := h
  exact ⟨by rw [e4]; exact h1, h2.mv (fun p q1 q2 => e1 p (by omega)), hs, by rw [e5]; exact h4, fun j hj => by rw [e1 95 (by omega), e1 96 (by omega)]; exact h5 j hj⟩
theorem rFind_s {mi : km_I} {x1 x2 : Int32} {K : Int32 → km_I → Prop} (hI : RI mi) (hp : RP mi) (hK : ∀ r mi', FR mi mi' → RP mi' → (f → S0 mi mi') → K r mi') : X7_find_w x1 x2 mi K := by
  unfold X7_find_w
  refine rIsM hI.2.1 (fun _ _ _ ha => kz_if1 (rIsM hI.2.1 (fun _ _ _ hb => kz_ifn1 ⟨5, ?_⟩) (kz_ifn0 (hK _ _ (FR.rf mi) hp (fun _ => S0.rf mi))))) (kz_if0 (hK _ _ (FR.rf mi) hp (fun _ => S0.rf mi)))
  have b130 : ∀ (n i : Nat) (y3 : Int32) (m : km_I), i ≤ 4 → 4 < n + i → FQ f mi m → (∀ p, p < i → m 93 p = mi 93 p) → X7_find_b130 x1 x2 n x1 x2 y3 (nI i) m K := by
    intro n
    induction n with
    | zero =>
      intro i y3 m q1 q2
      exact absurd q2 (by omega)
    | succ n ih =>
      intro i y3 m q1 q2 hq hd
      simp only [X7_find_b130]
      rw [show (4 : Int32) = nI 4 from rfl, nI_leI (by omega) (by omega), nI_clamp (by omega), nI_1]
      obtain ⟨⟨e1, e2, ⟨e3, e4, e5⟩, e6, e7⟩, e8⟩ := hq
      refine ⟨fun c => hK _ _ ⟨fun p hp' => ?_, e3, e4, e5⟩ e7 e8, fun c => ⟨vp_in_nI (by omega) (by decide), vp_in_nI (by omega) (by decide), fun m149 e149 => ih (i + 1) y3 m149 (by omega) (by omega) ?_ (fun p hp' => ?_)⟩⟩
      · by_cases e : p = 93
        · subst e
          funext j
          rcases Nat.lt_or_ge j 4 with z | z
          · exact hd j (by omega)
          · exact e2 j z
        · exact e1 p (by omega)
      · rw [e149]
        exact ⟨⟨fun p hp' => by rw [km_u_off p (by omega)]; exact e1 p hp', fun j hj => by rw [km_u_k (by omega)]; exact e2 j hj, ⟨by rw [km_u_p (by decide)]; exact e3, by rw [km_u_p (by decide)]; exact e4, by rw [km_u_p (by decide)]; exact e5⟩, fun p hp' => by rw [km_u_p (by decide)]; exact e6 p hp', e7.u (by decide) (by decide) (by decide)⟩, fun q => (e8 q).mv (fun p _ _ => km_u_off p (by omega))⟩
      · rw [e149]
        by_cases e : p = i
        · subst e; rw [km_u_at]; exact e6 p (by omega)
        · rw [km_u_k e]; exact hd p (by omega)
  have b127 : ∀ y3 y4 m, FQ f mi m → X7_find_b127 x1 x2 x1 x2 y3 y4 m K := fun y3 y4 m hq => ⟨5, b130 5 0 y3 m (by omega) (by omega) hq (fun p h => absurd h (by omega))⟩
  have b51 : ∀ (n i : Nat) (y3 : Int32) (m : km_I), i ≤ 256 → 256 < n + i → FQ f mi m → X7_find_b51 x1 x2 n x1 x2 y3 (nI i) m K := by
    intro n
    induction n with
    | zero =>
      intro i y3 m q1 q2
      exact absurd q2 (by omega)
    | succ n ih =>
      intro i y3 m q1 q2 hq
      have b121 : i < 256 → ∀ v m', FQ f mi m' → X7_find_b121 x1 x2 (fun v0 v1 v2 v3 m => X7_find_b51 x1 x2 n v0 v1 v2 v3 m K) x1 x2 v (nI i) m' K := fun hi v m' hq' => by
        unfold X7_find_b121
        rw [nI_1]
        exact ih (i + 1) v m' (by omega) (by omega) hq'
      simp only [X7_find_b51]
      rw [show (256 : Int32) = nI 256 from rfl, nI_leI (by omega) (by omega)]
      have mv : ∀ m67, (∀ p, p ≠ 93 → m67 p = m p) → (∀ j, 4 ≤ j → m67 93 j = m 93 j) → FQ f mi m67 := fun m67 ho hj => by
        obtain ⟨⟨e1, e2, ⟨e3, e4, e5⟩, e6, e7⟩, e8⟩ := hq
        refine ⟨⟨fun p hp' => by rw [ho p (by omega)]; exact e1 p hp', fun j hj' => by rw [hj j hj']; exact e2 j hj', ⟨by rw [ho 86 (by decide)]; exact e3, by rw [ho 86 (by decide)]; exact e4, by rw [ho 86 (by decide)]; exact e5⟩, fun p hp' => by rw [ho 114 (by decide)]; exact e6 p hp', ⟨fun j hj' => by rw [ho 107 (by decide)]; exact e7.1 j hj', fun o ho' => by rw [ho 106 (by decide), ho 110 (by decide)]; exact e7.2 o ho'⟩⟩, fun q => (e8 q).mv (fun p _ _ => ho p (by omega))⟩
      refine ⟨fun _ => b127 _ _ _ hq, fun c => ⟨fun _ => b127 _ _ _ hq, fun _ => renames_s (by omega) (fun m67 ho hj => kz_if0 (b121 (by omega) _ _ (mv m67 ho hj))) (fun m67 ho hj hs => kz_if1 ?_)⟩⟩
      have h67 := mv m67 ho hj
      refine rHeld_s (f := f) (h67.ri hI hs) ⟨⟨FR.rf m67, rfl, fun _ => S0.rf m67⟩, h67.1.2.2.2.2⟩ ha hb (fun r m76 h76 => ?_)
      have hq76 : FQ f mi m76 := by
        obtain ⟨⟨e1, e2, ⟨e3, e4, e5⟩, e6, e7⟩, e8⟩ := h67
        obtain ⟨⟨f1, f114, f0⟩, frp⟩ := h76
        exact ⟨⟨fun p hp' => by rw [f1.1 p (by omega)]; exact e1 p hp', fun j hj' => by rw [f1.1 93 (by omega)]; exact e2 j hj', ⟨by rw [f1.2.1]; exact e3, by rw [f1.2.2.1]; exact e4, by rw [f1.2.2.2]; exact e5⟩, fun p hp' => by rw [f114]; exact e6 p hp', frp⟩, fun q => (e8 q).tr (f0 q)⟩
      exact ⟨fun _ => b121 (by omega) _ _ hq76, fun _ => ⟨vp_in_nI (n := 0) (by decide) (by decide), vp_in_nI (n := 1) (by decide) (by decide), vp_in_nI (n := 2) (by decide) (by decide), vp_in_nI (n := 3) (by decide) (by decide), b121 (by omega) _ _ hq76⟩⟩
  have b23 : ∀ (n i : Nat) (m : km_I), i ≤ 4 → 4 < n + i → (FR mi m ∧ RP m ∧ (f → S0 mi m)) → (∀ p, p < i → m 114 p = mi 93 p) → X7_find_b23 x1 x2 n x1 x2 (nI i) m K := by
    intro n
    induction n with
    | zero =>
      intro i m q1 q2
      exact absurd q2 (by omega)
    | succ n ih =>
      intro i m q1 q2 hm hd
      simp only [X7_find_b23]
      rw [show (4 : Int32) = nI 4 from rfl, nI_leI (by omega) (by omega), nI_clamp (by omega), nI_1]
      refine ⟨fun c => ⟨257, b51 257 0 (-1) m (by omega) (by omega) ⟨⟨fun p hp' => hm.1.1 p (by omega), fun j hj => by rw [hm.1.1 93 (by omega)], ⟨hm.1.2.1, hm.1.2.2.1, hm.1.2.2.2⟩, fun p hp' => hd p (by omega), hm.2.1⟩, hm.2.2⟩⟩, fun c => ⟨vp_in_nI (by omega) (by decide), vp_in_nI (by omega) (by decide), fun m39 e39 => ih (i + 1) m39 (by omega) (by omega) ?_ (fun p hp' => ?_)⟩⟩
      · rw [e39]
        exact ⟨⟨fun p hp' => by rw [km_u_off p (by omega)]; exact hm.1.1 p hp', by rw [km_u_p (by decide)]; exact hm.1.2.1, by rw [km_u_p (by decide)]; exact hm.1.2.2.1, by rw [km_u_p (by decide)]; exact hm.1.2.2.2⟩, hm.2.1.u (by decide) (by decide) (by decide), fun q => (hm.2.2 q).mv (fun p _ _ => km_u_off p (by omega))⟩
      · rw [e39]
        by_cases e : p = i
        · subst e; rw [km_u_at, hm.1.1 93 (by omega)]
        · rw [km_u_k e]; exact hd p (by omega)
  exact b23 5 0 mi (by omega) (by omega) ⟨FR.rf mi, hp, fun _ => S0.rf mi⟩ (fun p h => absurd h (by omega))
/-- while prove goes through the ANSWERS -/
def RA (f : Prop) (m0 mi : km_I) (a b : Nat) : Prop := RT f m0 mi ∧ mi 86 20 = nI a ∧ mi 86 21 = nI b
theorem RA.fp {m0 x c : km_I} {a b : Nat} (h : RA f m0 x a b) (hf : FP f x c) (hp : RP c) : RA f m0 c a b := ⟨h.1.fp hf hp, (hf.2.1 20 (by decide) (by decide)).trans h.2.1, (hf.2.1 21 (by decide) (by decide)).trans h.2.2⟩
theorem walks_r {m0 mi : km_I} {a b p : Nat} {x2 x3 : Int32} {K : Int32 → km_I → Prop} (hI : RI m0) (h : RA f m0 mi a b) (hp : p < 6) (hK : ∀ r mi', RA f m0 mi' a b → K r mi') : X7_walks_w (nI p) x2 x3 mi K := by
  have v1 : vp_in 1 3 := vp_in_nI (n := 1) (by decide) (by decide)
  have v2 : vp_in 2 3 := vp_in_nI (n := 2) (by decide) (by decide)
  have vp : vp_in (nI p) 6 := vp_in_nI hp (by decide)
  have r : RI mi := hI.mv h.1.1.1
  unfold X7_walks_w
  rw [nI_clamp (by omega)]
  refine ⟨vp, play_s (f := f) (s := 1) (e := 0) (by decide) (by decide) (fun _ => by decide) r.2.1 h.1.2 (r.2.2.2.2 p hp).1 (fun m11 f11 p11 => ⟨vp, ?_⟩)⟩
  have h11 := h.fp f11 p11
  have r11 : RI m11 := hI.mv h11.1.1.1
  refine play_s (f := f) (s := 2) (e := 1) (by decide) (by decide) (fun _ => by decide) r11.2.1 h11.1.2 (r11.2.2.2.2 p hp).2 (fun m25 f25 p25 => ?_)
  have h25 := h11.fp f25 p25
  exact ⟨v1, fun _ => hK _ _ h25, fun _ => ⟨v2, fun _ => rLike_s hI h25.1 (fun r _ => ⟨fun _ => hK _ _ h25, fun _ => hK _ _ h25⟩), fun _ => hK _ _ h25⟩⟩
theorem tells_r {m0 mi : km_I} {a b : Nat} {x1 x2 x3 : Int32} {K : km_I → Prop} (h : RA f m0 mi a b) (hK : ∀ mi', RA f m0 mi' a b → K mi') : X7_tells_w x1 x2 x3 mi K := by
  have u : ∀ {m k v}, RA f m0 m a b → RA f m0 (km_u m 115 k v) a b := fun hm => ⟨hm.1.u115, by rw [km_u_p (by decide)]; exact hm.2.1, by rw [km_u_p (by decide)]; exact hm.2.2⟩
  unfold X7_tells_w
  refine ⟨vp_in_nI (n := 0) (by decide) (by decide), fun m6 e6 => ⟨vp_in_nI (n := 1) (by decide) (by decide), fun m13 e13 => ⟨vp_in_nI (n := 2) (by decide) (by decide), fun m20 e20 => ⟨vp_in_nI (n := 3) (by decide) (by decide), fun m30 e30 => ⟨vp_in_nI (n := 4) (by decide) (by decide), fun m40 e40 m43 e43 => hK _ ?_⟩⟩⟩⟩⟩
  have h40 : RA f m0 m40 a b := by rw [e40, e30, e20, e13, e6]; exact u (u (u (u (u h))))
  rw [e43]
  exact ⟨h40.1.u86 (by decide) (by decide) (by decide), by rw [km_u_k (by decide)]; exact h40.2.1, by rw [km_u_k (by decide)]; exact h40.2.2⟩
theorem proved_r {m0 mi : km_I} {p : Nat} {x2 : Int32} {K : Int32 → km_I → Prop} (hI : RI m0) (h : RT f m0 mi) (hp : p < 6) (hK : ∀ r mi', RT f m0 mi' → K r mi') : X7_proved_w (nI p) x2 mi K := by
  obtain ⟨k, hk, ek⟩ := hI.mk
  have b49 : ∀ (a : Nat) (y4 y5 : Int32) (Z5 : Int32 → Int32 → Int32 → Int32 → km_I → Prop) (Z17 Z31 : Int32 → Int32 → Int32 → Int32 → Int32 → km_I → Prop), a ≤ 9 → (∀ v m, RT f m0 m → m 86 20 = nI (a + 1) → Z31 (nI p) x2 v y4 y5 m) → ∀ (n b : Nat) (y3 : Int32) (m : km_I), b ≤ 9 → 9 < n + b → RA f m0 m a b → X7_proved_b49 (nI p) x2 Z5 Z17 Z31 n (nI p) x2 y3 y4 y5 m K := by
    intro a y4 y5 Z5 Z17 Z31 ha hZ n
    induction n with
    | zero =>
      intro b y3 m q1 q2
      exact absurd q2 (by omega)
    | succ n ih =>
      intro b y3 m q1 q2 hm
      have b101 : b ≤ k + 1 → ∀ y3 y6 m', RA f m0 m' a b → X7_proved_b101 (nI p) x2 Z5 Z17 Z31 (fun v0 v1 v2 v3 v4 m => X7_proved_b49 (nI p) x2 Z5 Z17 Z31 n v0 v1 v2 v3 v4 m K) (nI p) x2 y3 y4 y5 y6 m' K := fun hb y3 y6 m' hm' => by
        unfold X7_proved_b101
        rw [hm'.2.2, nI_1]
        refine ⟨fun _ m115 e115 => ih (b + 1) y3 m115 (by omega) (by omega) ?_, fun _ => hK _ _ hm'.1⟩
        rw [e115]
        exact ⟨hm'.1.u86 (by decide) (by decide) (by decide), by rw [km_u_k (by decide)]; exact hm'.2.1, km_u_at _ _ _ _⟩
      have b89 : b ≤ k + 1 → ∀ y3 y6 m', RA f m0 m' a b → X7_proved_b89 (nI p) x2 Z5 Z17 Z31 (fun v0 v1 v2 v3 v4 m => X7_proved_b49 (nI p) x2 Z5 Z17 Z31 n v0 v1 v2 v3 v4 m K) (nI p) x2 y3 y4 y5 y6 m' K := fun hb y3 y6 m' hm' => by
        unfold X7_proved_b89
        exact tells_r hm' (fun m95 h95 => b101 hb _ _ _ h95)
      simp only [X7_proved_b49]
      rw [hm.1.1.1.2.2.1, ek, nI_1, hm.2.2, nI_ltI (by omega) (by omega), hm.2.1, nI_1]
      refine ⟨fun _ m128 e128 => hZ _ _ ?_ ?_, fun c => walks_r hI hm hp (fun r m' hm' => ⟨fun _ => b89 (by omega) _ _ _ hm', fun _ => ⟨fun _ => b101 (by omega) _ _ _ hm', fun _ => ⟨fun _ => b101 (by omega) _ _ _ hm', fun _ => b89 (by omega) _ _ _ hm'⟩⟩⟩)⟩
      · rw [e128]; exact hm.1.u86 (by decide) (by decide) (by decide)
      · rw [e128, km_u_at]
  have b31 : ∀ (y4 : Int32) (j : Nat) (Z5 : Int32 → Int32 → Int32 → Int32 → km_I → Prop) (Z17 : Int32 → Int32 → Int32 → Int32 → Int32 → km_I → Prop), (∀ v m, RT f m0 m → Z17 (nI p) x2 v y4 (nI (j + 1)) m) → ∀ (n a : Nat) (y3 : Int32) (m : km_I), a ≤ 9 → 9 < n + a → RT f m0 m → m 86 20 = nI a → X7_proved_b31 (nI p) x2 Z5 Z17 n (nI p) x2 y3 y4 (nI j) m K := by
    intro y4 j Z5 Z17 hZ n
    induction n with
    | zero =>
      intro a y3 m q1 q2
      exact absurd q2 (by omega)
    | succ n ih =>
      intro a y3 m q1 q2 hm ha
      simp only [X7_proved_b31]
      rw [hm.1.1.2.2.1, ek, nI_1, ha, nI_ltI (by omega) (by omega), nI_1]
      refine ⟨fun _ => hZ _ _ hm, fun c m46 e46 => ⟨10, b49 a y4 (nI j) Z5 Z17 _ (by omega) (fun v m' hm' ha' => ih (a + 1) v m' (by omega) (by omega) hm' ha') 10 0 y3 m46 (by omega) (by omega) ?_⟩⟩
      rw [e46]
      exact ⟨hm.u86 (by decide) (by decide) (by decide), by rw [km_u_k (by decide)]; exact ha, km_u_at _ _ _ _⟩
  have b17 : ∀ (i : Nat) (Z5 : Int32 → Int32 → Int32 → Int32 → km_I → Prop), (∀ v m, RT f m0 m → Z5 (nI p) x2 v (nI (i + 1)) m) → ∀ (n j : Nat) (y3 : Int32) (m : km_I), j ≤ 9 → 9 < n + j → RT f m0 m → X7_proved_b17 (nI p) x2 Z5 n (nI p) x2 y3 (nI i) (nI j) m K := by
    intro i Z5 hZ n
    induction n with
    | zero =>
      intro j y3 m q1 q2
      exact absurd q2 (by omega)
    | succ n ih =>
      intro j y3 m q1 q2 hm
      simp only [X7_proved_b17]
      rw [hm.1.1.2.2.1, ek, nI_ltI (by omega) (by omega), nI_1]
      refine ⟨fun _ => hZ _ _ hm, fun c m28 e28 => ⟨10, b31 (nI i) j Z5 _ (fun v m' hm' => ih (j + 1) v m' (by omega) (by omega) hm') 10 0 y3 m28 (by omega) (by omega) ?_ ?_⟩⟩
      · rw [e28]; exact hm.u86 (by decide) (by decide) (by decide)
      · rw [e28, km_u_at]; rfl
  have b5 : ∀ (n i : Nat) (y3 : Int32) (m : km_I), i ≤ 9 → 9 < n + i → RT f m0 m → X7_proved_b5 (nI p) x2 n (nI p) x2 y3 (nI i) m K := by
    intro n
    induction n with
    | zero =>
      intro i y3 m q1 q2
      exact absurd q2 (by omega)
    | succ n ih =>
      intro i y3 m q1 q2 hm
      simp only [X7_proved_b5]
      rw [hm.1.1.2.2.1, ek, nI_ltI (by omega) (by omega)]
      exact ⟨fun _ => hK _ _ hm, fun c => ⟨10, b17 i _ (fun v m' hm' => ih (i + 1) v m' (by omega) (by omega) hm') 10 0 y3 m (by omega) (by omega) hm⟩⟩
  exact ⟨10, b5 10 0 x2 mi (by omega) (by omega) h⟩
theorem rProve_s {mi : km_I} {K : Int32 → km_I → Prop} (hI : RI mi) (hp : RP mi) (hK : ∀ r mi', RT f mi mi' → K r mi') : X7_prove_w mi K := by
  have h : RT f mi mi := ⟨⟨FR.rf mi, rfl, fun _ => S0.rf mi⟩, hp⟩
  obtain ⟨k, hk, ek⟩ := hI.2.2.2.1
  have loop : ∀ (n i : Nat) (y1 : Int32) (m : km_I), i ≤ 7 → 7 < n + i → RT f mi m → X7_prove_b23 n y1 (nI i) m K := by
    intro n
    induction n with
    | zero =>
      intro i y1 m q1 q2
      exact absurd q2 (by omega)
    | succ n ih =>
      intro i y1 m q1 q2 hm
      simp only [X7_prove_b23]
      rw [hm.1.1.2.2.2, ek, nI_leI (by omega) (by omega), nI_1]
      exact ⟨fun _ => hK _ _ hm, fun c => ⟨fun _ => hK _ _ hm, fun _ => proved_r hI hm (by omega) (fun r m' hm' => ih (i + 1) r m' (by omega) (by omega) hm')⟩⟩
  unfold X7_prove_w
  intro m2 e2
  have h2 : RT f mi m2 := by rw [e2]; exact h.u86 (by decide) (by decide) (by decide)
  refine ⟨fun _ m16 e16 => ⟨8, loop 8 0 1 m16 (by omega) (by omega) ?_⟩, fun _ => hK _ _ h2⟩
  rw [e16]
  exact h2.u86 (by decide) (by decide) (by decide)
