/-! CLASS AND REFERENCE TOGETHER: op, count, and the calls whose answers are not compared -/
theorem addOp_x {b j s : Nat} {x2 x3 x4 x5 : Int32} {mi : km_I} {K : Int32 → km_I → Prop} (hj : j < 6) (hs : s < 24) (es : mi (b + 1) j = nI s) (hK : K (nI s) (km_u (km_u (km_u (km_u (km_u mi (b + 2) (24 * j + s) x2) (b + 3) (24 * j + s) x3) (b + 4) (24 * j + s) x4) (b + 5) (24 * j + s) x5) (b + 1) j (nI (s + 1)))) : X0_addOp_w b (nI j) x2 x3 x4 x5 mi K := by
  have ej : (nI j).toNatClampNeg = j := nI_clamp (by omega)
  have ix : nI j * 24 + mi (b + 1) (nI j).toNatClampNeg = nI (24 * j + s) := by
    rw [ej, es, show (24 : Int32) = nI 24 from rfl, nx_mul, nI_add, Nat.mul_comm]
  have v : vp_in (nI j * 24 + mi (b + 1) (nI j).toNatClampNeg) 144 := by rw [ix]; exact vp_in_nI (by omega) (by decide)
  have vj : vp_in (nI j) 6 := vp_in_nI hj (by decide)
  refine ⟨vj, v, fun m20 e20 => ⟨v, fun m28 e28 => ⟨v, fun m37 e37 => ⟨v, fun m46 e46 => ⟨vj, vj, fun m57 e57 => ?_⟩⟩⟩⟩⟩
  rw [ix, nI_clamp (by omega)] at e20 e28 e37 e46
  have e1 : m46 (b + 1) j = nI s := by rw [e46, km_u_p (by omega), e37, km_u_p (by omega), e28, km_u_p (by omega), e20, km_u_p (by omega)]; exact es
  rw [ej, e1, nI_1] at e57
  rw [ej, e1, e57, e46, e37, e28, e20]
  exact hK
theorem j_op {E : km_E} {mi : km_I} {x1 x2 x3 x4 x5 x6 : Int32} {G : Prop → Prop} {K : Int32 → Int32 → km_I → Prop} (h0 : E.2.2.1 0 = 48) (hE : ∀ j, E.2.2.2.1 0 j = km_opL.getD j 0) (hG : ∀ P, P → G P) (h : JJ mi) (hK : ∀ r mi', JJ mi' → K r r mi') : X6_op_w E x1 x2 x3 x4 x5 x6 mi (fun r m => G (X7_op_w x1 x2 x3 x4 x5 x6 m (K r))) := by
  unfold X6_op_w
  refine cIs h (fun e b j k hbe q1 q2 ek hj hk => kz_ifn1 ?_) (fun hn => kz_ifn0 (hG _ ?_))
  · subst q1; subst q2
    have hl := hbe.le
    have hB := h.bi hbe
    have hJ := h.jb hbe
    have e87 : mi 87 e = nI k := hJ.1.trans ek
    have no : ¬ OKR (mi 0 1) x3 x4 x5 x6 → G (X7_op_w (nI e) (nI j) x3 x4 x5 x6 mi (K (-102))) := fun hn => hG _ (by
      unfold X7_op_w
      exact rIs1 hl.2.2 hk e87 hj (kz_ifn1 (right_x h.2.2.1.2 (fun q => absurd q hn) (fun _ => kz_ifn0 (hK _ _ h)))))
    refine kz_within (fun a1 a2 => kz_if1 ?_) (fun o => kz_if0 (no ?_))
    · obtain ⟨o, ho, eo⟩ := kz_nb (n := 15) (by decide) a1 a2
      have ho' : o < 16 := ho
      subst eo
      have iff := OKR.of (M := mi 0 1) (a := x4) (b := x5) (c := x6) ho'
      refine fits_x (i := 0) h0 hE ho' (by decide) (fun d1 => kz_if1 (fits_x (i := 1) h0 hE ho' (by decide) (fun d2 => kz_if1 (fits_x (i := 2) h0 hE ho' (by decide) (fun d3 => kz_ifn1 ?_) (fun d => kz_ifn0 (no (fun q => d (iff.1 q).2.2))))) (fun d => kz_if0 (no (fun q => d (iff.1 q).2.1))))) (fun d => kz_if0 (no (fun q => d (iff.1 q).1)))
      have okr : OKR (mi 0 1) (nI o) x4 x5 x6 := iff.2 ⟨d1, d2, d3⟩
      refine bO hl.2.2 (fun b' hbe' => ?_)
      obtain rfl := hbe.eq hbe'
      obtain ⟨s, hs, es⟩ := hB.2.1 j (by omega)
      have cj : (nI j).toNatClampNeg = j := nI_clamp (by omega)
      have e88 : mi 88 (6 * e + j) = nI s := (hJ.2.1 j (by omega)).trans es
      refine ⟨hbe.is, vp_in_nI (by omega) (by decide), ?_⟩
      have z24 : nI s = 24 ↔ s = 24 := nI_eq (b := 24) (by omega) (by decide)
      have v12 : vp_in (nI (6 * e + j)) 12 := vp_in_nI (by omega) (by decide)
      rw [cj, es, z24]
      refine ⟨fun c => ?_, fun c => hG _ ?_⟩
      · have s24 : s < 24 := by omega
        refine addOp_x (by omega) s24 es (hG _ ?_)
        generalize em : km_u (km_u (km_u (km_u (km_u mi (b' + 2) (24 * j + s) (nI o)) (b' + 3) (24 * j + s) x4) (b' + 4) (24 * j + s) x5) (b' + 5) (24 * j + s) x6) (b' + 1) j (nI (s + 1)) = m57
        have off : ∀ z, 86 ≤ z → m57 z = mi z := fun z hz => by rw [← em, km_u_off z (by omega), km_u_off z (by omega), km_u_off z (by omega), km_u_off z (by omega), km_u_off z (by omega)]
        unfold X7_op_w
        refine rIs1 hl.2.2 hk (by rw [off 87 (by omega)]; exact e87) hj (kz_ifn1 (right_x (M := mi 0 1) (by rw [off 86 (by omega)]; exact h.2.2.1.2) (fun _ => kz_ifn1 ?_) (fun hn => absurd okr hn)))
        have f88 : m57 88 (6 * e + j) = nI s := by rw [off 88 (by omega)]; exact e88
        have ix2 : (24 : Int32) * nI (6 * e + j) + nI s = nI (144 * e + (24 * j + s)) := by
          rw [show (24 : Int32) = nI 24 from rfl, nx_mul, nI_add]
          congr 1
          omega
        have v288 : vp_in (nI (144 * e + (24 * j + s))) 288 := vp_in_nI (by omega) (by decide)
        rw [ix6, nI_clamp (by omega), f88, ix2, nI_clamp (by omega), z24]
        refine ⟨v12, fun _ => ⟨v12, v288, fun m74 e74 => ⟨v288, fun m83 e83 => ⟨v288, fun m92 e92 => ⟨v288, fun m101 e101 => ⟨v12, v12, fun m112 e112 => ⟨v12, ?_⟩⟩⟩⟩⟩⟩, fun c2 => absurd c2 c⟩
        have g88 : m101 88 (6 * e + j) = nI s := by rw [e101, km_u_p (by omega), e92, km_u_p (by omega), e83, km_u_p (by omega), e74, km_u_p (by omega)]; exact f88
        rw [g88, nI_1] at e112
        rw [show m112 88 (6 * e + j) = nI (s + 1) from by rw [e112, km_u_at], nI_pred]
        refine hK _ _ ?_
        have cc : m112 = km_u (km_u (km_u (km_u (km_u m57 89 (144 * e + (24 * j + s)) (nI o)) 90 (144 * e + (24 * j + s)) x4) 91 (144 * e + (24 * j + s)) x5) 92 (144 * e + (24 * j + s)) x6) 88 (6 * e + j) (nI (s + 1)) := by rw [e112, e101, e92, e83, e74]
        clear e112 e101 e92 e83 e74 g88 f88
        have low : ∀ z, z < 86 → m112 z = m57 z := fun z hz => by rw [cc, km_u_off z (by omega), km_u_off z (by omega), km_u_off z (by omega), km_u_off z (by omega), km_u_off z (by omega)]
        have lowb : ∀ z, (z < b' ∨ b' + 6 ≤ z) → z < 86 → m57 z = mi z := fun z hz _ => by rw [← em, km_u_off z (by omega), km_u_off z (by omega), km_u_off z (by omega), km_u_off z (by omega), km_u_off z (by omega)]
        have w0 : m57 b' 0 = mi b' 0 := by rw [← em, km_u_p (by omega), km_u_p (by omega), km_u_p (by omega), km_u_p (by omega), km_u_p (by omega)]
        have w1 : ∀ i, m57 (b' + 1) i = if i = j then nI (s + 1) else mi (b' + 1) i := fun i => by
          rw [← em]
          by_cases ei : i = j
          · rw [ei, km_u_at, if_pos rfl]
          · rw [km_u_k ei, if_neg ei, km_u_p (by omega), km_u_p (by omega), km_u_p (by omega), km_u_p (by omega)]
        have w2 : ∀ i, m57 (b' + 2) i = if i = 24 * j + s then nI o else mi (b' + 2) i := fun i => by
          rw [← em, km_u_p (by omega), km_u_p (by omega), km_u_p (by omega), km_u_p (by omega)]
          by_cases ei : i = 24 * j + s
          · rw [ei, km_u_at, if_pos rfl]
          · rw [km_u_k ei, if_neg ei]
        have w3 : ∀ i, m57 (b' + 3) i = if i = 24 * j + s then x4 else mi (b' + 3) i := fun i => by
          rw [← em, km_u_p (by omega), km_u_p (by omega), km_u_p (by omega)]
          by_cases ei : i = 24 * j + s
          · rw [ei, km_u_at, if_pos rfl]
          · rw [km_u_k ei, if_neg ei, km_u_p (by omega)]
        have w4 : ∀ i, m57 (b' + 4) i = if i = 24 * j + s then x5 else mi (b' + 4) i := fun i => by
          rw [← em, km_u_p (by omega), km_u_p (by omega)]
          by_cases ei : i = 24 * j + s
          · rw [ei, km_u_at, if_pos rfl]
          · rw [km_u_k ei, if_neg ei, km_u_p (by omega), km_u_p (by omega)]
        have w5 : ∀ i, m57 (b' + 5) i = if i = 24 * j + s then x6 else mi (b' + 5) i := fun i => by
          rw [← em, km_u_p (by omega)]
          by_cases ei : i = 24 * j + s
          · rw [ei, km_u_at, if_pos rfl]
          · rw [km_u_k ei, if_neg ei, km_u_p (by omega), km_u_p (by omega), km_u_p (by omega)]
        clear em
        have y87 : m112 87 = mi 87 := by rw [cc, km_u_off 87 (by omega), km_u_off 87 (by omega), km_u_off 87 (by omega), km_u_off 87 (by omega), km_u_off 87 (by omega)]; exact off 87 (by omega)
        have y88 : ∀ i, m112 88 i = if i = 6 * e + j then nI (s + 1) else mi 88 i := fun i => by
          rw [cc]
          by_cases ei : i = 6 * e + j
          · rw [ei, km_u_at, if_pos rfl]
          · rw [km_u_k ei, if_neg ei, km_u_p (by omega), km_u_p (by omega), km_u_p (by omega), km_u_p (by omega), off 88 (by omega)]
        have y89 : ∀ i, m112 89 i = if i = 144 * e + (24 * j + s) then nI o else mi 89 i := fun i => by
          rw [cc, km_u_p (by omega), km_u_p (by omega), km_u_p (by omega), km_u_p (by omega)]
          by_cases ei : i = 144 * e + (24 * j + s)
          · rw [ei, km_u_at, if_pos rfl]
          · rw [km_u_k ei, if_neg ei, off 89 (by omega)]
        have y90 : ∀ i, m112 90 i = if i = 144 * e + (24 * j + s) then x4 else mi 90 i := fun i => by
          rw [cc, km_u_p (by omega), km_u_p (by omega), km_u_p (by omega)]
          by_cases ei : i = 144 * e + (24 * j + s)
          · rw [ei, km_u_at, if_pos rfl]
          · rw [km_u_k ei, if_neg ei, km_u_p (by omega), off 90 (by omega)]
        have y91 : ∀ i, m112 91 i = if i = 144 * e + (24 * j + s) then x5 else mi 91 i := fun i => by
          rw [cc, km_u_p (by omega), km_u_p (by omega)]
          by_cases ei : i = 144 * e + (24 * j + s)
          · rw [ei, km_u_at, if_pos rfl]
          · rw [km_u_k ei, if_neg ei, km_u_p (by omega), km_u_p (by omega), off 91 (by omega)]
        have y92 : ∀ i, m112 92 i = if i = 144 * e + (24 * j + s) then x6 else mi 92 i := fun i => by
          rw [cc, km_u_p (by omega)]
          by_cases ei : i = 144 * e + (24 * j + s)
          · rw [ei, km_u_at, if_pos rfl]
          · rw [km_u_k ei, if_neg ei, km_u_p (by omega), km_u_p (by omega), km_u_p (by omega), off 92 (by omega)]
        have yof : ∀ z, z = 86 ∨ 93 ≤ z → m112 z = mi z := fun z hz => by rw [cc, km_u_off z (by omega), km_u_off z (by omega), km_u_off z (by omega), km_u_off z (by omega), km_u_off z (by omega)]; exact off z (by omega)
        clear cc
        refine h.ub hbe (fun p h1 h2 => ?_) yof (by rw [y87]) (fun i hi => ?_) (fun p h1 h2 i hi => ?_) ?_ ?_
        · rw [low p h1]; exact lowb p h2 h1
        · rw [y88, if_neg (by omega)]
        · have hp : p = 89 ∨ p = 90 ∨ p = 91 ∨ p = 92 := by omega
          rcases hp with rfl | rfl | rfl | rfl
          · rw [y89, if_neg (by omega)]
          · rw [y90, if_neg (by omega)]
          · rw [y91, if_neg (by omega)]
          · rw [y92, if_neg (by omega)]
        · refine ⟨?_, fun i hi => ?_, fun i hi => ?_⟩
          · rw [low b' (by omega), w0]; exact hB.1
          · rw [low (b' + 1) (by omega), w1]
            by_cases ei : i = j
            · rw [if_pos ei]; exact nb_of _ (by omega)
            · rw [if_neg ei]; exact hB.2.1 i hi
          · rw [low (b' + 2) (by omega), low (b' + 3) (by omega), low (b' + 4) (by omega), low (b' + 5) (by omega), w2, w3, w4, w5]
            by_cases ei : i = 24 * j + s
            · rw [if_pos ei, if_pos ei, if_pos ei, if_pos ei]; exact okr.ok
            · rw [if_neg ei, if_neg ei, if_neg ei, if_neg ei]; exact hB.2.2 i hi
        · refine ⟨?_, fun i hi => ?_, fun k' i z1 z2 z3 => ?_, fun i hi => ?_⟩
          · rw [y87, low b' (by omega), w0]; exact hJ.1
          · rw [y88, low (b' + 1) (by omega), w1]
            by_cases ei : i = j
            · rw [if_pos (by omega), if_pos ei]
            · rw [if_neg (by omega), if_neg ei]; exact hJ.2.1 i hi
          · rw [low b' (by omega), w0, ek] at z1
            rw [low (b' + 1) (by omega), w1]
            have : k' = k := by
              by_cases hk' : k' < 2 ^ 31
              · rw [nI_eq (by omega) hk'] at z1; exact z1.symm
              · exact absurd z2 (by omega)
            rw [if_neg (by omega)]
            exact hJ.2.2.1 k i ek (by omega) z3
          · obtain ⟨u1, u2, u3, u4⟩ := hJ.2.2.2 i hi
            rw [y89, y90, y91, y92, low (b' + 2) (by omega), low (b' + 3) (by omega), low (b' + 4) (by omega), low (b' + 5) (by omega), w2, w3, w4, w5]
            by_cases ei : i = 24 * j + s
            · rw [if_pos ei, if_pos ei, if_pos ei, if_pos ei, if_pos (by omega), if_pos (by omega), if_pos (by omega), if_pos (by omega)]
              exact ⟨rfl, rfl, rfl, rfl⟩
            · rw [if_neg ei, if_neg ei, if_neg ei, if_neg ei, if_neg (by omega), if_neg (by omega), if_neg (by omega), if_neg (by omega)]
              exact ⟨u1, u2, u3, u4⟩
      · unfold X7_op_w
        refine rIs1 hl.2.2 hk e87 hj (kz_ifn1 (right_x h.2.2.1.2 (fun _ => kz_ifn1 ?_) (fun hn => absurd okr hn)))
        rw [ix6, nI_clamp (by omega), e88, z24]
        exact ⟨v12, fun c2 => absurd c c2, fun _ => hK _ _ h⟩
    · rintro ⟨k', hk', rfl, -⟩
      exact kz_out o (nI_pos' (by omega)) (show nI k' ≤ nI 15 from nI_le (by omega) (by decide))
  · unfold X7_op_w
    exact rIs0 h hn (kz_ifn0 (hK _ _ h))
theorem rCount {mi : km_I} {x : Int32} {K : Int32 → km_I → Prop} (h : JJ mi) (z0 : Int32.toInt x < 0 ∨ 11 < Int32.toInt x → K (-101) mi) (z1 : Int32.toInt x = 0 → K (mi 1 0) mi) (z2 : Int32.toInt x = 1 → K (mi 7 0) mi) (z3 : Int32.toInt x = 2 → K (mi 21 0) mi) (z4 : Int32.toInt x = 3 → K (mi 0 0) mi) (z5 : 4 ≤ Int32.toInt x → Int32.toInt x ≤ 7 → K (mi 14 (Int32.toNatClampNeg (x - 4))) mi) (z6 : 8 ≤ Int32.toInt x → Int32.toInt x ≤ 11 → K (mi 15 (Int32.toNatClampNeg (x - 8))) mi) : X7_count_w x mi K := by
  have lt : ∀ {a b : Int32}, a < b ↔ a.toInt < b.toInt := Int32.lt_iff_toInt_lt
  have le : ∀ {a b : Int32}, a ≤ b ↔ a.toInt ≤ b.toInt := Int32.le_iff_toInt_le
  have c4 : Int32.toInt 4 = 4 := rfl
  have c7 : Int32.toInt 7 = 7 := rfl
  have c8 : Int32.toInt 8 = 8 := rfl
  have c11 : Int32.toInt 11 = 11 := rfl
  have c0 : Int32.toInt 0 = 0 := rfl
  have c1 : Int32.toInt 1 = 1 := rfl
  have c2 : Int32.toInt 2 = 2 := rfl
  have c3 : Int32.toInt 3 = 3 := rfl
  have it : ∀ k : Int32, ¬ x = k → ¬ Int32.toInt x = Int32.toInt k := fun k n e => n (Int32.toInt_inj.mp e)
  unfold X7_count_w
  refine kz_in (fun a1 a2 => kz_if1 ?_) (fun o4 => kz_if0 (kz_in (fun a1 a2 => kz_if1 ?_) (fun o8 => kz_if0 ⟨fun n0 => ⟨fun n1 => ⟨fun n2 => ⟨fun n3 => z0 ?_, fun e => ?_⟩, fun e => ?_⟩, fun e => ⟨vp_in_nI (n := 1) (by decide) (by decide), ?_⟩⟩, fun e => ⟨vp_in_nI (n := 0) (by decide) (by decide), ?_⟩⟩)))
  · rw [le, c4] at a1
    rw [le, c7] at a2
    have z := z5 a1 a2
    obtain ⟨j, hj, rfl⟩ := nI_of (x := x) (by rw [lt, c0]; omega)
    rw [nI_toInt hj] at a1 a2
    rw [show (4 : Int32) = nI 4 from rfl, nx_sub (by omega), nI_clamp (by omega)] at z ⊢
    refine ⟨vp_in_nI (by omega) (by decide), ?_⟩
    rw [(h.2.2.2.2.1.1 (j - 4) (by omega)).1]
    exact z
  · rw [le, c8] at a1
    rw [le, c11] at a2
    have z := z6 a1 a2
    obtain ⟨j, hj, rfl⟩ := nI_of (x := x) (by rw [lt, c0]; omega)
    rw [nI_toInt hj] at a1 a2
    rw [show (8 : Int32) = nI 8 from rfl, nx_sub (by omega), nI_clamp (by omega)] at z ⊢
    refine ⟨vp_in_nI (by omega) (by decide), ?_⟩
    rw [(h.2.2.2.2.1.1 (j - 8) (by omega)).2]
    exact z
  · have n0' := it 0 n0
    have n1' := it 1 n1
    have n2' := it 2 n2
    have n3' := it 3 n3
    rw [lt, lt, c4, c7] at o4
    rw [lt, lt, c8, c11] at o8
    rw [c0] at n0'
    rw [c1] at n1'
    rw [c2] at n2'
    rw [c3] at n3'
    omega
  · rw [h.2.2.1.1]; exact z4 (by rw [e]; rfl)
  · rw [h.2.2.2.2.2.1.1]; exact z3 (by rw [e]; rfl)
  · have z := z2 (by rw [e]; rfl)
    rw [show Int32.toNatClampNeg 1 = 1 from rfl, h.2.2.2.1.2.1]
    exact z
  · have z := z1 (by rw [e]; rfl)
    rw [show Int32.toNatClampNeg 0 = 0 from rfl, h.2.2.2.1.1.1]
    exact z
theorem j_count {mi : km_I} {x1 : Int32} {G : Prop → Prop} {K : Int32 → Int32 → km_I → Prop} (hG : ∀ P, P → G P) (h : JJ mi) (hK : ∀ r mi', JJ mi' → K r r mi') : X6_count_w x1 mi (fun r m => G (X7_count_w x1 m (K r))) := by
  have no : ∀ {P : Prop} {a b : Int}, a = b → ¬ a = b → P := fun e n => absurd e n
  have s4 : 4 ≤ Int32.toInt x1 → Int32.toInt x1 ≤ 7 → X6_count_b93 x1 x1 mi (fun r m => G (X7_count_w x1 m (K r))) := fun a b => by
    refine ⟨?_, hG _ (rCount h (fun c => absurd c (by omega)) (fun c => absurd c (by omega)) (fun c => absurd c (by omega)) (fun c => absurd c (by omega)) (fun c => absurd c (by omega)) (fun _ _ => hK _ _ h) (fun c => absurd c (by omega)))⟩
    obtain ⟨j, hj, rfl⟩ := nI_of (x := x1) (by rw [Int32.lt_iff_toInt_lt, show Int32.toInt 0 = 0 from rfl]; omega)
    rw [nI_toInt hj] at a b
    rw [show (4 : Int32) = nI 4 from rfl, nx_sub (by omega)]
    exact vp_in_nI (by omega) (by decide)
  have s8 : 8 ≤ Int32.toInt x1 → Int32.toInt x1 ≤ 11 → X6_count_b105 x1 x1 mi (fun r m => G (X7_count_w x1 m (K r))) := fun a b => by
    refine ⟨?_, hG _ (rCount h (fun c => absurd c (by omega)) (fun c => absurd c (by omega)) (fun c => absurd c (by omega)) (fun c => absurd c (by omega)) (fun c => absurd c (by omega)) (fun _ c => absurd c (by omega)) (fun _ _ => hK _ _ h))⟩
    obtain ⟨j, hj, rfl⟩ := nI_of (x := x1) (by rw [Int32.lt_iff_toInt_lt, show Int32.toInt 0 = 0 from rfl]; omega)
    rw [nI_toInt hj] at a b
    rw [show (8 : Int32) = nI 8 from rfl, nx_sub (by omega)]
    exact vp_in_nI (by omega) (by decide)
  unfold X6_count_w
  exact ⟨fun c => hG _ (rCount h (fun _ => hK _ _ h) (fun c2 => absurd c (by omega)) (fun c2 => absurd c (by omega)) (fun c2 => absurd c (by omega)) (fun c2 => absurd c (by omega)) (fun c2 c3 => absurd c (by omega)) (fun c2 c3 => absurd c (by omega))),
    fun c => hG _ (rCount h (fun c2 => absurd c2 (by omega)) (fun _ => hK _ _ h) (fun c2 => absurd c (by omega)) (fun c2 => absurd c (by omega)) (fun c2 => absurd c (by omega)) (fun c2 c3 => absurd c (by omega)) (fun c2 c3 => absurd c (by omega))),
    fun c => hG _ (rCount h (fun c2 => absurd c2 (by omega)) (fun c2 => absurd c (by omega)) (fun _ => hK _ _ h) (fun c2 => absurd c (by omega)) (fun c2 => absurd c (by omega)) (fun c2 c3 => absurd c (by omega)) (fun c2 c3 => absurd c (by omega))),
    fun c => hG _ (rCount h (fun c2 => absurd c2 (by omega)) (fun c2 => absurd c (by omega)) (fun c2 => absurd c (by omega)) (fun _ => hK _ _ h) (fun c2 => absurd c (by omega)) (fun c2 c3 => absurd c (by omega)) (fun c2 c3 => absurd c (by omega))),
    fun c => hG _ (rCount h (fun c2 => absurd c2 (by omega)) (fun c2 => absurd c (by omega)) (fun c2 => absurd c (by omega)) (fun c2 => absurd c (by omega)) (fun _ => hK _ _ h) (fun c2 c3 => absurd c (by omega)) (fun c2 c3 => absurd c (by omega))),
    fun c => s4 (by omega) (by omega), fun c => s4 (by omega) (by omega), fun c => s4 (by omega) (by omega), fun c => s4 (by omega) (by omega), fun c => s8 (by omega) (by omega), fun c => s8 (by omega) (by omega), fun c => s8 (by omega) (by omega), fun c => s8 (by omega) (by omega)⟩
