/-! an OP of the reference, exactly -/
theorem ixu {u r : Nat} : (6 : Int32) * nI u + nI r = nI (6 * u + r) := ix6 u r
theorem act_0 {m1 : km_I} {I u e : Nat} {K : km_I → Prop} (hI : I < 288) (hu : u < 8) {r : Nat} (ek : m1 89 I = nI 0) (ea : m1 90 I = nI r) (hr : r < 6) (hK : K (km_u m1 100 (6 * u + r) (m1 91 I))) : X7_act_w (nI I) (nI u) (nI e) m1 K := by
  have vi : vp_in (nI I) 288 := vp_in_nI hI (by decide)
  have cI : (nI I).toNatClampNeg = I := nI_clamp (by omega)
  have v8 : vp_in (nI u) 8 := vp_in_nI hu (by decide)
  have v48 : ∀ r, r < 6 → vp_in (nI (6 * u + r)) 48 := fun r hr => vp_in_nI (by omega) (by decide)
  have c48 : ∀ r, r < 6 → (nI (6 * u + r)).toNatClampNeg = 6 * u + r := fun r hr => nI_clamp (by omega)
  unfold X7_act_w
  rw [cI, ek, ea, ixu, c48 r hr, nI_toInt (by omega)]
  refine ⟨vi, vi, vi, fun c => absurd c (by omega), fun _ => ⟨v48 r hr, fun m e => by rw [e]; exact hK⟩, fun c => absurd c (by omega), fun c => absurd c (by omega), fun c => absurd c (by omega), fun c => absurd c (by omega), fun c => absurd c (by omega), fun c => absurd c (by omega), fun c => absurd c (by omega), fun c => absurd c (by omega), fun c => absurd c (by omega), fun c => absurd c (by omega), fun c => absurd c (by omega), fun c => absurd c (by omega), fun c => absurd c (by omega), fun c => absurd c (by omega), fun c => absurd c (by omega)⟩
theorem act_1 {m1 : km_I} {I u e : Nat} {K : km_I → Prop} (hI : I < 288) (hu : u < 8) {r s : Nat} (ek : m1 89 I = nI 1) (ea : m1 90 I = nI r) (hr : r < 6) (eb : m1 91 I = nI s) (hs : s < 6) (hK : K (km_u m1 100 (6 * u + r) (m1 100 (6 * u + s)))) : X7_act_w (nI I) (nI u) (nI e) m1 K := by
  have vi : vp_in (nI I) 288 := vp_in_nI hI (by decide)
  have cI : (nI I).toNatClampNeg = I := nI_clamp (by omega)
  have v8 : vp_in (nI u) 8 := vp_in_nI hu (by decide)
  have v48 : ∀ r, r < 6 → vp_in (nI (6 * u + r)) 48 := fun r hr => vp_in_nI (by omega) (by decide)
  have c48 : ∀ r, r < 6 → (nI (6 * u + r)).toNatClampNeg = 6 * u + r := fun r hr => nI_clamp (by omega)
  unfold X7_act_w
  rw [cI, ek, ea, eb, ixu, ixu, c48 r hr, c48 s hs, nI_toInt (by omega)]
  refine ⟨vi, vi, vi, fun c => absurd c (by omega), fun c => absurd c (by omega), fun _ => ⟨v48 s hs, v48 r hr, fun m e => by rw [e]; exact hK⟩, fun c => absurd c (by omega), fun c => absurd c (by omega), fun c => absurd c (by omega), fun c => absurd c (by omega), fun c => absurd c (by omega), fun c => absurd c (by omega), fun c => absurd c (by omega), fun c => absurd c (by omega), fun c => absurd c (by omega), fun c => absurd c (by omega), fun c => absurd c (by omega), fun c => absurd c (by omega), fun c => absurd c (by omega), fun c => absurd c (by omega)⟩
theorem act_c {m1 : km_I} {I u e : Nat} {K : km_I → Prop} (hI : I < 288) (hu : u < 8) {k r s w : Nat} (h2 : 2 ≤ k) (h9 : k ≤ 9) (ek : m1 89 I = nI k) (ea : m1 90 I = nI r) (hr : r < 6) (eb : m1 91 I = nI s) (hs : s < 6) (ec : m1 92 I = nI w) (hw : w < 6) (hT : (k = 5 ∨ k = 6) → m1 100 (6 * u + w) = 0 → X7_throwsOut_w 1 0 m1 K) (hK : ((k = 5 ∨ k = 6) → ¬ m1 100 (6 * u + w) = 0) → K (km_u m1 100 (6 * u + r) (RES k (m1 100 (6 * u + s)) (m1 100 (6 * u + w)) &&& m1 86 1))) : X7_act_w (nI I) (nI u) (nI e) m1 K := by
  have vi : vp_in (nI I) 288 := vp_in_nI hI (by decide)
  have cI : (nI I).toNatClampNeg = I := nI_clamp (by omega)
  have v8 : vp_in (nI u) 8 := vp_in_nI hu (by decide)
  have v48 : ∀ r, r < 6 → vp_in (nI (6 * u + r)) 48 := fun r hr => vp_in_nI (by omega) (by decide)
  have c48 : ∀ r, r < 6 → (nI (6 * u + r)).toNatClampNeg = 6 * u + r := fun r hr => nI_clamp (by omega)
  unfold X7_act_w
  rw [cI, ek, ea, eb, nI_toInt (by omega)]
  have b315 : ((k = 5 ∨ k = 6) → ¬ m1 100 (6 * u + w) = 0) → X7_act_b315 (nI I) (nI u) (nI e) (nI I) (nI u) (nI e) (6 * nI u) (nI k) (nI r) (nI s) (m1 100 (6 * u + s)) (m1 100 (6 * u + w)) m1 K := fun hn => by
    unfold X7_act_b315
    refine reckoned_x h2 h9 hn ?_
    rw [ixu, c48 r hr]
    exact ⟨v48 r hr, fun m e => by rw [e]; exact hK hn⟩
  have b301 : (k = 5 ∨ k = 6) → X7_act_b301 (nI I) (nI u) (nI e) (nI I) (nI u) (nI e) (6 * nI u) (nI k) (nI r) (nI s) (m1 100 (6 * u + s)) (m1 100 (6 * u + w)) m1 K := fun hk => ⟨fun n => b315 (fun _ => n), fun z => hT hk z⟩
  have b260 : X7_act_b260 (nI I) (nI u) (nI e) (nI I) (nI u) (nI e) (6 * nI u) (nI k) (nI r) (nI s) m1 K := by
    unfold X7_act_b260
    rw [cI, ec, ixu, ixu, c48 s hs, c48 w hw]
    have z5 : nI k = 5 ↔ k = 5 := nI_eq (b := 5) (by omega) (by decide)
    have z6 : nI k = 6 ↔ k = 6 := nI_eq (b := 6) (by omega) (by decide)
    rw [z5, z6]
    exact ⟨v48 s hs, vi, v48 w hw, fun q => b301 (Or.inl q), fun q => ⟨fun q2 => b315 (fun o => absurd o (by omega)), fun q2 => b301 (Or.inr q2)⟩⟩
  refine ⟨vi, vi, vi, fun c => absurd c (by omega), fun c => absurd c (by omega), fun c => absurd c (by omega), fun _ => b260, fun _ => b260, fun _ => b260, fun _ => b260, fun _ => b260, fun _ => b260, fun _ => b260, fun _ => b260, fun c => absurd c (by omega), fun c => absurd c (by omega), fun c => absurd c (by omega), fun c => absurd c (by omega), fun c => absurd c (by omega), fun c => absurd c (by omega)⟩
theorem act_10 {m1 : km_I} {I u e : Nat} {K : km_I → Prop} (hI : I < 288) (hu : u < 8) {r : Nat} (ek : m1 89 I = nI 10) (ea : m1 90 I = nI r) (hr : r < 6) (hK : K (km_u m1 98 u (if m1 100 (6 * u + r) = 0 then m1 91 I else m1 98 u))) : X7_act_w (nI I) (nI u) (nI e) m1 K := by
  have vi : vp_in (nI I) 288 := vp_in_nI hI (by decide)
  have cI : (nI I).toNatClampNeg = I := nI_clamp (by omega)
  have v8 : vp_in (nI u) 8 := vp_in_nI hu (by decide)
  have v48 : ∀ r, r < 6 → vp_in (nI (6 * u + r)) 48 := fun r hr => vp_in_nI (by omega) (by decide)
  have c48 : ∀ r, r < 6 → (nI (6 * u + r)).toNatClampNeg = 6 * u + r := fun r hr => nI_clamp (by omega)
  unfold X7_act_w
  have cu : (nI u).toNatClampNeg = u := nI_clamp (by omega)
  rw [cI, ek, ea, ixu, c48 r hr, cu, nI_toInt (by omega)]
  have nx : ∀ z0, (z0 = if m1 100 (6 * u + r) = 0 then m1 91 I else m1 98 u) → X7_act_b179 (nI I) (nI u) (nI e) (nI I) (nI u) (nI e) (6 * nI u) (nI 10) (nI r) (m1 91 I) z0 (nI u) m1 K := fun z0 ez => by
    unfold X7_act_b179
    rw [cu]
    exact ⟨v8, fun m e => by rw [e, ez]; exact hK⟩
  refine ⟨vi, vi, vi, fun c => absurd c (by omega), fun c => absurd c (by omega), fun c => absurd c (by omega), fun c => absurd c (by omega), fun c => absurd c (by omega), fun c => absurd c (by omega), fun c => absurd c (by omega), fun c => absurd c (by omega), fun c => absurd c (by omega), fun c => absurd c (by omega), fun c => absurd c (by omega), fun _ => ⟨v48 r hr, fun n => ⟨v8, nx _ (by rw [if_neg n])⟩, fun n => nx _ (by rw [if_pos n])⟩, fun c => absurd c (by omega), fun c => absurd c (by omega), fun c => absurd c (by omega), fun c => absurd c (by omega), fun c => absurd c (by omega)⟩
theorem act_11 {m1 : km_I} {I u e : Nat} {K : km_I → Prop} (hI : I < 288) (hu : u < 8) (ek : m1 89 I = nI 11) (hK : K (km_u m1 98 u (m1 90 I))) : X7_act_w (nI I) (nI u) (nI e) m1 K := by
  have vi : vp_in (nI I) 288 := vp_in_nI hI (by decide)
  have cI : (nI I).toNatClampNeg = I := nI_clamp (by omega)
  have v8 : vp_in (nI u) 8 := vp_in_nI hu (by decide)
  have v48 : ∀ r, r < 6 → vp_in (nI (6 * u + r)) 48 := fun r hr => vp_in_nI (by omega) (by decide)
  have c48 : ∀ r, r < 6 → (nI (6 * u + r)).toNatClampNeg = 6 * u + r := fun r hr => nI_clamp (by omega)
  unfold X7_act_w
  have cu : (nI u).toNatClampNeg = u := nI_clamp (by omega)
  rw [cI, ek, cu, nI_toInt (by omega)]
  refine ⟨vi, vi, vi, fun c => absurd c (by omega), fun c => absurd c (by omega), fun c => absurd c (by omega), fun c => absurd c (by omega), fun c => absurd c (by omega), fun c => absurd c (by omega), fun c => absurd c (by omega), fun c => absurd c (by omega), fun c => absurd c (by omega), fun c => absurd c (by omega), fun c => absurd c (by omega), fun c => absurd c (by omega), fun _ => ⟨v8, fun m e => by rw [e]; exact hK⟩, fun c => absurd c (by omega), fun c => absurd c (by omega), fun c => absurd c (by omega), fun c => absurd c (by omega)⟩
theorem act_12 {m1 : km_I} {I u e : Nat} {K : km_I → Prop} (hI : I < 288) (hu : u < 8) {s : Nat} (ek : m1 89 I = nI 12) (eb : m1 91 I = nI s) (hs : s < 6) (hK : X7_tell_w (m1 90 I) (m1 100 (6 * u + s)) m1 K) : X7_act_w (nI I) (nI u) (nI e) m1 K := by
  have vi : vp_in (nI I) 288 := vp_in_nI hI (by decide)
  have cI : (nI I).toNatClampNeg = I := nI_clamp (by omega)
  have v8 : vp_in (nI u) 8 := vp_in_nI hu (by decide)
  have v48 : ∀ r, r < 6 → vp_in (nI (6 * u + r)) 48 := fun r hr => vp_in_nI (by omega) (by decide)
  have c48 : ∀ r, r < 6 → (nI (6 * u + r)).toNatClampNeg = 6 * u + r := fun r hr => nI_clamp (by omega)
  unfold X7_act_w
  rw [cI, ek, eb, ixu, c48 s hs, nI_toInt (by omega)]
  refine ⟨vi, vi, vi, fun c => absurd c (by omega), fun c => absurd c (by omega), fun c => absurd c (by omega), fun c => absurd c (by omega), fun c => absurd c (by omega), fun c => absurd c (by omega), fun c => absurd c (by omega), fun c => absurd c (by omega), fun c => absurd c (by omega), fun c => absurd c (by omega), fun c => absurd c (by omega), fun c => absurd c (by omega), fun c => absurd c (by omega), fun _ => ⟨v48 s hs, hK⟩, fun c => absurd c (by omega), fun c => absurd c (by omega), fun c => absurd c (by omega)⟩
theorem act_13 {m1 : km_I} {I u e : Nat} {K : km_I → Prop} (hI : I < 288) (hu : u < 8) (ek : m1 89 I = nI 13) (hK : X7_calls_w (nI I) (6 * nI u) (nI e) m1 K) : X7_act_w (nI I) (nI u) (nI e) m1 K := by
  have vi : vp_in (nI I) 288 := vp_in_nI hI (by decide)
  have cI : (nI I).toNatClampNeg = I := nI_clamp (by omega)
  have v8 : vp_in (nI u) 8 := vp_in_nI hu (by decide)
  have v48 : ∀ r, r < 6 → vp_in (nI (6 * u + r)) 48 := fun r hr => vp_in_nI (by omega) (by decide)
  have c48 : ∀ r, r < 6 → (nI (6 * u + r)).toNatClampNeg = 6 * u + r := fun r hr => nI_clamp (by omega)
  unfold X7_act_w
  rw [cI, ek, nI_toInt (by omega)]
  refine ⟨vi, vi, vi, fun c => absurd c (by omega), fun c => absurd c (by omega), fun c => absurd c (by omega), fun c => absurd c (by omega), fun c => absurd c (by omega), fun c => absurd c (by omega), fun c => absurd c (by omega), fun c => absurd c (by omega), fun c => absurd c (by omega), fun c => absurd c (by omega), fun c => absurd c (by omega), fun c => absurd c (by omega), fun c => absurd c (by omega), fun c => absurd c (by omega), fun _ => hK, fun c => absurd c (by omega), fun c => absurd c (by omega)⟩
theorem act_14 {m1 : km_I} {I u e : Nat} {K : km_I → Prop} (hI : I < 288) (hu : u < 8) {r : Nat} (ek : m1 89 I = nI 14) (ea : m1 90 I = nI r) (hr : r < 6) (hK : X7_returns_w (m1 100 (6 * u + r)) m1 K) : X7_act_w (nI I) (nI u) (nI e) m1 K := by
  have vi : vp_in (nI I) 288 := vp_in_nI hI (by decide)
  have cI : (nI I).toNatClampNeg = I := nI_clamp (by omega)
  have v8 : vp_in (nI u) 8 := vp_in_nI hu (by decide)
  have v48 : ∀ r, r < 6 → vp_in (nI (6 * u + r)) 48 := fun r hr => vp_in_nI (by omega) (by decide)
  have c48 : ∀ r, r < 6 → (nI (6 * u + r)).toNatClampNeg = 6 * u + r := fun r hr => nI_clamp (by omega)
  unfold X7_act_w
  rw [cI, ek, ea, ixu, c48 r hr, nI_toInt (by omega)]
  refine ⟨vi, vi, vi, fun c => absurd c (by omega), fun c => absurd c (by omega), fun c => absurd c (by omega), fun c => absurd c (by omega), fun c => absurd c (by omega), fun c => absurd c (by omega), fun c => absurd c (by omega), fun c => absurd c (by omega), fun c => absurd c (by omega), fun c => absurd c (by omega), fun c => absurd c (by omega), fun c => absurd c (by omega), fun c => absurd c (by omega), fun c => absurd c (by omega), fun c => absurd c (by omega), fun _ => ⟨v48 r hr, hK⟩, fun c => absurd c (by omega)⟩
theorem act_15 {m1 : km_I} {I u e : Nat} {K : km_I → Prop} (hI : I < 288) (hu : u < 8) {s : Nat} (ek : m1 89 I = nI 15) (eb : m1 91 I = nI s) (hs : s < 6) (hK : X7_throwsOut_w (m1 90 I) (m1 100 (6 * u + s)) m1 K) : X7_act_w (nI I) (nI u) (nI e) m1 K := by
  have vi : vp_in (nI I) 288 := vp_in_nI hI (by decide)
  have cI : (nI I).toNatClampNeg = I := nI_clamp (by omega)
  have v8 : vp_in (nI u) 8 := vp_in_nI hu (by decide)
  have v48 : ∀ r, r < 6 → vp_in (nI (6 * u + r)) 48 := fun r hr => vp_in_nI (by omega) (by decide)
  have c48 : ∀ r, r < 6 → (nI (6 * u + r)).toNatClampNeg = 6 * u + r := fun r hr => nI_clamp (by omega)
  unfold X7_act_w
  rw [cI, ek, eb, ixu, c48 s hs, nI_toInt (by omega)]
  refine ⟨vi, vi, vi, fun c => absurd c (by omega), fun c => absurd c (by omega), fun c => absurd c (by omega), fun c => absurd c (by omega), fun c => absurd c (by omega), fun c => absurd c (by omega), fun c => absurd c (by omega), fun c => absurd c (by omega), fun c => absurd c (by omega), fun c => absurd c (by omega), fun c => absurd c (by omega), fun c => absurd c (by omega), fun c => absurd c (by omega), fun c => absurd c (by omega), fun c => absurd c (by omega), fun c => absurd c (by omega), fun _ => ⟨v48 s hs, hK⟩⟩
/-! an OP of the class, exactly -/
theorem perf_0 {mi : km_I} {t b u i l : Nat} {K : km_I → Prop} (hbt : b + 6 ≤ t) (hi : i < 144) (hu : u < 8) (h8 : mi t 8 = nI (u + 1)) (hll : mi (t + 9) u = nI l) {r : Nat} (ek : mi (b + 2) i = nI 0) (ea : mi (b + 3) i = nI r) (hr : r < 6) (hK : K (km_u (km_u (km_u mi (t + 1) 3 (mi (t + 1) 3 + 1)) (t + 8) (6 * u + r) (mi (b + 4) i)) (t + 9) u (nI (l + 1)))) : X1_perform_w t b (nI i) mi K := by
  have hin : vp_in (nI i) 144 := vp_in_nI hi (by decide)
  have ci : (nI i).toNatClampNeg = i := nI_clamp (by omega)
  have v8 : vp_in (nI u) 8 := vp_in_nI hu (by decide)
  have cu : (nI u).toNatClampNeg = u := nI_clamp (by omega)
  unfold X1_perform_w
  rw [ci]
  refine ⟨hin, hin, hin, fun m41 e41 => ⟨hin, ?_⟩⟩
  have ek1 : m41 (b + 2) i = mi (b + 2) i := by rw [e41, km_u_p (by omega)]
  have f8 : m41 t 8 = nI (u + 1) := by rw [e41, km_u_p (by omega)]; exact h8
  have f9 : m41 (t + 9) u = nI l := by rw [e41, km_u_p (by omega)]; exact hll
  have fr : ∀ j, m41 (t + 8) j = mi (t + 8) j := fun j => by rw [e41, km_u_p (by omega)]
  rw [ek1, ek, nI_toInt (by omega)]
  rw [ea]
  rw [← e41] at hK
  refine ⟨fun c => absurd c (by omega), fun _ => put_x f8 hu hr f9 hK, fun c => absurd c (by omega), fun c => absurd c (by omega), fun c => absurd c (by omega), fun c => absurd c (by omega), fun c => absurd c (by omega), fun c => absurd c (by omega), fun c => absurd c (by omega), fun c => absurd c (by omega), fun c => absurd c (by omega), fun c => absurd c (by omega), fun c => absurd c (by omega), fun c => absurd c (by omega), fun c => absurd c (by omega), fun c => absurd c (by omega), fun c => absurd c (by omega)⟩
theorem perf_1 {mi : km_I} {t b u i l : Nat} {K : km_I → Prop} (hbt : b + 6 ≤ t) (hi : i < 144) (hu : u < 8) (h8 : mi t 8 = nI (u + 1)) (hll : mi (t + 9) u = nI l) {r s : Nat} (ek : mi (b + 2) i = nI 1) (ea : mi (b + 3) i = nI r) (hr : r < 6) (eb : mi (b + 4) i = nI s) (hs : s < 6) (hK : K (km_u (km_u (km_u mi (t + 1) 3 (mi (t + 1) 3 + 1)) (t + 8) (6 * u + r) (mi (t + 8) (6 * u + s))) (t + 9) u (nI (l + 1)))) : X1_perform_w t b (nI i) mi K := by
  have hin : vp_in (nI i) 144 := vp_in_nI hi (by decide)
  have ci : (nI i).toNatClampNeg = i := nI_clamp (by omega)
  have v8 : vp_in (nI u) 8 := vp_in_nI hu (by decide)
  have cu : (nI u).toNatClampNeg = u := nI_clamp (by omega)
  unfold X1_perform_w
  rw [ci]
  refine ⟨hin, hin, hin, fun m41 e41 => ⟨hin, ?_⟩⟩
  have ek1 : m41 (b + 2) i = mi (b + 2) i := by rw [e41, km_u_p (by omega)]
  have f8 : m41 t 8 = nI (u + 1) := by rw [e41, km_u_p (by omega)]; exact h8
  have f9 : m41 (t + 9) u = nI l := by rw [e41, km_u_p (by omega)]; exact hll
  have fr : ∀ j, m41 (t + 8) j = mi (t + 8) j := fun j => by rw [e41, km_u_p (by omega)]
  rw [ek1, ek, nI_toInt (by omega)]
  rw [ea, eb]
  rw [← e41] at hK
  refine ⟨fun c => absurd c (by omega), fun c => absurd c (by omega), fun _ => get_x f8 hu hs (put_x f8 hu hr f9 (by rw [fr]; exact hK)), fun c => absurd c (by omega), fun c => absurd c (by omega), fun c => absurd c (by omega), fun c => absurd c (by omega), fun c => absurd c (by omega), fun c => absurd c (by omega), fun c => absurd c (by omega), fun c => absurd c (by omega), fun c => absurd c (by omega), fun c => absurd c (by omega), fun c => absurd c (by omega), fun c => absurd c (by omega), fun c => absurd c (by omega), fun c => absurd c (by omega)⟩
theorem perf_c {mi : km_I} {t b u i l : Nat} {K : km_I → Prop} (hbt : b + 6 ≤ t) (hi : i < 144) (hu : u < 8) (h8 : mi t 8 = nI (u + 1)) (hll : mi (t + 9) u = nI l) {k r s w : Nat} (h2 : 2 ≤ k) (h9 : k ≤ 9) (ek : mi (b + 2) i = nI k) (ea : mi (b + 3) i = nI r) (hr : r < 6) (eb : mi (b + 4) i = nI s) (hs : s < 6) (ec : mi (b + 5) i = nI w) (hw : w < 6) (hT : (k = 5 ∨ k = 6) → mi (t + 8) (6 * u + w) = 0 → K (km_u (km_u (km_u (km_u (km_u mi (t + 1) 3 (mi (t + 1) 3 + 1)) t 8 0) (t + 1) 0 1) (t + 1) 1 1) (t + 1) 2 0)) (hK : ((k = 5 ∨ k = 6) → ¬ mi (t + 8) (6 * u + w) = 0) → K (km_u (km_u (km_u mi (t + 1) 3 (mi (t + 1) 3 + 1)) (t + 8) (6 * u + r) (RES k (mi (t + 8) (6 * u + s)) (mi (t + 8) (6 * u + w)) &&& mi t 1)) (t + 9) u (nI (l + 1)))) : X1_perform_w t b (nI i) mi K := by
  have hin : vp_in (nI i) 144 := vp_in_nI hi (by decide)
  have ci : (nI i).toNatClampNeg = i := nI_clamp (by omega)
  have v8 : vp_in (nI u) 8 := vp_in_nI hu (by decide)
  have cu : (nI u).toNatClampNeg = u := nI_clamp (by omega)
  unfold X1_perform_w
  rw [ci]
  refine ⟨hin, hin, hin, fun m41 e41 => ⟨hin, ?_⟩⟩
  have ek1 : m41 (b + 2) i = mi (b + 2) i := by rw [e41, km_u_p (by omega)]
  have f8 : m41 t 8 = nI (u + 1) := by rw [e41, km_u_p (by omega)]; exact h8
  have f9 : m41 (t + 9) u = nI l := by rw [e41, km_u_p (by omega)]; exact hll
  have fr : ∀ j, m41 (t + 8) j = mi (t + 8) j := fun j => by rw [e41, km_u_p (by omega)]
  rw [ek1, ek, nI_toInt (by omega)]
  rw [ea, eb, ec]
  rw [← e41] at hK hT
  have m1 : m41 t 1 = mi t 1 := by rw [e41, km_u_p (by omega)]
  have z5 : nI k = 5 ↔ k = 5 := nI_eq (b := 5) (by omega) (by decide)
  have z6 : nI k = 6 ↔ k = 6 := nI_eq (b := 6) (by omega) (by decide)
  have b26 : ((k = 5 ∨ k = 6) → ¬ mi (t + 8) (6 * u + w) = 0) → X1_calculate_b26 t b (nI k) (nI r) (mi (t + 8) (6 * u + s)) (mi (t + 8) (6 * u + w)) (nI k) (nI r) (mi (t + 8) (6 * u + s)) (mi (t + 8) (6 * u + w)) m41 K := fun hn => by
    unfold X1_calculate_b26
    exact result_x h2 h9 hn (put_x f8 hu hr f9 (by rw [m1]; exact hK hn))
  have b298 : X1_perform_b298 t b (nI i) (nI i) (nI r) (nI s) (nI w) m41 K := by
    unfold X1_perform_b298
    refine ⟨hin, get_x f8 hu hs (get_x f8 hu hw ?_)⟩
    rw [ci, ek1, ek, fr, fr]
    unfold X1_calculate_w
    rw [z5, z6]
    exact ⟨fun n => b26 (fun _ => n), fun z => ⟨fun q => stop_x (hT (Or.inl q) z), fun q => ⟨fun q2 => b26 (fun o => absurd o (by omega)), fun q2 => stop_x (hT (Or.inr q2) z)⟩⟩⟩
  refine ⟨fun c => absurd c (by omega), fun c => absurd c (by omega), fun c => absurd c (by omega), fun _ => b298, fun _ => b298, fun _ => b298, fun _ => b298, fun _ => b298, fun _ => b298, fun _ => b298, fun _ => b298, fun c => absurd c (by omega), fun c => absurd c (by omega), fun c => absurd c (by omega), fun c => absurd c (by omega), fun c => absurd c (by omega), fun c => absurd c (by omega)⟩
theorem perf_10 {mi : km_I} {t b u i l : Nat} {K : km_I → Prop} (hbt : b + 6 ≤ t) (hi : i < 144) (hu : u < 8) (h8 : mi t 8 = nI (u + 1)) (hll : mi (t + 9) u = nI l) {r : Nat} (ek : mi (b + 2) i = nI 10) (ea : mi (b + 3) i = nI r) (hr : r < 6) (hK : K (km_u (km_u mi (t + 1) 3 (mi (t + 1) 3 + 1)) (t + 9) u (if mi (t + 8) (6 * u + r) = 0 then mi (b + 4) i else nI (l + 1)))) : X1_perform_w t b (nI i) mi K := by
  have hin : vp_in (nI i) 144 := vp_in_nI hi (by decide)
  have ci : (nI i).toNatClampNeg = i := nI_clamp (by omega)
  have v8 : vp_in (nI u) 8 := vp_in_nI hu (by decide)
  have cu : (nI u).toNatClampNeg = u := nI_clamp (by omega)
  unfold X1_perform_w
  rw [ci]
  refine ⟨hin, hin, hin, fun m41 e41 => ⟨hin, ?_⟩⟩
  have ek1 : m41 (b + 2) i = mi (b + 2) i := by rw [e41, km_u_p (by omega)]
  have f8 : m41 t 8 = nI (u + 1) := by rw [e41, km_u_p (by omega)]; exact h8
  have f9 : m41 (t + 9) u = nI l := by rw [e41, km_u_p (by omega)]; exact hll
  have fr : ∀ j, m41 (t + 8) j = mi (t + 8) j := fun j => by rw [e41, km_u_p (by omega)]
  rw [ek1, ek, nI_toInt (by omega)]
  rw [ea]
  rw [← e41] at hK
  have nx : ∀ z0, (z0 = if mi (t + 8) (6 * u + r) = 0 then mi (b + 4) i else nI (l + 1)) → X1_perform_b189 t b (nI i) (nI i) (nI r) (mi (b + 4) i) (mi (b + 5) i) z0 (m41 t 8 - 1) m41 K := fun z0 ez => by
    unfold X1_perform_b189
    rw [f8, nI_pred, cu]
    exact ⟨v8, fun m e => by rw [e, ez]; exact hK⟩
  have br : X1_get_w t b (nI r) m41 (fun r166 m166 => ((¬ r166 = 0 → vp_in ((m166 t 8) - 1) 8 ∧ X1_perform_b189 t b (nI i) (nI i) (nI r) (mi (b + 4) i) (mi (b + 5) i) ((m166 (t + 9) (Int32.toNatClampNeg ((m166 t 8) - 1))) + 1) ((m41 t 8) - 1) m166 K) ∧ (r166 = 0 → X1_perform_b189 t b (nI i) (nI i) (nI r) (mi (b + 4) i) (mi (b + 5) i) (mi (b + 4) i) ((m41 t 8) - 1) m166 K))) := by
    refine get_x f8 hu hr ?_
    refine ⟨fun n => ⟨by rw [f8, nI_pred]; exact v8, nx _ ?_⟩, fun n => nx _ ?_⟩
    · rw [f8, nI_pred, cu, f9, nI_1]
      rw [fr] at n
      rw [if_neg n]
    · rw [fr] at n
      rw [if_pos n]
  refine ⟨fun c => absurd c (by omega), fun c => absurd c (by omega), fun c => absurd c (by omega), fun c => absurd c (by omega), fun c => absurd c (by omega), fun c => absurd c (by omega), fun c => absurd c (by omega), fun c => absurd c (by omega), fun c => absurd c (by omega), fun c => absurd c (by omega), fun c => absurd c (by omega), fun _ => br, fun c => absurd c (by omega), fun c => absurd c (by omega), fun c => absurd c (by omega), fun c => absurd c (by omega), fun c => absurd c (by omega)⟩
theorem perf_11 {mi : km_I} {t b u i l : Nat} {K : km_I → Prop} (hbt : b + 6 ≤ t) (hi : i < 144) (hu : u < 8) (h8 : mi t 8 = nI (u + 1)) (hll : mi (t + 9) u = nI l) (ek : mi (b + 2) i = nI 11) (hK : K (km_u (km_u mi (t + 1) 3 (mi (t + 1) 3 + 1)) (t + 9) u (mi (b + 3) i))) : X1_perform_w t b (nI i) mi K := by
  have hin : vp_in (nI i) 144 := vp_in_nI hi (by decide)
  have ci : (nI i).toNatClampNeg = i := nI_clamp (by omega)
  have v8 : vp_in (nI u) 8 := vp_in_nI hu (by decide)
  have cu : (nI u).toNatClampNeg = u := nI_clamp (by omega)
  unfold X1_perform_w
  rw [ci]
  refine ⟨hin, hin, hin, fun m41 e41 => ⟨hin, ?_⟩⟩
  have ek1 : m41 (b + 2) i = mi (b + 2) i := by rw [e41, km_u_p (by omega)]
  have f8 : m41 t 8 = nI (u + 1) := by rw [e41, km_u_p (by omega)]; exact h8
  have f9 : m41 (t + 9) u = nI l := by rw [e41, km_u_p (by omega)]; exact hll
  have fr : ∀ j, m41 (t + 8) j = mi (t + 8) j := fun j => by rw [e41, km_u_p (by omega)]
  rw [ek1, ek, nI_toInt (by omega)]
  rw [← e41] at hK
  have br : vp_in ((m41 t 8) - 1) 8 ∧ (∀ m204, m204 = km_u m41 (t + 9) (Int32.toNatClampNeg ((m41 t 8) - 1)) (mi (b + 3) i) → K m204) := by
    rw [f8, nI_pred, cu]
    exact ⟨v8, fun m e => by rw [e]; exact hK⟩
  refine ⟨fun c => absurd c (by omega), fun c => absurd c (by omega), fun c => absurd c (by omega), fun c => absurd c (by omega), fun c => absurd c (by omega), fun c => absurd c (by omega), fun c => absurd c (by omega), fun c => absurd c (by omega), fun c => absurd c (by omega), fun c => absurd c (by omega), fun c => absurd c (by omega), fun c => absurd c (by omega), fun _ => br, fun c => absurd c (by omega), fun c => absurd c (by omega), fun c => absurd c (by omega), fun c => absurd c (by omega)⟩
theorem perf_12 {mi : km_I} {t b u i l : Nat} {K : km_I → Prop} (hbt : b + 6 ≤ t) (hi : i < 144) (hu : u < 8) (h8 : mi t 8 = nI (u + 1)) (hll : mi (t + 9) u = nI l) {s k : Nat} (ek : mi (b + 2) i = nI 12) (eb : mi (b + 4) i = nI s) (hs : s < 6) (e5 : mi (t + 1) 5 = nI k) (hk : k < 40) (hK : K (km_u (km_u (km_u (km_u (km_u mi (t + 1) 3 (mi (t + 1) 3 + 1)) (t + 2) k (mi (b + 3) i)) (t + 3) k (mi (t + 8) (6 * u + s))) (t + 1) 5 (nI (k + 1))) (t + 9) u (nI (l + 1)))) : X1_perform_w t b (nI i) mi K := by
  have hin : vp_in (nI i) 144 := vp_in_nI hi (by decide)
  have ci : (nI i).toNatClampNeg = i := nI_clamp (by omega)
  have v8 : vp_in (nI u) 8 := vp_in_nI hu (by decide)
  have cu : (nI u).toNatClampNeg = u := nI_clamp (by omega)
  unfold X1_perform_w
  rw [ci]
  refine ⟨hin, hin, hin, fun m41 e41 => ⟨hin, ?_⟩⟩
  have ek1 : m41 (b + 2) i = mi (b + 2) i := by rw [e41, km_u_p (by omega)]
  have f8 : m41 t 8 = nI (u + 1) := by rw [e41, km_u_p (by omega)]; exact h8
  have f9 : m41 (t + 9) u = nI l := by rw [e41, km_u_p (by omega)]; exact hll
  have fr : ∀ j, m41 (t + 8) j = mi (t + 8) j := fun j => by rw [e41, km_u_p (by omega)]
  rw [ek1, ek, nI_toInt (by omega)]
  rw [eb]
  rw [← e41] at hK
  have f5 : m41 (t + 1) 5 = nI k := by rw [e41, km_u_k (by omega)]; exact e5
  have vk : vp_in (nI k) 40 := vp_in_nI hk (by decide)
  have ck : (nI k).toNatClampNeg = k := nI_clamp (by omega)
  have br : X1_get_w t b (nI s) m41 (fun r215 m215 => X5_addTell_w (t + 1) (mi (b + 3) i) r215 m215 (fun m218 => vp_in ((m218 t 8) - 1) 8 ∧ vp_in ((m218 t 8) - 1) 8 ∧ (∀ m235, m235 = km_u m218 (t + 9) (Int32.toNatClampNeg ((m218 t 8) - 1)) ((m218 (t + 9) (Int32.toNatClampNeg ((m218 t 8) - 1))) + 1) → K m235))) := by
    refine get_x f8 hu hs ?_
    rw [fr]
    unfold X5_addTell_w
    rw [f5, ck]
    refine ⟨vk, fun m9 e9 => ?_⟩
    have g5 : m9 (t + 1) 5 = nI k := by rw [e9, km_u_p (by omega)]; exact f5
    rw [g5, ck]
    refine ⟨vk, fun m19 e19 m27 e27 => ?_⟩
    have i5 : m19 (t + 1) 5 = nI k := by rw [e19, km_u_p (by omega)]; exact g5
    rw [i5, nI_1] at e27
    have h8' : m27 t 8 = nI (u + 1) := by rw [e27, km_u_p (by omega), e19, km_u_p (by omega), e9, km_u_p (by omega)]; exact f8
    have h9' : m27 (t + 9) u = nI l := by rw [e27, km_u_p (by omega), e19, km_u_p (by omega), e9, km_u_p (by omega)]; exact f9
    show vp_in (m27 t 8 - 1) 8 ∧ vp_in (m27 t 8 - 1) 8 ∧ ∀ m235 : km_I, m235 = km_u m27 (t + 9) (m27 t 8 - 1).toNatClampNeg (m27 (t + 9) (m27 t 8 - 1).toNatClampNeg + 1) → K m235
    rw [h8', nI_pred, cu, h9', nI_1]
    refine ⟨v8, v8, fun m235 e235 => ?_⟩
    rw [e235, e27, e19, e9]
    exact hK
  refine ⟨fun c => absurd c (by omega), fun c => absurd c (by omega), fun c => absurd c (by omega), fun c => absurd c (by omega), fun c => absurd c (by omega), fun c => absurd c (by omega), fun c => absurd c (by omega), fun c => absurd c (by omega), fun c => absurd c (by omega), fun c => absurd c (by omega), fun c => absurd c (by omega), fun c => absurd c (by omega), fun c => absurd c (by omega), fun _ => br, fun c => absurd c (by omega), fun c => absurd c (by omega), fun c => absurd c (by omega)⟩
theorem perf_13 {mi : km_I} {t b u i l : Nat} {K : km_I → Prop} (hbt : b + 6 ≤ t) (hi : i < 144) (hu : u < 8) (h8 : mi t 8 = nI (u + 1)) (hll : mi (t + 9) u = nI l) {r q : Nat} (ek : mi (b + 2) i = nI 13) (ea : mi (b + 3) i = nI r) (eb : mi (b + 4) i = nI q) {w : Nat} (ec : mi (b + 5) i = nI w) (hw : w < 6) (hK : X1_ask_w t b (nI r) (nI q) (mi (t + 8) (6 * u + w)) (mi (t + 8) (6 * u + (w + 1) % 6)) (km_u mi (t + 1) 3 (mi (t + 1) 3 + 1)) K) : X1_perform_w t b (nI i) mi K := by
  have hin : vp_in (nI i) 144 := vp_in_nI hi (by decide)
  have ci : (nI i).toNatClampNeg = i := nI_clamp (by omega)
  have v8 : vp_in (nI u) 8 := vp_in_nI hu (by decide)
  have cu : (nI u).toNatClampNeg = u := nI_clamp (by omega)
  unfold X1_perform_w
  rw [ci]
  refine ⟨hin, hin, hin, fun m41 e41 => ⟨hin, ?_⟩⟩
  have ek1 : m41 (b + 2) i = mi (b + 2) i := by rw [e41, km_u_p (by omega)]
  have f8 : m41 t 8 = nI (u + 1) := by rw [e41, km_u_p (by omega)]; exact h8
  have f9 : m41 (t + 9) u = nI l := by rw [e41, km_u_p (by omega)]; exact hll
  have fr : ∀ j, m41 (t + 8) j = mi (t + 8) j := fun j => by rw [e41, km_u_p (by omega)]
  rw [ek1, ek, nI_toInt (by omega)]
  rw [ea, eb, ec]
  rw [← e41] at hK
  have z5 : nI w = 5 ↔ w = 5 := nI_eq (b := 5) (by omega) (by decide)
  have br : X1_get_w t b (nI w) m41 (fun r245 m245 => ((¬ nI w = 5 → X1_perform_b263 t b (nI i) (nI i) (nI r) (nI q) (nI w) (nI w + 1) r245 (nI q) (nI r) m245 K) ∧ (nI w = 5 → X1_perform_b263 t b (nI i) (nI i) (nI r) (nI q) (nI w) 0 r245 (nI q) (nI r) m245 K))) := by
    refine get_x f8 hu hw ?_
    rw [z5, fr, nI_1]
    refine ⟨fun n => ?_, fun n => ?_⟩
    · unfold X1_perform_b263
      refine get_x f8 hu (show w + 1 < 6 by omega) ?_
      rw [fr, show w + 1 = (w + 1) % 6 by omega]
      exact hK
    · unfold X1_perform_b263
      refine get_x (r := 0) f8 hu (by omega) ?_
      rw [fr, show 0 = (w + 1) % 6 by omega]
      exact hK
  refine ⟨fun c => absurd c (by omega), fun c => absurd c (by omega), fun c => absurd c (by omega), fun c => absurd c (by omega), fun c => absurd c (by omega), fun c => absurd c (by omega), fun c => absurd c (by omega), fun c => absurd c (by omega), fun c => absurd c (by omega), fun c => absurd c (by omega), fun c => absurd c (by omega), fun c => absurd c (by omega), fun c => absurd c (by omega), fun c => absurd c (by omega), fun _ => br, fun c => absurd c (by omega), fun c => absurd c (by omega)⟩
theorem perf_14 {mi : km_I} {t b u i l : Nat} {K : km_I → Prop} (hbt : b + 6 ≤ t) (hi : i < 144) (hu : u < 8) (h8 : mi t 8 = nI (u + 1)) (hll : mi (t + 9) u = nI l) {r : Nat} (ek : mi (b + 2) i = nI 14) (ea : mi (b + 3) i = nI r) (hr : r < 6) (hK : X1_giveBack_w t b (mi (t + 8) (6 * u + r)) (km_u mi (t + 1) 3 (mi (t + 1) 3 + 1)) K) : X1_perform_w t b (nI i) mi K := by
  have hin : vp_in (nI i) 144 := vp_in_nI hi (by decide)
  have ci : (nI i).toNatClampNeg = i := nI_clamp (by omega)
  have v8 : vp_in (nI u) 8 := vp_in_nI hu (by decide)
  have cu : (nI u).toNatClampNeg = u := nI_clamp (by omega)
  unfold X1_perform_w
  rw [ci]
  refine ⟨hin, hin, hin, fun m41 e41 => ⟨hin, ?_⟩⟩
  have ek1 : m41 (b + 2) i = mi (b + 2) i := by rw [e41, km_u_p (by omega)]
  have f8 : m41 t 8 = nI (u + 1) := by rw [e41, km_u_p (by omega)]; exact h8
  have f9 : m41 (t + 9) u = nI l := by rw [e41, km_u_p (by omega)]; exact hll
  have fr : ∀ j, m41 (t + 8) j = mi (t + 8) j := fun j => by rw [e41, km_u_p (by omega)]
  rw [ek1, ek, nI_toInt (by omega)]
  rw [ea]
  rw [← e41] at hK
  refine ⟨fun c => absurd c (by omega), fun c => absurd c (by omega), fun c => absurd c (by omega), fun c => absurd c (by omega), fun c => absurd c (by omega), fun c => absurd c (by omega), fun c => absurd c (by omega), fun c => absurd c (by omega), fun c => absurd c (by omega), fun c => absurd c (by omega), fun c => absurd c (by omega), fun c => absurd c (by omega), fun c => absurd c (by omega), fun c => absurd c (by omega), fun c => absurd c (by omega), fun _ => get_x f8 hu hr (by rw [fr]; exact hK), fun c => absurd c (by omega)⟩
theorem perf_15 {mi : km_I} {t b u i l : Nat} {K : km_I → Prop} (hbt : b + 6 ≤ t) (hi : i < 144) (hu : u < 8) (h8 : mi t 8 = nI (u + 1)) (hll : mi (t + 9) u = nI l) {s : Nat} (ek : mi (b + 2) i = nI 15) (eb : mi (b + 4) i = nI s) (hs : s < 6) (hK : K (km_u (km_u (km_u (km_u (km_u mi (t + 1) 3 (mi (t + 1) 3 + 1)) t 8 0) (t + 1) 0 1) (t + 1) 1 (mi (b + 3) i)) (t + 1) 2 (mi (t + 8) (6 * u + s)))) : X1_perform_w t b (nI i) mi K := by
  have hin : vp_in (nI i) 144 := vp_in_nI hi (by decide)
  have ci : (nI i).toNatClampNeg = i := nI_clamp (by omega)
  have v8 : vp_in (nI u) 8 := vp_in_nI hu (by decide)
  have cu : (nI u).toNatClampNeg = u := nI_clamp (by omega)
  unfold X1_perform_w
  rw [ci]
  refine ⟨hin, hin, hin, fun m41 e41 => ⟨hin, ?_⟩⟩
  have ek1 : m41 (b + 2) i = mi (b + 2) i := by rw [e41, km_u_p (by omega)]
  have f8 : m41 t 8 = nI (u + 1) := by rw [e41, km_u_p (by omega)]; exact h8
  have f9 : m41 (t + 9) u = nI l := by rw [e41, km_u_p (by omega)]; exact hll
  have fr : ∀ j, m41 (t + 8) j = mi (t + 8) j := fun j => by rw [e41, km_u_p (by omega)]
  rw [ek1, ek, nI_toInt (by omega)]
  rw [eb]
  rw [← e41] at hK
  refine ⟨fun c => absurd c (by omega), fun c => absurd c (by omega), fun c => absurd c (by omega), fun c => absurd c (by omega), fun c => absurd c (by omega), fun c => absurd c (by omega), fun c => absurd c (by omega), fun c => absurd c (by omega), fun c => absurd c (by omega), fun c => absurd c (by omega), fun c => absurd c (by omega), fun c => absurd c (by omega), fun c => absurd c (by omega), fun c => absurd c (by omega), fun c => absurd c (by omega), fun c => absurd c (by omega), fun _ => get_x f8 hu hs (stop_x (by rw [fr]; exact hK))⟩
