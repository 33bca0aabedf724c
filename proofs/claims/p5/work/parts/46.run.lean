/-! a whole RUN on both sides -/
set_option maxHeartbeats 1000000 in
theorem perform_x {m0 mi : km_I} {t b u mm l z g : Nat} {K : km_I → Prop} (h : MS m0 mi t b (u + 1)) (hbt : b + 6 ≤ t) (hm : mm < 6) (hl : l < 24) (e1 : mi (t + 10) u = nI mm) (hll : mi (t + 9) u = nI l) (ez : mi (b + 1) mm = nI z) (hz : z < 25) (hlz : l < z) (hg : mi (t + 1) 3 = nI g) (hg1 : g < 100) (h6 : mi t 6 = 0) (h40 : mi (b + 2) (24 * mm + l) = 12 → ¬ mi (t + 1) 5 = 40)
    (kE : ∀ mi1, MS m0 mi1 t b 0 → RS t b mi mi1 u g → K mi1)
    (kN : ∀ mi1 u1 g1, MS m0 mi1 t b (u1 + 1) → mi1 (t + 1) 3 = nI g1 → g1 ≤ 100 → 2 * (100 - g1) + u1 < 2 * (100 - g) + u → mi1 t 6 = 0 → (∀ mi', RS t b mi1 mi' u1 g1 → RS t b mi mi' u g) → K mi1) : X1_perform_w t b (nI (24 * mm + l)) mi K := by
  have hu := h.2.2.1.1
  have h8 := h.2.2.1.2.1
  obtain ⟨k, hk, ek, ra, la, pa, rb, lb, rc⟩ := h.2.2.2.2.2 (24 * mm + l) (by omega)
  have hi : 24 * mm + l < 144 := by omega
  have gm : mi (t + 1) 3 + 1 = nI (g + 1) := by rw [hg, nI_1]
  have h1 : MS m0 (km_u mi (t + 1) 3 (nI (g + 1))) t b (u + 1) := h.op hbt
  have cont : ∀ (m : km_I) (e : Nat), kb b e → SIM mi m t b e (u + 1) → ((km_u (km_u m 104 0 (nI (g + 1))) 98 u (nI (l + 1))) 89 (144 * e + (24 * mm + l)) = mi (b + 2) (24 * mm + l) ∧ (km_u (km_u m 104 0 (nI (g + 1))) 98 u (nI (l + 1))) 90 (144 * e + (24 * mm + l)) = mi (b + 3) (24 * mm + l) ∧ (km_u (km_u m 104 0 (nI (g + 1))) 98 u (nI (l + 1))) 91 (144 * e + (24 * mm + l)) = mi (b + 4) (24 * mm + l) ∧ (km_u (km_u m 104 0 (nI (g + 1))) 98 u (nI (l + 1))) 92 (144 * e + (24 * mm + l)) = mi (b + 5) (24 * mm + l)) ∧ (∀ j, j < 6 → (km_u (km_u m 104 0 (nI (g + 1))) 98 u (nI (l + 1))) 100 (6 * u + j) = mi (t + 8) (6 * u + j)) ∧ 144 * e + (24 * mm + l) < 288 ∧ (km_u (km_u m 104 0 (nI (g + 1))) 98 u (nI (l + 1))) 86 1 = mi t 1 := fun m e hbe hS => by
    have he := hbe.le
    obtain ⟨q1, q2, q3, q4⟩ := hS.1.2.1 (24 * mm + l) hi
    refine ⟨⟨?_, ?_, ?_, ?_⟩, fun j hj => ?_, by omega, ?_⟩
    · rw [km_u_p (by omega), km_u_p (by omega)]; exact q1
    · rw [km_u_p (by omega), km_u_p (by omega)]; exact q2
    · rw [km_u_p (by omega), km_u_p (by omega)]; exact q3
    · rw [km_u_p (by omega), km_u_p (by omega)]; exact q4
    · rw [km_u_p (by omega), km_u_p (by omega)]; exact hS.2.1.2.2.2 (6 * u + j) (by omega)
    · rw [km_u_p (by omega), km_u_p (by omega)]; exact hS.1.2.2.2.1
  -- a REGISTER is written
  have stA : ∀ (r : Nat) (v : Int32), r < 6 → (∀ (m : km_I) (e : Nat) (Kr : km_I → Prop), kb b e → SIM mi m t b e (u + 1) → Kr (km_u (km_u (km_u m 104 0 (nI (g + 1))) 98 u (nI (l + 1))) 100 (6 * u + r) v) → X7_act_w (nI (144 * e + (24 * mm + l))) (nI u) (nI e) (km_u (km_u m 104 0 (nI (g + 1))) 98 u (nI (l + 1))) Kr) → K (km_u (km_u (km_u mi (t + 1) 3 (nI (g + 1))) (t + 8) (6 * u + r) v) (t + 9) u (nI (l + 1))) := by
    intro r v hr ha
    refine kN _ u (g + 1) (line_s (h1.rg hbt) hbt (nb_of _ (by omega))) ?_ (by omega) (by omega) ?_ (fun mi' hRS => rs_step hm hl e1 hll ez hz hlz hg1 (fun mr m e hbe hR h101 hS hR1 n hn x1 x2 x3 x4 x5 y3 y4 y5 Kr hf => ha m e _ hbe hS (hRS mr _ e hbe (hR1.u (by omega) (by omega) (by omega)) ?_ (hS.put hbt) n (by omega) x1 x2 x3 x4 x5 y3 y4 y5 Kr hf)))
    · rw [km_u_p (by omega), km_u_p (by omega), km_u_at]
    · rw [km_u_p (by omega), km_u_p (by omega), km_u_p (by omega)]; exact h6
    · rw [km_u_p (by omega), km_u_p (by omega), km_u_p (by omega)]; exact h101
  -- the LINE alone changes
  have stB : ∀ (w : Int32), nb w 25 → (∀ (m : km_I) (e : Nat) (Kr : km_I → Prop), kb b e → SIM mi m t b e (u + 1) → Kr (km_u (km_u (km_u m 104 0 (nI (g + 1))) 98 u (nI (l + 1))) 98 u w) → X7_act_w (nI (144 * e + (24 * mm + l))) (nI u) (nI e) (km_u (km_u m 104 0 (nI (g + 1))) 98 u (nI (l + 1))) Kr) → K (km_u (km_u mi (t + 1) 3 (nI (g + 1))) (t + 9) u w) := by
    intro w hw ha
    refine kN _ u (g + 1) (line_s h1 hbt hw) ?_ (by omega) (by omega) ?_ (fun mi' hRS => rs_step hm hl e1 hll ez hz hlz hg1 (fun mr m e hbe hR h101 hS hR1 n hn x1 x2 x3 x4 x5 y3 y4 y5 Kr hf => ha m e _ hbe hS (hRS mr _ e hbe (hR1.ln hw) ?_ (hS.line hbt) n (by omega) x1 x2 x3 x4 x5 y3 y4 y5 Kr hf)))
    · rw [km_u_p (by omega), km_u_at]
    · rw [km_u_p (by omega), km_u_p (by omega)]; exact h6
    · rw [km_u_p (by omega), km_u_p (by omega), km_u_p (by omega)]; exact h101
  -- it ends
  have stE : ∀ (how x2 x3 : Int32), (0 : Int32) ≤ how → (∀ (mr m : km_I) (e : Nat) (Kr : km_I → Prop), kb b e → SIM mi m t b e (u + 1) → RM False mr (km_u (km_u m 104 0 (nI (g + 1))) 98 u (nI (l + 1))) 0 (u + 1) (g + 1) → (∀ m', RM False mr m' 0 (u + 1) (g + 1) → m' 101 0 = how → (∀ p, 106 ≤ p → p ≤ 108 → m' p = (km_u (km_u m 104 0 (nI (g + 1))) 98 u (nI (l + 1))) p) → Kr m') → X7_act_w (nI (144 * e + (24 * mm + l))) (nI u) (nI e) (km_u (km_u m 104 0 (nI (g + 1))) 98 u (nI (l + 1))) Kr) → K (km_u (km_u (km_u (km_u (km_u mi (t + 1) 3 (nI (g + 1))) t 8 0) (t + 1) 0 how) (t + 1) 1 x2) (t + 1) 2 x3) := by
    intro how x2 x3 h0 ha
    refine kE _ (h1.stop hbt) (rs_step hm hl e1 hll ez hz hlz hg1 (fun mr m e hbe hR h101 hS hR1 n hn x1 x2' x3' x4 x5 y3 y4 y5 Kr hf => ?_))
    obtain ⟨n', rfl⟩ : ∃ n', n = n' + 1 := ⟨n - 1, by omega⟩
    refine ha mr m e _ hbe hS hR1 (fun m' hR' e101 e106 => rp_end (by rw [e101]; exact h0) (hf _ _ _ hR' ⟨?_, ?_⟩))
    · rw [e101, km_u_k (by omega), km_u_k (by omega), km_u_at]
    · exact hS.2.2.mv (by rw [km_u_k (by omega), km_u_k (by omega), km_u_k (by omega), km_u_p (by omega), km_u_k (by omega)]) (by rw [km_u_off (t + 2) (by omega), km_u_off (t + 2) (by omega), km_u_off (t + 2) (by omega), km_u_off (t + 2) (by omega), km_u_off (t + 2) (by omega)]) (by rw [km_u_off (t + 3) (by omega), km_u_off (t + 3) (by omega), km_u_off (t + 3) (by omega), km_u_off (t + 3) (by omega), km_u_off (t + 3) (by omega)]) (fun p a1 a2 => by rw [e106 p a1 a2, km_u_off p (by omega), km_u_off p (by omega)])
  have hcase : k = 0 ∨ k = 1 ∨ (2 ≤ k ∧ k ≤ 9) ∨ k = 10 ∨ k = 11 ∨ k = 12 ∨ k = 13 ∨ k = 14 ∨ k = 15 := by omega
  rcases hcase with rfl | rfl | hk2 | rfl | rfl | rfl | rfl | rfl | rfl
  · obtain ⟨r, hr, er⟩ := ra (by omega)
    refine perf_0 hbt hi (by omega) h8 hll ek er hr ?_
    rw [gm]
    exact stA r _ hr (fun m e Kr hbe hS hK => by
      obtain ⟨⟨q1, q2, q3, q4⟩, qr, qi, qm⟩ := cont m e hbe hS
      exact act_0 qi (by omega) (q1.trans ek) (q2.trans er) hr (by rw [q3]; exact hK))
  · obtain ⟨r, hr, er⟩ := ra (by omega)
    obtain ⟨s, hs, es⟩ := rb (by omega)
    refine perf_1 hbt hi (by omega) h8 hll ek er hr es hs ?_
    rw [gm]
    exact stA r _ hr (fun m e Kr hbe hS hK => by
      obtain ⟨⟨q1, q2, q3, q4⟩, qr, qi, qm⟩ := cont m e hbe hS
      exact act_1 qi (by omega) (q1.trans ek) (q2.trans er) hr (q3.trans es) hs (by rw [qr s hs]; exact hK))
  · obtain ⟨r, hr, er⟩ := ra (by omega)
    obtain ⟨s, hs, es⟩ := rb (by omega)
    obtain ⟨w, hw, ew⟩ := rc (by omega)
    refine perf_c hbt hi (by omega) h8 hll hk2.1 hk2.2 ek er hr es hs ew hw (fun o z0 => ?_) (fun hn => ?_)
    · rw [gm]
      exact stE 1 1 0 (by decide) (fun mr m e Kr hbe hS hR1 hK => by
        obtain ⟨⟨q1, q2, q3, q4⟩, qr, qi, qm⟩ := cont m e hbe hS
        exact act_c qi (by omega) hk2.1 hk2.2 (q1.trans ek) (q2.trans er) hr (q3.trans es) hs (q4.trans ew) hw (fun _ _ => throw_x hR1 hK) (fun hn => absurd ((qr w hw).trans z0) (hn o)))
    · rw [gm]
      exact stA r _ hr (fun m e Kr hbe hS hK => by
        obtain ⟨⟨q1, q2, q3, q4⟩, qr, qi, qm⟩ := cont m e hbe hS
        exact act_c qi (by omega) hk2.1 hk2.2 (q1.trans ek) (q2.trans er) hr (q3.trans es) hs (q4.trans ew) hw (fun o z0 => absurd ((qr w hw).symm.trans z0) (hn o)) (fun _ => by rw [qr s hs, qr w hw, qm]; exact hK))
  · obtain ⟨r, hr, er⟩ := ra (by omega)
    refine perf_10 hbt hi (by omega) h8 hll ek er hr ?_
    rw [gm]
    refine stB _ ?_ (fun m e Kr hbe hS hK => ?_)
    · by_cases a : mi (t + 8) (6 * u + r) = 0
      · rw [if_pos a]; exact lb (by omega)
      · rw [if_neg a]; exact nb_of _ (by omega)
    · obtain ⟨⟨q1, q2, q3, q4⟩, qr, qi, qm⟩ := cont m e hbe hS
      exact act_10 qi (by omega) (q1.trans ek) (q2.trans er) hr (by rw [qr r hr, q3, km_u_at]; exact hK)
  · refine perf_11 hbt hi (by omega) h8 hll ek ?_
    rw [gm]
    exact stB _ (la (by omega)) (fun m e Kr hbe hS hK => by
      obtain ⟨⟨q1, q2, q3, q4⟩, qr, qi, qm⟩ := cont m e hbe hS
      exact act_11 qi (by omega) (q1.trans ek) (by rw [q2]; exact hK))
  · obtain ⟨s, hs, es⟩ := rb (by omega)
    obtain ⟨c, hc, ec⟩ := h.2.1.2.1
    have c40 : c < 40 := by
      rcases Nat.lt_or_ge c 40 with q | q
      · exact q
      · exact absurd (by rw [ec, show c = 40 by omega]; rfl) (h40 ek)
    refine perf_12 hbt hi (by omega) h8 hll ek es hs ec c40 ?_
    rw [gm]
    have hMS : ∀ m9 m19 m27 : km_I, m9 = km_u (km_u mi (t + 1) 3 (nI (g + 1))) (t + 2) c (mi (b + 3) (24 * mm + l)) → m19 = km_u m9 (t + 3) c (mi (t + 8) (6 * u + s)) → m27 = km_u m19 (t + 1) 5 (nI (c + 1)) → MS m0 m27 t b (u + 1) := by
      intro m9 m19 m27 e9 e19 e27
      have f5 : (km_u mi (t + 1) 3 (nI (g + 1))) (t + 1) 5 = nI c := by rw [km_u_k (by omega)]; exact ec
      have q := addTell_s (K := fun m => MS m0 m t b (u + 1)) (l := l) (v := mi (t + 8) (6 * u + s)) h1 hbt (by rw [km_u_p (by omega)]; exact hll) (pa (by omega)) (by rw [f5]; intro z9; exact absurd ((nI_eq (b := 40) (by omega) (by decide)).mp z9) (by omega)) (fun _ a _ => a)
      have ck : (nI c).toNatClampNeg = c := nI_clamp (by omega)
      unfold X5_addTell_w at q
      rw [f5, ck] at q
      have q1 := (q.2 m9 e9).2
      have g5 : m9 (t + 1) 5 = nI c := by rw [e9, km_u_p (by omega)]; exact f5
      rw [g5, ck] at q1
      have q2 := q1 m19 e19
      have i5 : m19 (t + 1) 5 = nI c := by rw [e19, km_u_p (by omega)]; exact g5
      exact q2 m27 (by rw [i5, nI_1]; exact e27)
    refine kN _ u (g + 1) (line_s (hMS _ _ _ rfl rfl rfl) hbt (nb_of _ (by omega))) ?_ (by omega) (by omega) ?_ (fun mi' hRS => rs_step hm hl e1 hll ez hz hlz hg1 (fun mr m e hbe hR h101 hS hR1 n hn x1 x2 x3 x4 x5 y3 y4 y5 Kr hf => ?_))
    · rw [km_u_p (by omega), km_u_k (by omega), km_u_p (by omega), km_u_p (by omega), km_u_at]
    · rw [km_u_p (by omega), km_u_p (by omega), km_u_p (by omega), km_u_p (by omega), km_u_p (by omega)]; exact h6
    · obtain ⟨⟨q1, q2, q3, q4⟩, qr, qi, qm⟩ := cont m e hbe hS
      refine act_12 qi (by omega) (q1.trans ek) (q3.trans es) hs ?_
      rw [q2, qr s hs]
      refine tell_x hR1 (pa (by omega)) (by rw [km_u_p (by omega), km_u_p (by omega), hS.2.2.1]; exact ec) c40 (fun w hRw => hRS mr _ e hbe hRw ?_ (hS.tell hbt ec c40) n (by omega) x1 x2 x3 x4 x5 y3 y4 y5 Kr hf)
      rw [km_u_p (by omega), km_u_p (by omega), km_u_p (by omega), km_u_p (by omega), km_u_p (by omega), km_u_p (by omega)]; exact h101
  · obtain ⟨r, hr, er⟩ := ra (by omega)
    obtain ⟨q, hq, eq⟩ := rb (by omega)
    obtain ⟨w, hw, ew⟩ := rc (by omega)
    obtain ⟨c, hc, ec⟩ := h.2.2.2.1
    refine perf_13 hbt hi (by omega) h8 hll ek er eq ew hw ?_
    rw [gm]
    have ec1 : (km_u mi (t + 1) 3 (nI (g + 1))) b 0 = nI c := by rw [km_u_p (by omega)]; exact ec
    have f6 : (km_u mi (t + 1) 3 (nI (g + 1))) t 6 = 0 := by rw [km_u_p (by omega)]; exact h6
    have f8 : (km_u mi (t + 1) 3 (nI (g + 1))) t 8 = nI (u + 1) := by rw [km_u_p (by omega)]; exact h8
    have z8 : nI (u + 1) = 8 ↔ u + 1 = 8 := nI_eq (b := 8) (by omega) (by decide)
    -- the reference's CALL
    have rc13 : ∀ (mr m : km_I) (e : Nat) (Kr : km_I → Prop), kb b e → SIM mi m t b e (u + 1) → RM False mr (km_u (km_u m 104 0 (nI (g + 1))) 98 u (nI (l + 1))) 0 (u + 1) (g + 1) → (c ≤ q → X7_throwsOut_w 8 (nI q) (km_u (km_u m 104 0 (nI (g + 1))) 98 u (nI (l + 1))) Kr) → (q < c → u + 1 = 8 → Kr (km_u (km_u (km_u m 104 0 (nI (g + 1))) 98 u (nI (l + 1))) 101 0 2)) → (q < c → u + 1 < 8 → X7_enter_w (nI q) (mi (t + 8) (6 * u + w)) (mi (t + 8) (6 * u + (w + 1) % 6)) (nI r) (km_u (km_u m 104 0 (nI (g + 1))) 98 u (nI (l + 1))) Kr) → X7_act_w (nI (144 * e + (24 * mm + l))) (nI u) (nI e) (km_u (km_u m 104 0 (nI (g + 1))) 98 u (nI (l + 1))) Kr := fun mr m e Kr hbe hS hR1 k1 k2 k3 => by
      obtain ⟨⟨q1, q2, q3, q4⟩, qr, qi, qm⟩ := cont m e hbe hS
      refine act_13 qi (by omega) (q1.trans ek) (calls_x hR1 qi hbe.le.2.2 (q3.trans eq) hq (q4.trans ew) hw (q2.trans er) ?_ hc ?_ k1 k2 (fun a1 a2 => ?_))
      · rw [km_u_p (by omega), km_u_p (by omega), hS.1.2.2.1]; exact ec
      · rw [km_u_p (by omega), km_u_p (by omega)]; exact hS.1.2.2.2.2.1
      · rw [qr w hw, qr ((w + 1) % 6) (by omega)]; exact k3 a1 a2
    unfold X1_ask_w X0_has_w
    rw [ec1, nI_leI (by omega) (by omega)]
    have yes : q < c → ((km_u mi (t + 1) 3 (nI (g + 1))) t 6 = 0 → ((¬ (km_u mi (t + 1) 3 (nI (g + 1))) t 8 = 8 → X1_enter_w t b (nI q) (mi (t + 8) (6 * u + w)) (mi (t + 8) (6 * u + (w + 1) % 6)) (km_u mi (t + 1) 3 (nI (g + 1))) (fun m70 => K m70)) ∧ ((km_u mi (t + 1) 3 (nI (g + 1))) t 8 = 8 → X1_stop_w t b 2 0 0 (km_u mi (t + 1) 3 (nI (g + 1))) (fun m59 => K m59)))) := fun hqc _ => by
      rw [f8, z8]
      refine ⟨fun n8 => ?_, fun n8 => stop_x (stE 2 0 0 (by decide) (fun mr m e Kr hbe hS hR1 hK => rc13 mr m e Kr hbe hS hR1 (fun a => absurd a (by omega)) (fun _ _ => hK _ (end_s hR1) (by rw [km_u_at]) (fun p a1 a2 => by rw [km_u_off p (by omega)])) (fun _ a => absurd a (by omega))))⟩
      refine enter_x h1 hbt (by omega) (nb_of _ hq) (fun k' hk' => ?_) (fun mi' hMS hEC => kN _ (u + 1) (g + 1) hMS ?_ (by omega) (by omega) ?_ (fun mf hRS => rs_step hm hl e1 hll ez hz hlz hg1 (fun mr m e hbe hR h101 hS hR1 n hn x1 x2 x3 x4 x5 y3 y4 y5 Kr hf => rc13 mr m e _ hbe hS hR1 (fun a => absurd a (by omega)) (fun _ a => absurd a (by omega)) (fun _ _ => renter_x hR1 (by omega) (nb_of _ hq) (nb_of _ hr) (fun m' hR' hER => hRS mr m' e hbe hR' ?_ (hS.call hbt hm hl e1 hll er.symm hEC hER) n (by omega) x1 x2 x3 x4 x5 y3 y4 y5 Kr hf)))))
      · obtain rfl : k' = u := by omega
        exact ⟨mm, l, hm, hl, by rw [km_u_p (by omega)]; exact e1, by rw [km_u_p (by omega)]; exact hll, by rw [km_u_p (by omega)]; exact ek⟩
      · rw [hEC.2.2.1 3 (by omega), km_u_at]
      · rw [hEC.2.1 6 (by omega)]; exact f6
      · rw [hER.2.2.1 101 (by omega) (by omega) (by omega) (by omega) (by omega) (by omega), km_u_p (by omega), km_u_p (by omega)]; exact h101
    refine ⟨fun c9 => absurd c9 (nI_pos (by omega)), fun _ => ⟨fun c9 => kz_ifn0 (stop_x (stE 1 8 _ (by decide) (fun mr m e Kr hbe hS hR1 hK => rc13 mr m e Kr hbe hS hR1 (fun _ => throw_x hR1 hK) (fun a => absurd a (by omega)) (fun a => absurd a (by omega))))), fun c9 => kz_ifn1 ⟨yes (by omega), fun n => absurd f6 n⟩⟩⟩
  · obtain ⟨r, hr, er⟩ := ra (by omega)
    refine perf_14 hbt hi (by omega) h8 hll ek er hr ?_
    rw [gm]
    refine ret_x h1 hbt (by rw [km_u_at]) (by rw [km_u_p (by omega)]; exact h6) (fun mi2 u0 hMS hret => kE _ hMS (rs_step hm hl e1 hll ez hz hlz hg1 (fun mr m e hbe hR h101 hS hR1 n hn x1 x2 x3 x4 x5 y3 y4 y5 Kr hf => ?_))) (fun mi2 u' hu' hMS h3 h6' hret => kN _ u' (g + 1) hMS h3 (by omega) (by omega) h6' (fun mf hRS => rs_step hm hl e1 hll ez hz hlz hg1 (fun mr m e hbe hR h101 hS hR1 n hn x1 x2 x3 x4 x5 y3 y4 y5 Kr hf => ?_)))
    · obtain ⟨⟨q1, q2, q3, q4⟩, qr, qi, qm⟩ := cont m e hbe hS
      obtain ⟨m2, a1, a2, a3, a4⟩ := hret mr _ e hR1 (hS.op hbt)
      obtain ⟨n', rfl⟩ : ∃ n', n = n' + 1 := ⟨n - 1, by omega⟩
      refine act_14 qi (by omega) (q1.trans ek) (q2.trans er) hr ?_
      rw [qr r hr]
      exact a4 _ (rp_end a2 (hf _ _ _ a1 a3))
    · obtain ⟨⟨q1, q2, q3, q4⟩, qr, qi, qm⟩ := cont m e hbe hS
      obtain ⟨m2, a1, a2, a3, a4⟩ := hret mr _ e hR1 (by rw [km_u_p (by omega), km_u_p (by omega)]; exact h101) (hS.op hbt)
      refine act_14 qi (by omega) (q1.trans ek) (q2.trans er) hr ?_
      rw [qr r hr]
      exact a4 _ (hRS mr m2 e hbe a1 a2 a3 n (by omega) x1 x2 x3 x4 x5 y3 y4 y5 Kr hf)
  · obtain ⟨s, hs, es⟩ := rb (by omega)
    refine perf_15 hbt hi (by omega) h8 hll ek es hs ?_
    rw [gm]
    exact stE 1 _ _ (by decide) (fun mr m e Kr hbe hS hR1 hK => by
      obtain ⟨⟨q1, q2, q3, q4⟩, qr, qi, qm⟩ := cont m e hbe hS
      exact act_15 qi (by omega) (q1.trans ek) (q3.trans es) hs (throw_x hR1 hK))
set_option maxHeartbeats 1000000 in
theorem go_x {m0 : km_I} {t b : Nat} {x1 x2 x3 y1 y2 y3 : Int32} {K : km_I → Prop} (hbt : b + 6 ≤ t) : ∀ (n i u g : Nat) (mi : km_I), i ≤ 1000 → 1000 < n + i → i + 2 * (100 - g) + u ≤ 400 → MS m0 mi t b (u + 1) → mi (t + 1) 3 = nI g → g ≤ 100 → mi t 6 = 0 → (∀ mi', MS m0 mi' t b 0 → RS t b mi mi' u g → K mi') → X1_go_b22 t b x1 x2 x3 n y1 y2 y3 (nI i) mi K := by
  intro n
  induction n with
  | zero => intro i u g mi h1 h2; omega
  | succ n ih =>
    intro i u g mi h1 h2 h3 h hg hg1 h6 hK
    have hu := h.2.2.1.1
    have h8 := h.2.2.1.2.1
    simp only [X1_go_b22, X1_go_b115]
    rw [show (1000 : Int32) = nI 1000 from rfl, nI_leI (by omega) (by omega), nI_1]
    refine ⟨fun c => absurd c (by omega), fun c => ⟨fun c2 => absurd c2 (by rw [h8]; exact nI_nle (by omega) (by omega)), fun c2 => ?_⟩⟩
    -- once it has ended, the loop ends
    have over : ∀ mi', MS m0 mi' t b 0 → RS t b mi mi' u g → X1_go_b22 t b x1 x2 x3 n y1 y2 y3 (nI (i + 1)) mi' K := fun mi' hm hr => by
      obtain ⟨n', rfl⟩ : ∃ n', n = n' + 1 := ⟨n - 1, by omega⟩
      simp only [X1_go_b22]
      exact ⟨fun _ => hK _ hm hr, fun _ => ⟨fun _ => hK _ hm hr, fun c9 => absurd (by rw [hm.2.2.1.2.1]; decide) c9⟩⟩
    have next : ∀ mi1 u1 g1, MS m0 mi1 t b (u1 + 1) → mi1 (t + 1) 3 = nI g1 → g1 ≤ 100 → 2 * (100 - g1) + u1 < 2 * (100 - g) + u → mi1 t 6 = 0 → (∀ mi', RS t b mi1 mi' u1 g1 → RS t b mi mi' u g) → X1_go_b22 t b x1 x2 x3 n y1 y2 y3 (nI (i + 1)) mi1 K := fun mi1 u1 g1 a1 a2 a3 a4 a5 a6 => ih (i + 1) u1 g1 mi1 (by omega) (by omega) (by omega) a1 a2 a3 a5 (fun mi' hm hr => hK _ hm (a6 mi' hr))
    obtain ⟨⟨m, hm, em⟩, ⟨l, hl, el⟩⟩ := h.2.2.1.2.2.1 u (by omega)
    obtain ⟨z, hz, ez⟩ := h.2.2.2.2.1 m (by omega)
    rw [h8, nI_pred, nI_clamp (by omega), em, el, nI_clamp (by omega), ez, nI_ltI (by omega) (by omega)]
    refine ⟨vp_in_nI (by omega) (by decide), vp_in_nI (by omega) (by decide), vp_in_nI (by omega) (by decide), fun c3 => ?_, fun c3 => ?_⟩
    · refine top_s h8 (by omega) hm (by omega) em el ⟨vp_in_nI (by omega) (by decide), ?_⟩
      rw [nI_clamp (by omega)]
      have kp : g < 100 → (mi (b + 2) (24 * m + l) = 12 → ¬ mi (t + 1) 5 = 40) → ((0 : Int32) = 0 → X1_placeOfTop_w t b mi (fun r109 m109 => X1_perform_w t b r109 m109 (fun m112 => X1_go_b22 t b x1 x2 x3 n y1 y2 y3 (nI (i + 1)) m112 K))) ∧ (¬ (0 : Int32) = 0 → X1_stop_w t b 2 0 0 mi (fun m101 => X1_go_b22 t b x1 x2 x3 n y1 y2 y3 (nI (i + 1)) m101 K)) := fun hgg h40 =>
        ⟨fun _ => top_s h8 (by omega) hm (by omega) em el (perform_x h hbt hm (by omega) em el ez hz c3 hg hgg h6 h40 over next), fun c4 => absurd rfl c4⟩
      have ks : RS t b mi (km_u (km_u (km_u (km_u mi t 8 0) (t + 1) 0 2) (t + 1) 1 0) (t + 1) 2 0) u g → ((1 : Int32) = 0 → X1_placeOfTop_w t b mi (fun r109 m109 => X1_perform_w t b r109 m109 (fun m112 => X1_go_b22 t b x1 x2 x3 n y1 y2 y3 (nI (i + 1)) m112 K))) ∧ (¬ (1 : Int32) = 0 → X1_stop_w t b 2 0 0 mi (fun m101 => X1_go_b22 t b x1 x2 x3 n y1 y2 y3 (nI (i + 1)) m101 K)) := fun hr =>
        ⟨fun c4 => absurd c4 (by decide), fun _ => stop_x (over _ (h.stop hbt) hr)⟩
      have te : ∀ (mo m' : km_I) (e : Nat), SIM mi mo t b e (u + 1) → (∀ p, 106 ≤ p → p ≤ 108 → m' p = mo p) → m' 101 0 = 2 → FIN (km_u (km_u (km_u (km_u mi t 8 0) (t + 1) 0 2) (t + 1) 1 0) (t + 1) 2 0) m' t := fun mo m' e hS eo e2 => by
        refine ⟨?_, hS.2.2.mv (by rw [km_u_k (by omega), km_u_k (by omega), km_u_k (by omega), km_u_p (by omega)]) (by rw [km_u_off (t + 2) (by omega), km_u_off (t + 2) (by omega), km_u_off (t + 2) (by omega), km_u_off (t + 2) (by omega)]) (by rw [km_u_off (t + 3) (by omega), km_u_off (t + 3) (by omega), km_u_off (t + 3) (by omega), km_u_off (t + 3) (by omega)]) eo⟩
        rw [e2, km_u_k (by omega), km_u_k (by omega), km_u_at]
      have z100 : nI g = 100 ↔ g = 100 := nI_eq (b := 100) (by omega) (by decide)
      unfold X1_isSpentBy_w X1_isSpentBy_b30
      rw [hg, z100]
      refine ⟨fun c5 => ks ?_, fun c4 => ⟨fun c5 => kp (by omega) (fun e => absurd e c5), fun c5 => ⟨fun c6 => kp (by omega) (fun _ => c6), fun c6 => ks ?_⟩⟩⟩
      · -- 100 OPS have been begun
        intro mr mo e hbe hR h101 hS n2 hn2 x1' x2' x3' x4' x5' y3' y4' y5' Kr hf
        obtain ⟨n3, rfl⟩ : ∃ n3, n2 = n3 + 1 + 1 := ⟨n2 - 2, by omega⟩
        refine rp hR hbe.le.2.2 h101 ((hS.2.1.1 u (by omega)).trans em) hm ((hS.2.1.2.2.1 u rfl).trans el) hl ((hS.1.1 m hm).trans ez) hz (fun _ a => absurd a (by omega)) (fun _ _ => rp_end (by rw [km_u_at]; decide) (hf _ _ _ (end_s hR) (te mo _ e hS (fun p a1 a2 => by rw [km_u_off p (by omega)]) (by rw [km_u_at])))) (fun a => absurd a (by omega))
      · -- the 41st TELL
        refine rs_step hm (by omega) em el ez hz c3 (by omega) (fun mr mo e hbe hR h101 hS hR1 n2 hn2 x1' x2' x3' x4' x5' y3' y4' y5' Kr hf => ?_)
        obtain ⟨n3, rfl⟩ : ∃ n3, n2 = n3 + 1 := ⟨n2 - 1, by omega⟩
        have he := hbe.le
        obtain ⟨k, hk, ek, ra, la, pa, rb, lb, rc⟩ := h.2.2.2.2.2 (24 * m + l) (by omega)
        obtain rfl : k = 12 := by
          rw [ek] at c5
          exact (nI_eq (b := 12) (by omega) (by decide)).mp c5
        obtain ⟨s, hs, es⟩ := rb (by omega)
        obtain ⟨q1, q2, q3, q4⟩ := hS.1.2.1 (24 * m + l) (by omega)
        refine act_12 (by omega) (by omega) (by rw [km_u_p (by omega), km_u_p (by omega), q1]; exact ek) (by rw [km_u_p (by omega), km_u_p (by omega), q3]; exact es) hs ?_
        unfold X7_tell_w
        have h18 : (km_u (km_u mo 104 0 (nI (g + 1))) 98 u (nI (l + 1))) 86 18 = 0 := hR1.2.2.2.2.1.2
        have h106 : (km_u (km_u mo 104 0 (nI (g + 1))) 98 u (nI (l + 1))) 106 0 = 40 := by rw [km_u_p (by omega), km_u_p (by omega), hS.2.2.1]; exact c6
        rw [h18, show Int32.toNatClampNeg 0 = 0 from rfl, h106]
        refine ⟨v03, fun n9 => absurd rfl n9, fun _ => ⟨v03, fun m23 e23 => ?_⟩⟩
        rw [e23]
        exact rp_end (by rw [km_u_at]; decide) (hf _ _ _ (end_s hR1) (te mo _ e hS (fun p a1 a2 => by rw [km_u_off p (by omega), km_u_off p (by omega), km_u_off p (by omega)]) (by rw [km_u_at])))
    · -- behind the last LINE
      refine ret_x h hbt hg h6 (fun mi2 u0 hMS hret => over _ hMS ?_) (fun mi2 u' hu' hMS h3' h6' hret => next _ u' g hMS h3' hg1 (by omega) h6' (fun mf hRS => ?_))
      · intro mr mo e hbe hR h101 hS n2 hn2 x1' x2' x3' x4' x5' y3' y4' y5' Kr hf
        obtain ⟨n3, rfl⟩ : ∃ n3, n2 = n3 + 1 + 1 := ⟨n2 - 2, by omega⟩
        obtain ⟨m2, a1, a2, a3, a4⟩ := hret mr mo e hR hS.ip
        exact rp hR hbe.le.2.2 h101 ((hS.2.1.1 u (by omega)).trans em) hm ((hS.2.1.2.2.1 u rfl).trans el) hl ((hS.1.1 m hm).trans ez) hz (fun a => absurd a (by omega)) (fun a => absurd a (by omega)) (fun _ => a4 _ (rp_end a2 (hf _ _ _ a1 a3)))
      · intro mr mo e hbe hR h101 hS n2 hn2 x1' x2' x3' x4' x5' y3' y4' y5' Kr hf
        obtain ⟨n3, rfl⟩ : ∃ n3, n2 = n3 + 1 := ⟨n2 - 1, by omega⟩
        obtain ⟨m2, a1, a2, a3, a4⟩ := hret mr mo e hR h101 hS.ip
        exact rp hR hbe.le.2.2 h101 ((hS.2.1.1 u (by omega)).trans em) hm ((hS.2.1.2.2.1 u rfl).trans el) hl ((hS.1.1 m hm).trans ez) hz (fun a => absurd a (by omega)) (fun a => absurd a (by omega)) (fun _ => a4 _ (hRS mr m2 e hbe a1 a2 a3 n3 (by omega) x1' x2' x3' x4' x5' y3' y4' y5' Kr hf))
