/-! THE START -/
def km_L6 (w mk : Int32) : List (Nat × Nat × Int32) := [(1, 0, 0), (7, 0, 0), (14, 0, 0), (14, 1, 1), (14, 2, 2), (14, 3, 3), (16, 0, 0), (16, 1, 1), (16, 2, 2), (16, 3, 3), (18, 0, 0), (18, 1, 1), (18, 2, 2), (18, 3, 3), (20, 0, 0), (20, 1, 1), (20, 2, 2), (20, 3, 3), (21, 0, 0), (24, 0, (-1)), (25, 0, (-1)), (25, 1, (-1)), (25, 2, (-1)), (25, 3, (-1)), (25, 4, (-1)), (0, 13, (-1)), (0, 14, (-1)), (0, 15, (-1)), (0, 16, (-1)), (0, 0, w), (0, 1, mk), (27, 0, 0), (27, 1, 0), (27, 2, 0), (27, 3, 0), (27, 4, 0), (27, 5, 0), (27, 8, 0), (26, 8, 0), (26, 1, mk), (26, 6, 0), (39, 0, 0), (39, 1, 0), (39, 2, 0), (39, 3, 0), (39, 4, 0), (39, 5, 0), (39, 8, 0), (38, 8, 0), (38, 1, mk), (38, 6, 0), (51, 0, 0), (51, 1, 0), (51, 2, 0), (51, 3, 0), (51, 4, 0), (51, 5, 0), (51, 8, 0), (50, 8, 0), (50, 1, mk), (50, 6, 0), (63, 0, 0), (63, 1, 0), (63, 2, 0), (63, 3, 0), (63, 4, 0), (63, 5, 0), (63, 8, 0), (62, 8, 0), (62, 1, mk), (62, 6, 1), (75, 0, 0), (75, 1, 0), (75, 2, 0), (75, 3, 0), (75, 4, 0), (75, 5, 0), (75, 8, 0), (74, 8, 0), (74, 1, mk), (74, 6, 1)]
def km_R6 : List (Nat × Nat × Nat) := [(1, 1, 2), (1, 2, 3), (1, 3, 4), (1, 4, 5), (1, 5, 6), (0, 2, 1), (7, 1, 8), (7, 2, 9), (7, 3, 10), (7, 4, 11), (7, 5, 12), (0, 3, 7), (13, 0, 14), (13, 1, 15), (13, 2, 16), (0, 4, 13), (17, 0, 18), (17, 1, 19), (17, 2, 20), (0, 5, 17), (21, 1, 22), (21, 2, 23), (0, 6, 21), (24, 1, 25), (0, 7, 24), (27, 6, 28), (27, 7, 29), (27, 9, 30), (27, 10, 31), (27, 11, 32), (27, 12, 33), (26, 0, 27), (26, 2, 34), (26, 3, 35), (26, 4, 36), (26, 5, 37), (26, 7, 1), (0, 8, 26), (39, 6, 40), (39, 7, 41), (39, 9, 42), (39, 10, 43), (39, 11, 44), (39, 12, 45), (38, 0, 39), (38, 2, 46), (38, 3, 47), (38, 4, 48), (38, 5, 49), (38, 7, 1), (0, 9, 38), (51, 6, 52), (51, 7, 53), (51, 9, 54), (51, 10, 55), (51, 11, 56), (51, 12, 57), (50, 0, 51), (50, 2, 58), (50, 3, 59), (50, 4, 60), (50, 5, 61), (50, 7, 7), (0, 10, 50), (63, 6, 64), (63, 7, 65), (63, 9, 66), (63, 10, 67), (63, 11, 68), (63, 12, 69), (62, 0, 63), (62, 2, 70), (62, 3, 71), (62, 4, 72), (62, 5, 73), (62, 7, 1), (0, 11, 62), (75, 6, 76), (75, 7, 77), (75, 9, 78), (75, 10, 79), (75, 11, 80), (75, 12, 81), (74, 0, 75), (74, 2, 82), (74, 3, 83), (74, 4, 84), (74, 5, 85), (74, 7, 7), (0, 12, 74)]
def km_L7 (w mk : Int32) : List (Nat × Nat × Int32) := [(86, 37, (-1)), (86, 38, (-1)), (86, 0, w), (86, 1, mk), (93, 0, 0), (93, 1, (0 + 1)), (93, 2, ((0 + 1) + 1)), (93, 3, (((0 + 1) + 1) + 1))]
def km_R7 : List (Nat × Nat × Nat) := [(86, 2, 87), (86, 3, 88), (86, 4, 89), (86, 5, 90), (86, 6, 91), (86, 7, 92), (86, 8, 93), (86, 9, 94), (86, 11, 95), (86, 12, 96), (86, 14, 97), (86, 15, 98), (86, 16, 99), (86, 17, 100), (86, 22, 101), (86, 23, 102), (86, 24, 103), (86, 25, 104), (86, 26, 105), (86, 27, 106), (86, 28, 107), (86, 29, 108), (86, 30, 109), (86, 31, 110), (86, 32, 111), (86, 33, 112), (86, 34, 113), (86, 39, 114), (86, 40, 115)]
/-- the memory once both systems are made -/
def km_M0 (w mk w2 mk2 : Int32) : km_I := km_us (km_us (fun _ _ => 0) (km_L6 w mk)) (km_L7 w2 mk2)
def km_cv (E : km_E) : Int32 := if Int32.ofNat (E.2.2.1 2) ≤ 0 then 0 else E.2.2.2.1 2 0
theorem km_fresh0 (n : Nat) : km_fresh n (fun _ _ => 0) (fun _ _ => none) := fun _ _ => ⟨fun _ => rfl, fun _ => rfl⟩
theorem km_mrOK : km_MR (km_urs (km_urs (fun _ _ => none) km_R6) km_R7) := by
  unfold km_MR
  decide +kernel
theorem km_cell_w {E : km_E} {mi : km_I} (hlen : ¬ Int32.ofNat (E.2.2.1 2) ≤ 0 → vp_in 0 (E.2.2.1 2)) : L_cell_w E 0 mi (fun r m => r = km_cv E ∧ m = mi) :=
  ⟨fun c => ⟨by rw [km_cv, if_pos c], rfl⟩, fun c => ⟨hlen c, by rw [km_cv, if_neg c]; rfl, rfl⟩⟩
set_option maxHeartbeats 4000000 in
set_option maxRecDepth 100000 in
theorem law_go {E : km_E} {X : km_X} (hX : km_ok E X room_1 cL_law 4 wsL_law RL) (hL : km_law E X) (hlen : ¬ Int32.ofNat (E.2.2.1 2) ≤ 0 → vp_in 0 (E.2.2.1 2)) (hp : ∀ (w mk w2 mk2 : Int32), ((km_cv E &&& 1 = 0 ∧ w = 2 ∧ mk = 3) ∨ (¬ km_cv E &&& 1 = 0 ∧ w = 3 ∧ mk = 7)) → ((¬ km_cv E &&& 1 = 1 ∧ w2 = 2 ∧ mk2 = 3) ∨ (km_cv E &&& 1 = 1 ∧ w2 = 3 ∧ mk2 = 7)) → ∃ n, L_law_b28 E n 1 (km_M0 w mk w2 mk2)) : km_G E X 4 [] (fun _ _ => 0) (fun _ _ => none) 0 0 0 [(0, .retAddr 2)] [] := by
  refine km_new (q := 0) (sh' := SH.take 1) hX dL_law_0 nL_law_7 rfl rfl (fun _ => rfl) (fun _ => rfl) (by decide) (by decide) ?_
  refine km_dup hX dL_law_3 ?_
  refine km_aload_n hX dL_law_4 rfl rfl ?_
  refine km_iconst (v := 0) hX dL_law_5 (by decide) ?_
  refine km_callSi hX dL_law_6 vL_law_9 (L_cell_c (km_cell_w hlen)) (by decide) rfl rfl (Nat.le_of_ble_eq_true rfl) (fun r6 m6 h6 => ?_)
  obtain ⟨rfl, rfl⟩ := h6
  refine km_callI hX dL_law_9 vL_law_15 (X6_init_0 (l := X.2.1) (x1 := km_cv E) (km_fresh0 1)) (by decide) rfl rfl (Nat.le_of_ble_eq_true rfl) (fun r sh9 mi9 mr9 h9 => ?_)
  obtain ⟨rfl, rfl, w, mk, hw, rfl, rfl⟩ := h9
  show km_G E X 4 (SH.take 86) (km_us (fun _ _ => 0) (km_L6 w mk)) (km_urs (fun _ _ => none) km_R6) 86 2125 12 [(0, .retAddr 2)] [.ref 0]
  refine km_astore_n hX dL_law_12 (by decide) ?_
  refine km_new (q := 86) (sh' := SH.take 87) hX dL_law_13 nL_law_18 rfl rfl (km_zi (km_fresh0 1) (l := km_L6 w mk) (q := 86) [1, 7, 14, 14, 14, 14, 16, 16, 16, 16, 18, 18, 18, 18, 20, 20, 20, 20, 21, 24, 25, 25, 25, 25, 25, 0, 0, 0, 0, 0, 0, 27, 27, 27, 27, 27, 27, 27, 26, 26, 26, 39, 39, 39, 39, 39, 39, 39, 38, 38, 38, 51, 51, 51, 51, 51, 51, 51, 50, 50, 50, 63, 63, 63, 63, 63, 63, 63, 62, 62, 62, 75, 75, 75, 75, 75, 75, 75, 74, 74, 74] rfl (by decide) (by decide)) (km_zr (km_fresh0 1) (l := km_R6) (q := 86) [1, 1, 1, 1, 1, 0, 7, 7, 7, 7, 7, 0, 13, 13, 13, 0, 17, 17, 17, 0, 21, 21, 0, 24, 0, 27, 27, 27, 27, 27, 27, 26, 26, 26, 26, 26, 26, 0, 39, 39, 39, 39, 39, 39, 38, 38, 38, 38, 38, 38, 0, 51, 51, 51, 51, 51, 51, 50, 50, 50, 50, 50, 50, 0, 63, 63, 63, 63, 63, 63, 62, 62, 62, 62, 62, 62, 0, 75, 75, 75, 75, 75, 75, 74, 74, 74, 74, 74, 74, 0] rfl (by decide) (by decide)) (by decide) (by decide) ?_
  refine km_dup hX dL_law_16 ?_
  refine km_aload_n hX dL_law_17 rfl rfl ?_
  refine km_iconst (v := 0) hX dL_law_18 (by decide) ?_
  refine km_callSi hX dL_law_19 vL_law_9 (L_cell_c (km_cell_w hlen)) (by decide) rfl rfl (Nat.le_of_ble_eq_true rfl) (fun r6 m6 h6 => ?_)
  obtain ⟨rfl, rfl⟩ := h6
  refine km_callI hX dL_law_22 vL_law_20 (X7_init_86 (l := X.2.1) (x1 := km_cv E) (km_fr (km_fresh0 1) [1, 7, 14, 14, 14, 14, 16, 16, 16, 16, 18, 18, 18, 18, 20, 20, 20, 20, 21, 24, 25, 25, 25, 25, 25, 0, 0, 0, 0, 0, 0, 27, 27, 27, 27, 27, 27, 27, 26, 26, 26, 39, 39, 39, 39, 39, 39, 39, 38, 38, 38, 51, 51, 51, 51, 51, 51, 51, 50, 50, 50, 63, 63, 63, 63, 63, 63, 63, 62, 62, 62, 75, 75, 75, 75, 75, 75, 75, 74, 74, 74] [1, 1, 1, 1, 1, 0, 7, 7, 7, 7, 7, 0, 13, 13, 13, 0, 17, 17, 17, 0, 21, 21, 0, 24, 0, 27, 27, 27, 27, 27, 27, 26, 26, 26, 26, 26, 26, 0, 39, 39, 39, 39, 39, 39, 38, 38, 38, 38, 38, 38, 0, 51, 51, 51, 51, 51, 51, 50, 50, 50, 50, 50, 50, 0, 63, 63, 63, 63, 63, 63, 62, 62, 62, 62, 62, 62, 0, 75, 75, 75, 75, 75, 75, 74, 74, 74, 74, 74, 74, 0] rfl rfl (by decide) (by decide) (by decide))) (by decide) rfl rfl (Nat.le_of_ble_eq_true rfl) (fun r sh9 mi9 mr9 h9 => ?_)
  obtain ⟨rfl, rfl, w2, mk2, hw2, rfl, rfl⟩ := h9
  show km_G E X 4 SH (km_M0 w mk w2 mk2) (km_urs (km_urs (fun _ _ => none) km_R6) km_R7) 116 3833 25 (km_st [(0, .retAddr 2)] 1 (.ref 0)) [.ref 86]
  refine km_astore_n hX dL_law_25 (by decide) ?_
  refine km_iconst (v := 1) hX dL_law_26 (by decide) ?_
  refine km_istore_n hX dL_law_27 (by decide) ?_
  refine km_ren (ls' := [(0, .retAddr 2), (1, .ref 0), (2, .ref 86), (3, .int 1)]) [0, 1, 2, 3] rfl ?_
  obtain ⟨n, hn⟩ := hp w mk w2 mk2 hw hw2
  exact L_law_b28_t hX hL n 1 _ _ km_mrOK ⟨1, Or.inl rfl, by decide +kernel⟩ hn

def km_opL : List Int32 := [1, 2, 0, 1, 1, 0, 1, 1, 1, 1, 1, 1, 1, 1, 1, 1, 1, 1, 1, 1, 1, 1, 1, 1, 1, 1, 1, 1, 1, 1, 1, 3, 0, 3, 0, 0, 4, 1, 0, 1, 5, 1, 1, 0, 0, 6, 1, 0]
def km_renL : List Int32 := [123, 132, 213, 231, 312, 321, 1023, 1032, 1203, 1230, 1302, 1320, 2013, 2031, 2103, 2130, 2301, 2310, 3012, 3021, 3102, 3120, 3201, 3210]
set_option maxRecDepth 100000 in
theorem km_opIn : ∀ j, j < 48 → Cond.eq (.elem (.static "EqualMethods" "OPERANDS" "[I") (.int (Int32.ofNat j))) (.int (km_opL.getD j 0)) ∈ flatC (Jvm.Cond.and given_1 narrow_1) := by decide +kernel
set_option maxRecDepth 100000 in
theorem km_renIn : ∀ j, j < 24 → Cond.eq (.elem (.static "EqualMethods" "RENAMINGS" "[I") (.int (Int32.ofNat j))) (.int (km_renL.getD j 0)) ∈ flatC (Jvm.Cond.and given_1 narrow_1) := by decide +kernel

theorem km_ins0 : Cond.instantiable RX0 6 ∈ lw_tbl := by decide +kernel
theorem km_ins1 : Cond.instantiable RX1 9 ∈ lw_tbl := by decide +kernel
theorem km_ins2 : Cond.instantiable RX2 3 ∈ lw_tbl := by decide +kernel
theorem km_ins3 : Cond.instantiable RX3 3 ∈ lw_tbl := by decide +kernel
theorem km_ins4 : Cond.instantiable RX4 2 ∈ lw_tbl := by decide +kernel
theorem km_ins5 : Cond.instantiable RX5 13 ∈ lw_tbl := by decide +kernel
theorem km_ins6 : Cond.instantiable RX6 17 ∈ lw_tbl := by decide +kernel
theorem km_ins7 : Cond.instantiable RX7 42 ∈ lw_tbl := by decide +kernel
theorem km_cl8 {s : State} {c0 c1 c2 c3 c4 c5 c6 c7 : ClassId} {i0 i1 i2 i3 i4 i5 i6 i7 : Nat → Nat} (k0 : u_Kn s RX0 TX0 6 c0 i0) (k1 : u_Kn s RX1 TX1 9 c1 i1) (k2 : u_Kn s RX2 TX2 3 c2 i2) (k3 : u_Kn s RX3 TX3 3 c3 i3) (k4 : u_Kn s RX4 TX4 2 c4 i4) (k5 : u_Kn s RX5 TX5 13 c5 i5) (k6 : u_Kn s RX6 TX6 17 c6 i6) (k7 : u_Kn s RX7 TX7 42 c7 i7) : ∃ D : va_G, ∀ (k : Nat) (q : vw_C), vwCl[k]? = some q → u_Kn s q.1 q.2.1 q.2.2 (D.1 k) (D.2 k) := by
  refine ⟨(fun k => match k with | 0 => c0 | 1 => c1 | 2 => c2 | 3 => c3 | 4 => c4 | 5 => c5 | 6 => c6 | _ => c7, fun k => match k with | 0 => i0 | 1 => i1 | 2 => i2 | 3 => i3 | 4 => i4 | 5 => i5 | 6 => i6 | _ => i7), ?_⟩
  intro k q hq
  match k, hq with
  | 0, hq => cases hq; exact k0
  | 1, hq => cases hq; exact k1
  | 2, hq => cases hq; exact k2
  | 3, hq => cases hq; exact k3
  | 4, hq => cases hq; exact k4
  | 5, hq => cases hq; exact k5
  | 6, hq => cases hq; exact k6
  | 7, hq => cases hq; exact k7
  | k + 8, hq => simp [vwCl] at hq
def km_E0 (s0 tO tR b L : Nat) (xs : Nat → Int32) (D : va_G) (cA : ClassId) : km_E := (s0, (fun k => if k = 0 then tO else if k = 1 then tR else b), (fun k => if k = 0 then 48 else if k = 1 then 24 else L), (fun k j => if k = 0 then km_opL.getD j 0 else if k = 1 then km_renL.getD j 0 else xs j), D, cA)
/-- what is left to be said of the memory alone -/
def km_pure : Prop := ∀ (E : km_E) (L : Nat), L ≤ 3585 → E.2.2.1 0 = 48 → E.2.2.1 1 = 24 → E.2.2.1 2 = L → (∀ j, E.2.2.2.1 0 j = km_opL.getD j 0) → (∀ j, E.2.2.2.1 1 j = km_renL.getD j 0) → ∀ (w mk w2 mk2 : Int32), ((km_cv E &&& 1 = 0 ∧ w = 2 ∧ mk = 3) ∨ (¬ km_cv E &&& 1 = 0 ∧ w = 3 ∧ mk = 7)) → ((¬ km_cv E &&& 1 = 1 ∧ w2 = 2 ∧ mk2 = 3) ∨ (km_cv E &&& 1 = 1 ∧ w2 = 3 ∧ mk2 = 7)) → ∃ n, L_law_b28 E n 1 (km_M0 w mk w2 mk2)
set_option maxHeartbeats 4000000 in
set_option maxRecDepth 100000 in
theorem whole_open (hpure : km_pure) {p : Program} {e : Env} {s : State} {m : MethodId} {below : List Frame} {meth : Method} {c : Code} (l : Launch) {b L : Nat} {xs : Nat → Int32} (hL : L ≤ 3585) (C0 : lw_At p s m meth c b L xs) : W p l e room_1 s m #[Value.ref b] below meth c s.heap [] 0 0 (lw_Z below #[Value.ref b] s) (entryFrame m ([Value.ref b] : List Value).toArray 4) := by
  obtain ⟨hx, hb, hr, hml, hown, hts, hXs, hbl, hlocks, hgv⟩ := C0
  have htw : ∀ w ∈ wsL_law, w.before #[Value.ref b] s = true := fun w h => hts w (wsL_law_in w h)
  obtain ⟨c0, i0, k0⟩ := u_known (C := RX0) (T := TX0) (N := 6) (n := 6) hts inX0 (hts _ km_ins0)
  obtain ⟨c1, i1, k1⟩ := u_known (C := RX1) (T := TX1) (N := 9) (n := 9) hts inX1 (hts _ km_ins1)
  obtain ⟨c2, i2, k2⟩ := u_known (C := RX2) (T := TX2) (N := 3) (n := 3) hts inX2 (hts _ km_ins2)
  obtain ⟨c3, i3, k3⟩ := u_known (C := RX3) (T := TX3) (N := 3) (n := 3) hts inX3 (hts _ km_ins3)
  obtain ⟨c4, i4, k4⟩ := u_known (C := RX4) (T := TX4) (N := 2) (n := 2) hts inX4 (hts _ km_ins4)
  obtain ⟨c5, i5, k5⟩ := u_known (C := RX5) (T := TX5) (N := 13) (n := 13) hts inX5 (hts _ km_ins5)
  obtain ⟨c6, i6, k6⟩ := u_known (C := RX6) (T := TX6) (N := 17) (n := 17) hts inX6 (hts _ km_ins6)
  obtain ⟨c7, i7, k7⟩ := u_known (C := RX7) (T := TX7) (N := 42) (n := 42) hts inX7 (hts _ km_ins7)
  obtain ⟨D, hD⟩ := km_cl8 k0 k1 k2 k3 k4 k5 k6 k7
  obtain ⟨cA, kA, comp, hA1, hA2, hA3⟩ := Cond.arrayClass_spec (htw (.arrayClass .int) (by decide +kernel))
  have hKK : va_K D vwCl [(cA, .int)] s := ⟨hD, fun k q hk => by
    match k, hk with
    | 0, hk => cases hk; exact ⟨fun n z => ⟨fun k h => (by cases h), kA, hA2, comp, hA3⟩, hA1⟩
    | k + 1, hk => simp at hk⟩
  have hs := flat_of_before _ hgv
  have hnA : ∀ a : Nat, a < s.heap.size → ¬ (fun q : Nat => s.heap.size ≤ q) a := fun a h1 h2 => absurd h1 (Nat.not_lt.mpr h2)
  obtain ⟨tO, hO1, hO2⟩ := va_Tof (A := fun q : Nat => s.heap.size ≤ q) (N := 48) (f := fun j => .int (km_opL.getD j 0)) (by decide) (hs (.arrayOf (.static "EqualMethods" "OPERANDS" "[I") .int) (by decide +kernel)) (va_eqt (hs (.eq (.length (.static "EqualMethods" "OPERANDS" "[I")) (.int 48)) (by decide +kernel))) (fun j hj => va_eqt (hs _ (km_opIn j hj))) hnA
  obtain ⟨tR, hR1, hR2⟩ := va_Tof (A := fun q : Nat => s.heap.size ≤ q) (N := 24) (f := fun j => .int (km_renL.getD j 0)) (by decide) (hs (.arrayOf (.static "EqualMethods" "RENAMINGS" "[I") .int) (by decide +kernel)) (va_eqt (hs (.eq (.length (.static "EqualMethods" "RENAMINGS" "[I")) (.int 24)) (by decide +kernel))) (fun j hj => va_eqt (hs _ (km_renIn j hj))) hnA
  have hZO := va_Zof (A := fun q : Nat => s.heap.size ≤ q) (hts (.laysStatic "EqualMethods" "OPERANDS" "[I") (by decide +kernel)) (hts (.initialized "EqualMethods") (by decide +kernel)) hO1 hnA
  have hZR := va_Zof (A := fun q : Nat => s.heap.size ≤ q) (hts (.laysStatic "EqualMethods" "RENAMINGS" "[I") (by decide +kernel)) (hts (.initialized "EqualMethods") (by decide +kernel)) hR1 hnA
  obtain ⟨scr, hc1, hc2, hc3, hc4, hc5⟩ := hXs
  have hTs : va_T .int b L (fun j => .int (xs j)) (fun q : Nat => s.heap.size ≤ q) s s.heap := ⟨scr, hc1, hc2, hc3, by omega, by rw [hc4], hc5, hnA b hbl⟩
  have hNw : ∀ q ∈ km_nw, va_Nw (.methodLinkNest q.1 q.2.1 q.2.2 "EqualMethods") s := by
    have hin : ∀ q ∈ km_nw, Cond.methodLinkNest q.1 q.2.1 q.2.2 "EqualMethods" ∈ lw_tbl := by decide +kernel
    exact fun q hq => va_Nw.of rfl (hts _ (hin q hq))
  have hKE : km_K (km_E0 s.heap.size tO tR b L xs D cA) s s.heap := ⟨hKK, fun k hk => by
    match k, hk with
    | 0, _ => exact hO2
    | 1, _ => exact hR2
    | 2, _ => exact hTs, hZO, hZR, hNw⟩
  have key := law_go (E := km_E0 s.heap.size tO tR b L xs D cA) (X := (p, l, e, room_1, s, m, #[Value.ref b], below, meth, c, lw_Z below #[Value.ref b] s)) ⟨⟨hx, hb, hml, hown, htw⟩, rfl, hKE, Nat.le_refl _⟩ ⟨b, rfl, hr, hlocks, rfl, rfl⟩
    (fun hn => by
      refine vp_in_iff.mpr ⟨by decide, ?_⟩
      have h1 : ¬ (Int32.ofNat L) ≤ 0 := hn
      rcases Nat.eq_zero_or_pos L with h0 | h0
      · rw [h0] at h1; exact absurd (by decide) h1
      · show (0 : Int32).toInt < (L : Int); have : (0 : Int32).toInt = 0 := rfl; omega)
    (hpure _ L hL rfl rfl rfl (fun _ => rfl) (fun _ => rfl))
  have hl := lv_entry ([.ref b]) (n := 4) (Nat.le_of_ble_eq_true rfl)
  rw [lg_entry_eq]
  exact key s.heap [] _ ⟨rfl, fun k q h => by simp [km_w] at h⟩ va_S.rf hl
