/-- the law's frame: what is to come is its own end -/
def km_law (E : km_E) (X : km_X) : Prop := match X with
  | (_, _, _, _, s, _, args, below, meth, _, Q) => ∃ b : Nat, args = #[Value.ref b] ∧ meth.sig.returnType = ret ∧ meth.locks = false ∧ Q = lw_Z below #[Value.ref b] s ∧ s.heap.size = E.1
theorem km_lawret {E : km_E} {X : km_X} {mi : km_I} {mr : km_R} {pc : Nat} {ls : List (Nat × Value)} (hX : km_ok E X room_1 cL_law 4 wsL_law RL) (hL : km_law E X) (hd : decode cL_law pc = .ok (.ireturn, 1)) : km_G E X 4 SH mi mr 116 3833 pc ls [.int 1] := by
  obtain ⟨p, l, e, R', s, m, args, below, meth, c, Q⟩ := X
  obtain ⟨⟨hx, hb, hml, hown, hts⟩, rfl, hK, hsz⟩ := hX
  obtain ⟨b, rfl, hr, hlk, rfl, hE⟩ := hL
  intro H locs larr hw hs hl
  refine va_forget (fun q hq => by rw [hE]; exact hs.2.2 q hq) ?_
  exact lw_ret hx hb hr hlk hd
def L_law_b647 (E : km_E) (Z28 : Int32 → km_I → Prop) (y3 : Int32) (mi : km_I) : Prop := Z28 (y3 + 7) mi
set_option maxHeartbeats 4000000 in
set_option maxRecDepth 100000 in
theorem L_law_b647_t {E : km_E} {X : km_X} {Z28 : Int32 → km_I → Prop} (hX : km_ok E X room_1 cL_law 4 wsL_law RL) (hL : km_law E X) (hZ28 : ∀ (y3 : Int32) (m : km_I) (mr : km_R) (_ : km_MR mr) (_ : ∃ b, km_isB b ∧ mr 26 7 = some b), Z28 y3 m → km_G E X 4 SH m mr 116 3833 28 [(0, .retAddr 2), (1, .ref 0), (2, .ref 86), (3, .int y3)] []) : ∀ (y3 : Int32) (mi : km_I) (mr : km_R) (_ : km_MR mr) (_ : ∃ b, km_isB b ∧ mr 26 7 = some b), L_law_b647 E Z28 y3 mi → km_G E X 4 SH mi mr 116 3833 647 [(0, .retAddr 2), (1, .ref 0), (2, .ref 86), (3, .int y3)] [] := by
  intro y3 mi mr kqmr kqbb h
  have h : Z28 (y3 + 7) mi := h
  refine km_iinc (v := 7) hX dL_law_647 (by decide) rfl (by decide) ?_
  refine km_goto (tgt := 28) hX dL_law_650 (by decide) ?_
  refine km_ren (ls' := [(0, .retAddr 2), (1, .ref 0), (2, .ref 86), (3, .int (y3 + 7))]) [0, 1, 2, 3] rfl ?_
  exact hZ28 _ _ _ kqmr kqbb h
def L_law_b28 (E : km_E) (n : Nat) (y3 : Int32) (mi : km_I) : Prop := match n with
  | 0 => False
  | n + 1 => ((((Int32.ofNat (E.2.2.1 2)) - 7) < y3 → True) ∧ (¬ ((Int32.ofNat (E.2.2.1 2)) - 7) < y3 → vp_in y3 (E.2.2.1 2) ∧ (((Int32.toInt (((E.2.2.2.1 2 (Int32.toNatClampNeg y3)) &&& 31))) < 0 ∨ 16 < (Int32.toInt (((E.2.2.2.1 2 (Int32.toNatClampNeg y3)) &&& 31))) → L_law_b647 E (fun v0 m => L_law_b28 E n v0 m) y3 mi ) ∧ ((Int32.toInt (((E.2.2.2.1 2 (Int32.toNatClampNeg y3)) &&& 31))) = 0 → vp_in (y3 + 1) (E.2.2.1 2) ∧ X6_method_w (E.2.2.2.1 2 (Int32.toNatClampNeg (y3 + 1))) mi (fun r130 m130 => vp_in (y3 + 1) (E.2.2.1 2) ∧ X7_method_w (E.2.2.2.1 2 (Int32.toNatClampNeg (y3 + 1))) m130 (fun r140 m140 => L_law_b647 E (fun v0 m => L_law_b28 E n v0 m) y3 m140 ))) ∧ ((Int32.toInt (((E.2.2.2.1 2 (Int32.toNatClampNeg y3)) &&& 31))) = 1 → vp_in (y3 + 1) (E.2.2.1 2) ∧ vp_in (y3 + 2) (E.2.2.1 2) ∧ vp_in (y3 + 3) (E.2.2.1 2) ∧ vp_in (y3 + 4) (E.2.2.1 2) ∧ vp_in (y3 + 5) (E.2.2.1 2) ∧ vp_in (y3 + 6) (E.2.2.1 2) ∧ X6_op_w E (E.2.2.2.1 2 (Int32.toNatClampNeg (y3 + 1))) (E.2.2.2.1 2 (Int32.toNatClampNeg (y3 + 2))) (E.2.2.2.1 2 (Int32.toNatClampNeg (y3 + 3))) (E.2.2.2.1 2 (Int32.toNatClampNeg (y3 + 4))) (E.2.2.2.1 2 (Int32.toNatClampNeg (y3 + 5))) (E.2.2.2.1 2 (Int32.toNatClampNeg (y3 + 6))) mi (fun r179 m179 => vp_in (y3 + 1) (E.2.2.1 2) ∧ vp_in (y3 + 2) (E.2.2.1 2) ∧ vp_in (y3 + 3) (E.2.2.1 2) ∧ vp_in (y3 + 4) (E.2.2.1 2) ∧ vp_in (y3 + 5) (E.2.2.1 2) ∧ vp_in (y3 + 6) (E.2.2.1 2) ∧ X7_op_w (E.2.2.2.1 2 (Int32.toNatClampNeg (y3 + 1))) (E.2.2.2.1 2 (Int32.toNatClampNeg (y3 + 2))) (E.2.2.2.1 2 (Int32.toNatClampNeg (y3 + 3))) (E.2.2.2.1 2 (Int32.toNatClampNeg (y3 + 4))) (E.2.2.2.1 2 (Int32.toNatClampNeg (y3 + 5))) (E.2.2.2.1 2 (Int32.toNatClampNeg (y3 + 6))) m179 (fun r215 m215 => L_law_b647 E (fun v0 m => L_law_b28 E n v0 m) y3 m215 ))) ∧ ((Int32.toInt (((E.2.2.2.1 2 (Int32.toNatClampNeg y3)) &&& 31))) = 2 → vp_in (y3 + 1) (E.2.2.1 2) ∧ vp_in (y3 + 2) (E.2.2.1 2) ∧ X6_clear_w (E.2.2.2.1 2 (Int32.toNatClampNeg (y3 + 1))) (E.2.2.2.1 2 (Int32.toNatClampNeg (y3 + 2))) mi (fun r233 m233 => vp_in (y3 + 1) (E.2.2.1 2) ∧ vp_in (y3 + 2) (E.2.2.1 2) ∧ X7_clear_w (E.2.2.2.1 2 (Int32.toNatClampNeg (y3 + 1))) (E.2.2.2.1 2 (Int32.toNatClampNeg (y3 + 2))) m233 (fun r248 m248 => L_law_b647 E (fun v0 m => L_law_b28 E n v0 m) y3 m248 ))) ∧ ((Int32.toInt (((E.2.2.2.1 2 (Int32.toNatClampNeg y3)) &&& 31))) = 3 → vp_in (y3 + 1) (E.2.2.1 2) ∧ vp_in (y3 + 2) (E.2.2.1 2) ∧ vp_in (y3 + 3) (E.2.2.1 2) ∧ vp_in (y3 + 4) (E.2.2.1 2) ∧ X6_run_w (E.2.2.2.1 2 (Int32.toNatClampNeg (y3 + 1))) (E.2.2.2.1 2 (Int32.toNatClampNeg (y3 + 2))) (E.2.2.2.1 2 (Int32.toNatClampNeg (y3 + 3))) (E.2.2.2.1 2 (Int32.toNatClampNeg (y3 + 4))) mi (fun r276 m276 => vp_in (y3 + 1) (E.2.2.1 2) ∧ vp_in (y3 + 2) (E.2.2.1 2) ∧ vp_in (y3 + 3) (E.2.2.1 2) ∧ vp_in (y3 + 4) (E.2.2.1 2) ∧ X7_run_w (E.2.2.2.1 2 (Int32.toNatClampNeg (y3 + 1))) (E.2.2.2.1 2 (Int32.toNatClampNeg (y3 + 2))) (E.2.2.2.1 2 (Int32.toNatClampNeg (y3 + 3))) (E.2.2.2.1 2 (Int32.toNatClampNeg (y3 + 4))) m276 (fun r300 m300 => ((r276 = r300 → L_law_b647 E (fun v0 m => L_law_b28 E n v0 m) y3 m300 ) ∧ (¬ r276 = r300 → False))))) ∧ ((Int32.toInt (((E.2.2.2.1 2 (Int32.toNatClampNeg y3)) &&& 31))) = 4 → vp_in (y3 + 1) (E.2.2.1 2) ∧ X6_ran_w (E.2.2.2.1 2 (Int32.toNatClampNeg (y3 + 1))) mi (fun r314 m314 => vp_in (y3 + 1) (E.2.2.1 2) ∧ X7_ran_w (E.2.2.2.1 2 (Int32.toNatClampNeg (y3 + 1))) m314 (fun r324 m324 => L_law_b647 E (fun v0 m => L_law_b28 E n v0 m) y3 m324 ))) ∧ ((Int32.toInt (((E.2.2.2.1 2 (Int32.toNatClampNeg y3)) &&& 31))) = 5 → vp_in (y3 + 1) (E.2.2.1 2) ∧ vp_in (y3 + 2) (E.2.2.1 2) ∧ X6_told_w (E.2.2.2.1 2 (Int32.toNatClampNeg (y3 + 1))) (E.2.2.2.1 2 (Int32.toNatClampNeg (y3 + 2))) mi (fun r342 m342 => vp_in (y3 + 1) (E.2.2.1 2) ∧ vp_in (y3 + 2) (E.2.2.1 2) ∧ X7_told_w (E.2.2.2.1 2 (Int32.toNatClampNeg (y3 + 1))) (E.2.2.2.1 2 (Int32.toNatClampNeg (y3 + 2))) m342 (fun r357 m357 => L_law_b647 E (fun v0 m => L_law_b28 E n v0 m) y3 m357 ))) ∧ ((Int32.toInt (((E.2.2.2.1 2 (Int32.toNatClampNeg y3)) &&& 31))) = 6 → vp_in (y3 + 1) (E.2.2.1 2) ∧ vp_in (y3 + 2) (E.2.2.1 2) ∧ X6_rename_w (E.2.2.2.1 2 (Int32.toNatClampNeg (y3 + 1))) (E.2.2.2.1 2 (Int32.toNatClampNeg (y3 + 2))) mi (fun r375 m375 => vp_in (y3 + 1) (E.2.2.1 2) ∧ vp_in (y3 + 2) (E.2.2.1 2) ∧ X7_rename_w (E.2.2.2.1 2 (Int32.toNatClampNeg (y3 + 1))) (E.2.2.2.1 2 (Int32.toNatClampNeg (y3 + 2))) m375 (fun r390 m390 => L_law_b647 E (fun v0 m => L_law_b28 E n v0 m) y3 m390 ))) ∧ ((Int32.toInt (((E.2.2.2.1 2 (Int32.toNatClampNeg y3)) &&& 31))) = 7 → vp_in (y3 + 1) (E.2.2.1 2) ∧ vp_in (y3 + 2) (E.2.2.1 2) ∧ X6_group_w (E.2.2.2.1 2 (Int32.toNatClampNeg (y3 + 1))) (E.2.2.2.1 2 (Int32.toNatClampNeg (y3 + 2))) mi (fun r408 m408 => vp_in (y3 + 1) (E.2.2.1 2) ∧ vp_in (y3 + 2) (E.2.2.1 2) ∧ X7_group_w (E.2.2.2.1 2 (Int32.toNatClampNeg (y3 + 1))) (E.2.2.2.1 2 (Int32.toNatClampNeg (y3 + 2))) m408 (fun r423 m423 => L_law_b647 E (fun v0 m => L_law_b28 E n v0 m) y3 m423 ))) ∧ ((Int32.toInt (((E.2.2.2.1 2 (Int32.toNatClampNeg y3)) &&& 31))) = 8 → vp_in (y3 + 1) (E.2.2.1 2) ∧ vp_in (y3 + 2) (E.2.2.1 2) ∧ X6_hold_w (E.2.2.2.1 2 (Int32.toNatClampNeg (y3 + 1))) (E.2.2.2.1 2 (Int32.toNatClampNeg (y3 + 2))) mi (fun r441 m441 => vp_in (y3 + 1) (E.2.2.1 2) ∧ vp_in (y3 + 2) (E.2.2.1 2) ∧ X7_hold_w (E.2.2.2.1 2 (Int32.toNatClampNeg (y3 + 1))) (E.2.2.2.1 2 (Int32.toNatClampNeg (y3 + 2))) m441 (fun r456 m456 => L_law_b647 E (fun v0 m => L_law_b28 E n v0 m) y3 m456 ))) ∧ ((Int32.toInt (((E.2.2.2.1 2 (Int32.toNatClampNeg y3)) &&& 31))) = 9 → vp_in (y3 + 1) (E.2.2.1 2) ∧ X6_first_w (E.2.2.2.1 2 (Int32.toNatClampNeg (y3 + 1))) mi (fun r469 m469 => vp_in (y3 + 1) (E.2.2.1 2) ∧ X7_first_w (E.2.2.2.1 2 (Int32.toNatClampNeg (y3 + 1))) m469 (fun r479 m479 => L_law_b647 E (fun v0 m => L_law_b28 E n v0 m) y3 m479 ))) ∧ ((Int32.toInt (((E.2.2.2.1 2 (Int32.toNatClampNeg y3)) &&& 31))) = 10 → vp_in (y3 + 1) (E.2.2.1 2) ∧ X6_match_w (E.2.2.2.1 2 (Int32.toNatClampNeg (y3 + 1))) mi (fun r492 m492 => vp_in (y3 + 1) (E.2.2.1 2) ∧ X7_match_w (E.2.2.2.1 2 (Int32.toNatClampNeg (y3 + 1))) m492 (fun r502 m502 => L_law_b647 E (fun v0 m => L_law_b28 E n v0 m) y3 m502 ))) ∧ ((Int32.toInt (((E.2.2.2.1 2 (Int32.toNatClampNeg y3)) &&& 31))) = 11 → vp_in (y3 + 1) (E.2.2.1 2) ∧ vp_in (y3 + 2) (E.2.2.1 2) ∧ X6_find_w E (E.2.2.2.1 2 (Int32.toNatClampNeg (y3 + 1))) (E.2.2.2.1 2 (Int32.toNatClampNeg (y3 + 2))) mi (fun r520 m520 => vp_in (y3 + 1) (E.2.2.1 2) ∧ vp_in (y3 + 2) (E.2.2.1 2) ∧ X7_find_w (E.2.2.2.1 2 (Int32.toNatClampNeg (y3 + 1))) (E.2.2.2.1 2 (Int32.toNatClampNeg (y3 + 2))) m520 (fun r535 m535 => L_law_b647 E (fun v0 m => L_law_b28 E n v0 m) y3 m535 ))) ∧ ((Int32.toInt (((E.2.2.2.1 2 (Int32.toNatClampNeg y3)) &&& 31))) = 12 → vp_in (y3 + 1) (E.2.2.1 2) ∧ vp_in (y3 + 2) (E.2.2.1 2) ∧ X6_assume_w (E.2.2.2.1 2 (Int32.toNatClampNeg (y3 + 1))) (E.2.2.2.1 2 (Int32.toNatClampNeg (y3 + 2))) mi (fun r553 m553 => vp_in (y3 + 1) (E.2.2.1 2) ∧ vp_in (y3 + 2) (E.2.2.1 2) ∧ X7_assume_w (E.2.2.2.1 2 (Int32.toNatClampNeg (y3 + 1))) (E.2.2.2.1 2 (Int32.toNatClampNeg (y3 + 2))) m553 (fun r568 m568 => L_law_b647 E (fun v0 m => L_law_b28 E n v0 m) y3 m568 ))) ∧ ((Int32.toInt (((E.2.2.2.1 2 (Int32.toNatClampNeg y3)) &&& 31))) = 13 → X6_drop_w mi (fun r576 m576 => X7_drop_w m576 (fun r581 m581 => L_law_b647 E (fun v0 m => L_law_b28 E n v0 m) y3 m581 ))) ∧ ((Int32.toInt (((E.2.2.2.1 2 (Int32.toNatClampNeg y3)) &&& 31))) = 14 → X6_prove_w mi (fun r589 m589 => X7_prove_w m589 (fun r594 m594 => L_law_b647 E (fun v0 m => L_law_b28 E n v0 m) y3 m594 ))) ∧ ((Int32.toInt (((E.2.2.2.1 2 (Int32.toNatClampNeg y3)) &&& 31))) = 15 → vp_in (y3 + 1) (E.2.2.1 2) ∧ X6_why_w (E.2.2.2.1 2 (Int32.toNatClampNeg (y3 + 1))) mi (fun r607 m607 => vp_in (y3 + 1) (E.2.2.1 2) ∧ X7_why_w (E.2.2.2.1 2 (Int32.toNatClampNeg (y3 + 1))) m607 (fun r617 m617 => L_law_b647 E (fun v0 m => L_law_b28 E n v0 m) y3 m617 ))) ∧ ((Int32.toInt (((E.2.2.2.1 2 (Int32.toNatClampNeg y3)) &&& 31))) = 16 → vp_in (y3 + 1) (E.2.2.1 2) ∧ X6_count_w (E.2.2.2.1 2 (Int32.toNatClampNeg (y3 + 1))) mi (fun r630 m630 => vp_in (y3 + 1) (E.2.2.1 2) ∧ X7_count_w (E.2.2.2.1 2 (Int32.toNatClampNeg (y3 + 1))) m630 (fun r640 m640 => L_law_b647 E (fun v0 m => L_law_b28 E n v0 m) y3 m640 ))))))
set_option maxHeartbeats 4000000 in
set_option maxRecDepth 100000 in
theorem L_law_b28_t {E : km_E} {X : km_X} (hX : km_ok E X room_1 cL_law 4 wsL_law RL) (hL : km_law E X) : ∀ (n : Nat) (y3 : Int32) (mi : km_I) (mr : km_R) (_ : km_MR mr) (_ : ∃ b, km_isB b ∧ mr 26 7 = some b), L_law_b28 E n y3 mi → km_G E X 4 SH mi mr 116 3833 28 [(0, .retAddr 2), (1, .ref 0), (2, .ref 86), (3, .int y3)] [] := by
  intro n
  induction n with
  | zero => intro y3 mi mr kqmr kqbb h; exact h.elim
  | succ n ih =>
    intro y3 mi mr kqmr kqbb h
    have h : ((((Int32.ofNat (E.2.2.1 2)) - 7) < y3 → True) ∧ (¬ ((Int32.ofNat (E.2.2.1 2)) - 7) < y3 → vp_in y3 (E.2.2.1 2) ∧ (((Int32.toInt (((E.2.2.2.1 2 (Int32.toNatClampNeg y3)) &&& 31))) < 0 ∨ 16 < (Int32.toInt (((E.2.2.2.1 2 (Int32.toNatClampNeg y3)) &&& 31))) → L_law_b647 E (fun v0 m => L_law_b28 E n v0 m) y3 mi ) ∧ ((Int32.toInt (((E.2.2.2.1 2 (Int32.toNatClampNeg y3)) &&& 31))) = 0 → vp_in (y3 + 1) (E.2.2.1 2) ∧ X6_method_w (E.2.2.2.1 2 (Int32.toNatClampNeg (y3 + 1))) mi (fun r130 m130 => vp_in (y3 + 1) (E.2.2.1 2) ∧ X7_method_w (E.2.2.2.1 2 (Int32.toNatClampNeg (y3 + 1))) m130 (fun r140 m140 => L_law_b647 E (fun v0 m => L_law_b28 E n v0 m) y3 m140 ))) ∧ ((Int32.toInt (((E.2.2.2.1 2 (Int32.toNatClampNeg y3)) &&& 31))) = 1 → vp_in (y3 + 1) (E.2.2.1 2) ∧ vp_in (y3 + 2) (E.2.2.1 2) ∧ vp_in (y3 + 3) (E.2.2.1 2) ∧ vp_in (y3 + 4) (E.2.2.1 2) ∧ vp_in (y3 + 5) (E.2.2.1 2) ∧ vp_in (y3 + 6) (E.2.2.1 2) ∧ X6_op_w E (E.2.2.2.1 2 (Int32.toNatClampNeg (y3 + 1))) (E.2.2.2.1 2 (Int32.toNatClampNeg (y3 + 2))) (E.2.2.2.1 2 (Int32.toNatClampNeg (y3 + 3))) (E.2.2.2.1 2 (Int32.toNatClampNeg (y3 + 4))) (E.2.2.2.1 2 (Int32.toNatClampNeg (y3 + 5))) (E.2.2.2.1 2 (Int32.toNatClampNeg (y3 + 6))) mi (fun r179 m179 => vp_in (y3 + 1) (E.2.2.1 2) ∧ vp_in (y3 + 2) (E.2.2.1 2) ∧ vp_in (y3 + 3) (E.2.2.1 2) ∧ vp_in (y3 + 4) (E.2.2.1 2) ∧ vp_in (y3 + 5) (E.2.2.1 2) ∧ vp_in (y3 + 6) (E.2.2.1 2) ∧ X7_op_w (E.2.2.2.1 2 (Int32.toNatClampNeg (y3 + 1))) (E.2.2.2.1 2 (Int32.toNatClampNeg (y3 + 2))) (E.2.2.2.1 2 (Int32.toNatClampNeg (y3 + 3))) (E.2.2.2.1 2 (Int32.toNatClampNeg (y3 + 4))) (E.2.2.2.1 2 (Int32.toNatClampNeg (y3 + 5))) (E.2.2.2.1 2 (Int32.toNatClampNeg (y3 + 6))) m179 (fun r215 m215 => L_law_b647 E (fun v0 m => L_law_b28 E n v0 m) y3 m215 ))) ∧ ((Int32.toInt (((E.2.2.2.1 2 (Int32.toNatClampNeg y3)) &&& 31))) = 2 → vp_in (y3 + 1) (E.2.2.1 2) ∧ vp_in (y3 + 2) (E.2.2.1 2) ∧ X6_clear_w (E.2.2.2.1 2 (Int32.toNatClampNeg (y3 + 1))) (E.2.2.2.1 2 (Int32.toNatClampNeg (y3 + 2))) mi (fun r233 m233 => vp_in (y3 + 1) (E.2.2.1 2) ∧ vp_in (y3 + 2) (E.2.2.1 2) ∧ X7_clear_w (E.2.2.2.1 2 (Int32.toNatClampNeg (y3 + 1))) (E.2.2.2.1 2 (Int32.toNatClampNeg (y3 + 2))) m233 (fun r248 m248 => L_law_b647 E (fun v0 m => L_law_b28 E n v0 m) y3 m248 ))) ∧ ((Int32.toInt (((E.2.2.2.1 2 (Int32.toNatClampNeg y3)) &&& 31))) = 3 → vp_in (y3 + 1) (E.2.2.1 2) ∧ vp_in (y3 + 2) (E.2.2.1 2) ∧ vp_in (y3 + 3) (E.2.2.1 2) ∧ vp_in (y3 + 4) (E.2.2.1 2) ∧ X6_run_w (E.2.2.2.1 2 (Int32.toNatClampNeg (y3 + 1))) (E.2.2.2.1 2 (Int32.toNatClampNeg (y3 + 2))) (E.2.2.2.1 2 (Int32.toNatClampNeg (y3 + 3))) (E.2.2.2.1 2 (Int32.toNatClampNeg (y3 + 4))) mi (fun r276 m276 => vp_in (y3 + 1) (E.2.2.1 2) ∧ vp_in (y3 + 2) (E.2.2.1 2) ∧ vp_in (y3 + 3) (E.2.2.1 2) ∧ vp_in (y3 + 4) (E.2.2.1 2) ∧ X7_run_w (E.2.2.2.1 2 (Int32.toNatClampNeg (y3 + 1))) (E.2.2.2.1 2 (Int32.toNatClampNeg (y3 + 2))) (E.2.2.2.1 2 (Int32.toNatClampNeg (y3 + 3))) (E.2.2.2.1 2 (Int32.toNatClampNeg (y3 + 4))) m276 (fun r300 m300 => ((r276 = r300 → L_law_b647 E (fun v0 m => L_law_b28 E n v0 m) y3 m300 ) ∧ (¬ r276 = r300 → False))))) ∧ ((Int32.toInt (((E.2.2.2.1 2 (Int32.toNatClampNeg y3)) &&& 31))) = 4 → vp_in (y3 + 1) (E.2.2.1 2) ∧ X6_ran_w (E.2.2.2.1 2 (Int32.toNatClampNeg (y3 + 1))) mi (fun r314 m314 => vp_in (y3 + 1) (E.2.2.1 2) ∧ X7_ran_w (E.2.2.2.1 2 (Int32.toNatClampNeg (y3 + 1))) m314 (fun r324 m324 => L_law_b647 E (fun v0 m => L_law_b28 E n v0 m) y3 m324 ))) ∧ ((Int32.toInt (((E.2.2.2.1 2 (Int32.toNatClampNeg y3)) &&& 31))) = 5 → vp_in (y3 + 1) (E.2.2.1 2) ∧ vp_in (y3 + 2) (E.2.2.1 2) ∧ X6_told_w (E.2.2.2.1 2 (Int32.toNatClampNeg (y3 + 1))) (E.2.2.2.1 2 (Int32.toNatClampNeg (y3 + 2))) mi (fun r342 m342 => vp_in (y3 + 1) (E.2.2.1 2) ∧ vp_in (y3 + 2) (E.2.2.1 2) ∧ X7_told_w (E.2.2.2.1 2 (Int32.toNatClampNeg (y3 + 1))) (E.2.2.2.1 2 (Int32.toNatClampNeg (y3 + 2))) m342 (fun r357 m357 => L_law_b647 E (fun v0 m => L_law_b28 E n v0 m) y3 m357 ))) ∧ ((Int32.toInt (((E.2.2.2.1 2 (Int32.toNatClampNeg y3)) &&& 31))) = 6 → vp_in (y3 + 1) (E.2.2.1 2) ∧ vp_in (y3 + 2) (E.2.2.1 2) ∧ X6_rename_w (E.2.2.2.1 2 (Int32.toNatClampNeg (y3 + 1))) (E.2.2.2.1 2 (Int32.toNatClampNeg (y3 + 2))) mi (fun r375 m375 => vp_in (y3 + 1) (E.2.2.1 2) ∧ vp_in (y3 + 2) (E.2.2.1 2) ∧ X7_rename_w (E.2.2.2.1 2 (Int32.toNatClampNeg (y3 + 1))) (E.2.2.2.1 2 (Int32.toNatClampNeg (y3 + 2))) m375 (fun r390 m390 => L_law_b647 E (fun v0 m => L_law_b28 E n v0 m) y3 m390 ))) ∧ ((Int32.toInt (((E.2.2.2.1 2 (Int32.toNatClampNeg y3)) &&& 31))) = 7 → vp_in (y3 + 1) (E.2.2.1 2) ∧ vp_in (y3 + 2) (E.2.2.1 2) ∧ X6_group_w (E.2.2.2.1 2 (Int32.toNatClampNeg (y3 + 1))) (E.2.2.2.1 2 (Int32.toNatClampNeg (y3 + 2))) mi (fun r408 m408 => vp_in (y3 + 1) (E.2.2.1 2) ∧ vp_in (y3 + 2) (E.2.2.1 2) ∧ X7_group_w (E.2.2.2.1 2 (Int32.toNatClampNeg (y3 + 1))) (E.2.2.2.1 2 (Int32.toNatClampNeg (y3 + 2))) m408 (fun r423 m423 => L_law_b647 E (fun v0 m => L_law_b28 E n v0 m) y3 m423 ))) ∧ ((Int32.toInt (((E.2.2.2.1 2 (Int32.toNatClampNeg y3)) &&& 31))) = 8 → vp_in (y3 + 1) (E.2.2.1 2) ∧ vp_in (y3 + 2) (E.2.2.1 2) ∧ X6_hold_w (E.2.2.2.1 2 (Int32.toNatClampNeg (y3 + 1))) (E.2.2.2.1 2 (Int32.toNatClampNeg (y3 + 2))) mi (fun r441 m441 => vp_in (y3 + 1) (E.2.2.1 2) ∧ vp_in (y3 + 2) (E.2.2.1 2) ∧ X7_hold_w (E.2.2.2.1 2 (Int32.toNatClampNeg (y3 + 1))) (E.2.2.2.1 2 (Int32.toNatClampNeg (y3 + 2))) m441 (fun r456 m456 => L_law_b647 E (fun v0 m => L_law_b28 E n v0 m) y3 m456 ))) ∧ ((Int32.toInt (((E.2.2.2.1 2 (Int32.toNatClampNeg y3)) &&& 31))) = 9 → vp_in (y3 + 1) (E.2.2.1 2) ∧ X6_first_w (E.2.2.2.1 2 (Int32.toNatClampNeg (y3 + 1))) mi (fun r469 m469 => vp_in (y3 + 1) (E.2.2.1 2) ∧ X7_first_w (E.2.2.2.1 2 (Int32.toNatClampNeg (y3 + 1))) m469 (fun r479 m479 => L_law_b647 E (fun v0 m => L_law_b28 E n v0 m) y3 m479 ))) ∧ ((Int32.toInt (((E.2.2.2.1 2 (Int32.toNatClampNeg y3)) &&& 31))) = 10 → vp_in (y3 + 1) (E.2.2.1 2) ∧ X6_match_w (E.2.2.2.1 2 (Int32.toNatClampNeg (y3 + 1))) mi (fun r492 m492 => vp_in (y3 + 1) (E.2.2.1 2) ∧ X7_match_w (E.2.2.2.1 2 (Int32.toNatClampNeg (y3 + 1))) m492 (fun r502 m502 => L_law_b647 E (fun v0 m => L_law_b28 E n v0 m) y3 m502 ))) ∧ ((Int32.toInt (((E.2.2.2.1 2 (Int32.toNatClampNeg y3)) &&& 31))) = 11 → vp_in (y3 + 1) (E.2.2.1 2) ∧ vp_in (y3 + 2) (E.2.2.1 2) ∧ X6_find_w E (E.2.2.2.1 2 (Int32.toNatClampNeg (y3 + 1))) (E.2.2.2.1 2 (Int32.toNatClampNeg (y3 + 2))) mi (fun r520 m520 => vp_in (y3 + 1) (E.2.2.1 2) ∧ vp_in (y3 + 2) (E.2.2.1 2) ∧ X7_find_w (E.2.2.2.1 2 (Int32.toNatClampNeg (y3 + 1))) (E.2.2.2.1 2 (Int32.toNatClampNeg (y3 + 2))) m520 (fun r535 m535 => L_law_b647 E (fun v0 m => L_law_b28 E n v0 m) y3 m535 ))) ∧ ((Int32.toInt (((E.2.2.2.1 2 (Int32.toNatClampNeg y3)) &&& 31))) = 12 → vp_in (y3 + 1) (E.2.2.1 2) ∧ vp_in (y3 + 2) (E.2.2.1 2) ∧ X6_assume_w (E.2.2.2.1 2 (Int32.toNatClampNeg (y3 + 1))) (E.2.2.2.1 2 (Int32.toNatClampNeg (y3 + 2))) mi (fun r553 m553 => vp_in (y3 + 1) (E.2.2.1 2) ∧ vp_in (y3 + 2) (E.2.2.1 2) ∧ X7_assume_w (E.2.2.2.1 2 (Int32.toNatClampNeg (y3 + 1))) (E.2.2.2.1 2 (Int32.toNatClampNeg (y3 + 2))) m553 (fun r568 m568 => L_law_b647 E (fun v0 m => L_law_b28 E n v0 m) y3 m568 ))) ∧ ((Int32.toInt (((E.2.2.2.1 2 (Int32.toNatClampNeg y3)) &&& 31))) = 13 → X6_drop_w mi (fun r576 m576 => X7_drop_w m576 (fun r581 m581 => L_law_b647 E (fun v0 m => L_law_b28 E n v0 m) y3 m581 ))) ∧ ((Int32.toInt (((E.2.2.2.1 2 (Int32.toNatClampNeg y3)) &&& 31))) = 14 → X6_prove_w mi (fun r589 m589 => X7_prove_w m589 (fun r594 m594 => L_law_b647 E (fun v0 m => L_law_b28 E n v0 m) y3 m594 ))) ∧ ((Int32.toInt (((E.2.2.2.1 2 (Int32.toNatClampNeg y3)) &&& 31))) = 15 → vp_in (y3 + 1) (E.2.2.1 2) ∧ X6_why_w (E.2.2.2.1 2 (Int32.toNatClampNeg (y3 + 1))) mi (fun r607 m607 => vp_in (y3 + 1) (E.2.2.1 2) ∧ X7_why_w (E.2.2.2.1 2 (Int32.toNatClampNeg (y3 + 1))) m607 (fun r617 m617 => L_law_b647 E (fun v0 m => L_law_b28 E n v0 m) y3 m617 ))) ∧ ((Int32.toInt (((E.2.2.2.1 2 (Int32.toNatClampNeg y3)) &&& 31))) = 16 → vp_in (y3 + 1) (E.2.2.1 2) ∧ X6_count_w (E.2.2.2.1 2 (Int32.toNatClampNeg (y3 + 1))) mi (fun r630 m630 => vp_in (y3 + 1) (E.2.2.1 2) ∧ X7_count_w (E.2.2.2.1 2 (Int32.toNatClampNeg (y3 + 1))) m630 (fun r640 m640 => L_law_b647 E (fun v0 m => L_law_b28 E n v0 m) y3 m640 )))))) := h
    refine km_iload_n hX dL_law_28 rfl ?_
    refine km_aload_n hX dL_law_29 rfl rfl ?_
    refine km_alenx hX (by decide) rfl dL_law_30 ?_
    refine km_bipush (v := 7) hX dL_law_31 (by decide) ?_
    refine km_isub hX dL_law_33 ?_
    refine km_icmp_gt (tgt := 653) hX dL_law_34 (by decide) (fun c => ?_) (fun c => ?_)
    · have h := h.1 c
      refine km_iconst (v := 1) hX dL_law_653 (by decide) ?_
      exact km_lawret hX hL dL_law_654
    · have h := h.2 c
      refine km_aload_n hX dL_law_37 rfl rfl ?_
      refine km_iload_n hX dL_law_38 rfl ?_
      obtain ⟨hc, h⟩ := h
      refine km_ialdx hX (by decide) hc dL_law_39 ?_
      refine km_bipush (v := 31) hX dL_law_40 (by decide) ?_
      refine km_iand hX dL_law_42 ?_
      by_cases cO : (Int32.toInt (((E.2.2.2.1 2 (Int32.toNatClampNeg y3)) &&& 31))) < 0 ∨ 16 < (Int32.toInt (((E.2.2.2.1 2 (Int32.toNatClampNeg y3)) &&& 31)))
      · refine km_tableOut (tgt := 647) hX dL_law_43 cO (by decide) ?_
        have h := h.1 cO
        refine km_ren (ls' := [(0, .retAddr 2), (1, .ref 0), (2, .ref 86), (3, .int y3)]) [0, 1, 2, 3] rfl ?_
        exact L_law_b647_t hX hL (fun v0 m mr kqmr kqbb hh => ih v0 m mr kqmr kqbb hh) _ _ _ kqmr kqbb h
      · have cI : (Int32.toInt (((E.2.2.2.1 2 (Int32.toNatClampNeg y3)) &&& 31))) = 0 ∨ (Int32.toInt (((E.2.2.2.1 2 (Int32.toNatClampNeg y3)) &&& 31))) = 1 ∨ (Int32.toInt (((E.2.2.2.1 2 (Int32.toNatClampNeg y3)) &&& 31))) = 2 ∨ (Int32.toInt (((E.2.2.2.1 2 (Int32.toNatClampNeg y3)) &&& 31))) = 3 ∨ (Int32.toInt (((E.2.2.2.1 2 (Int32.toNatClampNeg y3)) &&& 31))) = 4 ∨ (Int32.toInt (((E.2.2.2.1 2 (Int32.toNatClampNeg y3)) &&& 31))) = 5 ∨ (Int32.toInt (((E.2.2.2.1 2 (Int32.toNatClampNeg y3)) &&& 31))) = 6 ∨ (Int32.toInt (((E.2.2.2.1 2 (Int32.toNatClampNeg y3)) &&& 31))) = 7 ∨ (Int32.toInt (((E.2.2.2.1 2 (Int32.toNatClampNeg y3)) &&& 31))) = 8 ∨ (Int32.toInt (((E.2.2.2.1 2 (Int32.toNatClampNeg y3)) &&& 31))) = 9 ∨ (Int32.toInt (((E.2.2.2.1 2 (Int32.toNatClampNeg y3)) &&& 31))) = 10 ∨ (Int32.toInt (((E.2.2.2.1 2 (Int32.toNatClampNeg y3)) &&& 31))) = 11 ∨ (Int32.toInt (((E.2.2.2.1 2 (Int32.toNatClampNeg y3)) &&& 31))) = 12 ∨ (Int32.toInt (((E.2.2.2.1 2 (Int32.toNatClampNeg y3)) &&& 31))) = 13 ∨ (Int32.toInt (((E.2.2.2.1 2 (Int32.toNatClampNeg y3)) &&& 31))) = 14 ∨ (Int32.toInt (((E.2.2.2.1 2 (Int32.toNatClampNeg y3)) &&& 31))) = 15 ∨ (Int32.toInt (((E.2.2.2.1 2 (Int32.toNatClampNeg y3)) &&& 31))) = 16 := by omega
        rcases cI with c | c | c | c | c | c | c | c | c | c | c | c | c | c | c | c | c
        · refine km_tableIn (off := 81) (tgt := 124) hX dL_law_43 (by omega) (by omega) (by rw [c]; rfl) (by decide) ?_
          have h := h.2.1 c
          refine km_aload_n hX dL_law_124 rfl rfl ?_
          refine km_aload_n hX dL_law_125 rfl rfl ?_
          refine km_iload_n hX dL_law_126 rfl ?_
          refine km_iconst (v := 1) hX dL_law_127 (by decide) ?_
          refine km_iadd hX dL_law_128 ?_
          obtain ⟨hc, h⟩ := h
          refine km_ialdx hX (by decide) hc dL_law_129 ?_
          refine km_callVi hX dL_law_130 vL_law_21 (X6_method_c kqmr h) (by decide) shp_0 rfl rfl (Nat.le_of_ble_eq_true rfl) (fun r130 m130 h => ?_)
          refine km_pop hX dL_law_133 ?_
          refine km_aload_n hX dL_law_134 rfl rfl ?_
          refine km_aload_n hX dL_law_135 rfl rfl ?_
          refine km_iload_n hX dL_law_136 rfl ?_
          refine km_iconst (v := 1) hX dL_law_137 (by decide) ?_
          refine km_iadd hX dL_law_138 ?_
          obtain ⟨hc, h⟩ := h
          refine km_ialdx hX (by decide) hc dL_law_139 ?_
          refine km_callVi hX dL_law_140 vL_law_25 (X7_method_c kqmr h) (by decide) shp_86 rfl rfl (Nat.le_of_ble_eq_true rfl) (fun r140 m140 h => ?_)
          refine km_pop hX dL_law_143 ?_
          refine km_goto (tgt := 647) hX dL_law_144 (by decide) ?_
          refine km_ren (ls' := [(0, .retAddr 2), (1, .ref 0), (2, .ref 86), (3, .int y3)]) [0, 1, 2, 3] rfl ?_
          exact L_law_b647_t hX hL (fun v0 m mr kqmr kqbb hh => ih v0 m mr kqmr kqbb hh) _ _ _ kqmr kqbb h
        · refine km_tableIn (off := 104) (tgt := 147) hX dL_law_43 (by omega) (by omega) (by rw [c]; rfl) (by decide) ?_
          have h := h.2.2.1 c
          refine km_aload_n hX dL_law_147 rfl rfl ?_
          refine km_aload_n hX dL_law_148 rfl rfl ?_
          refine km_iload_n hX dL_law_149 rfl ?_
          refine km_iconst (v := 1) hX dL_law_150 (by decide) ?_
          refine km_iadd hX dL_law_151 ?_
          obtain ⟨hc, h⟩ := h
          refine km_ialdx hX (by decide) hc dL_law_152 ?_
          refine km_aload_n hX dL_law_153 rfl rfl ?_
          refine km_iload_n hX dL_law_154 rfl ?_
          refine km_iconst (v := 2) hX dL_law_155 (by decide) ?_
          refine km_iadd hX dL_law_156 ?_
          obtain ⟨hc, h⟩ := h
          refine km_ialdx hX (by decide) hc dL_law_157 ?_
          refine km_aload_n hX dL_law_158 rfl rfl ?_
          refine km_iload_n hX dL_law_159 rfl ?_
          refine km_iconst (v := 3) hX dL_law_160 (by decide) ?_
          refine km_iadd hX dL_law_161 ?_
          obtain ⟨hc, h⟩ := h
          refine km_ialdx hX (by decide) hc dL_law_162 ?_
          refine km_aload_n hX dL_law_163 rfl rfl ?_
          refine km_iload_n hX dL_law_164 rfl ?_
          refine km_iconst (v := 4) hX dL_law_165 (by decide) ?_
          refine km_iadd hX dL_law_166 ?_
          obtain ⟨hc, h⟩ := h
          refine km_ialdx hX (by decide) hc dL_law_167 ?_
          refine km_aload_n hX dL_law_168 rfl rfl ?_
          refine km_iload_n hX dL_law_169 rfl ?_
          refine km_iconst (v := 5) hX dL_law_170 (by decide) ?_
          refine km_iadd hX dL_law_171 ?_
          obtain ⟨hc, h⟩ := h
          refine km_ialdx hX (by decide) hc dL_law_172 ?_
          refine km_aload_n hX dL_law_173 rfl rfl ?_
          refine km_iload_n hX dL_law_174 rfl ?_
          refine km_bipush (v := 6) hX dL_law_175 (by decide) ?_
          refine km_iadd hX dL_law_177 ?_
          obtain ⟨hc, h⟩ := h
          refine km_ialdx hX (by decide) hc dL_law_178 ?_
          refine km_callVi hX dL_law_179 vL_law_26 (X6_op_c kqmr h) (by decide) shp_0 rfl rfl (Nat.le_of_ble_eq_true rfl) (fun r179 m179 h => ?_)
          refine km_pop hX dL_law_182 ?_
          refine km_aload_n hX dL_law_183 rfl rfl ?_
          refine km_aload_n hX dL_law_184 rfl rfl ?_
          refine km_iload_n hX dL_law_185 rfl ?_
          refine km_iconst (v := 1) hX dL_law_186 (by decide) ?_
          refine km_iadd hX dL_law_187 ?_
          obtain ⟨hc, h⟩ := h
          refine km_ialdx hX (by decide) hc dL_law_188 ?_
          refine km_aload_n hX dL_law_189 rfl rfl ?_
          refine km_iload_n hX dL_law_190 rfl ?_
          refine km_iconst (v := 2) hX dL_law_191 (by decide) ?_
          refine km_iadd hX dL_law_192 ?_
          obtain ⟨hc, h⟩ := h
          refine km_ialdx hX (by decide) hc dL_law_193 ?_
          refine km_aload_n hX dL_law_194 rfl rfl ?_
          refine km_iload_n hX dL_law_195 rfl ?_
          refine km_iconst (v := 3) hX dL_law_196 (by decide) ?_
          refine km_iadd hX dL_law_197 ?_
          obtain ⟨hc, h⟩ := h
          refine km_ialdx hX (by decide) hc dL_law_198 ?_
          refine km_aload_n hX dL_law_199 rfl rfl ?_
          refine km_iload_n hX dL_law_200 rfl ?_
          refine km_iconst (v := 4) hX dL_law_201 (by decide) ?_
          refine km_iadd hX dL_law_202 ?_
          obtain ⟨hc, h⟩ := h
          refine km_ialdx hX (by decide) hc dL_law_203 ?_
          refine km_aload_n hX dL_law_204 rfl rfl ?_
          refine km_iload_n hX dL_law_205 rfl ?_
          refine km_iconst (v := 5) hX dL_law_206 (by decide) ?_
          refine km_iadd hX dL_law_207 ?_
          obtain ⟨hc, h⟩ := h
          refine km_ialdx hX (by decide) hc dL_law_208 ?_
          refine km_aload_n hX dL_law_209 rfl rfl ?_
          refine km_iload_n hX dL_law_210 rfl ?_
          refine km_bipush (v := 6) hX dL_law_211 (by decide) ?_
          refine km_iadd hX dL_law_213 ?_
          obtain ⟨hc, h⟩ := h
          refine km_ialdx hX (by decide) hc dL_law_214 ?_
          refine km_callVi hX dL_law_215 vL_law_30 (X7_op_c kqmr h) (by decide) shp_86 rfl rfl (Nat.le_of_ble_eq_true rfl) (fun r215 m215 h => ?_)
          refine km_pop hX dL_law_218 ?_
          refine km_goto (tgt := 647) hX dL_law_219 (by decide) ?_
          refine km_ren (ls' := [(0, .retAddr 2), (1, .ref 0), (2, .ref 86), (3, .int y3)]) [0, 1, 2, 3] rfl ?_
          exact L_law_b647_t hX hL (fun v0 m mr kqmr kqbb hh => ih v0 m mr kqmr kqbb hh) _ _ _ kqmr kqbb h
        · refine km_tableIn (off := 179) (tgt := 222) hX dL_law_43 (by omega) (by omega) (by rw [c]; rfl) (by decide) ?_
          have h := h.2.2.2.1 c
          refine km_aload_n hX dL_law_222 rfl rfl ?_
          refine km_aload_n hX dL_law_223 rfl rfl ?_
          refine km_iload_n hX dL_law_224 rfl ?_
          refine km_iconst (v := 1) hX dL_law_225 (by decide) ?_
          refine km_iadd hX dL_law_226 ?_
          obtain ⟨hc, h⟩ := h
          refine km_ialdx hX (by decide) hc dL_law_227 ?_
          refine km_aload_n hX dL_law_228 rfl rfl ?_
          refine km_iload_n hX dL_law_229 rfl ?_
          refine km_iconst (v := 2) hX dL_law_230 (by decide) ?_
          refine km_iadd hX dL_law_231 ?_
          obtain ⟨hc, h⟩ := h
          refine km_ialdx hX (by decide) hc dL_law_232 ?_
          refine km_callVi hX dL_law_233 vL_law_31 (X6_clear_c kqmr h) (by decide) shp_0 rfl rfl (Nat.le_of_ble_eq_true rfl) (fun r233 m233 h => ?_)
          refine km_pop hX dL_law_236 ?_
          refine km_aload_n hX dL_law_237 rfl rfl ?_
          refine km_aload_n hX dL_law_238 rfl rfl ?_
          refine km_iload_n hX dL_law_239 rfl ?_
          refine km_iconst (v := 1) hX dL_law_240 (by decide) ?_
          refine km_iadd hX dL_law_241 ?_
          obtain ⟨hc, h⟩ := h
          refine km_ialdx hX (by decide) hc dL_law_242 ?_
          refine km_aload_n hX dL_law_243 rfl rfl ?_
          refine km_iload_n hX dL_law_244 rfl ?_
          refine km_iconst (v := 2) hX dL_law_245 (by decide) ?_
          refine km_iadd hX dL_law_246 ?_
          obtain ⟨hc, h⟩ := h
          refine km_ialdx hX (by decide) hc dL_law_247 ?_
          refine km_callVi hX dL_law_248 vL_law_35 (X7_clear_c kqmr h) (by decide) shp_86 rfl rfl (Nat.le_of_ble_eq_true rfl) (fun r248 m248 h => ?_)
          refine km_pop hX dL_law_251 ?_
          refine km_goto (tgt := 647) hX dL_law_252 (by decide) ?_
          refine km_ren (ls' := [(0, .retAddr 2), (1, .ref 0), (2, .ref 86), (3, .int y3)]) [0, 1, 2, 3] rfl ?_
          exact L_law_b647_t hX hL (fun v0 m mr kqmr kqbb hh => ih v0 m mr kqmr kqbb hh) _ _ _ kqmr kqbb h
        · refine km_tableIn (off := 212) (tgt := 255) hX dL_law_43 (by omega) (by omega) (by rw [c]; rfl) (by decide) ?_
          have h := h.2.2.2.2.1 c
          refine km_aload_n hX dL_law_255 rfl rfl ?_
          refine km_aload_n hX dL_law_256 rfl rfl ?_
          refine km_iload_n hX dL_law_257 rfl ?_
          refine km_iconst (v := 1) hX dL_law_258 (by decide) ?_
          refine km_iadd hX dL_law_259 ?_
          obtain ⟨hc, h⟩ := h
          refine km_ialdx hX (by decide) hc dL_law_260 ?_
          refine km_aload_n hX dL_law_261 rfl rfl ?_
          refine km_iload_n hX dL_law_262 rfl ?_
          refine km_iconst (v := 2) hX dL_law_263 (by decide) ?_
          refine km_iadd hX dL_law_264 ?_
          obtain ⟨hc, h⟩ := h
          refine km_ialdx hX (by decide) hc dL_law_265 ?_
          refine km_aload_n hX dL_law_266 rfl rfl ?_
          refine km_iload_n hX dL_law_267 rfl ?_
          refine km_iconst (v := 3) hX dL_law_268 (by decide) ?_
          refine km_iadd hX dL_law_269 ?_
          obtain ⟨hc, h⟩ := h
          refine km_ialdx hX (by decide) hc dL_law_270 ?_
          refine km_aload_n hX dL_law_271 rfl rfl ?_
          refine km_iload_n hX dL_law_272 rfl ?_
          refine km_iconst (v := 4) hX dL_law_273 (by decide) ?_
          refine km_iadd hX dL_law_274 ?_
          obtain ⟨hc, h⟩ := h
          refine km_ialdx hX (by decide) hc dL_law_275 ?_
          refine km_callV hX dL_law_276 vL_law_36 (X6_run_c kqmr kqbb h) (by decide) shp_0 rfl rfl (Nat.le_of_ble_eq_true rfl) (fun r9 sh9 m276 mr h9 => ?_)
          obtain ⟨rfl, kqmr, kqbb, r276, rfl, h⟩ := h9
          refine km_aload_n hX dL_law_279 rfl rfl ?_
          refine km_aload_n hX dL_law_280 rfl rfl ?_
          refine km_iload_n hX dL_law_281 rfl ?_
          refine km_iconst (v := 1) hX dL_law_282 (by decide) ?_
          refine km_iadd hX dL_law_283 ?_
          obtain ⟨hc, h⟩ := h
          refine km_ialdx hX (by decide) hc dL_law_284 ?_
          refine km_aload_n hX dL_law_285 rfl rfl ?_
          refine km_iload_n hX dL_law_286 rfl ?_
          refine km_iconst (v := 2) hX dL_law_287 (by decide) ?_
          refine km_iadd hX dL_law_288 ?_
          obtain ⟨hc, h⟩ := h
          refine km_ialdx hX (by decide) hc dL_law_289 ?_
          refine km_aload_n hX dL_law_290 rfl rfl ?_
          refine km_iload_n hX dL_law_291 rfl ?_
          refine km_iconst (v := 3) hX dL_law_292 (by decide) ?_
          refine km_iadd hX dL_law_293 ?_
          obtain ⟨hc, h⟩ := h
          refine km_ialdx hX (by decide) hc dL_law_294 ?_
          refine km_aload_n hX dL_law_295 rfl rfl ?_
          refine km_iload_n hX dL_law_296 rfl ?_
          refine km_iconst (v := 4) hX dL_law_297 (by decide) ?_
          refine km_iadd hX dL_law_298 ?_
          obtain ⟨hc, h⟩ := h
          refine km_ialdx hX (by decide) hc dL_law_299 ?_
          refine km_callVi hX dL_law_300 vL_law_40 (X7_run_c kqmr h) (by decide) shp_86 rfl rfl (Nat.le_of_ble_eq_true rfl) (fun r300 m300 h => ?_)
          refine km_icmp_eq (tgt := 647) hX dL_law_303 (by decide) (fun c => ?_) (fun c => ?_)
          · have h := h.1 c
            refine km_ren (ls' := [(0, .retAddr 2), (1, .ref 0), (2, .ref 86), (3, .int y3)]) [0, 1, 2, 3] rfl ?_
            exact L_law_b647_t hX hL (fun v0 m mr kqmr kqbb hh => ih v0 m mr kqmr kqbb hh) _ _ _ kqmr kqbb h
          · have h := h.2 c
            refine km_iconst (v := 0) hX dL_law_306 (by decide) ?_
            exact h.elim
        · refine km_tableIn (off := 265) (tgt := 308) hX dL_law_43 (by omega) (by omega) (by rw [c]; rfl) (by decide) ?_
          have h := h.2.2.2.2.2.1 c
          refine km_aload_n hX dL_law_308 rfl rfl ?_
          refine km_aload_n hX dL_law_309 rfl rfl ?_
          refine km_iload_n hX dL_law_310 rfl ?_
          refine km_iconst (v := 1) hX dL_law_311 (by decide) ?_
          refine km_iadd hX dL_law_312 ?_
          obtain ⟨hc, h⟩ := h
          refine km_ialdx hX (by decide) hc dL_law_313 ?_
          refine km_callVi hX dL_law_314 vL_law_41 (X6_ran_c kqmr h) (by decide) shp_0 rfl rfl (Nat.le_of_ble_eq_true rfl) (fun r314 m314 h => ?_)
          refine km_pop hX dL_law_317 ?_
          refine km_aload_n hX dL_law_318 rfl rfl ?_
          refine km_aload_n hX dL_law_319 rfl rfl ?_
          refine km_iload_n hX dL_law_320 rfl ?_
          refine km_iconst (v := 1) hX dL_law_321 (by decide) ?_
          refine km_iadd hX dL_law_322 ?_
          obtain ⟨hc, h⟩ := h
          refine km_ialdx hX (by decide) hc dL_law_323 ?_
          refine km_callVi hX dL_law_324 vL_law_44 (X7_ran_c kqmr h) (by decide) shp_86 rfl rfl (Nat.le_of_ble_eq_true rfl) (fun r324 m324 h => ?_)
          refine km_pop hX dL_law_327 ?_
          refine km_goto (tgt := 647) hX dL_law_328 (by decide) ?_
          refine km_ren (ls' := [(0, .retAddr 2), (1, .ref 0), (2, .ref 86), (3, .int y3)]) [0, 1, 2, 3] rfl ?_
          exact L_law_b647_t hX hL (fun v0 m mr kqmr kqbb hh => ih v0 m mr kqmr kqbb hh) _ _ _ kqmr kqbb h
        · refine km_tableIn (off := 288) (tgt := 331) hX dL_law_43 (by omega) (by omega) (by rw [c]; rfl) (by decide) ?_
          have h := h.2.2.2.2.2.2.1 c
          refine km_aload_n hX dL_law_331 rfl rfl ?_
          refine km_aload_n hX dL_law_332 rfl rfl ?_
          refine km_iload_n hX dL_law_333 rfl ?_
          refine km_iconst (v := 1) hX dL_law_334 (by decide) ?_
          refine km_iadd hX dL_law_335 ?_
          obtain ⟨hc, h⟩ := h
          refine km_ialdx hX (by decide) hc dL_law_336 ?_
          refine km_aload_n hX dL_law_337 rfl rfl ?_
          refine km_iload_n hX dL_law_338 rfl ?_
          refine km_iconst (v := 2) hX dL_law_339 (by decide) ?_
          refine km_iadd hX dL_law_340 ?_
          obtain ⟨hc, h⟩ := h
          refine km_ialdx hX (by decide) hc dL_law_341 ?_
          refine km_callVi hX dL_law_342 vL_law_45 (X6_told_c kqmr h) (by decide) shp_0 rfl rfl (Nat.le_of_ble_eq_true rfl) (fun r342 m342 h => ?_)
          refine km_pop hX dL_law_345 ?_
          refine km_aload_n hX dL_law_346 rfl rfl ?_
          refine km_aload_n hX dL_law_347 rfl rfl ?_
          refine km_iload_n hX dL_law_348 rfl ?_
          refine km_iconst (v := 1) hX dL_law_349 (by decide) ?_
          refine km_iadd hX dL_law_350 ?_
          obtain ⟨hc, h⟩ := h
          refine km_ialdx hX (by decide) hc dL_law_351 ?_
          refine km_aload_n hX dL_law_352 rfl rfl ?_
          refine km_iload_n hX dL_law_353 rfl ?_
          refine km_iconst (v := 2) hX dL_law_354 (by decide) ?_
          refine km_iadd hX dL_law_355 ?_
          obtain ⟨hc, h⟩ := h
          refine km_ialdx hX (by decide) hc dL_law_356 ?_
          refine km_callVi hX dL_law_357 vL_law_48 (X7_told_c kqmr h) (by decide) shp_86 rfl rfl (Nat.le_of_ble_eq_true rfl) (fun r357 m357 h => ?_)
          refine km_pop hX dL_law_360 ?_
          refine km_goto (tgt := 647) hX dL_law_361 (by decide) ?_
          refine km_ren (ls' := [(0, .retAddr 2), (1, .ref 0), (2, .ref 86), (3, .int y3)]) [0, 1, 2, 3] rfl ?_
          exact L_law_b647_t hX hL (fun v0 m mr kqmr kqbb hh => ih v0 m mr kqmr kqbb hh) _ _ _ kqmr kqbb h
        · refine km_tableIn (off := 321) (tgt := 364) hX dL_law_43 (by omega) (by omega) (by rw [c]; rfl) (by decide) ?_
          have h := h.2.2.2.2.2.2.2.1 c
          refine km_aload_n hX dL_law_364 rfl rfl ?_
          refine km_aload_n hX dL_law_365 rfl rfl ?_
          refine km_iload_n hX dL_law_366 rfl ?_
          refine km_iconst (v := 1) hX dL_law_367 (by decide) ?_
          refine km_iadd hX dL_law_368 ?_
          obtain ⟨hc, h⟩ := h
          refine km_ialdx hX (by decide) hc dL_law_369 ?_
          refine km_aload_n hX dL_law_370 rfl rfl ?_
          refine km_iload_n hX dL_law_371 rfl ?_
          refine km_iconst (v := 2) hX dL_law_372 (by decide) ?_
          refine km_iadd hX dL_law_373 ?_
          obtain ⟨hc, h⟩ := h
          refine km_ialdx hX (by decide) hc dL_law_374 ?_
          refine km_callVi hX dL_law_375 vL_law_49 (X6_rename_c kqmr h) (by decide) shp_0 rfl rfl (Nat.le_of_ble_eq_true rfl) (fun r375 m375 h => ?_)
          refine km_pop hX dL_law_378 ?_
          refine km_aload_n hX dL_law_379 rfl rfl ?_
          refine km_aload_n hX dL_law_380 rfl rfl ?_
          refine km_iload_n hX dL_law_381 rfl ?_
          refine km_iconst (v := 1) hX dL_law_382 (by decide) ?_
          refine km_iadd hX dL_law_383 ?_
          obtain ⟨hc, h⟩ := h
          refine km_ialdx hX (by decide) hc dL_law_384 ?_
          refine km_aload_n hX dL_law_385 rfl rfl ?_
          refine km_iload_n hX dL_law_386 rfl ?_
          refine km_iconst (v := 2) hX dL_law_387 (by decide) ?_
          refine km_iadd hX dL_law_388 ?_
          obtain ⟨hc, h⟩ := h
          refine km_ialdx hX (by decide) hc dL_law_389 ?_
          refine km_callVi hX dL_law_390 vL_law_52 (X7_rename_c kqmr h) (by decide) shp_86 rfl rfl (Nat.le_of_ble_eq_true rfl) (fun r390 m390 h => ?_)
          refine km_pop hX dL_law_393 ?_
          refine km_goto (tgt := 647) hX dL_law_394 (by decide) ?_
          refine km_ren (ls' := [(0, .retAddr 2), (1, .ref 0), (2, .ref 86), (3, .int y3)]) [0, 1, 2, 3] rfl ?_
          exact L_law_b647_t hX hL (fun v0 m mr kqmr kqbb hh => ih v0 m mr kqmr kqbb hh) _ _ _ kqmr kqbb h
        · refine km_tableIn (off := 354) (tgt := 397) hX dL_law_43 (by omega) (by omega) (by rw [c]; rfl) (by decide) ?_
          have h := h.2.2.2.2.2.2.2.2.1 c
          refine km_aload_n hX dL_law_397 rfl rfl ?_
          refine km_aload_n hX dL_law_398 rfl rfl ?_
          refine km_iload_n hX dL_law_399 rfl ?_
          refine km_iconst (v := 1) hX dL_law_400 (by decide) ?_
          refine km_iadd hX dL_law_401 ?_
          obtain ⟨hc, h⟩ := h
          refine km_ialdx hX (by decide) hc dL_law_402 ?_
          refine km_aload_n hX dL_law_403 rfl rfl ?_
          refine km_iload_n hX dL_law_404 rfl ?_
          refine km_iconst (v := 2) hX dL_law_405 (by decide) ?_
          refine km_iadd hX dL_law_406 ?_
          obtain ⟨hc, h⟩ := h
          refine km_ialdx hX (by decide) hc dL_law_407 ?_
          refine km_callVi hX dL_law_408 vL_law_53 (X6_group_c kqmr h) (by decide) shp_0 rfl rfl (Nat.le_of_ble_eq_true rfl) (fun r408 m408 h => ?_)
          refine km_pop hX dL_law_411 ?_
          refine km_aload_n hX dL_law_412 rfl rfl ?_
          refine km_aload_n hX dL_law_413 rfl rfl ?_
          refine km_iload_n hX dL_law_414 rfl ?_
          refine km_iconst (v := 1) hX dL_law_415 (by decide) ?_
          refine km_iadd hX dL_law_416 ?_
          obtain ⟨hc, h⟩ := h
          refine km_ialdx hX (by decide) hc dL_law_417 ?_
          refine km_aload_n hX dL_law_418 rfl rfl ?_
          refine km_iload_n hX dL_law_419 rfl ?_
          refine km_iconst (v := 2) hX dL_law_420 (by decide) ?_
          refine km_iadd hX dL_law_421 ?_
          obtain ⟨hc, h⟩ := h
          refine km_ialdx hX (by decide) hc dL_law_422 ?_
          refine km_callVi hX dL_law_423 vL_law_56 (X7_group_c kqmr h) (by decide) shp_86 rfl rfl (Nat.le_of_ble_eq_true rfl) (fun r423 m423 h => ?_)
          refine km_pop hX dL_law_426 ?_
          refine km_goto (tgt := 647) hX dL_law_427 (by decide) ?_
          refine km_ren (ls' := [(0, .retAddr 2), (1, .ref 0), (2, .ref 86), (3, .int y3)]) [0, 1, 2, 3] rfl ?_
          exact L_law_b647_t hX hL (fun v0 m mr kqmr kqbb hh => ih v0 m mr kqmr kqbb hh) _ _ _ kqmr kqbb h
        · refine km_tableIn (off := 387) (tgt := 430) hX dL_law_43 (by omega) (by omega) (by rw [c]; rfl) (by decide) ?_
          have h := h.2.2.2.2.2.2.2.2.2.1 c
          refine km_aload_n hX dL_law_430 rfl rfl ?_
          refine km_aload_n hX dL_law_431 rfl rfl ?_
          refine km_iload_n hX dL_law_432 rfl ?_
          refine km_iconst (v := 1) hX dL_law_433 (by decide) ?_
          refine km_iadd hX dL_law_434 ?_
          obtain ⟨hc, h⟩ := h
          refine km_ialdx hX (by decide) hc dL_law_435 ?_
          refine km_aload_n hX dL_law_436 rfl rfl ?_
          refine km_iload_n hX dL_law_437 rfl ?_
          refine km_iconst (v := 2) hX dL_law_438 (by decide) ?_
          refine km_iadd hX dL_law_439 ?_
          obtain ⟨hc, h⟩ := h
          refine km_ialdx hX (by decide) hc dL_law_440 ?_
          refine km_callVi hX dL_law_441 vL_law_57 (X6_hold_c kqmr h) (by decide) shp_0 rfl rfl (Nat.le_of_ble_eq_true rfl) (fun r441 m441 h => ?_)
          refine km_pop hX dL_law_444 ?_
          refine km_aload_n hX dL_law_445 rfl rfl ?_
          refine km_aload_n hX dL_law_446 rfl rfl ?_
          refine km_iload_n hX dL_law_447 rfl ?_
          refine km_iconst (v := 1) hX dL_law_448 (by decide) ?_
          refine km_iadd hX dL_law_449 ?_
          obtain ⟨hc, h⟩ := h
          refine km_ialdx hX (by decide) hc dL_law_450 ?_
          refine km_aload_n hX dL_law_451 rfl rfl ?_
          refine km_iload_n hX dL_law_452 rfl ?_
          refine km_iconst (v := 2) hX dL_law_453 (by decide) ?_
          refine km_iadd hX dL_law_454 ?_
          obtain ⟨hc, h⟩ := h
          refine km_ialdx hX (by decide) hc dL_law_455 ?_
          refine km_callVi hX dL_law_456 vL_law_60 (X7_hold_c kqmr h) (by decide) shp_86 rfl rfl (Nat.le_of_ble_eq_true rfl) (fun r456 m456 h => ?_)
          refine km_pop hX dL_law_459 ?_
          refine km_goto (tgt := 647) hX dL_law_460 (by decide) ?_
          refine km_ren (ls' := [(0, .retAddr 2), (1, .ref 0), (2, .ref 86), (3, .int y3)]) [0, 1, 2, 3] rfl ?_
          exact L_law_b647_t hX hL (fun v0 m mr kqmr kqbb hh => ih v0 m mr kqmr kqbb hh) _ _ _ kqmr kqbb h
        · refine km_tableIn (off := 420) (tgt := 463) hX dL_law_43 (by omega) (by omega) (by rw [c]; rfl) (by decide) ?_
          have h := h.2.2.2.2.2.2.2.2.2.2.1 c
          refine km_aload_n hX dL_law_463 rfl rfl ?_
          refine km_aload_n hX dL_law_464 rfl rfl ?_
          refine km_iload_n hX dL_law_465 rfl ?_
          refine km_iconst (v := 1) hX dL_law_466 (by decide) ?_
          refine km_iadd hX dL_law_467 ?_
          obtain ⟨hc, h⟩ := h
          refine km_ialdx hX (by decide) hc dL_law_468 ?_
          refine km_callVi hX dL_law_469 vL_law_61 (X6_first_c kqmr h) (by decide) shp_0 rfl rfl (Nat.le_of_ble_eq_true rfl) (fun r469 m469 h => ?_)
          refine km_pop hX dL_law_472 ?_
          refine km_aload_n hX dL_law_473 rfl rfl ?_
          refine km_aload_n hX dL_law_474 rfl rfl ?_
          refine km_iload_n hX dL_law_475 rfl ?_
          refine km_iconst (v := 1) hX dL_law_476 (by decide) ?_
          refine km_iadd hX dL_law_477 ?_
          obtain ⟨hc, h⟩ := h
          refine km_ialdx hX (by decide) hc dL_law_478 ?_
          refine km_callVi hX dL_law_479 vL_law_64 (X7_first_c kqmr h) (by decide) shp_86 rfl rfl (Nat.le_of_ble_eq_true rfl) (fun r479 m479 h => ?_)
          refine km_pop hX dL_law_482 ?_
          refine km_goto (tgt := 647) hX dL_law_483 (by decide) ?_
          refine km_ren (ls' := [(0, .retAddr 2), (1, .ref 0), (2, .ref 86), (3, .int y3)]) [0, 1, 2, 3] rfl ?_
          exact L_law_b647_t hX hL (fun v0 m mr kqmr kqbb hh => ih v0 m mr kqmr kqbb hh) _ _ _ kqmr kqbb h
        · refine km_tableIn (off := 443) (tgt := 486) hX dL_law_43 (by omega) (by omega) (by rw [c]; rfl) (by decide) ?_
          have h := h.2.2.2.2.2.2.2.2.2.2.2.1 c
          refine km_aload_n hX dL_law_486 rfl rfl ?_
          refine km_aload_n hX dL_law_487 rfl rfl ?_
          refine km_iload_n hX dL_law_488 rfl ?_
          refine km_iconst (v := 1) hX dL_law_489 (by decide) ?_
          refine km_iadd hX dL_law_490 ?_
          obtain ⟨hc, h⟩ := h
          refine km_ialdx hX (by decide) hc dL_law_491 ?_
          refine km_callVi hX dL_law_492 vL_law_65 (X6_match_c kqmr h) (by decide) shp_0 rfl rfl (Nat.le_of_ble_eq_true rfl) (fun r492 m492 h => ?_)
          refine km_pop hX dL_law_495 ?_
          refine km_aload_n hX dL_law_496 rfl rfl ?_
          refine km_aload_n hX dL_law_497 rfl rfl ?_
          refine km_iload_n hX dL_law_498 rfl ?_
          refine km_iconst (v := 1) hX dL_law_499 (by decide) ?_
          refine km_iadd hX dL_law_500 ?_
          obtain ⟨hc, h⟩ := h
          refine km_ialdx hX (by decide) hc dL_law_501 ?_
          refine km_callVi hX dL_law_502 vL_law_68 (X7_match_c kqmr h) (by decide) shp_86 rfl rfl (Nat.le_of_ble_eq_true rfl) (fun r502 m502 h => ?_)
          refine km_pop hX dL_law_505 ?_
          refine km_goto (tgt := 647) hX dL_law_506 (by decide) ?_
          refine km_ren (ls' := [(0, .retAddr 2), (1, .ref 0), (2, .ref 86), (3, .int y3)]) [0, 1, 2, 3] rfl ?_
          exact L_law_b647_t hX hL (fun v0 m mr kqmr kqbb hh => ih v0 m mr kqmr kqbb hh) _ _ _ kqmr kqbb h
        · refine km_tableIn (off := 466) (tgt := 509) hX dL_law_43 (by omega) (by omega) (by rw [c]; rfl) (by decide) ?_
          have h := h.2.2.2.2.2.2.2.2.2.2.2.2.1 c
          refine km_aload_n hX dL_law_509 rfl rfl ?_
          refine km_aload_n hX dL_law_510 rfl rfl ?_
          refine km_iload_n hX dL_law_511 rfl ?_
          refine km_iconst (v := 1) hX dL_law_512 (by decide) ?_
          refine km_iadd hX dL_law_513 ?_
          obtain ⟨hc, h⟩ := h
          refine km_ialdx hX (by decide) hc dL_law_514 ?_
          refine km_aload_n hX dL_law_515 rfl rfl ?_
          refine km_iload_n hX dL_law_516 rfl ?_
          refine km_iconst (v := 2) hX dL_law_517 (by decide) ?_
          refine km_iadd hX dL_law_518 ?_
          obtain ⟨hc, h⟩ := h
          refine km_ialdx hX (by decide) hc dL_law_519 ?_
          refine km_callVi hX dL_law_520 vL_law_69 (X6_find_c kqmr h) (by decide) shp_0 rfl rfl (Nat.le_of_ble_eq_true rfl) (fun r520 m520 h => ?_)
          refine km_pop hX dL_law_523 ?_
          refine km_aload_n hX dL_law_524 rfl rfl ?_
          refine km_aload_n hX dL_law_525 rfl rfl ?_
          refine km_iload_n hX dL_law_526 rfl ?_
          refine km_iconst (v := 1) hX dL_law_527 (by decide) ?_
          refine km_iadd hX dL_law_528 ?_
          obtain ⟨hc, h⟩ := h
          refine km_ialdx hX (by decide) hc dL_law_529 ?_
          refine km_aload_n hX dL_law_530 rfl rfl ?_
          refine km_iload_n hX dL_law_531 rfl ?_
          refine km_iconst (v := 2) hX dL_law_532 (by decide) ?_
          refine km_iadd hX dL_law_533 ?_
          obtain ⟨hc, h⟩ := h
          refine km_ialdx hX (by decide) hc dL_law_534 ?_
          refine km_callVi hX dL_law_535 vL_law_72 (X7_find_c kqmr h) (by decide) shp_86 rfl rfl (Nat.le_of_ble_eq_true rfl) (fun r535 m535 h => ?_)
          refine km_pop hX dL_law_538 ?_
          refine km_goto (tgt := 647) hX dL_law_539 (by decide) ?_
          refine km_ren (ls' := [(0, .retAddr 2), (1, .ref 0), (2, .ref 86), (3, .int y3)]) [0, 1, 2, 3] rfl ?_
          exact L_law_b647_t hX hL (fun v0 m mr kqmr kqbb hh => ih v0 m mr kqmr kqbb hh) _ _ _ kqmr kqbb h
        · refine km_tableIn (off := 499) (tgt := 542) hX dL_law_43 (by omega) (by omega) (by rw [c]; rfl) (by decide) ?_
          have h := h.2.2.2.2.2.2.2.2.2.2.2.2.2.1 c
          refine km_aload_n hX dL_law_542 rfl rfl ?_
          refine km_aload_n hX dL_law_543 rfl rfl ?_
          refine km_iload_n hX dL_law_544 rfl ?_
          refine km_iconst (v := 1) hX dL_law_545 (by decide) ?_
          refine km_iadd hX dL_law_546 ?_
          obtain ⟨hc, h⟩ := h
          refine km_ialdx hX (by decide) hc dL_law_547 ?_
          refine km_aload_n hX dL_law_548 rfl rfl ?_
          refine km_iload_n hX dL_law_549 rfl ?_
          refine km_iconst (v := 2) hX dL_law_550 (by decide) ?_
          refine km_iadd hX dL_law_551 ?_
          obtain ⟨hc, h⟩ := h
          refine km_ialdx hX (by decide) hc dL_law_552 ?_
          refine km_callVi hX dL_law_553 vL_law_73 (X6_assume_c kqmr h) (by decide) shp_0 rfl rfl (Nat.le_of_ble_eq_true rfl) (fun r553 m553 h => ?_)
          refine km_pop hX dL_law_556 ?_
          refine km_aload_n hX dL_law_557 rfl rfl ?_
          refine km_aload_n hX dL_law_558 rfl rfl ?_
          refine km_iload_n hX dL_law_559 rfl ?_
          refine km_iconst (v := 1) hX dL_law_560 (by decide) ?_
          refine km_iadd hX dL_law_561 ?_
          obtain ⟨hc, h⟩ := h
          refine km_ialdx hX (by decide) hc dL_law_562 ?_
          refine km_aload_n hX dL_law_563 rfl rfl ?_
          refine km_iload_n hX dL_law_564 rfl ?_
          refine km_iconst (v := 2) hX dL_law_565 (by decide) ?_
          refine km_iadd hX dL_law_566 ?_
          obtain ⟨hc, h⟩ := h
          refine km_ialdx hX (by decide) hc dL_law_567 ?_
          refine km_callVi hX dL_law_568 vL_law_76 (X7_assume_c kqmr h) (by decide) shp_86 rfl rfl (Nat.le_of_ble_eq_true rfl) (fun r568 m568 h => ?_)
          refine km_pop hX dL_law_571 ?_
          refine km_goto (tgt := 647) hX dL_law_572 (by decide) ?_
          refine km_ren (ls' := [(0, .retAddr 2), (1, .ref 0), (2, .ref 86), (3, .int y3)]) [0, 1, 2, 3] rfl ?_
          exact L_law_b647_t hX hL (fun v0 m mr kqmr kqbb hh => ih v0 m mr kqmr kqbb hh) _ _ _ kqmr kqbb h
        · refine km_tableIn (off := 532) (tgt := 575) hX dL_law_43 (by omega) (by omega) (by rw [c]; rfl) (by decide) ?_
          have h := h.2.2.2.2.2.2.2.2.2.2.2.2.2.2.1 c
          refine km_aload_n hX dL_law_575 rfl rfl ?_
          refine km_callVi hX dL_law_576 vL_law_77 (X6_drop_c kqmr h) (by decide) shp_0 rfl rfl (Nat.le_of_ble_eq_true rfl) (fun r576 m576 h => ?_)
          refine km_pop hX dL_law_579 ?_
          refine km_aload_n hX dL_law_580 rfl rfl ?_
          refine km_callVi hX dL_law_581 vL_law_81 (X7_drop_c kqmr h) (by decide) shp_86 rfl rfl (Nat.le_of_ble_eq_true rfl) (fun r581 m581 h => ?_)
          refine km_pop hX dL_law_584 ?_
          refine km_goto (tgt := 647) hX dL_law_585 (by decide) ?_
          refine km_ren (ls' := [(0, .retAddr 2), (1, .ref 0), (2, .ref 86), (3, .int y3)]) [0, 1, 2, 3] rfl ?_
          exact L_law_b647_t hX hL (fun v0 m mr kqmr kqbb hh => ih v0 m mr kqmr kqbb hh) _ _ _ kqmr kqbb h
        · refine km_tableIn (off := 545) (tgt := 588) hX dL_law_43 (by omega) (by omega) (by rw [c]; rfl) (by decide) ?_
          have h := h.2.2.2.2.2.2.2.2.2.2.2.2.2.2.2.1 c
          refine km_aload_n hX dL_law_588 rfl rfl ?_
          refine km_callVi hX dL_law_589 vL_law_82 (X6_prove_c kqmr h) (by decide) shp_0 rfl rfl (Nat.le_of_ble_eq_true rfl) (fun r589 m589 h => ?_)
          refine km_pop hX dL_law_592 ?_
          refine km_aload_n hX dL_law_593 rfl rfl ?_
          refine km_callVi hX dL_law_594 vL_law_85 (X7_prove_c kqmr h) (by decide) shp_86 rfl rfl (Nat.le_of_ble_eq_true rfl) (fun r594 m594 h => ?_)
          refine km_pop hX dL_law_597 ?_
          refine km_goto (tgt := 647) hX dL_law_598 (by decide) ?_
          refine km_ren (ls' := [(0, .retAddr 2), (1, .ref 0), (2, .ref 86), (3, .int y3)]) [0, 1, 2, 3] rfl ?_
          exact L_law_b647_t hX hL (fun v0 m mr kqmr kqbb hh => ih v0 m mr kqmr kqbb hh) _ _ _ kqmr kqbb h
        · refine km_tableIn (off := 558) (tgt := 601) hX dL_law_43 (by omega) (by omega) (by rw [c]; rfl) (by decide) ?_
          have h := h.2.2.2.2.2.2.2.2.2.2.2.2.2.2.2.2.1 c
          refine km_aload_n hX dL_law_601 rfl rfl ?_
          refine km_aload_n hX dL_law_602 rfl rfl ?_
          refine km_iload_n hX dL_law_603 rfl ?_
          refine km_iconst (v := 1) hX dL_law_604 (by decide) ?_
          refine km_iadd hX dL_law_605 ?_
          obtain ⟨hc, h⟩ := h
          refine km_ialdx hX (by decide) hc dL_law_606 ?_
          refine km_callVi hX dL_law_607 vL_law_86 (X6_why_c kqmr h) (by decide) shp_0 rfl rfl (Nat.le_of_ble_eq_true rfl) (fun r607 m607 h => ?_)
          refine km_pop hX dL_law_610 ?_
          refine km_aload_n hX dL_law_611 rfl rfl ?_
          refine km_aload_n hX dL_law_612 rfl rfl ?_
          refine km_iload_n hX dL_law_613 rfl ?_
          refine km_iconst (v := 1) hX dL_law_614 (by decide) ?_
          refine km_iadd hX dL_law_615 ?_
          obtain ⟨hc, h⟩ := h
          refine km_ialdx hX (by decide) hc dL_law_616 ?_
          refine km_callVi hX dL_law_617 vL_law_89 (X7_why_c kqmr h) (by decide) shp_86 rfl rfl (Nat.le_of_ble_eq_true rfl) (fun r617 m617 h => ?_)
          refine km_pop hX dL_law_620 ?_
          refine km_goto (tgt := 647) hX dL_law_621 (by decide) ?_
          refine km_ren (ls' := [(0, .retAddr 2), (1, .ref 0), (2, .ref 86), (3, .int y3)]) [0, 1, 2, 3] rfl ?_
          exact L_law_b647_t hX hL (fun v0 m mr kqmr kqbb hh => ih v0 m mr kqmr kqbb hh) _ _ _ kqmr kqbb h
        · refine km_tableIn (off := 581) (tgt := 624) hX dL_law_43 (by omega) (by omega) (by rw [c]; rfl) (by decide) ?_
          have h := h.2.2.2.2.2.2.2.2.2.2.2.2.2.2.2.2.2 c
          refine km_aload_n hX dL_law_624 rfl rfl ?_
          refine km_aload_n hX dL_law_625 rfl rfl ?_
          refine km_iload_n hX dL_law_626 rfl ?_
          refine km_iconst (v := 1) hX dL_law_627 (by decide) ?_
          refine km_iadd hX dL_law_628 ?_
          obtain ⟨hc, h⟩ := h
          refine km_ialdx hX (by decide) hc dL_law_629 ?_
          refine km_callVi hX dL_law_630 vL_law_90 (X6_count_c kqmr h) (by decide) shp_0 rfl rfl (Nat.le_of_ble_eq_true rfl) (fun r630 m630 h => ?_)
          refine km_pop hX dL_law_633 ?_
          refine km_aload_n hX dL_law_634 rfl rfl ?_
          refine km_aload_n hX dL_law_635 rfl rfl ?_
          refine km_iload_n hX dL_law_636 rfl ?_
          refine km_iconst (v := 1) hX dL_law_637 (by decide) ?_
          refine km_iadd hX dL_law_638 ?_
          obtain ⟨hc, h⟩ := h
          refine km_ialdx hX (by decide) hc dL_law_639 ?_
          refine km_callVi hX dL_law_640 vL_law_93 (X7_count_c kqmr h) (by decide) shp_86 rfl rfl (Nat.le_of_ble_eq_true rfl) (fun r640 m640 h => ?_)
          refine km_pop hX dL_law_643 ?_
          refine km_goto (tgt := 647) hX dL_law_644 (by decide) ?_
          refine km_ren (ls' := [(0, .retAddr 2), (1, .ref 0), (2, .ref 86), (3, .int y3)]) [0, 1, 2, 3] rfl ?_
          exact L_law_b647_t hX hL (fun v0 m mr kqmr kqbb hh => ih v0 m mr kqmr kqbb hh) _ _ _ kqmr kqbb h
