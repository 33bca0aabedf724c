/-! WHAT IS MADE: new cells stand at the next place -/
theorem km_w_app (E : km_E) (sh : km_S) (x : Nat ⊕ Nat) (mi : km_I) (mr : km_R) : km_w E (sh ++ [x]) mi mr = km_w E sh mi mr ++ [(E.1 + sh.length, km_ce E mi mr sh.length x)] := by
  simp [km_w, List.mapIdx_append]
theorem km_newa {E : km_E} {X : km_X} {R : Room} {cc : ByteArray} {nL : Nat} {Ts : List Cond} {own : String} {sh : km_S} {mi : km_I} {mr : km_R} {cl sl pc : Nat} {ls : List (Nat × Value)} {st : List Value} (hX : km_ok E X R cc nL Ts own) {n : Int32} {N q : Nat} {sh' : km_S} (hd : decode cc pc = .ok (.newarray .int, 2)) (harr : Cond.arrayClass .int ∈ Ts) (hn : ¬ n < 0) (hN : n.toNatClampNeg = N) (hN2 : N ≤ 100000) (hq : sh.length = q) (hsh : sh ++ [.inl N] = sh') (hz : ∀ j, mi q j = 0) (hr1 : cl + 1 ≤ R.cells) (hr2 : sl + N ≤ R.slots)
    (kk : km_G E X nL sh' mi mr (cl + 1) (sl + N) (pc + 2) ls (.ref q :: st)) : km_G E X nL sh mi mr cl sl pc ls (.int n :: st) := by
  obtain ⟨p, l, e, R', s, m, args, below, meth, c, Q⟩ := X
  obtain ⟨⟨hx, hb, hml, hown, hts⟩, rfl, hK, hsz⟩ := hX
  subst hq
  subst hsh
  intro H locs larr hw hs hl
  refine va_newaK (N := N) hx hb (atype := .int) (hts _ harr) rfl hd rfl hn hN (by show N * 4 ≤ 536870912; omega) hr1 hr2 hw.1 fun H1 cA e1 z1 o1 _ hNm => ?_
  have hcA : cA = E.2.2.2.2.2 := Option.some.inj (hNm.symm.trans (hK.1.2 0 _ rfl).2)
  subst hcA
  refine kk H1 locs larr ⟨by rw [z1, List.length_append]; rfl, ?_⟩ ⟨Nat.le_trans hs.1 (by rw [z1, hw.1]; omega), fun q h1 h2 => (o1 q (by rw [← hw.1]; exact Nat.lt_of_lt_of_le h1 hs.1)).trans (hs.2.1 q h1 h2), hs.2.2⟩ hl
  rw [km_w_app]
  refine va_P.app (hw.2.kept (fun k x hx9 => o1 x.1 (by rw [← hw.1]; exact (hw.2 k x hx9).lt))) (fun k x hx9 => ?_)
  have hk : k < 1 := (List.getElem?_eq_some_iff.mp hx9).1
  rw [show k = 0 by omega] at hx9
  cases hx9
  show H1[E.1 + sh.length]? = some (vp_cell _ _)
  rw [e1, vp_cell_i]
  congr 2
  funext j
  show Value.int 0 = .int (mi sh.length j)
  rw [hz]
/-- the words of a making: pool place 'index' of 'own' is the kind ci -/
def km_n (Ts : List Cond) (own : String) (index ci N : Nat) : Prop := ∃ (C : String) (T : u_T) (ty : Nat → FieldType), vwCl[ci]? = some (C, T, N) ∧ (∀ w ∈ u_ws C T N, w ∈ Ts) ∧ Cond.classLink own index C ∈ Ts ∧ Cond.instantiable C N ∈ Ts ∧ Cond.initialized C ∈ Ts ∧ (∀ k, k < N → parseFieldDescriptor (T k).2.2.1 = some (ty k)) ∧ ∀ k, k < N → (km_kd.getD ci [])[k]? = some (decide (defaultValue (ty k) = .null)) ∧ (defaultValue (ty k) = .null ∨ defaultValue (ty k) = .int 0)
theorem km_new {E : km_E} {X : km_X} {R : Room} {cc : ByteArray} {nL : Nat} {Ts : List Cond} {own : String} {sh : km_S} {mi : km_I} {mr : km_R} {cl sl pc : Nat} {ls : List (Nat × Value)} {st : List Value} (hX : km_ok E X R cc nL Ts own) {index ci N q : Nat} {sh' : km_S} (hd : decode cc pc = .ok (.new index, 3)) (hn : km_n Ts own index ci N) (hq : sh.length = q) (hsh : sh ++ [.inr ci] = sh') (hz : ∀ j, mi q j = 0) (hzr : ∀ j, mr q j = none) (hr1 : cl + 1 ≤ R.cells) (hr2 : sl + N ≤ R.slots)
    (kk : km_G E X nL sh' mi mr (cl + 1) (sl + N) (pc + 3) ls (.ref q :: st)) : km_G E X nL sh mi mr cl sl pc ls st := by
  obtain ⟨p, l, e, R', s, m, args, below, meth, c, Q⟩ := X
  obtain ⟨⟨hx, hb, hml, hown, hts⟩, rfl, hK, hsz⟩ := hX
  obtain ⟨C, T, ty, hc, hin, hcl, hins, hini, hty, hdf⟩ := hn
  subst hq
  subst hsh
  intro H locs larr hw hs hl
  have hKn := hK.1.1 ci _ hc
  refine W.newcK hx hb hown (hts _ hcl) (hts _ hins) (hts _ hini) rfl hd hr1 hr2 hKn.2.1 hw.1 fun H1 kC hkC e1 z1 o1 => ?_
  refine kk H1 locs larr ⟨by rw [z1, List.length_append]; rfl, ?_⟩ ⟨Nat.le_trans hs.1 (by rw [z1, hw.1]; omega), fun q h1 h2 => (o1 q (by rw [← hw.1]; exact Nat.lt_of_lt_of_le h1 hs.1)).trans (hs.2.1 q h1 h2), hs.2.2⟩ hl
  rw [km_w_app]
  refine va_P.app (hw.2.kept (fun k x hx9 => o1 x.1 (by rw [← hw.1]; exact (hw.2 k x hx9).lt))) (fun k x hx9 => ?_)
  have hk : k < 1 := (List.getElem?_eq_some_iff.mp hx9).1
  rw [show k = 0 by omega] at hx9
  cases hx9
  refine ⟨_, hc, (u_born ty hts hin hKn hkC e1 hty).to (fun j hj => ?_)⟩
  obtain ⟨h1, h2⟩ := hdf j hj
  show defaultValue (ty j) = (km_fl E mi mr sh.length ci).getD j .null
  rw [List.getD_eq_getElem?_getD, km_fl_get h1]
  rcases h2 with h2 | h2
  · rw [h2]; simp [hzr, va_rf]
  · rw [h2]; simp [hz]
theorem km_objinit {E : km_E} {X : km_X} {R : Room} {cc : ByteArray} {nL : Nat} {Ts : List Cond} {own : String} {sh : km_S} {mi : km_I} {mr : km_R} {cl sl pc : Nat} {ls : List (Nat × Value)} {st : List Value} (hX : km_ok E X R cc nL Ts own) {idx a : Nat} (hd : decode cc pc = .ok (.invokespecial idx, 3)) (h1 : Cond.methodLink own idx objectInit ∈ Ts) (h2 : Cond.instanceMethod objectInit ∈ Ts) (h3 : Cond.code objectInit ⟨#[0xb1]⟩ 1 none ∈ Ts) (hr1 : 1 ≤ R.frames) (hr2 : st.length + 12 ≤ R.locals)
    (kk : km_G E X nL sh mi mr cl sl (pc + 3) ls st) : km_G E X nL sh mi mr cl sl pc ls (.ref a :: st) := by
  obtain ⟨p, l, e, R', s, m, args, below, meth, c, Q⟩ := X
  obtain ⟨⟨hx, hb, hml, hown, hts⟩, rfl, hK, hsz⟩ := hX
  intro H locs larr hw hs hl
  exact W.objInit hx hb hown (hts _ h1) (hts _ h2) (hts _ h3) rfl (by rw [hml]; exact hl.1) rfl hd hr1 (by show 2 * 0 + _ + 12 ≤ _; rw [km_cats]; omega) (kk H locs larr hw hs hl)
theorem km_topi {E : km_E} {X : km_X} {nL : Nat} {sh : km_S} {mi : km_I} {mr : km_R} {cl sl pc : Nat} {ls : List (Nat × Value)} {st : List Value} {x y : Int32} (h : x = y) (k : km_G E X nL sh mi mr cl sl pc ls (.int y :: st)) : km_G E X nL sh mi mr cl sl pc ls (.int x :: st) := by rw [h]; exact k
theorem km_iastK {E : km_E} {X : km_X} {R : Room} {cc : ByteArray} {nL : Nat} {Ts : List Cond} {own : String} {sh : km_S} {mi : km_I} {mr : km_R} {cl sl pc : Nat} {ls : List (Nat × Value)} {st : List Value} {p_ n k : Nat} {i x : Int32} (hk : i.toNatClampNeg = k) (hX : km_ok E X R cc nL Ts own) (hp : sh[p_]? = some (.inl n)) (hin : vp_in i n) (hd : decode cc pc = .ok (.iastore, 1)) (kk : km_G E X nL sh (km_u mi p_ k x) mr cl sl (pc + 1) ls st) : km_G E X nL sh mi mr cl sl pc ls (.int x :: .int i :: .ref p_ :: st) := by
  subst hk
  exact km_iast hX hp hin hd kk
def km_us (m : km_I) (l : List (Nat × Nat × Int32)) : km_I := l.foldl (fun m e => km_u m e.1 e.2.1 e.2.2) m
def km_urs (m : km_R) (l : List (Nat × Nat × Nat)) : km_R := l.foldl (fun m e => km_ur m e.1 e.2.1 (some e.2.2)) m
def km_fresh (n : Nat) (mi : km_I) (mr : km_R) : Prop := ∀ p, n ≤ p → (∀ j, mi p j = 0) ∧ ∀ j, mr p j = none
theorem km_us_off : ∀ (l : List (Nat × Nat × Int32)) (m : km_I) (q : Nat), (∀ e ∈ l, e.1 ≠ q) → km_us m l q = m q := by
  intro l
  induction l with
  | nil => intro m q _; rfl
  | cons e r ih =>
    intro m q h
    show km_us (km_u m e.1 e.2.1 e.2.2) r q = m q
    rw [ih _ q (fun x hx => h x (List.mem_cons_of_mem _ hx)), km_u_off q (fun z => h e List.mem_cons_self z.symm)]
theorem km_urs_off : ∀ (l : List (Nat × Nat × Nat)) (m : km_R) (q : Nat), (∀ e ∈ l, e.1 ≠ q) → km_urs m l q = m q := by
  intro l
  induction l with
  | nil => intro m q _; rfl
  | cons e r ih =>
    intro m q h
    show km_urs (km_ur m e.1 e.2.1 (some e.2.2)) r q = m q
    rw [ih _ q (fun x hx => h x (List.mem_cons_of_mem _ hx)), km_ur_off q (fun z => h e List.mem_cons_self z.symm)]
def km_offL (ps : List Nat) (q : Nat) : Bool := ps.all (fun p => !(Nat.beq p q))
def km_ltL (ps : List Nat) (n : Nat) : Bool := ps.all (fun p => Nat.blt p n)
theorem km_offL_spec {ps : List Nat} {q : Nat} (h : km_offL ps q = true) : ∀ p ∈ ps, p ≠ q := fun p hp e => by
  have h1 := List.all_eq_true.mp h p hp
  rw [e] at h1
  simp at h1
theorem km_ltL_spec {ps : List Nat} {n : Nat} (h : km_ltL ps n = true) : ∀ p ∈ ps, p < n := fun p hp => by
  have h1 := List.all_eq_true.mp h p hp
  exact Nat.le_of_ble_eq_true h1
theorem km_zi {n : Nat} {mi : km_I} {mr : km_R} (hf : km_fresh n mi mr) {l : List (Nat × Nat × Int32)} {q : Nat} (ps : List Nat) (hl : l.map (fun e => e.1) = ps) (ho : km_offL ps q = true) (hq : n ≤ q) : ∀ j, km_us mi l q j = 0 := fun j => by
  rw [km_us_off l mi q (fun e he => km_offL_spec ho _ (by rw [← hl]; exact List.mem_map.mpr ⟨e, he, rfl⟩))]
  exact (hf q hq).1 j
theorem km_zr {n : Nat} {mi : km_I} {mr : km_R} (hf : km_fresh n mi mr) {l : List (Nat × Nat × Nat)} {q : Nat} (ps : List Nat) (hl : l.map (fun e => e.1) = ps) (ho : km_offL ps q = true) (hq : n ≤ q) : ∀ j, km_urs mr l q j = none := fun j => by
  rw [km_urs_off l mr q (fun e he => km_offL_spec ho _ (by rw [← hl]; exact List.mem_map.mpr ⟨e, he, rfl⟩))]
  exact (hf q hq).2 j
theorem km_fr {n n' : Nat} {mi : km_I} {mr : km_R} (hf : km_fresh n mi mr) {l : List (Nat × Nat × Int32)} {l' : List (Nat × Nat × Nat)} (ps ps' : List Nat) (hl : l.map (fun e => e.1) = ps) (hl' : l'.map (fun e => e.1) = ps') (hn : n ≤ n') (h1 : km_ltL ps n' = true) (h2 : km_ltL ps' n' = true) : km_fresh n' (km_us mi l) (km_urs mr l') := fun p hp => ⟨fun j => by
    rw [km_us_off l mi p (fun e he => Nat.ne_of_lt (Nat.lt_of_lt_of_le (km_ltL_spec h1 e.1 (by rw [← hl]; exact List.mem_map.mpr ⟨e, he, rfl⟩)) hp))]
    exact (hf p (Nat.le_trans hn hp)).1 j, fun j => by
    rw [km_urs_off l' mr p (fun e he => Nat.ne_of_lt (Nat.lt_of_lt_of_le (km_ltL_spec h2 e.1 (by rw [← hl']; exact List.mem_map.mpr ⟨e, he, rfl⟩)) hp))]
    exact (hf p (Nat.le_trans hn hp)).2 j⟩
theorem km_copy {E : km_E} {X : km_X} {R : Room} {cc : ByteArray} {nL : Nat} {Ts : List Cond} {own : String} {sh : km_S} {mi : km_I} {mr : km_R} {pc : Nat} {ls : List (Nat × Value)} {st : List Value} (hX : km_ok E X R cc nL Ts own) {index p1 p2 n1 n2 N : Nat} {n : Int32} (hd : decode cc pc = .ok (.invokestatic index, 3)) (hw1 : Cond.methodLink own index arraycopyName ∈ Ts) (hw2 : Cond.native arraycopyName ∈ Ts) (hw3 : Cond.static arraycopyName ∈ Ts) (hw4 : Cond.initialized "java/lang/System" ∈ Ts) (hp1 : sh[p1]? = some (.inl n1)) (hp2 : sh[p2]? = some (.inl n2)) (hn : ¬ n < 0) (hN : n.toNatClampNeg = N) (h1 : N ≤ n1) (h2 : N ≤ n2) (hr1 : 1 ≤ R.frames) (hr2 : st.length + (nativeFrameWords "java/lang/System" "arraycopy" 5 + 11) ≤ R.locals)
    (kk : ∀ mi' : km_I, (mi' = fun q j => if q = p2 ∧ j < N then mi p1 j else mi q j) → km_G E X nL sh mi' mr 0 0 (pc + 3) ls st) : km_G E X nL sh mi mr 0 0 pc ls (.int n :: .int 0 :: .ref p2 :: .int 0 :: .ref p1 :: st) := by
  obtain ⟨p, l, e, R', s, m, args, below, meth, c, Q⟩ := X
  obtain ⟨⟨hx, hb, hml, hown, hts⟩, rfl, hK, hsz⟩ := hX
  intro H locs larr hw hs hl T0 hT0 X0
  have hz0 : T0.heap.size ≤ s.heap.size + 0 := X0.same.2.2.1
  rw [hT0] at hz0
  refine va_copyi hx hb (by rw [hml]; exact hl.1.symm) hown (hts _ hw1) (hts _ hw2) (hts _ hw3) (hts _ hw4) hK.1 hw.2 km_D hs p1 p2 0 0 (km_w_at hp1) (km_w_at hp2) rfl rfl rfl (by decide) (by decide) hn (by rw [hN]; show 0 + N ≤ n1; omega) (by rw [hN]; show 0 + N ≤ n2; omega) (fun _ _ => rfl) hr1 (by rw [km_cats]; exact hr2) hd (fun H1 locs1 hP1 _ hs1 => ?_) T0 hT0 X0
  intro T hT X
  have hz1 : T.heap.size ≤ s.heap.size + 0 := X.same.2.2.1
  rw [hT] at hz1
  refine kk _ rfl H1 locs1 larr ⟨by have a1 := hs.1; have a2 := hs1.1; have a3 := hw.1; omega, ?_⟩ hs1 hl T hT X
  rw [← km_w_set (mi := mi) (mr := mr) (e := .inl (E.2.2.2.2.2, n2, .inl (va_cpy (mi p1) (mi p2) 0 0 N))) hp2 ?_ (fun q hq => ⟨funext fun j => by simp [hq], rfl⟩)]
  · rw [hN] at hP1
    exact hP1
  · simp only [km_ce]
    congr 4
    funext j
    simp [va_cpy]
theorem km_max {E : km_E} {X : km_X} {R : Room} {cc : ByteArray} {nL : Nat} {Ts : List Cond} {own : String} {sh : km_S} {mi : km_I} {mr : km_R} {cl sl pc : Nat} {ls : List (Nat × Value)} {st : List Value} (hX : km_ok E X R cc nL Ts own) {index : Nat} {x y : Int32} (hd : decode cc pc = .ok (.invokestatic index, 3)) (hw1 : Cond.methodLink own index Lib.Math.max.name ∈ Ts) (hw2 : Cond.static Lib.Math.max.name ∈ Ts) (hw3 : Cond.initialized "java/lang/Math" ∈ Ts) (hw4 : Cond.code Lib.Math.max.name Lib.Math.max.code 2 (some .int) ∈ Ts) (hr1 : 1 ≤ R.frames) (hr2 : st.length + 13 ≤ R.locals) (hr3 : cl ≤ R.cells ∧ sl ≤ R.slots)
    (kk : km_G E X nL sh mi mr cl sl (pc + 3) ls (.int (if x < y then y else x) :: st)) : km_G E X nL sh mi mr cl sl pc ls (.int y :: .int x :: st) := by
  obtain ⟨p, l, e, R', s, m, args, below, meth, c, Q⟩ := X
  obtain ⟨⟨hx, hb, hml, hown, hts⟩, rfl, hK, hsz⟩ := hX
  intro H locs larr hw hs hl
  exact va_mmax hx hb (by rw [hml]; exact hl.1.symm) hown (hts _ hw1) (hts _ hw2) (hts _ hw3) (hts _ hw4) hr1 (by rw [km_cats]; exact hr2) hr3.1 hr3.2 hd (kk H locs larr hw hs hl)
