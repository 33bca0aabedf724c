/-! ROWS: an instruction each; 'hX' is where the method stands, 'hd' the row that decodes it -/
def km_lk (ls : List (Nat × Value)) (i : Nat) : Option Value := match ls with
  | [] => none
  | q :: r => match Nat.beq q.1 i with
    | true => some q.2
    | false => km_lk r i
theorem km_lk_mem : ∀ {ls : List (Nat × Value)} {i : Nat} {v : Value}, km_lk ls i = some v → (i, v) ∈ ls := by
  intro ls
  induction ls with
  | nil => intro i v h; cases h
  | cons q r ih =>
    intro i v h
    unfold km_lk at h
    cases hq : Nat.beq q.1 i with
    | true =>
      rw [hq] at h
      have h1 : q.1 = i := Nat.eq_of_beq_eq_true hq
      have h2 : q.2 = v := Option.some.inj h
      rw [← h1, ← h2]
      exact List.mem_cons_self
    | false =>
      rw [hq] at h
      exact List.mem_cons_of_mem _ (ih h)
def km_st (ls : List (Nat × Value)) (i : Nat) (v : Value) : List (Nat × Value) := (i, v) :: ls.filter (fun q => !(Nat.beq q.1 i))
theorem km_st_eq (E : km_E) (ls : List (Nat × Value)) (i : Nat) (v : Value) : (i, km_v E v) :: (ls.map fun q => (q.1, km_v E q.2)).filter (fun q => !(q.1 == i) && !(q.1 + 1 == i && q.2.category == 2)) = (km_st ls i v).map (fun q => (q.1, km_v E q.2)) := by
  show _ = (i, km_v E v) :: (ls.filter (fun q => !(Nat.beq q.1 i))).map (fun q => (q.1, km_v E q.2))
  congr 1
  rw [List.filter_map]
  congr 1
  apply List.filter_congr
  intro q _
  show (!(q.1 == i) && !(q.1 + 1 == i && (km_v E q.2).category == 2)) = !(Nat.beq q.1 i)
  rw [km_v_cat]
  have h1 : ((1 : Nat) == 2) = false := rfl
  rw [h1, Bool.and_false, Bool.not_false, Bool.and_true]
  cases hq : Nat.beq q.1 i with
  | true => simp [Nat.eq_of_beq_eq_true hq]
  | false => simp [Nat.ne_of_beq_eq_false hq]
theorem km_lk_at {E : km_E} {larr : Array Slot} {nL : Nat} {ls : List (Nat × Value)} {i : Nat} {v : Value} (hl : lv_has larr nL (ls.map fun q => (q.1, km_v E q.2))) (h : km_lk ls i = some v) : larr[i]? = some (.val (km_v E v)) := hl.2.2 (i, km_v E v) (List.mem_map.mpr ⟨(i, v), km_lk_mem h, rfl⟩)
def km_isr (v : Value) : Bool := match v with
  | .ref _ => true
  | .retAddr _ => true
  | _ => false
theorem km_isr_at {E : km_E} {v : Value} (h : km_isr v = true) : ∃ a, km_v E v = .ref a := by
  cases v <;> first | (cases h; done) | exact ⟨_, rfl⟩
theorem km_iadd {E : km_E} {X : km_X} {R : Room} {cc : ByteArray} {nL : Nat} {Ts : List Cond} {own : String} {sh : km_S} {mi : km_I} {mr : km_R} {cl sl pc : Nat} {ls : List (Nat × Value)} {st : List Value} (hX : km_ok E X R cc nL Ts own) {x y : Int32} (hd : decode cc pc = .ok (.iadd, 1)) (k : km_G E X nL sh mi mr cl sl (pc + 1) ls (.int (x + y) :: st)) : km_G E X nL sh mi mr cl sl pc ls (.int y :: .int x :: st) := by
  obtain ⟨p, l, e, R', s, m, args, below, meth, c, Q⟩ := X
  obtain ⟨⟨hx, hb, hml, hown, hts⟩, rfl, hK, hsz⟩ := hX
  exact fun H locs larr hw hs hl => lv_iadd hx hb hd (k H locs larr hw hs hl)
theorem km_isub {E : km_E} {X : km_X} {R : Room} {cc : ByteArray} {nL : Nat} {Ts : List Cond} {own : String} {sh : km_S} {mi : km_I} {mr : km_R} {cl sl pc : Nat} {ls : List (Nat × Value)} {st : List Value} (hX : km_ok E X R cc nL Ts own) {x y : Int32} (hd : decode cc pc = .ok (.isub, 1)) (k : km_G E X nL sh mi mr cl sl (pc + 1) ls (.int (x - y) :: st)) : km_G E X nL sh mi mr cl sl pc ls (.int y :: .int x :: st) := by
  obtain ⟨p, l, e, R', s, m, args, below, meth, c, Q⟩ := X
  obtain ⟨⟨hx, hb, hml, hown, hts⟩, rfl, hK, hsz⟩ := hX
  exact fun H locs larr hw hs hl => lv_isub hx hb hd (k H locs larr hw hs hl)
theorem km_imul {E : km_E} {X : km_X} {R : Room} {cc : ByteArray} {nL : Nat} {Ts : List Cond} {own : String} {sh : km_S} {mi : km_I} {mr : km_R} {cl sl pc : Nat} {ls : List (Nat × Value)} {st : List Value} (hX : km_ok E X R cc nL Ts own) {x y : Int32} (hd : decode cc pc = .ok (.imul, 1)) (k : km_G E X nL sh mi mr cl sl (pc + 1) ls (.int (x * y) :: st)) : km_G E X nL sh mi mr cl sl pc ls (.int y :: .int x :: st) := by
  obtain ⟨p, l, e, R', s, m, args, below, meth, c, Q⟩ := X
  obtain ⟨⟨hx, hb, hml, hown, hts⟩, rfl, hK, hsz⟩ := hX
  exact fun H locs larr hw hs hl => lv_imul hx hb hd (k H locs larr hw hs hl)
theorem km_iand {E : km_E} {X : km_X} {R : Room} {cc : ByteArray} {nL : Nat} {Ts : List Cond} {own : String} {sh : km_S} {mi : km_I} {mr : km_R} {cl sl pc : Nat} {ls : List (Nat × Value)} {st : List Value} (hX : km_ok E X R cc nL Ts own) {x y : Int32} (hd : decode cc pc = .ok (.iand, 1)) (k : km_G E X nL sh mi mr cl sl (pc + 1) ls (.int (x &&& y) :: st)) : km_G E X nL sh mi mr cl sl pc ls (.int y :: .int x :: st) := by
  obtain ⟨p, l, e, R', s, m, args, below, meth, c, Q⟩ := X
  obtain ⟨⟨hx, hb, hml, hown, hts⟩, rfl, hK, hsz⟩ := hX
  exact fun H locs larr hw hs hl => lv_iand hx hb hd (k H locs larr hw hs hl)
theorem km_ior {E : km_E} {X : km_X} {R : Room} {cc : ByteArray} {nL : Nat} {Ts : List Cond} {own : String} {sh : km_S} {mi : km_I} {mr : km_R} {cl sl pc : Nat} {ls : List (Nat × Value)} {st : List Value} (hX : km_ok E X R cc nL Ts own) {x y : Int32} (hd : decode cc pc = .ok (.ior, 1)) (k : km_G E X nL sh mi mr cl sl (pc + 1) ls (.int (x ||| y) :: st)) : km_G E X nL sh mi mr cl sl pc ls (.int y :: .int x :: st) := by
  obtain ⟨p, l, e, R', s, m, args, below, meth, c, Q⟩ := X
  obtain ⟨⟨hx, hb, hml, hown, hts⟩, rfl, hK, hsz⟩ := hX
  exact fun H locs larr hw hs hl => lv_ior hx hb hd (k H locs larr hw hs hl)
theorem km_ixor {E : km_E} {X : km_X} {R : Room} {cc : ByteArray} {nL : Nat} {Ts : List Cond} {own : String} {sh : km_S} {mi : km_I} {mr : km_R} {cl sl pc : Nat} {ls : List (Nat × Value)} {st : List Value} (hX : km_ok E X R cc nL Ts own) {x y : Int32} (hd : decode cc pc = .ok (.ixor, 1)) (k : km_G E X nL sh mi mr cl sl (pc + 1) ls (.int (x ^^^ y) :: st)) : km_G E X nL sh mi mr cl sl pc ls (.int y :: .int x :: st) := by
  obtain ⟨p, l, e, R', s, m, args, below, meth, c, Q⟩ := X
  obtain ⟨⟨hx, hb, hml, hown, hts⟩, rfl, hK, hsz⟩ := hX
  exact fun H locs larr hw hs hl => lv_ixor hx hb hd (k H locs larr hw hs hl)
theorem km_ishl {E : km_E} {X : km_X} {R : Room} {cc : ByteArray} {nL : Nat} {Ts : List Cond} {own : String} {sh : km_S} {mi : km_I} {mr : km_R} {cl sl pc : Nat} {ls : List (Nat × Value)} {st : List Value} (hX : km_ok E X R cc nL Ts own) {x y : Int32} (hd : decode cc pc = .ok (.ishl, 1)) (k : km_G E X nL sh mi mr cl sl (pc + 1) ls (.int (x <<< (y &&& 31)) :: st)) : km_G E X nL sh mi mr cl sl pc ls (.int y :: .int x :: st) := by
  obtain ⟨p, l, e, R', s, m, args, below, meth, c, Q⟩ := X
  obtain ⟨⟨hx, hb, hml, hown, hts⟩, rfl, hK, hsz⟩ := hX
  exact fun H locs larr hw hs hl => lv_ishl hx hb hd (k H locs larr hw hs hl)
theorem km_ishr {E : km_E} {X : km_X} {R : Room} {cc : ByteArray} {nL : Nat} {Ts : List Cond} {own : String} {sh : km_S} {mi : km_I} {mr : km_R} {cl sl pc : Nat} {ls : List (Nat × Value)} {st : List Value} (hX : km_ok E X R cc nL Ts own) {x y : Int32} (hd : decode cc pc = .ok (.ishr, 1)) (k : km_G E X nL sh mi mr cl sl (pc + 1) ls (.int (x >>> (y &&& 31)) :: st)) : km_G E X nL sh mi mr cl sl pc ls (.int y :: .int x :: st) := by
  obtain ⟨p, l, e, R', s, m, args, below, meth, c, Q⟩ := X
  obtain ⟨⟨hx, hb, hml, hown, hts⟩, rfl, hK, hsz⟩ := hX
  exact fun H locs larr hw hs hl => lv_ishr hx hb hd (k H locs larr hw hs hl)
theorem km_idiv {E : km_E} {X : km_X} {R : Room} {cc : ByteArray} {nL : Nat} {Ts : List Cond} {own : String} {sh : km_S} {mi : km_I} {mr : km_R} {cl sl pc : Nat} {ls : List (Nat × Value)} {st : List Value} (hX : km_ok E X R cc nL Ts own) {x y : Int32} (hne : ¬ y = 0) (hd : decode cc pc = .ok (.idiv, 1)) (k : km_G E X nL sh mi mr cl sl (pc + 1) ls (.int (x / y) :: st)) : km_G E X nL sh mi mr cl sl pc ls (.int y :: .int x :: st) := by
  obtain ⟨p, l, e, R', s, m, args, below, meth, c, Q⟩ := X
  obtain ⟨⟨hx, hb, hml, hown, hts⟩, rfl, hK, hsz⟩ := hX
  exact fun H locs larr hw hs hl => lv_idiv hx hb hd hne (k H locs larr hw hs hl)
theorem km_irem {E : km_E} {X : km_X} {R : Room} {cc : ByteArray} {nL : Nat} {Ts : List Cond} {own : String} {sh : km_S} {mi : km_I} {mr : km_R} {cl sl pc : Nat} {ls : List (Nat × Value)} {st : List Value} (hX : km_ok E X R cc nL Ts own) {x y : Int32} (hne : ¬ y = 0) (hd : decode cc pc = .ok (.irem, 1)) (k : km_G E X nL sh mi mr cl sl (pc + 1) ls (.int (x - x / y * y) :: st)) : km_G E X nL sh mi mr cl sl pc ls (.int y :: .int x :: st) := by
  obtain ⟨p, l, e, R', s, m, args, below, meth, c, Q⟩ := X
  obtain ⟨⟨hx, hb, hml, hown, hts⟩, rfl, hK, hsz⟩ := hX
  exact fun H locs larr hw hs hl => lv_irem hx hb hd hne (k H locs larr hw hs hl)
theorem km_iushr {E : km_E} {X : km_X} {R : Room} {cc : ByteArray} {nL : Nat} {Ts : List Cond} {own : String} {sh : km_S} {mi : km_I} {mr : km_R} {cl sl pc : Nat} {ls : List (Nat × Value)} {st : List Value} (hX : km_ok E X R cc nL Ts own) {x y v : Int32} (hv : (x.toUInt32 >>> (y.toUInt32 &&& Int32.toUInt32 31)).toInt32 = v) (hd : decode cc pc = .ok (.iushr, 1)) (k : km_G E X nL sh mi mr cl sl (pc + 1) ls (.int v :: st)) : km_G E X nL sh mi mr cl sl pc ls (.int y :: .int x :: st) := by
  obtain ⟨p, l, e, R', s, m, args, below, meth, c, Q⟩ := X
  obtain ⟨⟨hx, hb, hml, hown, hts⟩, rfl, hK, hsz⟩ := hX
  exact fun H locs larr hw hs hl => lv_iushr hx hb hd hv (k H locs larr hw hs hl)
theorem km_iconst {E : km_E} {X : km_X} {R : Room} {cc : ByteArray} {nL : Nat} {Ts : List Cond} {own : String} {sh : km_S} {mi : km_I} {mr : km_R} {cl sl pc : Nat} {ls : List (Nat × Value)} {st : List Value} (hX : km_ok E X R cc nL Ts own) {n : Int} {v : Int32} (hd : decode cc pc = .ok (.iconst n, 1)) (hv : Int32.ofInt n = v) (k : km_G E X nL sh mi mr cl sl (pc + 1) ls (.int v :: st)) : km_G E X nL sh mi mr cl sl pc ls st := by
  obtain ⟨p, l, e, R', s, m, args, below, meth, c, Q⟩ := X
  obtain ⟨⟨hx, hb, hml, hown, hts⟩, rfl, hK, hsz⟩ := hX
  exact fun H locs larr hw hs hl => lv_iconst hx hb hd hv (k H locs larr hw hs hl)
theorem km_bipush {E : km_E} {X : km_X} {R : Room} {cc : ByteArray} {nL : Nat} {Ts : List Cond} {own : String} {sh : km_S} {mi : km_I} {mr : km_R} {cl sl pc : Nat} {ls : List (Nat × Value)} {st : List Value} (hX : km_ok E X R cc nL Ts own) {n : Int} {v : Int32} (hd : decode cc pc = .ok (.bipush n, 2)) (hv : (Int8.ofInt n).toInt32 = v) (k : km_G E X nL sh mi mr cl sl (pc + 2) ls (.int v :: st)) : km_G E X nL sh mi mr cl sl pc ls st := by
  obtain ⟨p, l, e, R', s, m, args, below, meth, c, Q⟩ := X
  obtain ⟨⟨hx, hb, hml, hown, hts⟩, rfl, hK, hsz⟩ := hX
  exact fun H locs larr hw hs hl => lv_bipush hx hb hd hv (k H locs larr hw hs hl)
theorem km_sipush {E : km_E} {X : km_X} {R : Room} {cc : ByteArray} {nL : Nat} {Ts : List Cond} {own : String} {sh : km_S} {mi : km_I} {mr : km_R} {cl sl pc : Nat} {ls : List (Nat × Value)} {st : List Value} (hX : km_ok E X R cc nL Ts own) {n : Int} {v : Int32} (hd : decode cc pc = .ok (.sipush n, 3)) (hv : (Int16.ofInt n).toInt32 = v) (k : km_G E X nL sh mi mr cl sl (pc + 3) ls (.int v :: st)) : km_G E X nL sh mi mr cl sl pc ls st := by
  obtain ⟨p, l, e, R', s, m, args, below, meth, c, Q⟩ := X
  obtain ⟨⟨hx, hb, hml, hown, hts⟩, rfl, hK, hsz⟩ := hX
  exact fun H locs larr hw hs hl => lv_sipush hx hb hd hv (k H locs larr hw hs hl)
theorem km_ldc_w {E : km_E} {X : km_X} {R : Room} {cc : ByteArray} {nL : Nat} {Ts : List Cond} {own : String} {sh : km_S} {mi : km_I} {mr : km_R} {cl sl pc : Nat} {ls : List (Nat × Value)} {st : List Value} (hX : km_ok E X R cc nL Ts own) {index : Nat} {v : Int32} (hd : decode cc pc = .ok (.ldc_w index, 3)) (hc : Jvm.Cond.constant own index v ∈ Ts) (k : km_G E X nL sh mi mr cl sl (pc + 3) ls (.int v :: st)) : km_G E X nL sh mi mr cl sl pc ls st := by
  obtain ⟨p, l, e, R', s, m, args, below, meth, c, Q⟩ := X
  obtain ⟨⟨hx, hb, hml, hown, hts⟩, rfl, hK, hsz⟩ := hX
  exact fun H locs larr hw hs hl => lv_ldcw hx hb hown (hts _ hc) hd (k H locs larr hw hs hl)
theorem km_ldc {E : km_E} {X : km_X} {R : Room} {cc : ByteArray} {nL : Nat} {Ts : List Cond} {own : String} {sh : km_S} {mi : km_I} {mr : km_R} {cl sl pc : Nat} {ls : List (Nat × Value)} {st : List Value} (hX : km_ok E X R cc nL Ts own) {index : Nat} {v : Int32} (hd : decode cc pc = .ok (.ldc index, 2)) (hc : Jvm.Cond.constant own index v ∈ Ts) (k : km_G E X nL sh mi mr cl sl (pc + 2) ls (.int v :: st)) : km_G E X nL sh mi mr cl sl pc ls st := by
  obtain ⟨p, l, e, R', s, m, args, below, meth, c, Q⟩ := X
  obtain ⟨⟨hx, hb, hml, hown, hts⟩, rfl, hK, hsz⟩ := hX
  exact fun H locs larr hw hs hl => lv_ldc hx hb hown (hts _ hc) hd (k H locs larr hw hs hl)
theorem km_iload {E : km_E} {X : km_X} {R : Room} {cc : ByteArray} {nL : Nat} {Ts : List Cond} {own : String} {sh : km_S} {mi : km_I} {mr : km_R} {cl sl pc : Nat} {ls : List (Nat × Value)} {st : List Value} (hX : km_ok E X R cc nL Ts own) {i : Nat} {x : Int32} (hd : decode cc pc = .ok (.iload i, 2)) (hv : km_lk ls i = some (.int x)) (k : km_G E X nL sh mi mr cl sl (pc + 2) ls (.int x :: st)) : km_G E X nL sh mi mr cl sl pc ls st := by
  obtain ⟨p, l, e, R', s, m, args, below, meth, c, Q⟩ := X
  obtain ⟨⟨hx, hb, hml, hown, hts⟩, rfl, hK, hsz⟩ := hX
  exact fun H locs larr hw hs hl => lv_iload hx hb hd (km_lk_at hl hv) (k H locs larr hw hs hl)
theorem km_iload_n {E : km_E} {X : km_X} {R : Room} {cc : ByteArray} {nL : Nat} {Ts : List Cond} {own : String} {sh : km_S} {mi : km_I} {mr : km_R} {cl sl pc : Nat} {ls : List (Nat × Value)} {st : List Value} (hX : km_ok E X R cc nL Ts own) {i : Fin 4} {x : Int32} (hd : decode cc pc = .ok (.iload_n i, 1)) (hv : km_lk ls i.val = some (.int x)) (k : km_G E X nL sh mi mr cl sl (pc + 1) ls (.int x :: st)) : km_G E X nL sh mi mr cl sl pc ls st := by
  obtain ⟨p, l, e, R', s, m, args, below, meth, c, Q⟩ := X
  obtain ⟨⟨hx, hb, hml, hown, hts⟩, rfl, hK, hsz⟩ := hX
  exact fun H locs larr hw hs hl => lv_iload_n hx hb hd rfl (km_lk_at hl hv) (k H locs larr hw hs hl)
theorem km_aload {E : km_E} {X : km_X} {R : Room} {cc : ByteArray} {nL : Nat} {Ts : List Cond} {own : String} {sh : km_S} {mi : km_I} {mr : km_R} {cl sl pc : Nat} {ls : List (Nat × Value)} {st : List Value} (hX : km_ok E X R cc nL Ts own) {i : Nat} {v : Value} (hd : decode cc pc = .ok (.aload i, 2)) (hv : km_lk ls i = some v) (hr : km_isr v = true) (k : km_G E X nL sh mi mr cl sl (pc + 2) ls (v :: st)) : km_G E X nL sh mi mr cl sl pc ls st := by
  obtain ⟨p, l, e, R', s, m, args, below, meth, c, Q⟩ := X
  obtain ⟨⟨hx, hb, hml, hown, hts⟩, rfl, hK, hsz⟩ := hX
  intro H locs larr hw hs hl
  obtain ⟨a, ha⟩ := km_isr_at (E := E) hr
  have h1 := km_lk_at hl hv
  rw [ha] at h1
  have h2 := k H locs larr hw hs hl
  rw [show ((v :: st).map (km_v E)) = .ref a :: st.map (km_v E) from by rw [List.map_cons, ha]] at h2
  exact lv_aload hx hb hd h1 h2
theorem km_aload_n {E : km_E} {X : km_X} {R : Room} {cc : ByteArray} {nL : Nat} {Ts : List Cond} {own : String} {sh : km_S} {mi : km_I} {mr : km_R} {cl sl pc : Nat} {ls : List (Nat × Value)} {st : List Value} (hX : km_ok E X R cc nL Ts own) {i : Fin 4} {v : Value} (hd : decode cc pc = .ok (.aload_n i, 1)) (hv : km_lk ls i.val = some v) (hr : km_isr v = true) (k : km_G E X nL sh mi mr cl sl (pc + 1) ls (v :: st)) : km_G E X nL sh mi mr cl sl pc ls st := by
  obtain ⟨p, l, e, R', s, m, args, below, meth, c, Q⟩ := X
  obtain ⟨⟨hx, hb, hml, hown, hts⟩, rfl, hK, hsz⟩ := hX
  intro H locs larr hw hs hl
  obtain ⟨a, ha⟩ := km_isr_at (E := E) hr
  have h1 := km_lk_at hl hv
  rw [ha] at h1
  have h2 := k H locs larr hw hs hl
  rw [show ((v :: st).map (km_v E)) = .ref a :: st.map (km_v E) from by rw [List.map_cons, ha]] at h2
  exact lv_aload_n hx hb hd rfl h1 h2
theorem km_istore {E : km_E} {X : km_X} {R : Room} {cc : ByteArray} {nL : Nat} {Ts : List Cond} {own : String} {sh : km_S} {mi : km_I} {mr : km_R} {cl sl pc : Nat} {ls : List (Nat × Value)} {st : List Value} (hX : km_ok E X R cc nL Ts own) {i : Nat} {x : Int32} (hd : decode cc pc = .ok (.istore i, 2)) (hn : i < nL) (k : km_G E X nL sh mi mr cl sl (pc + 2) (km_st ls i (.int x)) st) : km_G E X nL sh mi mr cl sl pc ls (.int x :: st) := by
  obtain ⟨p, l, e, R', s, m, args, below, meth, c, Q⟩ := X
  obtain ⟨⟨hx, hb, hml, hown, hts⟩, rfl, hK, hsz⟩ := hX
  exact fun H locs larr hw hs hl => lv_istore hx hb hd hl hn (km_st_eq E ls i (.int x)) (fun ls' hl' => k H locs ls' hw hs hl')
theorem km_istore_n {E : km_E} {X : km_X} {R : Room} {cc : ByteArray} {nL : Nat} {Ts : List Cond} {own : String} {sh : km_S} {mi : km_I} {mr : km_R} {cl sl pc : Nat} {ls : List (Nat × Value)} {st : List Value} (hX : km_ok E X R cc nL Ts own) {i : Fin 4} {x : Int32} (hd : decode cc pc = .ok (.istore_n i, 1)) (hn : i.val < nL) (k : km_G E X nL sh mi mr cl sl (pc + 1) (km_st ls i.val (.int x)) st) : km_G E X nL sh mi mr cl sl pc ls (.int x :: st) := by
  obtain ⟨p, l, e, R', s, m, args, below, meth, c, Q⟩ := X
  obtain ⟨⟨hx, hb, hml, hown, hts⟩, rfl, hK, hsz⟩ := hX
  exact fun H locs larr hw hs hl => lv_istore_n hx hb hd rfl hl hn (km_st_eq E ls i.val (.int x)) (fun ls' hl' => k H locs ls' hw hs hl')
theorem km_astore {E : km_E} {X : km_X} {R : Room} {cc : ByteArray} {nL : Nat} {Ts : List Cond} {own : String} {sh : km_S} {mi : km_I} {mr : km_R} {cl sl pc : Nat} {ls : List (Nat × Value)} {st : List Value} (hX : km_ok E X R cc nL Ts own) {i a : Nat} (hd : decode cc pc = .ok (.astore i, 2)) (hn : i < nL) (k : km_G E X nL sh mi mr cl sl (pc + 2) (km_st ls i (.ref a)) st) : km_G E X nL sh mi mr cl sl pc ls (.ref a :: st) := by
  obtain ⟨p, l, e, R', s, m, args, below, meth, c, Q⟩ := X
  obtain ⟨⟨hx, hb, hml, hown, hts⟩, rfl, hK, hsz⟩ := hX
  exact fun H locs larr hw hs hl => lv_astore hx hb hd hl hn (km_st_eq E ls i (.ref a)) (fun ls' hl' => k H locs ls' hw hs hl')
theorem km_astore_n {E : km_E} {X : km_X} {R : Room} {cc : ByteArray} {nL : Nat} {Ts : List Cond} {own : String} {sh : km_S} {mi : km_I} {mr : km_R} {cl sl pc : Nat} {ls : List (Nat × Value)} {st : List Value} (hX : km_ok E X R cc nL Ts own) {i : Fin 4} {a : Nat} (hd : decode cc pc = .ok (.astore_n i, 1)) (hn : i.val < nL) (k : km_G E X nL sh mi mr cl sl (pc + 1) (km_st ls i.val (.ref a)) st) : km_G E X nL sh mi mr cl sl pc ls (.ref a :: st) := by
  obtain ⟨p, l, e, R', s, m, args, below, meth, c, Q⟩ := X
  obtain ⟨⟨hx, hb, hml, hown, hts⟩, rfl, hK, hsz⟩ := hX
  exact fun H locs larr hw hs hl => lv_astore_n hx hb hd rfl hl hn (km_st_eq E ls i.val (.ref a)) (fun ls' hl' => k H locs ls' hw hs hl')
theorem km_iinc {E : km_E} {X : km_X} {R : Room} {cc : ByteArray} {nL : Nat} {Ts : List Cond} {own : String} {sh : km_S} {mi : km_I} {mr : km_R} {cl sl pc : Nat} {ls : List (Nat × Value)} {st : List Value} (hX : km_ok E X R cc nL Ts own) {i : Nat} {n : Int} {x v : Int32} (hd : decode cc pc = .ok (.iinc i n, 3)) (hv9 : Int32.ofInt n = v) (hv : km_lk ls i = some (.int x)) (hn : i < nL) (k : km_G E X nL sh mi mr cl sl (pc + 3) (km_st ls i (.int (x + v))) st) : km_G E X nL sh mi mr cl sl pc ls st := by
  obtain ⟨p, l, e, R', s, m, args, below, meth, c, Q⟩ := X
  obtain ⟨⟨hx, hb, hml, hown, hts⟩, rfl, hK, hsz⟩ := hX
  intro H locs larr hw hs hl
  obtain ⟨j, hj⟩ := List.getElem?_of_mem (km_lk_mem hv)
  exact lv_iinc (k := j) hx hb hd hl (by rw [List.getElem?_map, hj]; rfl) (by rw [hv9]) hn (km_st_eq E ls i (.int (x + v))) (fun ls' hl' => k H locs ls' hw hs hl')
theorem km_dup {E : km_E} {X : km_X} {R : Room} {cc : ByteArray} {nL : Nat} {Ts : List Cond} {own : String} {sh : km_S} {mi : km_I} {mr : km_R} {cl sl pc : Nat} {ls : List (Nat × Value)} {st : List Value} (hX : km_ok E X R cc nL Ts own) {v : Value} (hd : decode cc pc = .ok (.dup, 1)) (k : km_G E X nL sh mi mr cl sl (pc + 1) ls (v :: v :: st)) : km_G E X nL sh mi mr cl sl pc ls (v :: st) := by
  obtain ⟨p, l, e, R', s, m, args, below, meth, c, Q⟩ := X
  obtain ⟨⟨hx, hb, hml, hown, hts⟩, rfl, hK, hsz⟩ := hX
  exact fun H locs larr hw hs hl => lv_dup hx hb hd (km_v_cat E _) (k H locs larr hw hs hl)
theorem km_pop {E : km_E} {X : km_X} {R : Room} {cc : ByteArray} {nL : Nat} {Ts : List Cond} {own : String} {sh : km_S} {mi : km_I} {mr : km_R} {cl sl pc : Nat} {ls : List (Nat × Value)} {st : List Value} (hX : km_ok E X R cc nL Ts own) {v : Value} (hd : decode cc pc = .ok (.pop, 1)) (k : km_G E X nL sh mi mr cl sl (pc + 1) ls st) : km_G E X nL sh mi mr cl sl pc ls (v :: st) := by
  obtain ⟨p, l, e, R', s, m, args, below, meth, c, Q⟩ := X
  obtain ⟨⟨hx, hb, hml, hown, hts⟩, rfl, hK, hsz⟩ := hX
  exact fun H locs larr hw hs hl => lv_pop hx hb hd (km_v_cat E _) (k H locs larr hw hs hl)
theorem km_dup_x1 {E : km_E} {X : km_X} {R : Room} {cc : ByteArray} {nL : Nat} {Ts : List Cond} {own : String} {sh : km_S} {mi : km_I} {mr : km_R} {cl sl pc : Nat} {ls : List (Nat × Value)} {st : List Value} (hX : km_ok E X R cc nL Ts own) {v w : Value} (hd : decode cc pc = .ok (.dup_x1, 1)) (k : km_G E X nL sh mi mr cl sl (pc + 1) ls (v :: w :: v :: st)) : km_G E X nL sh mi mr cl sl pc ls (v :: w :: st) := by
  obtain ⟨p, l, e, R', s, m, args, below, meth, c, Q⟩ := X
  obtain ⟨⟨hx, hb, hml, hown, hts⟩, rfl, hK, hsz⟩ := hX
  exact fun H locs larr hw hs hl => lv_dup_x1 hx hb hd (km_v_cat E _) (km_v_cat E _) (k H locs larr hw hs hl)
theorem km_dup_x2 {E : km_E} {X : km_X} {R : Room} {cc : ByteArray} {nL : Nat} {Ts : List Cond} {own : String} {sh : km_S} {mi : km_I} {mr : km_R} {cl sl pc : Nat} {ls : List (Nat × Value)} {st : List Value} (hX : km_ok E X R cc nL Ts own) {v w z : Value} (hd : decode cc pc = .ok (.dup_x2, 1)) (k : km_G E X nL sh mi mr cl sl (pc + 1) ls (v :: w :: z :: v :: st)) : km_G E X nL sh mi mr cl sl pc ls (v :: w :: z :: st) := by
  obtain ⟨p, l, e, R', s, m, args, below, meth, c, Q⟩ := X
  obtain ⟨⟨hx, hb, hml, hown, hts⟩, rfl, hK, hsz⟩ := hX
  exact fun H locs larr hw hs hl => lv_dup_x2 hx hb hd (km_v_cat E _) (km_v_cat E _) (km_v_cat E _) (k H locs larr hw hs hl)
theorem km_dup2 {E : km_E} {X : km_X} {R : Room} {cc : ByteArray} {nL : Nat} {Ts : List Cond} {own : String} {sh : km_S} {mi : km_I} {mr : km_R} {cl sl pc : Nat} {ls : List (Nat × Value)} {st : List Value} (hX : km_ok E X R cc nL Ts own) {v w : Value} (hd : decode cc pc = .ok (.dup2, 1)) (k : km_G E X nL sh mi mr cl sl (pc + 1) ls (v :: w :: v :: w :: st)) : km_G E X nL sh mi mr cl sl pc ls (v :: w :: st) := by
  obtain ⟨p, l, e, R', s, m, args, below, meth, c, Q⟩ := X
  obtain ⟨⟨hx, hb, hml, hown, hts⟩, rfl, hK, hsz⟩ := hX
  exact fun H locs larr hw hs hl => lv_dup2_11 hx hb hd (km_v_cat E _) (km_v_cat E _) (k H locs larr hw hs hl)
theorem km_goto {E : km_E} {X : km_X} {R : Room} {cc : ByteArray} {nL : Nat} {Ts : List Cond} {own : String} {sh : km_S} {mi : km_I} {mr : km_R} {cl sl pc : Nat} {ls : List (Nat × Value)} {st : List Value} (hX : km_ok E X R cc nL Ts own) {off : Int} {tgt : Nat} (hd : decode cc pc = .ok (.goto off, 3)) (ht : (pc : Int) + off = (tgt : Int)) (k : km_G E X nL sh mi mr cl sl tgt ls st) : km_G E X nL sh mi mr cl sl pc ls st := by
  obtain ⟨p, l, e, R', s, m, args, below, meth, c, Q⟩ := X
  obtain ⟨⟨hx, hb, hml, hown, hts⟩, rfl, hK, hsz⟩ := hX
  exact fun H locs larr hw hs hl => lv_goto hx hb hd ht (k H locs larr hw hs hl)
theorem km_icmp_eq {E : km_E} {X : km_X} {R : Room} {cc : ByteArray} {nL : Nat} {Ts : List Cond} {own : String} {sh : km_S} {mi : km_I} {mr : km_R} {cl sl pc : Nat} {ls : List (Nat × Value)} {st : List Value} (hX : km_ok E X R cc nL Ts own) {x y : Int32} {off : Int} {tgt : Nat} (hd : decode cc pc = .ok (.if_icmp .eq off, 3)) (ht : (pc : Int) + off = (tgt : Int)) (kt : x = y → km_G E X nL sh mi mr cl sl tgt ls st) (kf : ¬ x = y → km_G E X nL sh mi mr cl sl (pc + 3) ls st) : km_G E X nL sh mi mr cl sl pc ls (.int y :: .int x :: st) := by
  obtain ⟨p, l, e, R', s, m, args, below, meth, c, Q⟩ := X
  obtain ⟨⟨hx, hb, hml, hown, hts⟩, rfl, hK, hsz⟩ := hX
  exact fun H locs larr hw hs hl => lv_icmp_eq hx hb hd ht (fun h => kt h H locs larr hw hs hl) (fun h => kf h H locs larr hw hs hl)
theorem km_if_eq {E : km_E} {X : km_X} {R : Room} {cc : ByteArray} {nL : Nat} {Ts : List Cond} {own : String} {sh : km_S} {mi : km_I} {mr : km_R} {cl sl pc : Nat} {ls : List (Nat × Value)} {st : List Value} (hX : km_ok E X R cc nL Ts own) {x : Int32} {off : Int} {tgt : Nat} (hd : decode cc pc = .ok (.ifCond .eq off, 3)) (ht : (pc : Int) + off = (tgt : Int)) (kt : x = 0 → km_G E X nL sh mi mr cl sl tgt ls st) (kf : ¬ x = 0 → km_G E X nL sh mi mr cl sl (pc + 3) ls st) : km_G E X nL sh mi mr cl sl pc ls (.int x :: st) := by
  obtain ⟨p, l, e, R', s, m, args, below, meth, c, Q⟩ := X
  obtain ⟨⟨hx, hb, hml, hown, hts⟩, rfl, hK, hsz⟩ := hX
  exact fun H locs larr hw hs hl => lv_if_eq hx hb hd ht (fun h => kt h H locs larr hw hs hl) (fun h => kf h H locs larr hw hs hl)
theorem km_icmp_ne {E : km_E} {X : km_X} {R : Room} {cc : ByteArray} {nL : Nat} {Ts : List Cond} {own : String} {sh : km_S} {mi : km_I} {mr : km_R} {cl sl pc : Nat} {ls : List (Nat × Value)} {st : List Value} (hX : km_ok E X R cc nL Ts own) {x y : Int32} {off : Int} {tgt : Nat} (hd : decode cc pc = .ok (.if_icmp .ne off, 3)) (ht : (pc : Int) + off = (tgt : Int)) (kt : ¬ x = y → km_G E X nL sh mi mr cl sl tgt ls st) (kf : x = y → km_G E X nL sh mi mr cl sl (pc + 3) ls st) : km_G E X nL sh mi mr cl sl pc ls (.int y :: .int x :: st) := by
  obtain ⟨p, l, e, R', s, m, args, below, meth, c, Q⟩ := X
  obtain ⟨⟨hx, hb, hml, hown, hts⟩, rfl, hK, hsz⟩ := hX
  exact fun H locs larr hw hs hl => lv_icmp_ne hx hb hd ht (fun h => kt h H locs larr hw hs hl) (fun h => kf h H locs larr hw hs hl)
theorem km_if_ne {E : km_E} {X : km_X} {R : Room} {cc : ByteArray} {nL : Nat} {Ts : List Cond} {own : String} {sh : km_S} {mi : km_I} {mr : km_R} {cl sl pc : Nat} {ls : List (Nat × Value)} {st : List Value} (hX : km_ok E X R cc nL Ts own) {x : Int32} {off : Int} {tgt : Nat} (hd : decode cc pc = .ok (.ifCond .ne off, 3)) (ht : (pc : Int) + off = (tgt : Int)) (kt : ¬ x = 0 → km_G E X nL sh mi mr cl sl tgt ls st) (kf : x = 0 → km_G E X nL sh mi mr cl sl (pc + 3) ls st) : km_G E X nL sh mi mr cl sl pc ls (.int x :: st) := by
  obtain ⟨p, l, e, R', s, m, args, below, meth, c, Q⟩ := X
  obtain ⟨⟨hx, hb, hml, hown, hts⟩, rfl, hK, hsz⟩ := hX
  exact fun H locs larr hw hs hl => lv_if_ne hx hb hd ht (fun h => kt h H locs larr hw hs hl) (fun h => kf h H locs larr hw hs hl)
theorem km_icmp_lt {E : km_E} {X : km_X} {R : Room} {cc : ByteArray} {nL : Nat} {Ts : List Cond} {own : String} {sh : km_S} {mi : km_I} {mr : km_R} {cl sl pc : Nat} {ls : List (Nat × Value)} {st : List Value} (hX : km_ok E X R cc nL Ts own) {x y : Int32} {off : Int} {tgt : Nat} (hd : decode cc pc = .ok (.if_icmp .lt off, 3)) (ht : (pc : Int) + off = (tgt : Int)) (kt : x < y → km_G E X nL sh mi mr cl sl tgt ls st) (kf : ¬ x < y → km_G E X nL sh mi mr cl sl (pc + 3) ls st) : km_G E X nL sh mi mr cl sl pc ls (.int y :: .int x :: st) := by
  obtain ⟨p, l, e, R', s, m, args, below, meth, c, Q⟩ := X
  obtain ⟨⟨hx, hb, hml, hown, hts⟩, rfl, hK, hsz⟩ := hX
  exact fun H locs larr hw hs hl => lv_icmp_lt hx hb hd ht (fun h => kt h H locs larr hw hs hl) (fun h => kf h H locs larr hw hs hl)
theorem km_if_lt {E : km_E} {X : km_X} {R : Room} {cc : ByteArray} {nL : Nat} {Ts : List Cond} {own : String} {sh : km_S} {mi : km_I} {mr : km_R} {cl sl pc : Nat} {ls : List (Nat × Value)} {st : List Value} (hX : km_ok E X R cc nL Ts own) {x : Int32} {off : Int} {tgt : Nat} (hd : decode cc pc = .ok (.ifCond .lt off, 3)) (ht : (pc : Int) + off = (tgt : Int)) (kt : x < 0 → km_G E X nL sh mi mr cl sl tgt ls st) (kf : ¬ x < 0 → km_G E X nL sh mi mr cl sl (pc + 3) ls st) : km_G E X nL sh mi mr cl sl pc ls (.int x :: st) := by
  obtain ⟨p, l, e, R', s, m, args, below, meth, c, Q⟩ := X
  obtain ⟨⟨hx, hb, hml, hown, hts⟩, rfl, hK, hsz⟩ := hX
  exact fun H locs larr hw hs hl => lv_if_lt hx hb hd ht (fun h => kt h H locs larr hw hs hl) (fun h => kf h H locs larr hw hs hl)
theorem km_icmp_ge {E : km_E} {X : km_X} {R : Room} {cc : ByteArray} {nL : Nat} {Ts : List Cond} {own : String} {sh : km_S} {mi : km_I} {mr : km_R} {cl sl pc : Nat} {ls : List (Nat × Value)} {st : List Value} (hX : km_ok E X R cc nL Ts own) {x y : Int32} {off : Int} {tgt : Nat} (hd : decode cc pc = .ok (.if_icmp .ge off, 3)) (ht : (pc : Int) + off = (tgt : Int)) (kt : y ≤ x → km_G E X nL sh mi mr cl sl tgt ls st) (kf : ¬ y ≤ x → km_G E X nL sh mi mr cl sl (pc + 3) ls st) : km_G E X nL sh mi mr cl sl pc ls (.int y :: .int x :: st) := by
  obtain ⟨p, l, e, R', s, m, args, below, meth, c, Q⟩ := X
  obtain ⟨⟨hx, hb, hml, hown, hts⟩, rfl, hK, hsz⟩ := hX
  exact fun H locs larr hw hs hl => lv_icmp_ge hx hb hd ht (fun h => kt h H locs larr hw hs hl) (fun h => kf h H locs larr hw hs hl)
theorem km_if_ge {E : km_E} {X : km_X} {R : Room} {cc : ByteArray} {nL : Nat} {Ts : List Cond} {own : String} {sh : km_S} {mi : km_I} {mr : km_R} {cl sl pc : Nat} {ls : List (Nat × Value)} {st : List Value} (hX : km_ok E X R cc nL Ts own) {x : Int32} {off : Int} {tgt : Nat} (hd : decode cc pc = .ok (.ifCond .ge off, 3)) (ht : (pc : Int) + off = (tgt : Int)) (kt : 0 ≤ x → km_G E X nL sh mi mr cl sl tgt ls st) (kf : ¬ 0 ≤ x → km_G E X nL sh mi mr cl sl (pc + 3) ls st) : km_G E X nL sh mi mr cl sl pc ls (.int x :: st) := by
  obtain ⟨p, l, e, R', s, m, args, below, meth, c, Q⟩ := X
  obtain ⟨⟨hx, hb, hml, hown, hts⟩, rfl, hK, hsz⟩ := hX
  exact fun H locs larr hw hs hl => lv_if_ge hx hb hd ht (fun h => kt h H locs larr hw hs hl) (fun h => kf h H locs larr hw hs hl)
theorem km_icmp_gt {E : km_E} {X : km_X} {R : Room} {cc : ByteArray} {nL : Nat} {Ts : List Cond} {own : String} {sh : km_S} {mi : km_I} {mr : km_R} {cl sl pc : Nat} {ls : List (Nat × Value)} {st : List Value} (hX : km_ok E X R cc nL Ts own) {x y : Int32} {off : Int} {tgt : Nat} (hd : decode cc pc = .ok (.if_icmp .gt off, 3)) (ht : (pc : Int) + off = (tgt : Int)) (kt : y < x → km_G E X nL sh mi mr cl sl tgt ls st) (kf : ¬ y < x → km_G E X nL sh mi mr cl sl (pc + 3) ls st) : km_G E X nL sh mi mr cl sl pc ls (.int y :: .int x :: st) := by
  obtain ⟨p, l, e, R', s, m, args, below, meth, c, Q⟩ := X
  obtain ⟨⟨hx, hb, hml, hown, hts⟩, rfl, hK, hsz⟩ := hX
  exact fun H locs larr hw hs hl => lv_icmp_gt hx hb hd ht (fun h => kt h H locs larr hw hs hl) (fun h => kf h H locs larr hw hs hl)
theorem km_if_gt {E : km_E} {X : km_X} {R : Room} {cc : ByteArray} {nL : Nat} {Ts : List Cond} {own : String} {sh : km_S} {mi : km_I} {mr : km_R} {cl sl pc : Nat} {ls : List (Nat × Value)} {st : List Value} (hX : km_ok E X R cc nL Ts own) {x : Int32} {off : Int} {tgt : Nat} (hd : decode cc pc = .ok (.ifCond .gt off, 3)) (ht : (pc : Int) + off = (tgt : Int)) (kt : 0 < x → km_G E X nL sh mi mr cl sl tgt ls st) (kf : ¬ 0 < x → km_G E X nL sh mi mr cl sl (pc + 3) ls st) : km_G E X nL sh mi mr cl sl pc ls (.int x :: st) := by
  obtain ⟨p, l, e, R', s, m, args, below, meth, c, Q⟩ := X
  obtain ⟨⟨hx, hb, hml, hown, hts⟩, rfl, hK, hsz⟩ := hX
  exact fun H locs larr hw hs hl => lv_if_gt hx hb hd ht (fun h => kt h H locs larr hw hs hl) (fun h => kf h H locs larr hw hs hl)
theorem km_icmp_le {E : km_E} {X : km_X} {R : Room} {cc : ByteArray} {nL : Nat} {Ts : List Cond} {own : String} {sh : km_S} {mi : km_I} {mr : km_R} {cl sl pc : Nat} {ls : List (Nat × Value)} {st : List Value} (hX : km_ok E X R cc nL Ts own) {x y : Int32} {off : Int} {tgt : Nat} (hd : decode cc pc = .ok (.if_icmp .le off, 3)) (ht : (pc : Int) + off = (tgt : Int)) (kt : x ≤ y → km_G E X nL sh mi mr cl sl tgt ls st) (kf : ¬ x ≤ y → km_G E X nL sh mi mr cl sl (pc + 3) ls st) : km_G E X nL sh mi mr cl sl pc ls (.int y :: .int x :: st) := by
  obtain ⟨p, l, e, R', s, m, args, below, meth, c, Q⟩ := X
  obtain ⟨⟨hx, hb, hml, hown, hts⟩, rfl, hK, hsz⟩ := hX
  exact fun H locs larr hw hs hl => lv_icmp_le hx hb hd ht (fun h => kt h H locs larr hw hs hl) (fun h => kf h H locs larr hw hs hl)
theorem km_if_le {E : km_E} {X : km_X} {R : Room} {cc : ByteArray} {nL : Nat} {Ts : List Cond} {own : String} {sh : km_S} {mi : km_I} {mr : km_R} {cl sl pc : Nat} {ls : List (Nat × Value)} {st : List Value} (hX : km_ok E X R cc nL Ts own) {x : Int32} {off : Int} {tgt : Nat} (hd : decode cc pc = .ok (.ifCond .le off, 3)) (ht : (pc : Int) + off = (tgt : Int)) (kt : x ≤ 0 → km_G E X nL sh mi mr cl sl tgt ls st) (kf : ¬ x ≤ 0 → km_G E X nL sh mi mr cl sl (pc + 3) ls st) : km_G E X nL sh mi mr cl sl pc ls (.int x :: st) := by
  obtain ⟨p, l, e, R', s, m, args, below, meth, c, Q⟩ := X
  obtain ⟨⟨hx, hb, hml, hown, hts⟩, rfl, hK, hsz⟩ := hX
  exact fun H locs larr hw hs hl => lv_if_le hx hb hd ht (fun h => kt h H locs larr hw hs hl) (fun h => kf h H locs larr hw hs hl)
theorem km_tableOut {E : km_E} {X : km_X} {R : Room} {cc : ByteArray} {nL : Nat} {Ts : List Cond} {own : String} {sh : km_S} {mi : km_I} {mr : km_R} {cl sl pc : Nat} {ls : List (Nat × Value)} {st : List Value} (hX : km_ok E X R cc nL Ts own) {dflt lo hi : Int} {offs : Array Int} {len : Nat} {x : Int32} {tgt : Nat} (hd : decode cc pc = .ok (.tableswitch dflt lo hi offs, len)) (h : x.toInt < lo ∨ hi < x.toInt) (ht : (pc : Int) + dflt = (tgt : Int)) (k : km_G E X nL sh mi mr cl sl tgt ls st) : km_G E X nL sh mi mr cl sl pc ls (.int x :: st) := by
  obtain ⟨p, l, e, R', s, m, args, below, meth, c, Q⟩ := X
  obtain ⟨⟨hx, hb, hml, hown, hts⟩, rfl, hK, hsz⟩ := hX
  exact fun H locs larr hw hs hl => lv_tableOut hx hb hd h ht (k H locs larr hw hs hl)
theorem km_tableIn {E : km_E} {X : km_X} {R : Room} {cc : ByteArray} {nL : Nat} {Ts : List Cond} {own : String} {sh : km_S} {mi : km_I} {mr : km_R} {cl sl pc : Nat} {ls : List (Nat × Value)} {st : List Value} (hX : km_ok E X R cc nL Ts own) {dflt lo hi : Int} {offs : Array Int} {len : Nat} {x : Int32} {off : Int} {tgt : Nat} (hd : decode cc pc = .ok (.tableswitch dflt lo hi offs, len)) (h1 : ¬ x.toInt < lo) (h2 : ¬ hi < x.toInt) (ho : offs[(x.toInt - lo).toNat]? = some off) (ht : (pc : Int) + off = (tgt : Int)) (k : km_G E X nL sh mi mr cl sl tgt ls st) : km_G E X nL sh mi mr cl sl pc ls (.int x :: st) := by
  obtain ⟨p, l, e, R', s, m, args, below, meth, c, Q⟩ := X
  obtain ⟨⟨hx, hb, hml, hown, hts⟩, rfl, hK, hsz⟩ := hX
  exact fun H locs larr hw hs hl => lv_tableIn hx hb hd h1 h2 ho ht (k H locs larr hw hs hl)
theorem km_lookup {E : km_E} {X : km_X} {R : Room} {cc : ByteArray} {nL : Nat} {Ts : List Cond} {own : String} {sh : km_S} {mi : km_I} {mr : km_R} {cl sl pc : Nat} {ls : List (Nat × Value)} {st : List Value} (hX : km_ok E X R cc nL Ts own) {dflt : Int} {ps : Array (Int × Int)} {len : Nat} {x : Int32} {off : Int} {tgt : Nat} (hd : decode cc pc = .ok (.lookupswitch dflt ps, len)) (hp : (ps.toList.zip (ps.toList.drop 1)).all (fun (a, next) => a.1 < next.1) = true) (ho : Op.lookupswitch.offset ps.toList dflt x.toInt = off) (ht : (pc : Int) + off = (tgt : Int)) (k : km_G E X nL sh mi mr cl sl tgt ls st) : km_G E X nL sh mi mr cl sl pc ls (.int x :: st) := by
  obtain ⟨p, l, e, R', s, m, args, below, meth, c, Q⟩ := X
  obtain ⟨⟨hx, hb, hml, hown, hts⟩, rfl, hK, hsz⟩ := hX
  exact fun H locs larr hw hs hl => lv_lookup hx hb hd hp ho ht (k H locs larr hw hs hl)
/-- the words of a field's reading: pool place 'index' of class 'own' is field k of kind ci -/
def km_f (Ts : List Cond) (own : String) (index ci k : Nat) : Prop := ∃ (C : String) (T : u_T) (N : Nat), vwCl[ci]? = some (C, T, N) ∧ k < N ∧ (∀ w ∈ u_ws C T N, w ∈ Ts) ∧ Cond.fieldLink own index (T k).1 (T k).2.1 (T k).2.2.1 ∈ Ts
/-- and of its writing -/
def km_p (Ts : List Cond) (own : String) (index ci k : Nat) (ty : FieldType) (fin : Bool) : Prop := ∃ (C : String) (T : u_T) (N : Nat), vwCl[ci]? = some (C, T, N) ∧ k < N ∧ (∀ w ∈ u_ws C T N, w ∈ Ts) ∧ Cond.fieldLink own index (T k).1 (T k).2.1 (T k).2.2.1 ∈ Ts ∧ (∃ ty0 : Nat → FieldType, ∀ k, k < N → parseFieldDescriptor (T k).2.2.1 = some (ty0 k)) ∧ (∀ a, a < N → ∀ b, b < N → a ≠ b → (T a).2.1 ≠ (T b).2.1) ∧ parseFieldDescriptor (T k).2.2.1 = some ty ∧ (T k).2.2.2 = fin ∧ (fin = true → (T k).1 = own)
theorem km_geti {E : km_E} {X : km_X} {R : Room} {cc : ByteArray} {nL : Nat} {Ts : List Cond} {own : String} {sh : km_S} {mi : km_I} {mr : km_R} {cl sl pc : Nat} {ls : List (Nat × Value)} {st : List Value} (hX : km_ok E X R cc nL Ts own) {index ci k p_ : Nat} (hf : km_f Ts own index ci k) (hp : sh[p_]? = some (.inr ci)) (hk : (km_kd.getD ci [])[k]? = some false) (hd : decode cc pc = .ok (.getfield index, 3)) (kk : km_G E X nL sh mi mr cl sl (pc + 3) ls (.int (mi p_ k) :: st)) : km_G E X nL sh mi mr cl sl pc ls (.ref p_ :: st) := by
  obtain ⟨p, l, e, R', s, m, args, below, meth, c, Q⟩ := X
  obtain ⟨⟨hx, hb, hml, hown, hts⟩, rfl, hK, hsz⟩ := hX
  obtain ⟨C, T, N, hc, hkN, hin, hlk⟩ := hf
  exact fun H locs larr hw hs hl => va_get hx hb hts hin hown hK.1 hw.2 p_ (km_w_at hp) hc k hkN (hts _ hlk) (fun _ h => h) (km_fl_get hk) hd (kk H locs larr hw hs hl)
theorem km_getr {E : km_E} {X : km_X} {R : Room} {cc : ByteArray} {nL : Nat} {Ts : List Cond} {own : String} {sh : km_S} {mi : km_I} {mr : km_R} {cl sl pc : Nat} {ls : List (Nat × Value)} {st : List Value} (hX : km_ok E X R cc nL Ts own) {index ci k p_ q : Nat} (hf : km_f Ts own index ci k) (hp : sh[p_]? = some (.inr ci)) (hk : (km_kd.getD ci [])[k]? = some true) (hd : decode cc pc = .ok (.getfield index, 3)) (hq : mr p_ k = some q) (kk : km_G E X nL sh mi mr cl sl (pc + 3) ls (.ref q :: st)) : km_G E X nL sh mi mr cl sl pc ls (.ref p_ :: st) := by
  obtain ⟨p, l, e, R', s, m, args, below, meth, c, Q⟩ := X
  obtain ⟨⟨hx, hb, hml, hown, hts⟩, rfl, hK, hsz⟩ := hX
  obtain ⟨C, T, N, hc, hkN, hin, hlk⟩ := hf
  exact fun H locs larr hw hs hl => va_get (v := .ref (E.1 + q)) hx hb hts hin hown hK.1 hw.2 p_ (km_w_at hp) hc k hkN (hts _ hlk) (fun _ h => h) (by rw [km_fl_get hk, hq]; rfl) hd (kk H locs larr hw hs hl)
theorem km_gets0 {E : km_E} {X : km_X} {R : Room} {cc : ByteArray} {nL : Nat} {Ts : List Cond} {own : String} {sh : km_S} {mi : km_I} {mr : km_R} {cl sl pc : Nat} {ls : List (Nat × Value)} {st : List Value} (hX : km_ok E X R cc nL Ts own) {index : Nat} (hd : decode cc pc = .ok (.getstatic index, 3)) (hlk : Cond.fieldLink own index "EqualMethods" "OPERANDS" "[I" ∈ Ts) (k : km_G E X nL sh mi mr cl sl (pc + 3) ls (.retAddr 0 :: st)) : km_G E X nL sh mi mr cl sl pc ls st := by
  obtain ⟨p, l, e, R', s, m, args, below, meth, c, Q⟩ := X
  obtain ⟨⟨hx, hb, hml, hown, hts⟩, rfl, hK, hsz⟩ := hX
  exact fun H locs larr hw hs hl => va_gets hx hb hK.2.2.1 hs hown (hts _ hlk) (fun _ h => h) hd (k H locs larr hw hs hl)
theorem km_gets1 {E : km_E} {X : km_X} {R : Room} {cc : ByteArray} {nL : Nat} {Ts : List Cond} {own : String} {sh : km_S} {mi : km_I} {mr : km_R} {cl sl pc : Nat} {ls : List (Nat × Value)} {st : List Value} (hX : km_ok E X R cc nL Ts own) {index : Nat} (hd : decode cc pc = .ok (.getstatic index, 3)) (hlk : Cond.fieldLink own index "EqualMethods" "RENAMINGS" "[I" ∈ Ts) (k : km_G E X nL sh mi mr cl sl (pc + 3) ls (.retAddr 1 :: st)) : km_G E X nL sh mi mr cl sl pc ls st := by
  obtain ⟨p, l, e, R', s, m, args, below, meth, c, Q⟩ := X
  obtain ⟨⟨hx, hb, hml, hown, hts⟩, rfl, hK, hsz⟩ := hX
  exact fun H locs larr hw hs hl => va_gets hx hb hK.2.2.2.1 hs hown (hts _ hlk) (fun _ h => h) hd (k H locs larr hw hs hl)
theorem km_ialdx {E : km_E} {X : km_X} {R : Room} {cc : ByteArray} {nL : Nat} {Ts : List Cond} {own : String} {sh : km_S} {mi : km_I} {mr : km_R} {cl sl pc : Nat} {ls : List (Nat × Value)} {st : List Value} (hX : km_ok E X R cc nL Ts own) {k : Nat} {i : Int32} (hk : k < 3) (hin : vp_in i (E.2.2.1 k)) (hd : decode cc pc = .ok (.iaload, 1)) (kk : km_G E X nL sh mi mr cl sl (pc + 1) ls (.int (E.2.2.2.1 k i.toNatClampNeg) :: st)) : km_G E X nL sh mi mr cl sl pc ls (.int i :: .retAddr k :: st) := by
  obtain ⟨p, l, e, R', s, m, args, below, meth, c, Q⟩ := X
  obtain ⟨⟨hx, hb, hml, hown, hts⟩, rfl, hK, hsz⟩ := hX
  exact fun H locs larr hw hs hl => va_ti hx hb (hK.2.1 k hk) hs hin rfl hd (kk H locs larr hw hs hl)
theorem km_alenx {E : km_E} {X : km_X} {R : Room} {cc : ByteArray} {nL : Nat} {Ts : List Cond} {own : String} {sh : km_S} {mi : km_I} {mr : km_R} {cl sl pc : Nat} {ls : List (Nat × Value)} {st : List Value} (hX : km_ok E X R cc nL Ts own) {k : Nat} {v : Int32} (hk : k < 3) (hv : Int32.ofNat (E.2.2.1 k) = v) (hd : decode cc pc = .ok (.arraylength, 1)) (kk : km_G E X nL sh mi mr cl sl (pc + 1) ls (.int v :: st)) : km_G E X nL sh mi mr cl sl pc ls (.retAddr k :: st) := by
  obtain ⟨p, l, e, R', s, m, args, below, meth, c, Q⟩ := X
  obtain ⟨⟨hx, hb, hml, hown, hts⟩, rfl, hK, hsz⟩ := hX
  exact fun H locs larr hw hs hl => va_tlen hx hb (hK.2.1 k hk) hs hv hd (kk H locs larr hw hs hl)
theorem km_iald {E : km_E} {X : km_X} {R : Room} {cc : ByteArray} {nL : Nat} {Ts : List Cond} {own : String} {sh : km_S} {mi : km_I} {mr : km_R} {cl sl pc : Nat} {ls : List (Nat × Value)} {st : List Value} (hX : km_ok E X R cc nL Ts own) {p_ n : Nat} {i : Int32} (hp : sh[p_]? = some (.inl n)) (hin : vp_in i n) (hd : decode cc pc = .ok (.iaload, 1)) (kk : km_G E X nL sh mi mr cl sl (pc + 1) ls (.int (mi p_ i.toNatClampNeg) :: st)) : km_G E X nL sh mi mr cl sl pc ls (.int i :: .ref p_ :: st) := by
  obtain ⟨p, l, e, R', s, m, args, below, meth, c, Q⟩ := X
  obtain ⟨⟨hx, hb, hml, hown, hts⟩, rfl, hK, hsz⟩ := hX
  exact fun H locs larr hw hs hl => va_iald hx hb hK.1 hw.2 p_ 0 (km_w_at hp) rfl hin hd (kk H locs larr hw hs hl)
theorem km_iast {E : km_E} {X : km_X} {R : Room} {cc : ByteArray} {nL : Nat} {Ts : List Cond} {own : String} {sh : km_S} {mi : km_I} {mr : km_R} {cl sl pc : Nat} {ls : List (Nat × Value)} {st : List Value} (hX : km_ok E X R cc nL Ts own) {p_ n : Nat} {i x : Int32} (hp : sh[p_]? = some (.inl n)) (hin : vp_in i n) (hd : decode cc pc = .ok (.iastore, 1)) (kk : km_G E X nL sh (km_u mi p_ i.toNatClampNeg x) mr cl sl (pc + 1) ls st) : km_G E X nL sh mi mr cl sl pc ls (.int x :: .int i :: .ref p_ :: st) := by
  obtain ⟨p, l, e, R', s, m, args, below, meth, c, Q⟩ := X
  obtain ⟨⟨hx, hb, hml, hown, hts⟩, rfl, hK, hsz⟩ := hX
  intro H locs larr hw hs hl
  refine W.iast hx hb (hw.2 p_ _ (km_w_at hp)) ((hK.1.2 0 _ rfl).1 n (fun j => .int (mi p_ j))) (fun q => by cases q) (by show ¬ (i < 0 ∨ (arrV _ _ _).slots.size ≤ _); rw [arrV_size]; exact hin) rfl rfl hd fun H1 e1 z oq => ?_
  refine kk H1 _ larr ⟨by rw [z]; exact hw.1, ?_⟩ (hs.put z oq (Nat.le_add_right _ _)) hl
  rw [← km_w_set (mi := mi) (mr := mr) (e := .inl (E.2.2.2.2.2, n, .inl (upd (mi p_) i.toNatClampNeg x))) hp (by simp only [km_ce, km_u_upd]) (fun q hq => ⟨km_u_off q hq, rfl⟩)]
  refine hw.2.set km_D (km_w_at hp) ?_ oq
  show H1[E.1 + p_]? = some (vp_cell _ _)
  rw [e1]
  show some ((vp_cell _ _).setSlot _ _) = some (vp_cell _ _)
  rw [vp_cell_i, vp_cell_i, arrV_store]
  congr 2
  funext j
  by_cases hj : j = i.toNatClampNeg
  · subst hj; simp [updV, upd]
  · simp [updV, upd, hj]
theorem km_put0 {E : km_E} {X : km_X} {R : Room} {cc : ByteArray} {nL : Nat} {Ts : List Cond} {own : String} {sh : km_S} {mi : km_I} {mr : km_R} {cl sl pc : Nat} {ls : List (Nat × Value)} {st : List Value} (hX : km_ok E X R cc nL Ts own) {index ci k p_ : Nat} {ty : FieldType} {v : Value} {mi' : km_I} {mr' : km_R} (hf : km_p Ts own index ci k ty false) (hp : sh[p_]? = some (.inr ci)) (hset : (km_fl E mi mr p_ ci).set k (km_v E v) = km_fl E mi' mr' p_ ci) (ho : ∀ q, q ≠ p_ → mi' q = mi q ∧ mr' q = mr q) (hlen : k < (km_fl E mi mr p_ ci).length) (hn : narrow ty (km_v E v) = km_v E v) (hft : fits ty (km_v E v) = true) (hd : decode cc pc = .ok (.putfield index, 3)) (kk : km_G E X nL sh mi' mr' cl sl (pc + 3) ls st) : km_G E X nL sh mi mr cl sl pc ls (v :: .ref p_ :: st) := by
  obtain ⟨p, l, e, R', s, m, args, below, meth, c, Q⟩ := X
  obtain ⟨⟨hx, hb, hml, hown, hts⟩, rfl, hK, hsz⟩ := hX
  obtain ⟨C, T, N, hc, hkN, hin, hlk, ⟨ty0, hty⟩, hnm, htk, hfin, hdecl⟩ := hf
  intro H locs larr hw hs hl
  have hap := va_apart (own := own) hts hin ty0 hty hnm hK.1 hc
  obtain ⟨r, h1, cell, q1, q2, q3, q4⟩ := hw.2 p_ _ (km_w_at hp)
  have hr : r = (C, T, N) := Option.some.inj (h1.symm.trans hc)
  subst hr
  obtain ⟨hS, hfc, kC, hkC, hkind⟩ := hK.1.1 ci _ hc
  obtain ⟨cf, kf, fi, f, hi, hsl⟩ := hS k hkN
  have hlay := hts _ (hin _ (u_in_lay hkN))
  unfold u_lay at hlay
  rw [if_neg (by rw [hfin]; decide)] at hlay
  have hst := (u_facts hfc hkC (u_lays hts hin hkN) hi).1
  refine W.putK hx hb (f := f) ⟨hown, hts _ hlk, ⟨_, _, _, hi⟩, hst⟩ (by rw [q2]; exact u_store hfc hkC hkind hlay hi htk hn hft) q1 q3 (by rw [hsl]; exact k2_hasslot (q4 k hkN)) rfl rfl hd fun H' e1 e2 e3 => ?_
  rw [hsl] at e1 ⊢
  refine kk H' _ larr ⟨by rw [e2]; exact hw.1, ?_⟩ (hs.put e2 e3 (Nat.le_add_right _ _)) hl
  rw [← km_w_set (mi := mi) (mr := mr) (e := .inr (ci, (km_fl E mi mr p_ ci).set k (km_v E v))) hp (by simp only [km_ce, hset]) ho]
  exact hw.2.set km_D (km_w_at hp) ⟨_, hc, t_OB.to (V := updV (vp_V (km_fl E mi mr p_ ci)) k (km_v E v)) ⟨_, e1, q2, q3, t_set q4 hap hkN _⟩ (fun j _ => vp_updV_set hlen _ j)⟩ e3
theorem km_putF0 {E : km_E} {X : km_X} {R : Room} {cc : ByteArray} {nL : Nat} {Ts : List Cond} {own : String} {sh : km_S} {mi : km_I} {mr : km_R} {cl sl pc : Nat} {ls : List (Nat × Value)} {st : List Value} (hX : km_ok E X R cc nL Ts own) {index ci k p_ : Nat} {ty : FieldType} {v : Value} {mi' : km_I} {mr' : km_R} (hf : km_p Ts own index ci k ty true) (hp : sh[p_]? = some (.inr ci)) (hset : (km_fl E mi mr p_ ci).set k (km_v E v) = km_fl E mi' mr' p_ ci) (ho : ∀ q, q ≠ p_ → mi' q = mi q ∧ mr' q = mr q) (hlen : k < (km_fl E mi mr p_ ci).length) (hn : narrow ty (km_v E v) = km_v E v) (hft : fits ty (km_v E v) = true) (hnm9 : X.2.2.2.2.2.2.2.2.1.name = "<init>") (hd : decode cc pc = .ok (.putfield index, 3)) (kk : km_G E X nL sh mi' mr' cl sl (pc + 3) ls st) : km_G E X nL sh mi mr cl sl pc ls (v :: .ref p_ :: st) := by
  obtain ⟨p, l, e, R', s, m, args, below, meth, c, Q⟩ := X
  obtain ⟨⟨hx, hb, hml, hown, hts⟩, rfl, hK, hsz⟩ := hX
  obtain ⟨C, T, N, hc, hkN, hin, hlk, ⟨ty0, hty⟩, hnm, htk, hfin, hdecl⟩ := hf
  intro H locs larr hw hs hl
  have hap := va_apart (own := own) hts hin ty0 hty hnm hK.1 hc
  obtain ⟨r, h1, cell, q1, q2, q3, q4⟩ := hw.2 p_ _ (km_w_at hp)
  have hr : r = (C, T, N) := Option.some.inj (h1.symm.trans hc)
  subst hr
  obtain ⟨hS, hfc, kC, hkC, hkind⟩ := hK.1.1 ci _ hc
  obtain ⟨cf, kf, fi, f, hi, hsl⟩ := hS k hkN
  have hlay := hts _ (hin _ (u_in_lay hkN))
  unfold u_lay at hlay
  rw [if_pos hfin] at hlay
  have hst := (u_facts hfc hkC (u_lays hts hin hkN) hi).1
  have hcf : m.cls = cf := by
    obtain ⟨_, _, c', _, _, _, -, -, hf', -, -, -, hown2, -⟩ := Cond.laysFinal_spec hlay
    have e1 : c' = cf := by have := hi.symm.trans hf'; simp at this; exact this.1.symm
    rw [hdecl rfl] at hown2
    rw [← e1]; exact Option.some.inj (hown.symm.trans hown2)
  refine W.putFinK hx hb hown (hts _ hlk) hi hst hcf hnm9 (by rw [q2]; exact u_fits hfc hkC hkind (Or.inr hlay) hi htk hn hft) q1 q3 (by rw [hsl]; exact k2_hasslot (q4 k hkN)) rfl rfl hd fun H' e1 e2 e3 => ?_
  rw [hsl] at e1 ⊢
  refine kk H' _ larr ⟨by rw [e2]; exact hw.1, ?_⟩ (hs.put e2 e3 (Nat.le_add_right _ _)) hl
  rw [← km_w_set (mi := mi) (mr := mr) (e := .inr (ci, (km_fl E mi mr p_ ci).set k (km_v E v))) hp (by simp only [km_ce, hset]) ho]
  exact hw.2.set km_D (km_w_at hp) ⟨_, hc, t_OB.to (V := updV (vp_V (km_fl E mi mr p_ ci)) k (km_v E v)) ⟨_, e1, q2, q3, t_set q4 hap hkN _⟩ (fun j _ => vp_updV_set hlen _ j)⟩ e3
theorem km_fl_len {E : km_E} {mi : km_I} {mr : km_R} {p ci k : Nat} {b : Bool} (h : (km_kd.getD ci [])[k]? = some b) : k < (km_fl E mi mr p ci).length := (List.getElem?_eq_some_iff.mp (km_fl_get (E := E) (mi := mi) (mr := mr) (p := p) h)).1
theorem km_puti {E : km_E} {X : km_X} {R : Room} {cc : ByteArray} {nL : Nat} {Ts : List Cond} {own : String} {sh : km_S} {mi : km_I} {mr : km_R} {cl sl pc : Nat} {ls : List (Nat × Value)} {st : List Value} (hX : km_ok E X R cc nL Ts own) {index ci k p : Nat} {x : Int32} (hf : km_p Ts own index ci k .int false) (hp : sh[p]? = some (.inr ci)) (hk : (km_kd.getD ci [])[k]? = some false) (hd : decode cc pc = .ok (.putfield index, 3)) (kk : km_G E X nL sh (km_u mi p k x) mr cl sl (pc + 3) ls st) : km_G E X nL sh mi mr cl sl pc ls (.int x :: .ref p :: st) := km_put0 hX hf hp (km_fl_i hk) (fun q hq => ⟨km_u_off q hq, rfl⟩) (km_fl_len hk) rfl rfl hd kk
theorem km_putz {E : km_E} {X : km_X} {R : Room} {cc : ByteArray} {nL : Nat} {Ts : List Cond} {own : String} {sh : km_S} {mi : km_I} {mr : km_R} {cl sl pc : Nat} {ls : List (Nat × Value)} {st : List Value} (hX : km_ok E X R cc nL Ts own) {index ci k p : Nat} {x : Int32} (hf : km_p Ts own index ci k .boolean false) (hp : sh[p]? = some (.inr ci)) (hk : (km_kd.getD ci [])[k]? = some false) (hd : decode cc pc = .ok (.putfield index, 3)) (hx : x = 0 ∨ x = 1) (kk : km_G E X nL sh (km_u mi p k x) mr cl sl (pc + 3) ls st) : km_G E X nL sh mi mr cl sl pc ls (.int x :: .ref p :: st) := km_put0 hX hf hp (km_fl_i hk) (fun q hq => ⟨km_u_off q hq, rfl⟩) (km_fl_len hk) (by rcases hx with rfl | rfl <;> rfl) (by rcases hx with rfl | rfl <;> rfl) hd kk
theorem km_putr {E : km_E} {X : km_X} {R : Room} {cc : ByteArray} {nL : Nat} {Ts : List Cond} {own : String} {sh : km_S} {mi : km_I} {mr : km_R} {cl sl pc : Nat} {ls : List (Nat × Value)} {st : List Value} (hX : km_ok E X R cc nL Ts own) {index ci k p q : Nat} {ty : FieldType} (hf : km_p Ts own index ci k ty false) (hp : sh[p]? = some (.inr ci)) (hk : (km_kd.getD ci [])[k]? = some true) (hn : ∀ a, narrow ty (.ref a) = .ref a ∧ fits ty (.ref a) = true) (hd : decode cc pc = .ok (.putfield index, 3)) (kk : km_G E X nL sh mi (km_ur mr p k (some q)) cl sl (pc + 3) ls st) : km_G E X nL sh mi mr cl sl pc ls (.ref q :: .ref p :: st) := km_put0 hX hf hp (km_fl_r (v := some q) hk) (fun q hq => ⟨rfl, km_ur_off q hq⟩) (km_fl_len hk) (hn _).1 (hn _).2 hd kk
theorem km_putiF {E : km_E} {X : km_X} {R : Room} {cc : ByteArray} {nL : Nat} {Ts : List Cond} {own : String} {sh : km_S} {mi : km_I} {mr : km_R} {cl sl pc : Nat} {ls : List (Nat × Value)} {st : List Value} (hX : km_ok E X R cc nL Ts own) {index ci k p : Nat} {x : Int32} (hf : km_p Ts own index ci k .int true) (hp : sh[p]? = some (.inr ci)) (hk : (km_kd.getD ci [])[k]? = some false) (hnm9 : X.2.2.2.2.2.2.2.2.1.name = "<init>") (hd : decode cc pc = .ok (.putfield index, 3)) (kk : km_G E X nL sh (km_u mi p k x) mr cl sl (pc + 3) ls st) : km_G E X nL sh mi mr cl sl pc ls (.int x :: .ref p :: st) := km_putF0 hX hf hp (km_fl_i hk) (fun q hq => ⟨km_u_off q hq, rfl⟩) (km_fl_len hk) rfl rfl hnm9 hd kk
theorem km_putzF {E : km_E} {X : km_X} {R : Room} {cc : ByteArray} {nL : Nat} {Ts : List Cond} {own : String} {sh : km_S} {mi : km_I} {mr : km_R} {cl sl pc : Nat} {ls : List (Nat × Value)} {st : List Value} (hX : km_ok E X R cc nL Ts own) {index ci k p : Nat} {x : Int32} (hf : km_p Ts own index ci k .boolean true) (hp : sh[p]? = some (.inr ci)) (hk : (km_kd.getD ci [])[k]? = some false) (hnm9 : X.2.2.2.2.2.2.2.2.1.name = "<init>") (hd : decode cc pc = .ok (.putfield index, 3)) (hx : x = 0 ∨ x = 1) (kk : km_G E X nL sh (km_u mi p k x) mr cl sl (pc + 3) ls st) : km_G E X nL sh mi mr cl sl pc ls (.int x :: .ref p :: st) := km_putF0 hX hf hp (km_fl_i hk) (fun q hq => ⟨km_u_off q hq, rfl⟩) (km_fl_len hk) (by rcases hx with rfl | rfl <;> rfl) (by rcases hx with rfl | rfl <;> rfl) hnm9 hd kk
theorem km_putrF {E : km_E} {X : km_X} {R : Room} {cc : ByteArray} {nL : Nat} {Ts : List Cond} {own : String} {sh : km_S} {mi : km_I} {mr : km_R} {cl sl pc : Nat} {ls : List (Nat × Value)} {st : List Value} (hX : km_ok E X R cc nL Ts own) {index ci k p q : Nat} {ty : FieldType} (hf : km_p Ts own index ci k ty true) (hp : sh[p]? = some (.inr ci)) (hk : (km_kd.getD ci [])[k]? = some true) (hn : ∀ a, narrow ty (.ref a) = .ref a ∧ fits ty (.ref a) = true) (hnm9 : X.2.2.2.2.2.2.2.2.1.name = "<init>") (hd : decode cc pc = .ok (.putfield index, 3)) (kk : km_G E X nL sh mi (km_ur mr p k (some q)) cl sl (pc + 3) ls st) : km_G E X nL sh mi mr cl sl pc ls (.ref q :: .ref p :: st) := km_putF0 hX hf hp (km_fl_r (v := some q) hk) (fun q hq => ⟨rfl, km_ur_off q hq⟩) (km_fl_len hk) (hn _).1 (hn _).2 hnm9 hd kk
theorem km_iastN {E : km_E} {X : km_X} {R : Room} {cc : ByteArray} {nL : Nat} {Ts : List Cond} {own : String} {sh : km_S} {mi : km_I} {mr : km_R} {cl sl pc : Nat} {ls : List (Nat × Value)} {st : List Value} (hX : km_ok E X R cc nL Ts own) {p_ n : Nat} {i x : Int32} (hp : sh[p_]? = some (.inl n)) (hin : vp_in i n) (hd : decode cc pc = .ok (.iastore, 1)) (kk : ∀ m9, m9 = km_u mi p_ i.toNatClampNeg x → km_G E X nL sh m9 mr cl sl (pc + 1) ls st) : km_G E X nL sh mi mr cl sl pc ls (.int x :: .int i :: .ref p_ :: st) := km_iast hX hp hin hd (kk _ rfl)
theorem km_putiN {E : km_E} {X : km_X} {R : Room} {cc : ByteArray} {nL : Nat} {Ts : List Cond} {own : String} {sh : km_S} {mi : km_I} {mr : km_R} {cl sl pc : Nat} {ls : List (Nat × Value)} {st : List Value} (hX : km_ok E X R cc nL Ts own) {index ci k p : Nat} {x : Int32} (hf : km_p Ts own index ci k .int false) (hp : sh[p]? = some (.inr ci)) (hk : (km_kd.getD ci [])[k]? = some false) (hd : decode cc pc = .ok (.putfield index, 3)) (kk : ∀ m9, m9 = km_u mi p k x → km_G E X nL sh m9 mr cl sl (pc + 3) ls st) : km_G E X nL sh mi mr cl sl pc ls (.int x :: .ref p :: st) := km_puti hX hf hp hk hd (kk _ rfl)
theorem km_putzN {E : km_E} {X : km_X} {R : Room} {cc : ByteArray} {nL : Nat} {Ts : List Cond} {own : String} {sh : km_S} {mi : km_I} {mr : km_R} {cl sl pc : Nat} {ls : List (Nat × Value)} {st : List Value} (hX : km_ok E X R cc nL Ts own) {index ci k p : Nat} {x : Int32} (hf : km_p Ts own index ci k .boolean false) (hp : sh[p]? = some (.inr ci)) (hk : (km_kd.getD ci [])[k]? = some false) (hd : decode cc pc = .ok (.putfield index, 3)) (hx : x = 0 ∨ x = 1) (kk : ∀ m9, m9 = km_u mi p k x → km_G E X nL sh m9 mr cl sl (pc + 3) ls st) : km_G E X nL sh mi mr cl sl pc ls (.int x :: .ref p :: st) := km_putz hX hf hp hk hd hx (kk _ rfl)
def km_pk (ls : List (Nat × Value)) (ks : List Nat) : List (Nat × Value) := ks.filterMap (fun i => (km_lk ls i).map (fun v => (i, v)))
theorem km_ren {E : km_E} {X : km_X} {nL : Nat} {sh : km_S} {mi : km_I} {mr : km_R} {cl sl pc : Nat} {ls ls' : List (Nat × Value)} {st : List Value} (ks : List Nat) (h : km_pk ls ks = ls') (k : km_G E X nL sh mi mr cl sl pc ls' st) : km_G E X nL sh mi mr cl sl pc ls st := by
  obtain ⟨p, l, e, R', s, m, args, below, meth, c, Q⟩ := X
  intro H locs larr hw hs hl
  refine k H locs larr hw hs ⟨hl.1, hl.2.1, fun q hq => ?_⟩
  subst h
  obtain ⟨q', hq', rfl⟩ := List.mem_map.mp hq
  obtain ⟨i, -, hi⟩ := List.mem_filterMap.mp hq'
  cases hv : km_lk ls i with
  | none => rw [hv] at hi; cases hi
  | some v =>
    rw [hv] at hi
    have hi : (i, v) = q' := Option.some.inj hi
    subst hi
    exact hl.2.2 (i, km_v E v) (List.mem_map.mpr ⟨(i, v), km_lk_mem hv, rfl⟩)
theorem km_iret {E : km_E} {X : km_X} {R : Room} {cc : ByteArray} {nL : Nat} {Ts : List Cond} {own : String} {sh : km_S} {mi : km_I} {mr : km_R} {cl sl pc : Nat} {ls : List (Nat × Value)} (hX : km_ok E X R cc nL Ts own) {ret : Option FieldType} {mc ms : Nat} {post : Option Value → km_S → km_I → km_R → Prop} (hF : km_fin E X ret mc ms post) {x : Int32} (hret : ret = some .int) (hd : decode cc pc = .ok (.ireturn, 1)) (hq : post (some (.int x)) sh mi mr) (hc : cl ≤ mc) (hs9 : sl ≤ ms) : km_G E X nL sh mi mr cl sl pc ls [.int x] := by
  obtain ⟨p, l, e, R', s, m, args, below, meth, c, Q⟩ := X
  obtain ⟨⟨hx, hb, hml, hown, hts⟩, rfl, hK, hsz⟩ := hX
  obtain ⟨hr, hlk, rfl⟩ := hF
  subst hret
  intro H locs larr hw hs hl
  refine W.widen hc hs9 ?_
  exact W.iret (v := x) hx hb hr (fun t ht hW => ⟨⟨some (.int x), sh, mi, mr, rfl, hq, by rw [ht]; exact hw⟩, hs.F ht⟩) hs.2.2 hd hlk
theorem km_zret {E : km_E} {X : km_X} {R : Room} {cc : ByteArray} {nL : Nat} {Ts : List Cond} {own : String} {sh : km_S} {mi : km_I} {mr : km_R} {cl sl pc : Nat} {ls : List (Nat × Value)} (hX : km_ok E X R cc nL Ts own) {ret : Option FieldType} {mc ms : Nat} {post : Option Value → km_S → km_I → km_R → Prop} (hF : km_fin E X ret mc ms post) {x : Int32} (hret : ret = some .boolean) (hd : decode cc pc = .ok (.ireturn, 1)) (h01 : x = 0 ∨ x = 1) (hq : post (some (.int x)) sh mi mr) (hc : cl ≤ mc) (hs9 : sl ≤ ms) : km_G E X nL sh mi mr cl sl pc ls [.int x] := by
  obtain ⟨p, l, e, R', s, m, args, below, meth, c, Q⟩ := X
  obtain ⟨⟨hx, hb, hml, hown, hts⟩, rfl, hK, hsz⟩ := hX
  obtain ⟨hr, hlk, rfl⟩ := hF
  subst hret
  intro H locs larr hw hs hl
  refine W.widen hc hs9 ?_
  exact W.zret (v := x) hx hb hr (by rcases h01 with rfl | rfl <;> rfl) (fun t ht hW => ⟨⟨some (.int x), sh, mi, mr, rfl, hq, by rw [ht]; exact hw⟩, hs.F ht⟩) hs.2.2 hd hlk
theorem km_vret {E : km_E} {X : km_X} {R : Room} {cc : ByteArray} {nL : Nat} {Ts : List Cond} {own : String} {sh : km_S} {mi : km_I} {mr : km_R} {cl sl pc : Nat} {ls : List (Nat × Value)} (hX : km_ok E X R cc nL Ts own) {ret : Option FieldType} {mc ms : Nat} {post : Option Value → km_S → km_I → km_R → Prop} (hF : km_fin E X ret mc ms post) (hret : ret = none) (hd : decode cc pc = .ok (.return_, 1)) (hq : post none sh mi mr) (hc : cl ≤ mc) (hs9 : sl ≤ ms) : km_G E X nL sh mi mr cl sl pc ls [] := by
  obtain ⟨p, l, e, R', s, m, args, below, meth, c, Q⟩ := X
  obtain ⟨⟨hx, hb, hml, hown, hts⟩, rfl, hK, hsz⟩ := hX
  obtain ⟨hr, hlk, rfl⟩ := hF
  subst hret
  intro H locs larr hw hs hl
  refine W.widen hc hs9 ?_
  exact W.vret hx hb hr (fun t ht hW => ⟨⟨none, sh, mi, mr, rfl, hq, by rw [ht]; exact hw⟩, hs.F ht⟩) hs.2.2 hd hlk
theorem km_aret {E : km_E} {X : km_X} {R : Room} {cc : ByteArray} {nL : Nat} {Ts : List Cond} {own : String} {sh : km_S} {mi : km_I} {mr : km_R} {cl sl pc : Nat} {ls : List (Nat × Value)} (hX : km_ok E X R cc nL Ts own) {ret : Option FieldType} {mc ms : Nat} {post : Option Value → km_S → km_I → km_R → Prop} (hF : km_fin E X ret mc ms post) {a : Nat} {C : String} (hret : ret = some (.object C)) (hd : decode cc pc = .ok (.areturn, 1)) (hq : post (some (.ref a)) sh mi mr) (hc : cl ≤ mc) (hs9 : sl ≤ ms) : km_G E X nL sh mi mr cl sl pc ls [.ref a] := by
  obtain ⟨p, l, e, R', s, m, args, below, meth, c, Q⟩ := X
  obtain ⟨⟨hx, hb, hml, hown, hts⟩, rfl, hK, hsz⟩ := hX
  obtain ⟨hr, hlk, rfl⟩ := hF
  subst hret
  intro H locs larr hw hs hl
  refine W.widen hc hs9 ?_
  exact W.aret (v := .ref (E.1 + a)) hx hb hr (Or.inl ⟨_, rfl⟩) (Or.inr ⟨_, rfl⟩) (fun t ht hW => ⟨⟨some (.ref a), sh, mi, mr, rfl, hq, by rw [ht]; exact hw⟩, hs.F ht⟩) hs.2.2 hd hlk
