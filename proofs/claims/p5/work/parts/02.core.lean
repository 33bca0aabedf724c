/-! THE MEMORY. A system's cells stand at places 0, 1, 2, .. from an address E.1 on; a place is an int array of a length, or an object of a kind (its number in vwCl). Ints of fields and arrays: km_I; references: km_R, by places. E.2.1: the addresses of arrays that stand ahead and that nobody writes (0 OPERANDS, 1 RENAMINGS, 2 the script), with their lengths and contents. -/
abbrev km_I : Type := Nat → Nat → Int32
abbrev km_R : Type := Nat → Nat → Option Nat
abbrev km_S : Type := List (Nat ⊕ Nat)
abbrev km_E : Type := Nat × (Nat → Nat) × (Nat → Nat) × (Nat → Nat → Int32) × va_G × ClassId
def km_u (f : km_I) (p k : Nat) (v : Int32) : km_I := fun q j => if q = p ∧ j = k then v else f q j
def km_ur (f : km_R) (p k : Nat) (v : Option Nat) : km_R := fun q j => if q = p ∧ j = k then v else f q j
theorem km_u_at (f : km_I) (p k : Nat) (v : Int32) : km_u f p k v p k = v := by simp [km_u]
theorem km_u_p {f : km_I} {p k q j : Nat} {v : Int32} (h : q ≠ p) : km_u f p k v q j = f q j := by simp [km_u, h]
theorem km_u_k {f : km_I} {p k q j : Nat} {v : Int32} (h : j ≠ k) : km_u f p k v q j = f q j := by simp [km_u, h]
/-- which fields of a kind are references -/
def km_kd : List (List Bool) := [[false, true, true, true, true, true], [true, false, true, true, true, true, false, true, false], [false, true, true], [true, true, true], [false, true], [false, false, false, false, false, false, true, true, false, true, true, true, true], [false, false, true, true, true, true, true, true, true, true, true, true, true, false, false, false, false], [false, false, true, true, true, true, true, true, true, true, false, true, true, false, true, true, true, true, false, false, false, false, true, true, true, true, true, true, true, true, true, true, true, true, true, false, false, false, false, true, true, false]]
def km_v (E : km_E) (v : Value) : Value := match v with
  | .int x => .int x
  | .ref p => .ref (E.1 + p)
  | .retAddr k => .ref (E.2.1 k)
  | _ => .null
theorem km_v_cat (E : km_E) (v : Value) : (km_v E v).category = 1 := by cases v <;> rfl
def km_fl (E : km_E) (mi : km_I) (mr : km_R) (p ci : Nat) : List Value := (km_kd.getD ci []).mapIdx (fun k b => if b = true then va_rf ((mr p k).map (fun q => E.1 + q)) else .int (mi p k))
def km_ce (E : km_E) (mi : km_I) (mr : km_R) (p : Nat) (h : Nat ⊕ Nat) : va_E := match h with
  | .inl n => .inl (E.2.2.2.2.2, n, .inl (mi p))
  | .inr ci => .inr (ci, km_fl E mi mr p ci)
def km_w (E : km_E) (sh : km_S) (mi : km_I) (mr : km_R) : va_W := sh.mapIdx (fun p h => (E.1 + p, km_ce E mi mr p h))
theorem km_w_at {E : km_E} {sh : km_S} {mi : km_I} {mr : km_R} {p : Nat} {x : Nat ⊕ Nat} (h : sh[p]? = some x) : (km_w E sh mi mr)[p]? = some (E.1 + p, km_ce E mi mr p x) := by
  simp [km_w, List.getElem?_mapIdx, h]
theorem km_w_of {E : km_E} {sh : km_S} {mi : km_I} {mr : km_R} {p : Nat} {q : Nat × va_E} (h : (km_w E sh mi mr)[p]? = some q) : ∃ x, sh[p]? = some x ∧ q = (E.1 + p, km_ce E mi mr p x) := by
  rw [km_w, List.getElem?_mapIdx] at h
  cases hs : sh[p]? with
  | none => rw [hs] at h; cases h
  | some x => rw [hs] at h; exact ⟨x, rfl, (Option.some.inj h).symm⟩
theorem km_D {E : km_E} {sh : km_S} {mi : km_I} {mr : km_R} : va_D (fun q => E.1 ≤ q) (km_w E sh mi mr) := by
  refine ⟨fun i j p q hi hj h => ?_, fun k q h => ?_⟩
  · obtain ⟨_, _, rfl⟩ := km_w_of hi
    obtain ⟨_, _, rfl⟩ := km_w_of hj
    have h : E.1 + i = E.1 + j := h
    omega
  · obtain ⟨_, _, rfl⟩ := km_w_of h
    exact Nat.le_add_right _ _
theorem km_w_set {E : km_E} {sh : km_S} {mi mi' : km_I} {mr mr' : km_R} {p : Nat} {x : Nat ⊕ Nat} {e : va_E} (h : sh[p]? = some x) (he : km_ce E mi' mr' p x = e) (ho : ∀ q, q ≠ p → mi' q = mi q ∧ mr' q = mr q) : (km_w E sh mi mr).set p (E.1 + p, e) = km_w E sh mi' mr' := by
  apply List.ext_getElem?
  intro q
  by_cases hq : q = p
  · subst hq
    rw [km_w_at h, he, List.getElem?_set_self']
    rw [km_w_at h]; rfl
  · rw [List.getElem?_set_ne (fun z => hq z.symm)]
    simp only [km_w, List.getElem?_mapIdx]
    cases hs : sh[q]? with
    | none => rfl
    | some y =>
      obtain ⟨h1, h2⟩ := ho q hq
      have hf : ∀ c, km_fl E mi mr q c = km_fl E mi' mr' q c := fun c => by simp only [km_fl, h1, h2]
      cases y with
      | inl n => simp only [Option.map_some, km_ce, h1]
      | inr c => simp only [Option.map_some, km_ce, hf]
theorem km_u_off {f : km_I} {p k : Nat} {v : Int32} : ∀ q, q ≠ p → km_u f p k v q = f q := fun q h => funext fun j => km_u_p h
theorem km_ur_off {f : km_R} {p k : Nat} {v : Option Nat} : ∀ q, q ≠ p → km_ur f p k v q = f q := fun q h => funext fun j => by simp [km_ur, h]
theorem km_u_upd (f : km_I) (p k : Nat) (v : Int32) : km_u f p k v p = upd (f p) k v := funext fun j => by simp [km_u, upd]
theorem km_fl_get {E : km_E} {mi : km_I} {mr : km_R} {p ci k : Nat} {b : Bool} (h : (km_kd.getD ci [])[k]? = some b) : (km_fl E mi mr p ci)[k]? = some (if b = true then va_rf ((mr p k).map (fun q => E.1 + q)) else .int (mi p k)) := by
  simp only [km_fl, List.getElem?_mapIdx, h, Option.map_some]
theorem km_fl_i {E : km_E} {mi : km_I} {mr : km_R} {p ci k : Nat} {v : Int32} (h : (km_kd.getD ci [])[k]? = some false) : (km_fl E mi mr p ci).set k (.int v) = km_fl E (km_u mi p k v) mr p ci := by
  apply List.ext_getElem?
  intro j
  by_cases hj : j = k
  · subst hj
    rw [km_fl_get h, List.getElem?_set_self', km_fl_get h]
    simp [km_u_at]
  · rw [List.getElem?_set_ne (fun z => hj z.symm)]
    simp only [km_fl, List.getElem?_mapIdx, km_u_k hj]
theorem km_fl_r {E : km_E} {mi : km_I} {mr : km_R} {p ci k : Nat} {v : Option Nat} (h : (km_kd.getD ci [])[k]? = some true) : (km_fl E mi mr p ci).set k (va_rf (v.map (fun q => E.1 + q))) = km_fl E mi (km_ur mr p k v) p ci := by
  apply List.ext_getElem?
  intro j
  by_cases hj : j = k
  · subst hj
    rw [km_fl_get h, List.getElem?_set_self', km_fl_get h]
    simp [km_ur]
  · rw [List.getElem?_set_ne (fun z => hj z.symm)]
    simp only [km_fl, List.getElem?_mapIdx]
    simp [km_ur, hj]
/-- the heap holds the memory -/
def km_at (E : km_E) (sh : km_S) (mi : km_I) (mr : km_R) (H : Heap) : Prop := H.size = E.1 + sh.length ∧ va_P E.2.2.2.2.1 vwCl (km_w E sh mi mr) H
abbrev km_A (E : km_E) : Nat → Prop := fun q => E.1 ≤ q
/-- the private constructors of the nest, by their links -/
def km_nw : List (String × Nat × MethodName) := [(RX6, 9, yX0_init), (RX6, 21, yX3_init), (RX6, 31, yX2_init), (RX6, 38, yX4_init), (RX1, 11, yX5_init)]
/-- what stands ahead: the classes, the arrays that nobody writes, the two statics -/
def km_K (E : km_E) (U : State) (H : Heap) : Prop := va_K E.2.2.2.2.1 vwCl [(E.2.2.2.2.2, .int)] U ∧ (∀ k, k < 3 → va_T .int (E.2.1 k) (E.2.2.1 k) (fun j => .int (E.2.2.2.1 k j)) (km_A E) U H) ∧ va_Z "EqualMethods" "OPERANDS" "[I" (.ref (E.2.1 0)) (km_A E) U H ∧ va_Z "EqualMethods" "RENAMINGS" "[I" (.ref (E.2.1 1)) (km_A E) U H ∧ ∀ q ∈ km_nw, va_Nw (.methodLinkNest q.1 q.2.1 q.2.2 "EqualMethods") U
theorem km_K.warm {E : km_E} {u U : State} {H : Heap} (hW : u.WarmedH U.vm) (h : km_K E u H) : km_K E U H := ⟨va_K.moved hW.alike h.1, fun k hk => (h.2.1 k hk).moved hW.alike, h.2.2.1.moved hW.alike, h.2.2.2.1.moved hW.alike, fun q hq => (h.2.2.2.2 q hq).warmM hW⟩
theorem km_K.same {E : km_E} {u U : State} {H : Heap} (hv : u.vm = U.vm) (h : km_K E u H) : km_K E U H := by
  have ha : u.vm.Alike U.vm := by rw [hv]; exact Vm.Alike.refl _
  exact ⟨va_K.moved ha h.1, fun k hk => (h.2.1 k hk).moved ha, h.2.2.1.moved ha, h.2.2.2.1.moved ha, fun q hq => (h.2.2.2.2 q hq).same rfl hv⟩
theorem km_K.kept {E : km_E} {U : State} {H H1 : Heap} (h : km_K E U H) (hq : ∀ a : Nat, a < H.size → ¬ km_A E a → H1[a]? = H[a]?) : km_K E U H1 := ⟨h.1, fun k hk => (h.2.1 k hk).kept hq, h.2.2.1.kept hq, h.2.2.2.1.kept hq, h.2.2.2.2⟩
/-- where a method stands: the machine, and what is to come -/
abbrev km_X : Type := Program × Launch × Env × Room × State × MethodId × Array Value × List Frame × Method × Code × (State → Prop)
def km_ok (E : km_E) (X : km_X) (R : Room) (cc : ByteArray) (nL : Nat) (Ts : List Cond) (own : String) : Prop := match X with
  | (p, _, _, R', s, m, args, _, _, c, _) => CallFix p m c cc nL s args Ts own ∧ R' = R ∧ km_K E s s.heap ∧ E.1 ≤ s.heap.size
/-- GOOD: from here the machine comes to what is to come -/
def km_G (E : km_E) (X : km_X) (nL : Nat) (sh : km_S) (mi : km_I) (mr : km_R) (cl sl pc : Nat) (ls : List (Nat × Value)) (st : List Value) : Prop := match X with
  | (p, l, e, R, s, m, args, below, meth, c, Q) => ∀ (H : Heap) (locs : List Loc) (larr : Array Slot), km_at E sh mi mr H → va_S (km_A E) s.heap H locs → lv_has larr nL (ls.map fun q => (q.1, km_v E q.2)) → W p l e R s m args below meth c H locs cl sl Q (F0 m pc larr (st.map (km_v E)))
/-- the end of a method -/
def km_Q (E : km_E) (post : Option Value → km_S → km_I → km_R → Prop) : Array Value → State → Outcome → State → Prop := fun _ st oc t => (∃ (r : Option Value) (sh : km_S) (mi : km_I) (mr : km_R), oc = .returned (r.map (km_v E)) ∧ post r sh mi mr ∧ km_at E sh mi mr t.heap) ∧ va_F (km_A E) st t
def km_fin (E : km_E) (X : km_X) (ret : Option FieldType) (mc ms : Nat) (post : Option Value → km_S → km_I → km_R → Prop) : Prop := match X with
  | (_, _, _, _, s, _, args, below, meth, _, Q) => meth.sig.returnType = ret ∧ meth.locks = false ∧ Q = MQ below (km_Q E post) args s mc ms (km_A E)
/-- a contract: from this memory with these arguments the method returns, and its end is so -/
def km_C (E : km_E) (l : Launch) (y : MethodName) (ws : List Cond) (rm : Room) (args : List Value) (sh : km_S) (mi : km_I) (mr : km_R) (post : Option Value → km_S → km_I → km_R → Prop) : Prop :=
  Met l y ws rm (va_Pc (args.map (km_v E)) (fun U => km_at E sh mi mr U.heap ∧ km_K E U U.heap)) (km_Q E post) rm.cells rm.slots (km_A E)
theorem km_C.mono {E : km_E} {l : Launch} {y : MethodName} {ws : List Cond} {rm : Room} {args : List Value} {sh : km_S} {mi : km_I} {mr : km_R} {post post' : Option Value → km_S → km_I → km_R → Prop} (h : km_C E l y ws rm args sh mi mr post) (hp : ∀ r s i q, post r s i q → post' r s i q) : km_C E l y ws rm args sh mi mr post' := by
  intro p e ha hc hk s m a below hf hh hpc ht
  obtain ⟨k, o, h1, h2, h3, ⟨⟨⟨r, s', mi', mr', e1, e2, e3⟩, e4⟩, e5⟩⟩ := h p e ha hc hk s m a below hf hh hpc ht
  exact ⟨k, o, h1, h2, h3, ⟨⟨r, s', mi', mr', e1, hp _ _ _ _ e2, e3⟩, e4⟩, e5⟩
def km_ar (i : Nat) (vs : List Value) : List (Nat × Value) := match vs with
  | [] => []
  | v :: r => (i, v) :: km_ar (i + 1) r
theorem km_ar_eq (E : km_E) : ∀ (vs : List Value) (i : Nat), lv_args i (vs.map (km_v E)) = (km_ar i vs).map (fun q => (q.1, km_v E q.2)) := by
  intro vs
  induction vs with
  | nil => intro i; rfl
  | cons v r ih =>
    intro i
    show (i, km_v E v) :: lv_args (if (km_v E v).category = 2 then i + 2 else i + 1) (r.map (km_v E)) = _
    rw [km_v_cat, if_neg (by decide), ih]
    rfl
theorem km_sl_len (E : km_E) : ∀ (vs : List Value), (lg_sl (vs.map (km_v E))).length = vs.length := by
  intro vs
  induction vs with
  | nil => rfl
  | cons v r ih =>
    show ((if (km_v E v).category = 2 then [Slot.val (km_v E v), .second] else [.val (km_v E v)]) ++ lg_sl (r.map (km_v E))).length = _
    rw [km_v_cat, if_neg (by decide), List.length_append, ih]
    simp [Nat.add_comm]
theorem km_start {E : km_E} {l : Launch} {y : MethodName} {ws ws' : List Cond} {rm : Room} {args : List Value} {sh : km_S} {mi : km_I} {mr : km_R} {post : Option Value → km_S → km_I → km_R → Prop} {cc : ByteArray} {maxL : Nat} {ret : Option FieldType} (hy : plainName y.cls = true) (hw : ws = Cond.code y cc maxL ret :: ws') (hn : args.length ≤ maxL)
    (body : ∀ X : km_X, X.2.1 = l → km_ok E X rm cc maxL ws y.cls → km_fin E X ret rm.cells rm.slots post → (y.name = "<init>" → X.2.2.2.2.2.2.2.2.1.name = "<init>") → km_G E X maxL sh mi mr 0 0 0 (km_ar 0 args) []) : km_C E l y ws rm args sh mi mr post := by
  refine Met.ofW (cc := cc) (maxL := maxL) (ret := ret) hy hw ?_
  intro p e s m a below meth c s₁ B hml hv
  obtain ⟨rfl, hat, hK⟩ := hv
  have hts := atoms_spec (ws := ws) B.pre
  have hown : s.vm.findClass y.cls = some m.cls := findClass_of_methodNamed B.named
  have hname : meth.name = y.name := (name_of_methodNamed B.named B.method).1
  have hbody := body (p, l, e, rm, s, m, (args.map (km_v E)).toArray, below, meth, c, MQ below (km_Q E post) (args.map (km_v E)).toArray s rm.cells rm.slots (km_A E)) rfl
    ⟨⟨B.exec, B.bytes, hml, hown, hts⟩, rfl, hK, by rw [hat.1]; exact Nat.le_add_right _ _⟩ ⟨B.returns, B.notSynchronized, rfl⟩ (fun h => hname.trans h)
  rw [lg_entry_eq]
  have hl := lv_entry (args.map (km_v E)) (n := maxL) (by rw [km_sl_len]; exact hn)
  rw [km_ar_eq] at hl
  exact hbody s.heap [] _ hat va_S.rf hl
