/-! CALLS -/
theorem km_blind {E : km_E} {av : List Value} {sh : km_S} {mi : km_I} {mr : km_R} : FrameBlind (va_Pc av (fun U => km_at E sh mi mr U.heap ∧ km_K E U U.heap)) := fun a U g mk q => by
  obtain ⟨q0, q1, q2⟩ := q
  exact ⟨q0, q1, km_K.same (u := U) (U := U.calling g mk a) rfl q2⟩
theorem km_after {p : Program} {l : Launch} {e : Env} {R : Room} {s : State} {m : MethodId} {args : Array Value} {below : List Frame} {meth : Method} {c : Code} {H : Heap} {locs : List Loc} {cl sl mc ms pc : Nat} {Q : State → Prop} {larr : Array Slot} {st0 rest : List Value} {a : Array Value} {E : km_E} {post : Option Value → km_S → km_I → km_R → Prop}
    (hr : va_Run p l e R s m args below meth c H locs cl sl mc ms (F0 m pc larr st0) rest (km_Q E post a) (km_A E)) (hs : va_S (km_A E) s.heap H locs)
    (kk : ∀ (r : Option Value) (sh' : km_S) (mi' : km_I) (mr' : km_R) (H1 : Heap) (locs1 : List Loc), post r sh' mi' mr' → km_at E sh' mi' mr' H1 → va_S (km_A E) s.heap H1 locs1 → W p l e R s m args below meth c H1 locs1 (cl + mc) (sl + ms) Q (F0 m (pc + 3) larr ((r.map (km_v E)).toList ++ rest))) : W p l e R s m args below meth c H locs cl sl Q (F0 m pc larr st0) := by
  intro T hT X
  obtain ⟨v, st₀, t, T', L, h0, X', hL, e1, e2, ⟨⟨r, sh', mi', mr', hv, hp, hat⟩, hz, hk⟩, st⟩ := hr T hT X
  have hv : v = r.map (km_v E) := Outcome.returned.inj hv
  subst hv
  rw [h0] at hz hk
  obtain ⟨t2, a1, b1⟩ := kk r sh' mi' mr' T'.heap (locs ++ L) hp (by rw [e1]; exact hat)
    ⟨Nat.le_trans hs.1 (by rw [e1]; exact hz), fun q h1 h2 => by rw [e1, hk q (Nat.lt_of_lt_of_le h1 hs.1) h2]; exact hs.2.1 q h1 h2, fun q hq => by
      rcases List.mem_append.mp hq with h | h
      · exact hs.2.2 q h
      · exact hL q h⟩ T' rfl X'
  exact ⟨t2, st t2 a1, b1⟩
theorem km_cats (E : km_E) : ∀ (st : List Value), ((st.map (km_v E)).map fun v => v.category).sum = st.length := by
  intro st
  induction st with
  | nil => rfl
  | cons v r ih =>
    show (km_v E v).category + ((r.map (km_v E)).map fun v => v.category).sum = r.length + 1
    rw [km_v_cat, ih, Nat.add_comm]
theorem km_toList (E : km_E) (r : Option Value) (rest : List Value) : (r.map (km_v E)).toList ++ rest.map (km_v E) = (r.toList ++ rest).map (km_v E) := by
  cases r <;> rfl
theorem km_rev (E : km_E) (As : List Value) (b : Nat) (rest : List Value) : (As.reverse ++ .ref b :: rest).map (km_v E) = (As.map (km_v E)).reverse ++ .ref (E.1 + b) :: rest.map (km_v E) := by
  rw [List.map_append, List.map_reverse]; rfl
theorem km_revS (E : km_E) (As rest : List Value) : (As.reverse ++ rest).map (km_v E) = (As.map (km_v E)).reverse ++ rest.map (km_v E) := by
  rw [List.map_append, List.map_reverse]
/-- a call's words: invokevirtual -/
def km_cV (Ts : List Cond) (own : String) (index ci : Nat) (y : MethodName) (ws : List Cond) (maxL n : Nat) : Prop := GoodIn Ts (wsV own index y.cls y ws) ∧ (∃ (bytes : ByteArray) (ret : Option FieldType) (ws' : List Cond), ws = Cond.code y bytes maxL ret :: ws') ∧ (y.cls ≠ "java/lang/invoke/MethodHandle" ∧ y.cls ≠ "java/lang/invoke/VarHandle" ∧ (parseMethodDescriptor y.desc).map (fun d => d.parameters.length) = some n) ∧ ∃ (T : u_T) (N : Nat), vwCl[ci]? = some (y.cls, T, N)
/-- invokestatic -/
def km_cS (Ts : List Cond) (own : String) (index : Nat) (y : MethodName) (ws : List Cond) (maxL n : Nat) : Prop := GoodIn Ts (va_wsS own index y ws) ∧ (∃ (bytes : ByteArray) (ret : Option FieldType) (ws' : List Cond), ws = Cond.code y bytes maxL ret :: ws') ∧ (y.cls ≠ "java/lang/invoke/MethodHandle" ∧ y.cls ≠ "java/lang/invoke/VarHandle" ∧ (parseMethodDescriptor y.desc).map (fun d => d.parameters.length) = some n)
/-- invokespecial of a constructor -/
def km_cI (Ts : List Cond) (own : String) (index : Nat) (y : MethodName) (ws : List Cond) (maxL n : Nat) : Prop := GoodIn Ts ws ∧ (∃ (bytes : ByteArray) (ws' : List Cond), ws = Cond.code y bytes maxL none :: ws') ∧ (y.cls ≠ "java/lang/invoke/MethodHandle" ∧ y.cls ≠ "java/lang/invoke/VarHandle" ∧ (parseMethodDescriptor y.desc).map (fun d => d.parameters.length) = some n) ∧ Cond.initialized y.cls ∈ Ts ∧ Cond.instanceMethod y ∈ Ts ∧ y.name = "<init>" ∧ (Cond.methodLink own index y ∈ Ts ∨ (own, index, y) ∈ km_nw)
abbrev km_rok (rm R : Room) (maxL cl sl : Nat) : Prop := (rm.frames + 1 ≤ R.frames ∧ 8 + (maxL + 11) + rm.locals ≤ R.locals) ∧ cl + rm.cells ≤ R.cells ∧ sl + rm.slots ≤ R.slots
theorem km_callV {E : km_E} {X : km_X} {R : Room} {cc : ByteArray} {nL : Nat} {Ts : List Cond} {own : String} {sh : km_S} {mi : km_I} {mr : km_R} {cl sl pc : Nat} {ls : List (Nat × Value)} (hX : km_ok E X R cc nL Ts own) {y : MethodName} {ws : List Cond} {rm : Room} {index ci maxL n b : Nat} {As st0 rest : List Value} {post : Option Value → km_S → km_I → km_R → Prop}
    (hd : decode cc pc = .ok (.invokevirtual index, 3)) (hcw : km_cV Ts own index ci y ws maxL n) (hM : km_C E X.2.1 y ws rm (.ref b :: As) sh mi mr post) (hR : km_rok rm R maxL cl sl) (hb9 : sh[b]? = some (.inr ci)) (hn : As.length = n) (hst : st0 = As.reverse ++ .ref b :: rest) (hrest : rest.length ≤ 8)
    (kk : ∀ (r : Option Value) (sh' : km_S) (mi' : km_I) (mr' : km_R), post r sh' mi' mr' → km_G E X nL sh' mi' mr' (cl + rm.cells) (sl + rm.slots) (pc + 3) ls (r.toList ++ rest)) : km_G E X nL sh mi mr cl sl pc ls st0 := by
  obtain ⟨p, l, e, R', s, m, args, below, meth, c, Q⟩ := X
  obtain ⟨⟨hx, hb, hml, hown, hts⟩, rfl, hK, hsz⟩ := hX
  obtain ⟨hG, ⟨bytes, ret, ws', hws⟩, hnm, T, N, hc⟩ := hcw
  subst hst
  intro H locs larr hw hs hl
  rw [km_rev]
  refine km_after (va_runV (As := As.map (km_v E)) (rest := rest.map (km_v E)) ⟨hx, hb, hml, hown, hts⟩ hM (cwV n hts hG hws rfl rfl ⟨rfl, hnm⟩ hR.1)
    ⟨km_blind, va_recv hK.1 hw.2 hc (km_w_at hb9), fun U hU hW => ⟨rfl, by rw [hU]; exact hw, by rw [hU]; exact (km_K.warm hW hK).kept (fun a h1 h2 => hs.2.1 a h1 h2)⟩⟩ rfl (by rw [List.length_map]; exact hn) hl.1 rfl (lv_room (by rw [km_cats]; exact hrest)) hd hR.2) hs (fun r sh' mi' mr' H1 locs1 hp hat hs1 => ?_)
  rw [km_toList]
  exact kk r sh' mi' mr' hp H1 locs1 larr hat hs1 hl
theorem km_callS {E : km_E} {X : km_X} {R : Room} {cc : ByteArray} {nL : Nat} {Ts : List Cond} {own : String} {sh : km_S} {mi : km_I} {mr : km_R} {cl sl pc : Nat} {ls : List (Nat × Value)} (hX : km_ok E X R cc nL Ts own) {y : MethodName} {ws : List Cond} {rm : Room} {index maxL n : Nat} {As st0 rest : List Value} {post : Option Value → km_S → km_I → km_R → Prop}
    (hd : decode cc pc = .ok (.invokestatic index, 3)) (hcw : km_cS Ts own index y ws maxL n) (hM : km_C E X.2.1 y ws rm As sh mi mr post) (hR : km_rok rm R maxL cl sl) (hn : As.length = n) (hst : st0 = As.reverse ++ rest) (hrest : rest.length ≤ 8)
    (kk : ∀ (r : Option Value) (sh' : km_S) (mi' : km_I) (mr' : km_R), post r sh' mi' mr' → km_G E X nL sh' mi' mr' (cl + rm.cells) (sl + rm.slots) (pc + 3) ls (r.toList ++ rest)) : km_G E X nL sh mi mr cl sl pc ls st0 := by
  obtain ⟨p, l, e, R', s, m, args, below, meth, c, Q⟩ := X
  obtain ⟨⟨hx, hb, hml, hown, hts⟩, rfl, hK, hsz⟩ := hX
  obtain ⟨hG, ⟨bytes, ret, ws', hws⟩, hnm⟩ := hcw
  subst hst
  intro H locs larr hw hs hl
  rw [km_revS]
  refine km_after (va_runS (As := As.map (km_v E)) (rest := rest.map (km_v E)) ⟨hx, hb, hml, hown, hts⟩ hM (va_cwS n hts hG hws rfl rfl hnm hR.1)
    ⟨km_blind, fun U hU hW => ⟨rfl, by rw [hU]; exact hw, by rw [hU]; exact (km_K.warm hW hK).kept (fun a h1 h2 => hs.2.1 a h1 h2)⟩⟩ rfl (by rw [List.length_map]; exact hn) hl.1 rfl (lv_room (by rw [km_cats]; exact hrest)) hd hR.2) hs (fun r sh' mi' mr' H1 locs1 hp hat hs1 => ?_)
  rw [km_toList]
  exact kk r sh' mi' mr' hp H1 locs1 larr hat hs1 hl
theorem km_callI {E : km_E} {X : km_X} {R : Room} {cc : ByteArray} {nL : Nat} {Ts : List Cond} {own : String} {sh : km_S} {mi : km_I} {mr : km_R} {cl sl pc : Nat} {ls : List (Nat × Value)} (hX : km_ok E X R cc nL Ts own) {y : MethodName} {ws : List Cond} {rm : Room} {index maxL n b : Nat} {As st0 rest : List Value} {post : Option Value → km_S → km_I → km_R → Prop}
    (hd : decode cc pc = .ok (.invokespecial index, 3)) (hcw : km_cI Ts own index y ws maxL n) (hM : km_C E X.2.1 y ws rm (.ref b :: As) sh mi mr post) (hR : km_rok rm R maxL cl sl) (hn : As.length = n) (hst : st0 = As.reverse ++ .ref b :: rest) (hrest : rest.length ≤ 8)
    (kk : ∀ (r : Option Value) (sh' : km_S) (mi' : km_I) (mr' : km_R), post r sh' mi' mr' → km_G E X nL sh' mi' mr' (cl + rm.cells) (sl + rm.slots) (pc + 3) ls (r.toList ++ rest)) : km_G E X nL sh mi mr cl sl pc ls st0 := by
  obtain ⟨p, l, e, R', s, m, args, below, meth, c, Q⟩ := X
  obtain ⟨⟨hx, hb, hml, hown, hts⟩, rfl, hK, hsz⟩ := hX
  obtain ⟨hG, ⟨bytes, ws', hws⟩, hnm, hini, hinst, hy1, hlk⟩ := hcw
  subst hst
  intro H locs larr hw hs hl
  rw [km_rev]
  have hpre : PreS s H (va_Pc ((Value.ref b :: As).map (km_v E)) (fun U => km_at E sh mi mr U.heap ∧ km_K E U U.heap)) (.ref (E.1 + b) :: As.map (km_v E)) := ⟨km_blind, fun U hU hW => ⟨rfl, by rw [hU]; exact hw, by rw [hU]; exact (km_K.warm hW hK).kept (fun a h1 h2 => hs.2.1 a h1 h2)⟩⟩
  have hfin : ∀ (r : Option Value) (sh' : km_S) (mi' : km_I) (mr' : km_R) (H1 : Heap) (locs1 : List Loc), post r sh' mi' mr' → km_at E sh' mi' mr' H1 → va_S (km_A E) s.heap H1 locs1 → W p l e R' s m args below meth c H1 locs1 (cl + rm.cells) (sl + rm.slots) Q (F0 m (pc + 3) larr ((r.map (km_v E)).toList ++ rest.map (km_v E))) := fun r sh' mi' mr' H1 locs1 hp hat hs1 => by
    rw [km_toList]
    exact kk r sh' mi' mr' hp H1 locs1 larr hat hs1 hl
  rcases hlk with hlk | hlk
  · exact km_after (va_runI (As := As.map (km_v E)) (rest := rest.map (km_v E)) ⟨hx, hb, hml, hown, hts⟩ hM (cwI n hts hG hws rfl rfl (hts _ hini) (hts _ hlk) (hts _ hinst) hy1 hnm hR.1) hpre rfl (by rw [List.length_map]; exact hn) hl.1 rfl (lv_room (by rw [km_cats]; exact hrest)) hd hR.2) hs hfin
  · exact km_after (va_runIN (As := As.map (km_v E)) (rest := rest.map (km_v E)) ⟨hx, hb, hml, hown, hts⟩ hM ⟨va_cnB n hts hG hws rfl rfl (hK.2.2.2.2 _ hlk) (hts _ hini) hnm hR.1, hy1, hts _ hinst⟩ hpre rfl (by rw [List.length_map]; exact hn) hl.1 rfl (lv_room (by rw [km_cats]; exact hrest)) hd hR.2) hs hfin
/-- contracts of methods that make nothing and move no reference: an int, nothing, a place -/
abbrev km_Ci (E : km_E) (l : Launch) (y : MethodName) (ws : List Cond) (rm : Room) (args : List Value) (sh : km_S) (mi : km_I) (mr : km_R) (P : Int32 → km_I → Prop) : Prop := km_C E l y ws rm args sh mi mr (fun r sh' mi' mr' => sh' = sh ∧ mr' = mr ∧ ∃ i, r = some (.int i) ∧ P i mi')
abbrev km_Cv (E : km_E) (l : Launch) (y : MethodName) (ws : List Cond) (rm : Room) (args : List Value) (sh : km_S) (mi : km_I) (mr : km_R) (P : km_I → Prop) : Prop := km_C E l y ws rm args sh mi mr (fun r sh' mi' mr' => sh' = sh ∧ mr' = mr ∧ r = none ∧ P mi')
abbrev km_Cr (E : km_E) (l : Launch) (y : MethodName) (ws : List Cond) (rm : Room) (args : List Value) (sh : km_S) (mi : km_I) (mr : km_R) (P : Nat → km_I → Prop) : Prop := km_C E l y ws rm args sh mi mr (fun r sh' mi' mr' => sh' = sh ∧ mr' = mr ∧ ∃ a, r = some (.ref a) ∧ P a mi')
section KMC
variable {E : km_E} {X : km_X} {R : Room} {cc : ByteArray} {nL : Nat} {Ts : List Cond} {own : String} {sh : km_S} {mi : km_I} {mr : km_R} {cl sl pc : Nat} {ls : List (Nat × Value)} {y : MethodName} {ws : List Cond} {fr lo : Nat} {index ci maxL n b : Nat} {As st0 rest : List Value}
theorem km_callVi (hX : km_ok E X R cc nL Ts own) {P : Int32 → km_I → Prop} (hd : decode cc pc = .ok (.invokevirtual index, 3)) (hcw : km_cV Ts own index ci y ws maxL n) (hM : km_Ci E X.2.1 y ws { frames := fr, cells := 0, slots := 0, locals := lo } (.ref b :: As) sh mi mr P) (hR : km_rok { frames := fr, cells := 0, slots := 0, locals := lo } R maxL cl sl) (hb9 : sh[b]? = some (.inr ci)) (hn : As.length = n) (hst : st0 = As.reverse ++ .ref b :: rest) (hrest : rest.length ≤ 8)
    (kk : ∀ (i : Int32) (mi' : km_I), P i mi' → km_G E X nL sh mi' mr cl sl (pc + 3) ls (.int i :: rest)) : km_G E X nL sh mi mr cl sl pc ls st0 :=
  km_callV hX hd hcw hM hR hb9 hn hst hrest (fun r sh' mi' mr' h => by
    obtain ⟨rfl, rfl, i, rfl, h⟩ := h
    exact kk i mi' h)
theorem km_callVv (hX : km_ok E X R cc nL Ts own) {P : km_I → Prop} (hd : decode cc pc = .ok (.invokevirtual index, 3)) (hcw : km_cV Ts own index ci y ws maxL n) (hM : km_Cv E X.2.1 y ws { frames := fr, cells := 0, slots := 0, locals := lo } (.ref b :: As) sh mi mr P) (hR : km_rok { frames := fr, cells := 0, slots := 0, locals := lo } R maxL cl sl) (hb9 : sh[b]? = some (.inr ci)) (hn : As.length = n) (hst : st0 = As.reverse ++ .ref b :: rest) (hrest : rest.length ≤ 8)
    (kk : ∀ (mi' : km_I), P mi' → km_G E X nL sh mi' mr cl sl (pc + 3) ls rest) : km_G E X nL sh mi mr cl sl pc ls st0 :=
  km_callV hX hd hcw hM hR hb9 hn hst hrest (fun r sh' mi' mr' h => by
    obtain ⟨rfl, rfl, rfl, h⟩ := h
    exact kk mi' h)
theorem km_callVr (hX : km_ok E X R cc nL Ts own) {P : Nat → km_I → Prop} (hd : decode cc pc = .ok (.invokevirtual index, 3)) (hcw : km_cV Ts own index ci y ws maxL n) (hM : km_Cr E X.2.1 y ws { frames := fr, cells := 0, slots := 0, locals := lo } (.ref b :: As) sh mi mr P) (hR : km_rok { frames := fr, cells := 0, slots := 0, locals := lo } R maxL cl sl) (hb9 : sh[b]? = some (.inr ci)) (hn : As.length = n) (hst : st0 = As.reverse ++ .ref b :: rest) (hrest : rest.length ≤ 8)
    (kk : ∀ (a : Nat) (mi' : km_I), P a mi' → km_G E X nL sh mi' mr cl sl (pc + 3) ls (.ref a :: rest)) : km_G E X nL sh mi mr cl sl pc ls st0 :=
  km_callV hX hd hcw hM hR hb9 hn hst hrest (fun r sh' mi' mr' h => by
    obtain ⟨rfl, rfl, a, rfl, h⟩ := h
    exact kk a mi' h)
theorem km_callSi (hX : km_ok E X R cc nL Ts own) {P : Int32 → km_I → Prop} (hd : decode cc pc = .ok (.invokestatic index, 3)) (hcw : km_cS Ts own index y ws maxL n) (hM : km_Ci E X.2.1 y ws { frames := fr, cells := 0, slots := 0, locals := lo } As sh mi mr P) (hR : km_rok { frames := fr, cells := 0, slots := 0, locals := lo } R maxL cl sl) (hn : As.length = n) (hst : st0 = As.reverse ++ rest) (hrest : rest.length ≤ 8)
    (kk : ∀ (i : Int32) (mi' : km_I), P i mi' → km_G E X nL sh mi' mr cl sl (pc + 3) ls (.int i :: rest)) : km_G E X nL sh mi mr cl sl pc ls st0 :=
  km_callS hX hd hcw hM hR hn hst hrest (fun r sh' mi' mr' h => by
    obtain ⟨rfl, rfl, i, rfl, h⟩ := h
    exact kk i mi' h)
end KMC
