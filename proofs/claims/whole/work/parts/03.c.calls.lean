/-- a method that can be called: its code, its class ready, so many parameters -/
abbrev mOK (Y : YM) (np : Nat) : Prop := Cond.code Y.1 Y.2.1 Y.2.2.1 Y.2.2.2 ∈ lw_tbl ∧ Cond.initialized Y.1.cls ∈ lw_tbl ∧ (Y.1.cls ≠ "java/lang/invoke/MethodHandle" ∧ Y.1.cls ≠ "java/lang/invoke/VarHandle" ∧ (parseMethodDescriptor Y.1.desc).map (fun d => d.parameters.length) = some np)
theorem wld_pre {sb : Nat} {ad ad' : List Nat} (h : ad <+: ad') {k : Nat} (hk : k < ad.length) : ad'.getD k 0 = ad.getD k 0 := by
  obtain ⟨t, rfl⟩ := h
  rw [List.getD_eq_getElem?_getD, List.getD_eq_getElem?_getD, List.getElem?_append_left hk]
/-- a value that points into the first m cells, if anywhere -/
def clV (m : Nat) (v : Value) : Prop := match v with
  | .ref a => a < m
  | _ => True
theorem rv_pre {sb : Nat} {ad ad' : List Nat} (h : ad <+: ad') {v : Value} (hv : clV ad.length v) : rv sb ad' v = rv sb ad v := by
  cases v with
  | ref a => exact congrArg Value.ref (wld_pre (sb := sb) h hv)
  | _ => rfl
theorem call_W {p : Program} {l : Launch} {e : Env} {R : Room} {s : State} {m : MethodId} {args : Array Value} {below : List Frame} {meth : Method} {c : Code} {H : Heap} {locs : List Loc} {k n mc ms pc : Nat} {lsA : Array Slot} {st0 rest : List Value} {Q : State → Prop} {dC : Nat → ClassId} {dI : Nat → Nat → Nat} {cI cR : ClassId} {sb : Nat} {ad0 ad : List Nat} {P' : Option Value → List aC → Prop} {a : Array Value}
    (hr : va_Run p l e R s m args below meth c H locs k n mc ms (F0 m pc lsA st0) rest (eQ dC dI cI cR sb ad H.size mc P' a) (fA ad H.size)) (hS : va_S (fA ad0 s.heap.size) s.heap H locs) (hA : ∀ q, fA ad H.size q → fA ad0 s.heap.size q)
    (K : ∀ (ad' : List Nat) (w : Option Value) (h1 : List aC) (H1 : Heap) (locs1 : List Loc), P' w h1 → ad <+: ad' → (∀ q ∈ ad', fA ad H.size q) → (mc = 0 → ad' = ad) → ad'.length = h1.length → ad'.Nodup → va_P (dC, dI) vwCl (wld sb ad' cI cR h1) H1 → va_S (fA ad0 s.heap.size) s.heap H1 locs1 → W p l e R s m args below meth c H1 locs1 (k + mc) (n + ms) Q (F0 m (pc + 3) lsA ((w.map (rv sb ad')).toList ++ rest))) :
    W p l e R s m args below meth c H locs k n Q (F0 m pc lsA st0) := by
  intro T hT X
  obtain ⟨v, st₀, t, T', L, h0, X', hL, e1, e2, ⟨ad', w, h1, b1, b2, b3, b4, b5, ⟨c1, c2, c3, c4⟩, hz, hk⟩, stp⟩ := hr T hT X
  cases b5
  rw [h0] at hz hk
  obtain ⟨t2, a1, d1⟩ := K ad' w h1 T'.heap (locs ++ L) b1 b2 b3 b4 c1 c2 (by rw [e1]; exact c3) ⟨Nat.le_trans hS.1 (by rw [e1]; exact hz), fun q h1 h2 => by rw [e1, hk q (Nat.lt_of_lt_of_le h1 hS.1) (fun z => h2 (hA q z))]; exact hS.2.1 q h1 h2, fun q hq => by
      rcases List.mem_append.mp hq with h | h
      · exact hS.2.2 q h
      · exact hA _ (hL q h)⟩ T' rfl X'
  exact ⟨t2, stp t2 a1, d1⟩
theorem blind_of {dC : Nat → ClassId} {dI : Nat → Nat → Nat} {cI cR : ClassId} {sb sz : Nat} {ad : List Nat} {av : List Value} {h : List aC} : FrameBlind (va_Pc (av.map (rv sb ad)) (fun U => U.heap.size = sz ∧ eB dC dI cI cR sb ad h U)) := fun a U g mk q => ⟨q.1, q.2.1, q.2.2.1, q.2.2.2.1, q.2.2.2.2.1, va_K.moved (u := U) (U := U.calling g mk a) (Vm.Alike.refl U.vm) q.2.2.2.2.2.1, eN.same (s := U) (U := U.calling g mk a) rfl q.2.2.2.2.2.2⟩
section
variable {Y Y' : YM} {R : Room} {X : Option (Nat × (Nat → Int32))} {P P' : Option Value → List aC → Prop} {k n pc d' i np ci mc ms : Nat} {ls : List (Nat × Value)} {st st0 As : List Value} {h : List aC}
theorem lv_rm {m : MethodId} {lsA : Array Slot} {g : List Value} {sb : Nat} {ad : List Nat} (hst : (st.map fun v => v.category).sum ≤ 8) : 2 * (F0 m pc lsA g).monitorRoom + ((st.map (rv sb ad)).map fun v => v.category).sum ≤ 8 := lv_room (by rw [rv_sum]; exact hst)
theorem reg_of {s : State} {ad0 ad : List Nat} {H : Heap} {locs : List Loc} (h1 : ∀ q ∈ ad, fA ad0 s.heap.size q) (hS : va_S (fA ad0 s.heap.size) s.heap H locs) : ∀ q, fA ad H.size q → fA ad0 s.heap.size q := fun q hq => by
  rcases hq with hq | hq
  · exact h1 q hq
  · exact Or.inr (Nat.le_trans hS.1 hq)
theorem toL {w : Option Value} {f : Value → Value} : (w.map f).toList ++ st.map f = (w.toList ++ st).map f := by cases w <;> rfl
theorem g_callV {o : Nat} {fs : List Value} {C : String} {T : u_T} {N : Nat} {ty : Nat → FieldType} (hd : decode Y.2.1 pc = .ok (.invokevirtual i, 3)) (E : Ev Y' d' 0 0 (.ref o :: As) h P') (O : mOK Y' np) (hI : Cond.instanceMethod Y'.1 ∈ lw_tbl) (hV : Cond.selects C Y'.1 Y'.1 ∈ lw_tbl) (hw : Cond.methodLink Y.1.cls i Y'.1 ∈ lw_tbl) (cl : clsOK ci C T N ty) (ho : rd h o = some (.inr (ci, fs))) (hn : As.length = np) (hR : d' + 1 ≤ R.frames ∧ 8 + (Y'.2.2.1 + 11) + 41 * d' ≤ R.locals) (hk : k ≤ R.cells ∧ n ≤ R.slots) (hst : (st.map fun v => v.category).sum ≤ 8) (h0 : st0 = As.reverse ++ .ref o :: st)
    (K : ∀ w h1, P' w h1 → h1.length = h.length → G Y R X P k n (pc + 3) ls (w.toList ++ st) h1) : G Y R X P k n pc ls st0 h := by
  intro p l e s m args below meth c dC dI cI cR sb ad0 ad H locs lsA S D
  subst h0
  have hts := S.2.2.2.2.2.2.2.1
  have he : (wld sb ad cI cR h)[o]? = some (ad.getD o 0, .inr (ci, fs.map (rv sb ad))) := by rw [wld_get D.1 ho, rC_o cl.2.1]
  have hr := va_runV (p := p) (l := l) (e := e) (R := R) (s := s) (m := m) (args := args) (below := below) (meth := meth) (c := c) (H := H) (locs := locs) (cells := k) (slots := n) (y := Y'.1) (C := C) (b := ad.getD o 0) (As := As.map (rv sb ad)) (rest := st.map (rv sb ad)) (g := F0 m pc lsA ((As.reverse ++ Value.ref o :: st).map (rv sb ad))) ⟨S.1, S.2.1, S.2.2.1, S.2.2.2.2.2.2.1, hts⟩ (E l dC dI cI cR sb ad H.size)
    ⟨callB_of np hts (good_cons (in_tblN O.1 rfl)) rfl rfl rfl (hts _ (in_tblN O.2.1 rfl)) (hts _ (in_tblN hw rfl)) O.2.2 hR, hts _ (in_tblN hI rfl), hts _ (in_tblN hV rfl)⟩
    ⟨blind_of, va_recv S.2.2.2.2.2.2.2.2.1 D.2.2.2.2.2.1 cl.1 he, fun U hU hW => ⟨rfl, by rw [hU], D.1, D.2.1, by rw [hU]; exact D.2.2.2.2.2.1, va_K.moved hW.alike S.2.2.2.2.2.2.2.2.1, eN.moved hW S.2.2.2.2.2.2.2.2.2.1⟩⟩
    rfl (by rw [List.length_map]; exact hn) D.2.2.2.2.2.2.2.1 (by show ((As.reverse ++ Value.ref o :: st).map (rv sb ad)) = _; rw [List.map_append, List.map_reverse]; rfl) (lv_rm hst) hd ⟨hk.1, hk.2⟩
  refine call_W hr D.2.2.2.2.2.2.1 (reg_of D.2.2.2.1 D.2.2.2.2.2.2.1) (fun ad' w h1 H1 locs1 q1 q2 q3 q4 q5 q6 q7 q8 => ?_)
  cases q4 rfl
  rw [toL]
  exact K w h1 q1 (q5.symm.trans D.1) p l e s m args below meth c dC dI cI cR sb ad0 ad H1 locs1 lsA S ⟨q5, q6, D.2.2.1, D.2.2.2.1, D.2.2.2.2.1, q7, q8, D.2.2.2.2.2.2.2⟩
theorem g_callS (hd : decode Y.2.1 pc = .ok (.invokestatic i, 3)) (E : Ev Y' d' 0 0 As h P') (O : mOK Y' np) (hI : Cond.static Y'.1 ∈ lw_tbl) (hw : Cond.methodLink Y.1.cls i Y'.1 ∈ lw_tbl) (hn : As.length = np) (hR : d' + 1 ≤ R.frames ∧ 8 + (Y'.2.2.1 + 11) + 41 * d' ≤ R.locals) (hk : k ≤ R.cells ∧ n ≤ R.slots) (hst : (st.map fun v => v.category).sum ≤ 8) (h0 : st0 = As.reverse ++ st)
    (K : ∀ w h1, P' w h1 → h1.length = h.length → G Y R X P k n (pc + 3) ls (w.toList ++ st) h1) : G Y R X P k n pc ls st0 h := by
  intro p l e s m args below meth c dC dI cI cR sb ad0 ad H locs lsA S D
  subst h0
  have hts := S.2.2.2.2.2.2.2.1
  have hr := va_runS (p := p) (l := l) (e := e) (R := R) (s := s) (m := m) (args := args) (below := below) (meth := meth) (c := c) (H := H) (locs := locs) (cells := k) (slots := n) (y := Y'.1) (As := As.map (rv sb ad)) (rest := st.map (rv sb ad)) (g := F0 m pc lsA ((As.reverse ++ st).map (rv sb ad))) ⟨S.1, S.2.1, S.2.2.1, S.2.2.2.2.2.2.1, hts⟩ (E l dC dI cI cR sb ad H.size)
    ⟨callB_of np hts (good_cons (in_tblN O.1 rfl)) rfl rfl rfl (hts _ (in_tblN O.2.1 rfl)) (hts _ (in_tblN hw rfl)) O.2.2 hR, hts _ (in_tblN hI rfl)⟩
    ⟨blind_of, fun U hU hW => ⟨rfl, by rw [hU], D.1, D.2.1, by rw [hU]; exact D.2.2.2.2.2.1, va_K.moved hW.alike S.2.2.2.2.2.2.2.2.1, eN.moved hW S.2.2.2.2.2.2.2.2.2.1⟩⟩
    rfl (by rw [List.length_map]; exact hn) D.2.2.2.2.2.2.2.1 (by show ((As.reverse ++ st).map (rv sb ad)) = _; rw [List.map_append, List.map_reverse]) (lv_rm hst) hd ⟨hk.1, hk.2⟩
  refine call_W hr D.2.2.2.2.2.2.1 (reg_of D.2.2.2.1 D.2.2.2.2.2.2.1) (fun ad' w h1 H1 locs1 q1 q2 q3 q4 q5 q6 q7 q8 => ?_)
  cases q4 rfl
  rw [toL]
  exact K w h1 q1 (q5.symm.trans D.1) p l e s m args below meth c dC dI cI cR sb ad0 ad H1 locs1 lsA S ⟨q5, q6, D.2.2.1, D.2.2.2.1, D.2.2.2.2.1, q7, q8, D.2.2.2.2.2.2.2⟩
theorem g_callSN {host : String} (hd : decode Y.2.1 pc = .ok (.invokestatic i, 3)) (E : Ev Y' d' 0 0 As h P') (O : mOK Y' np) (hI : Cond.static Y'.1 ∈ lw_tbl) (hw : (Y.1.cls, i, Y'.1, host) ∈ nestL) (hn : As.length = np) (hR : d' + 1 ≤ R.frames ∧ 8 + (Y'.2.2.1 + 11) + 41 * d' ≤ R.locals) (hk : k ≤ R.cells ∧ n ≤ R.slots) (hst : (st.map fun v => v.category).sum ≤ 8) (h0 : st0 = As.reverse ++ st)
    (K : ∀ w h1, P' w h1 → h1.length = h.length → G Y R X P k n (pc + 3) ls (w.toList ++ st) h1) : G Y R X P k n pc ls st0 h := by
  intro p l e s m args below meth c dC dI cI cR sb ad0 ad H locs lsA S D
  subst h0
  have hts := S.2.2.2.2.2.2.2.1
  have hr := va_runSN (p := p) (l := l) (e := e) (R := R) (s := s) (m := m) (args := args) (below := below) (meth := meth) (c := c) (H := H) (locs := locs) (cells := k) (slots := n) (y := Y'.1) (host := host) (As := As.map (rv sb ad)) (rest := st.map (rv sb ad)) (g := F0 m pc lsA ((As.reverse ++ st).map (rv sb ad))) ⟨S.1, S.2.1, S.2.2.1, S.2.2.2.2.2.2.1, hts⟩ (E l dC dI cI cR sb ad H.size)
    ⟨va_cnB np hts (good_cons (in_tblN O.1 rfl)) rfl rfl rfl (S.2.2.2.2.2.2.2.2.2.1.1 _ hw) (hts _ (in_tblN O.2.1 rfl)) O.2.2 hR, hts _ (in_tblN hI rfl), trivial⟩
    ⟨blind_of, fun U hU hW => ⟨rfl, by rw [hU], D.1, D.2.1, by rw [hU]; exact D.2.2.2.2.2.1, va_K.moved hW.alike S.2.2.2.2.2.2.2.2.1, eN.moved hW S.2.2.2.2.2.2.2.2.2.1⟩⟩
    rfl (by rw [List.length_map]; exact hn) D.2.2.2.2.2.2.2.1 (by show ((As.reverse ++ st).map (rv sb ad)) = _; rw [List.map_append, List.map_reverse]) (lv_rm hst) hd ⟨hk.1, hk.2⟩
  refine call_W hr D.2.2.2.2.2.2.1 (reg_of D.2.2.2.1 D.2.2.2.2.2.2.1) (fun ad' w h1 H1 locs1 q1 q2 q3 q4 q5 q6 q7 q8 => ?_)
  cases q4 rfl
  rw [toL]
  exact K w h1 q1 (q5.symm.trans D.1) p l e s m args below meth c dC dI cI cR sb ad0 ad H1 locs1 lsA S ⟨q5, q6, D.2.2.1, D.2.2.2.1, D.2.2.2.2.1, q7, q8, D.2.2.2.2.2.2.2⟩
end
