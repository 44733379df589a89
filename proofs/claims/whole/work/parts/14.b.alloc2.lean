section
variable {Y : YM} {R : Room} {X : Option (Nat × (Nat → Int32))} {P : Option Value → List aC → Prop} {k n pc : Nat} {ls ls' : List (Nat × Value)} {st : List Value} {h : List aC}
theorem g_objInit {i o : Nat} (hd : decode Y.2.1 pc = .ok (.invokespecial i, 3)) (hw : Cond.methodLink Y.1.cls i objectInit ∈ lw_tbl) (hst : (st.map fun v => v.category).sum ≤ 8) (hR : 1 ≤ R.frames ∧ 20 ≤ R.locals) (K : G Y R X P k n (pc + 3) ls st h) : G Y R X P k n pc ls (.ref o :: st) h := by
  intro p l e s m args below meth c dC dI cI cR sb ad0 ad H locs lsA S D
  have hts := S.2.2.2.2.2.2.2.1
  have hr := lv_rm (pc := pc) (m := m) (lsA := lsA) (g := (Value.ref o :: st).map (rv sb ad)) (sb := sb) (ad := ad) hst
  exact W.objInit S.1 S.2.1 S.2.2.2.2.2.2.1 (hts _ (in_tblN hw rfl)) (hts _ (in_tblN wiOInit rfl)) (hts _ (in_tblN wcOInit rfl)) (g := F0 m pc lsA ((Value.ref o :: st).map (rv sb ad))) rfl (by rw [S.2.2.1]; exact D.2.2.2.2.2.2.2.1) rfl hd hR.1 (Nat.le_trans (Nat.add_le_add_right hr 12) hR.2) (K p l e s m args below meth c dC dI cI cR sb ad0 ad H locs lsA S D)
theorem D_grow {s : State} {dC : Nat → ClassId} {dI : Nat → Nat → Nat} {cI cR : ClassId} {sb : Nat} {ad0 ad ad' : List Nat} {H H1 : Heap} {locs locs1 : List Loc} {lsA : Array Slot} {mc : Nat} {h1 : List aC} (D : jD Y s dC dI cI cR sb ad0 ad h H locs ls lsA k) (hls : clL h.length ls)
    (q2 : ad <+: ad') (q3 : ∀ q ∈ ad', fA ad H.size q) (q4 : mc = 0 → ad' = ad) (q5 : ad'.length = h1.length) (q6 : ad'.Nodup) (q7 : va_P (dC, dI) vwCl (wld sb ad' cI cR h1) H1) (q8 : va_S (fA ad0 s.heap.size) s.heap H1 locs1) : jD Y s dC dI cI cR sb ad0 ad' h1 H1 locs1 ls lsA (k + mc) := by
  refine ⟨q5, q6, D.2.2.1.trans q2, fun q hq => reg_of D.2.2.2.1 D.2.2.2.2.2.2.1 q (q3 q hq), fun z => ?_, q7, q8, ?_⟩
  · rw [q4 (by omega)]; exact D.2.2.2.2.1 (by omega)
  · obtain ⟨t, rfl⟩ := q2
    rw [ls_pre (by rw [D.1]; exact hls)]
    exact D.2.2.2.2.2.2.2
theorem g_initI {y : MethodName} {cc : ByteArray} {mL d' mc ms i o : Nat} {Q : List aC → Prop} (hd : decode Y.2.1 pc = .ok (.invokespecial i, 3)) (E : Ev (y, cc, mL, none) d' mc ms [.ref o] h (pq none Q)) (O : mOK (y, cc, mL, none) 0) (hy : y.name = "<init>") (hI : Cond.instanceMethod y ∈ lw_tbl) (hw : Cond.methodLink Y.1.cls i y ∈ lw_tbl) (hR : d' + 1 ≤ R.frames ∧ 8 + (mL + 11) + 41 * d' ≤ R.locals) (hk : k + mc ≤ R.cells ∧ n + ms ≤ R.slots) (hst : (st.map fun v => v.category).sum ≤ 8) (hls : clL h.length ls) (hcs : clS h.length st)
    (K : ∀ h1, Q h1 → G Y R X P (k + mc) (n + ms) (pc + 3) ls st h1) : G Y R X P k n pc ls (.ref o :: st) h := by
  intro p l e s m args below meth c dC dI cI cR sb ad0 ad H locs lsA S D
  have hts := S.2.2.2.2.2.2.2.1
  have hr := va_runI (p := p) (l := l) (e := e) (R := R) (s := s) (m := m) (args := args) (below := below) (meth := meth) (c := c) (H := H) (locs := locs) (cells := k) (slots := n) (y := y) (b := ad.getD o 0) (As := []) (rest := st.map (rv sb ad)) (g := F0 m pc lsA ((Value.ref o :: st).map (rv sb ad))) ⟨S.1, S.2.1, S.2.2.1, S.2.2.2.2.2.2.1, hts⟩ (E l dC dI cI cR sb ad H.size)
    ⟨callB_of 0 hts (good_cons (in_tblN O.1 rfl)) rfl rfl rfl (hts _ (in_tblN O.2.1 rfl)) (hts _ (in_tblN hw rfl)) O.2.2 hR, hy, hts _ (in_tblN hI rfl)⟩
    ⟨blind_of, fun U hU hW => ⟨rfl, by rw [hU], D.1, D.2.1, by rw [hU]; exact D.2.2.2.2.2.1, va_K.moved hW.alike S.2.2.2.2.2.2.2.2.1, eN.moved hW S.2.2.2.2.2.2.2.2.2.1⟩⟩
    rfl rfl D.2.2.2.2.2.2.2.1 rfl (lv_rm hst) hd hk
  refine call_W hr D.2.2.2.2.2.2.1 (reg_of D.2.2.2.1 D.2.2.2.2.2.2.1) (fun ad' w h1 H1 locs1 q1 q2 q3 q4 q5 q6 q7 q8 => ?_)
  obtain ⟨rfl, q1⟩ := q1
  have KK := K h1 q1 p l e s m args below meth c dC dI cI cR sb ad0 ad' H1 locs1 lsA S (D_grow D hls q2 q3 q4 q5 q6 q7 q8)
  obtain ⟨t, rfl⟩ := q2
  rw [st_pre (by rw [D.1]; exact hcs)] at KK
  exact KK
theorem g_initN {y : MethodName} {cc : ByteArray} {host : String} {mL d' mc ms i o : Nat} {Q : List aC → Prop} (hd : decode Y.2.1 pc = .ok (.invokespecial i, 3)) (E : Ev (y, cc, mL, none) d' mc ms [.ref o] h (pq none Q)) (O : mOK (y, cc, mL, none) 0) (hy : y.name = "<init>") (hI : Cond.instanceMethod y ∈ lw_tbl) (hw : (Y.1.cls, i, y, host) ∈ nestL) (hR : d' + 1 ≤ R.frames ∧ 8 + (mL + 11) + 41 * d' ≤ R.locals) (hk : k + mc ≤ R.cells ∧ n + ms ≤ R.slots) (hst : (st.map fun v => v.category).sum ≤ 8) (hls : clL h.length ls) (hcs : clS h.length st)
    (K : ∀ h1, Q h1 → G Y R X P (k + mc) (n + ms) (pc + 3) ls st h1) : G Y R X P k n pc ls (.ref o :: st) h := by
  intro p l e s m args below meth c dC dI cI cR sb ad0 ad H locs lsA S D
  have hts := S.2.2.2.2.2.2.2.1
  have hr := va_runIN (p := p) (l := l) (e := e) (R := R) (s := s) (m := m) (args := args) (below := below) (meth := meth) (c := c) (H := H) (locs := locs) (cells := k) (slots := n) (y := y) (host := host) (b := ad.getD o 0) (As := []) (rest := st.map (rv sb ad)) (g := F0 m pc lsA ((Value.ref o :: st).map (rv sb ad))) ⟨S.1, S.2.1, S.2.2.1, S.2.2.2.2.2.2.1, hts⟩ (E l dC dI cI cR sb ad H.size)
    ⟨va_cnB 0 hts (good_cons (in_tblN O.1 rfl)) rfl rfl rfl (S.2.2.2.2.2.2.2.2.2.1.1 _ hw) (hts _ (in_tblN O.2.1 rfl)) O.2.2 hR, hy, hts _ (in_tblN hI rfl)⟩
    ⟨blind_of, fun U hU hW => ⟨rfl, by rw [hU], D.1, D.2.1, by rw [hU]; exact D.2.2.2.2.2.1, va_K.moved hW.alike S.2.2.2.2.2.2.2.2.1, eN.moved hW S.2.2.2.2.2.2.2.2.2.1⟩⟩
    rfl rfl D.2.2.2.2.2.2.2.1 rfl (lv_rm hst) hd hk
  refine call_W hr D.2.2.2.2.2.2.1 (reg_of D.2.2.2.1 D.2.2.2.2.2.2.1) (fun ad' w h1 H1 locs1 q1 q2 q3 q4 q5 q6 q7 q8 => ?_)
  obtain ⟨rfl, q1⟩ := q1
  have KK := K h1 q1 p l e s m args below meth c dC dI cI cR sb ad0 ad' H1 locs1 lsA S (D_grow D hls q2 q3 q4 q5 q6 q7 q8)
  obtain ⟨t, rfl⟩ := q2
  rw [st_pre (by rw [D.1]; exact hcs)] at KK
  exact KK
/-- rows of rows: the outer one behind the rest, then its rows -/
def mnC (L N M : Nat) : List aC := .inr (100, (List.range N).map (fun i => Value.ref (L + 1 + i))) :: List.replicate N (.inl (List.replicate M 0))
theorem mn_zip {sb : Nat} {ad : List Nat} {cI cR : ClassId} {L N M q : Nat} {r : Nat → Nat} {f : Nat → va_E} (hL : ad.length = L) :
    List.zipWith (fun a e => (a, rC sb (ad ++ q :: (List.range N).map r) cI cR e)) (q :: (List.range N).map r) (mnC L N M) = (q, .inl (cR, N, .inr (.inr (.inr (.inr (fun i => if i < N then some (r i) else none)))))) :: va_pl ((List.range N).map r) (vr_up f ((List.range N).map r) (.inl (cI, (M, .inl (fun _ => 0))))) := by
  unfold mnC
  rw [List.zipWith_cons_cons]
  congr 1
  · rw [rC_q, List.length_map, List.length_range]
    refine congrArg (fun g => ((q, Sum.inl (cR, N, .inr (.inr (.inr (.inr g))))) : Nat × va_E)) (funext fun i => ?_)
    by_cases h : i < N
    · rw [if_pos h, List.getD_eq_getElem?_getD, List.getElem?_map, List.getElem?_range h]
      show some ((ad ++ q :: (List.range N).map r).getD (L + 1 + i) 0) = _
      rw [List.getD_eq_getElem?_getD, List.getElem?_append_right (by omega), show L + 1 + i - ad.length = i + 1 by omega, List.getElem?_cons_succ, List.getElem?_map, List.getElem?_range h]
      rfl
    · rw [if_neg h, List.getD_eq_getElem?_getD, List.getElem?_eq_none (by rw [List.length_map, List.length_range]; omega)]
      rfl
  · refine List.ext_getElem? fun i => ?_
    unfold va_pl
    rw [List.getElem?_zipWith, List.getElem?_map, List.getElem?_map, List.getElem?_map]
    by_cases h : i < N
    · rw [List.getElem?_range h, List.getElem?_replicate, if_pos h]
      show some (r i, (Sum.inl (cI, (List.replicate M (0 : Int32)).length, .inl (fun j => (List.replicate M (0 : Int32)).getD j 0)) : va_E)) = some (r i, vr_up f ((List.range N).map r) (.inl (cI, (M, .inl (fun _ => 0)))) (r i))
      rw [vr_up_in (List.mem_map.mpr ⟨i, List.mem_range.mpr h, rfl⟩), repl0, List.length_replicate]
    · rw [List.getElem?_eq_none (l := List.range N) (by rw [List.length_range]; omega)]
      rfl
theorem g_mnew {i N M : Nat} (hd : decode Y.2.1 pc = .ok (.multianewarray i 2, 4)) (hw : Cond.classLink Y.1.cls i "[[I" ∈ lw_tbl) (hN : N ≤ 10000) (hM : M ≤ 10000) (hc : clH h) (hls : clL h.length ls) (hst : clS h.length st) (hk : k + (1 + N) ≤ R.cells) (hn : n + (N + N * M) ≤ R.slots)
    (K : clH (h ++ mnC h.length N M) → G Y R X P (k + 1 + N) (n + N + N * M) (pc + 4) ls (.ref h.length :: st) (h ++ mnC h.length N M)) : G Y R X P k n pc ls (.int (nI M) :: .int (nI N) :: st) h := by
  intro p l e s m args below meth c dC dI cI cR sb ad0 ad H locs lsA S D
  have hcN : (nI N).toNatClampNeg = N := nI_clamp (by omega)
  have hcM : (nI M).toNatClampNeg = M := nI_clamp (by omega)
  have hts := S.2.2.2.2.2.2.2.1
  have hK0 := S.2.2.2.2.2.2.2.2.1
  have e0 : ∀ {α : Type} (l : List α), l ++ [] = l := fun l => List.append_nil l
  refine va_mna (ty := .int) (cy := cI) (X := wld sb ad cI cR h) (L := []) (f := fun _ => .inr (0, [])) (N' := N) (K' := M) (z := (M, .inl (fun _ => 0))) S.1 S.2.1 S.2.2.2.2.2.2.1 (hts _ (in_tblN hw rfl)) S.2.2.2.2.2.2.2.2.2.1.2 (hts _ (in_tblN wArr rfl)) (hK0.2 0 _ rfl).2 hK0 (by show va_P _ _ (_ ++ []) _; rw [e0]; exact D.2.2.2.2.2.1) (by show va_D _ (_ ++ []); rw [e0]; exact wld_D D.2.1 D.2.2.2.1) D.2.2.2.2.2.2.1 (fun q hq => Or.inr hq) (Int32.not_lt.mpr (nI_pos' (by omega))) (Int32.not_lt.mpr (nI_pos' (by omega))) hcN hcM (by omega) (by show M * 4 ≤ _; omega) (by omega) rfl rfl hk hn (fun c => arrV_new c M _) hd (fun q r cA H1 hr hr2 hK hP hD hS => ?_)
  have eA : cA = cR := Option.some.inj ((hK.2 2 _ rfl).2.symm.trans (hK0.2 1 _ rfl).2)
  subst eA
  rw [List.append_assoc, List.nil_append] at hP hD
  have hcn : clH (h ++ mnC h.length N M) := hc.app fun e he => by
    rcases List.mem_cons.mp he with rfl | he
    · intro v hv
      obtain ⟨j, hj, rfl⟩ := List.mem_map.mp hv
      have := List.mem_range.mp hj
      show h.length + 1 + j < (h ++ mnC h.length N M).length
      unfold mnC
      rw [List.length_append, List.length_cons, List.length_replicate]
      omega
    · rw [(List.mem_replicate.mp he).2]; trivial
  have ef : ([(q, (Sum.inl (cA, N, .inr (.inr (.inr (.inr (fun i => if i < N then some (r i) else none))))) : va_E))] ++ va_pl ((List.range N).map r) (vr_up (fun _ => .inr (0, [])) ((List.range N).map r) (.inl (cI, (M, .inl (fun _ => 0)))))).map Prod.fst = q :: (List.range N).map r := by
    show q :: (((List.range N).map r).map _).map Prod.fst = _
    rw [List.map_map]
    exact congrArg (q :: ·) (List.map_id _)
  have D2 := D.push (ws := [(q, .inl (cA, N, .inr (.inr (.inr (.inr (fun i => if i < N then some (r i) else none))))))] ++ va_pl ((List.range N).map r) (vr_up (fun _ => .inr (0, [])) ((List.range N).map r) (.inl (cI, (M, .inl (fun _ => 0)))))) (cs := mnC h.length N M) (k' := k + 1 + N) hc hls (by rw [ef]; exact mn_zip D.1) (by unfold mnC va_pl; simp only [List.length_append, List.length_map, List.length_range, List.length_cons, List.length_replicate, List.length_nil]; omega) (by omega) hP hD hS
  rw [ef] at D2
  have KK := K hcn p l e s m args below meth c dC dI cI cA sb ad0 _ H1 locs lsA S D2
  rw [List.map_cons, st_pre (by rw [D.1]; exact hst), show rv sb (ad ++ q :: (List.range N).map r) (.ref h.length) = .ref q from by
    show Value.ref ((ad ++ q :: (List.range N).map r).getD h.length 0) = _
    rw [← D.1, List.getD_eq_getElem?_getD, List.getElem?_append_right (Nat.le_refl _), Nat.sub_self]; rfl] at KK
  exact KK
end
