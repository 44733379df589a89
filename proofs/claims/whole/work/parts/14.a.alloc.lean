/-! new cells: the picture grows at its end; what it holds points into itself -/
def clE (m : Nat) : aC → Prop
  | .inl _ => True
  | .inr o => ∀ v ∈ o.2, clV m v
def clH (h : List aC) : Prop := ∀ e ∈ h, clE h.length e
def clS (m : Nat) : List Value → Prop
  | [] => True
  | v :: t => clV m v ∧ clS m t
def clL (m : Nat) : List (Nat × Value) → Prop
  | [] => True
  | q :: t => clV m q.2 ∧ clL m t
theorem clV.le {a b : Nat} {v : Value} (h : clV a v) (hab : a ≤ b) : clV b v := by
  cases v <;> first | trivial | exact Nat.lt_of_lt_of_le h hab
theorem clE.le {a b : Nat} {e : aC} (h : clE a e) (hab : a ≤ b) : clE b e := by
  cases e with
  | inl _ => trivial
  | inr o => exact fun v hv => (h v hv).le hab
theorem rC_pre {sb : Nat} {ad t : List Nat} {cI cR : ClassId} {e : aC} (h : clE ad.length e) : rC sb (ad ++ t) cI cR e = rC sb ad cI cR e := by
  have pre : ad <+: ad ++ t := List.prefix_append ad t
  cases e with
  | inl _ => rfl
  | inr o =>
    obtain ⟨c, fs⟩ := o
    have h : ∀ v ∈ fs, clV ad.length v := h
    unfold rC
    show (if c = 100 then _ else _) = (if c = 100 then _ else _)
    split
    · refine congrArg (fun g => (Sum.inl (cR, fs.length, .inr (.inr (.inr (.inr g)))) : va_E)) (funext fun i => ?_)
      by_cases q : i < fs.length
      · rw [List.getD_eq_getElem?_getD, List.getElem?_eq_getElem q]
        show uN_ (rv sb (ad ++ t) fs[i]) = uN_ (rv sb ad fs[i])
        rw [rv_pre pre (h _ (List.getElem_mem q))]
      · rw [List.getD_eq_getElem?_getD, List.getElem?_eq_none (show fs.length ≤ i by omega)]; rfl
    · exact congrArg (fun l => (Sum.inr (c, l) : va_E)) (List.map_congr_left fun v hv => rv_pre pre (h v hv))
theorem wld_push {sb : Nat} {ad t : List Nat} {cI cR : ClassId} {h cs : List aC} (hl : ad.length = h.length) (hc : clH h) : wld sb (ad ++ t) cI cR (h ++ cs) = wld sb ad cI cR h ++ List.zipWith (fun a e => (a, rC sb (ad ++ t) cI cR e)) t cs := by
  unfold wld
  rw [List.zipWith_append hl]
  congr 1
  refine List.ext_getElem? fun i => ?_
  rw [List.getElem?_zipWith, List.getElem?_zipWith]
  cases ha : ad[i]? with
  | none => rfl
  | some a =>
    cases hh : h[i]? with
    | none => rfl
    | some e =>
      show some (a, rC sb (ad ++ t) cI cR e) = some (a, rC sb ad cI cR e)
      rw [rC_pre (by rw [hl]; exact hc e (List.mem_of_getElem? hh))]
theorem st_pre {sb : Nat} {ad t : List Nat} : ∀ {st : List Value}, clS ad.length st → st.map (rv sb (ad ++ t)) = st.map (rv sb ad)
  | [], _ => rfl
  | v :: st, h => by
    rw [List.map_cons, List.map_cons, st_pre h.2, rv_pre (List.prefix_append ad t) h.1]
theorem ls_pre {sb : Nat} {ad t : List Nat} : ∀ {ls : List (Nat × Value)}, clL ad.length ls → ls.map (rL sb (ad ++ t)) = ls.map (rL sb ad)
  | [], _ => rfl
  | q :: ls, h => by
    rw [List.map_cons, List.map_cons, ls_pre h.2]
    unfold rL
    rw [rv_pre (List.prefix_append ad t) h.1]
theorem clH_wr {h : List aC} (hc : clH h) {o ci kf : Nat} {fs : List Value} {v : Value} (ho : rd h o = some (.inr (ci, fs))) (hv : clV h.length v) : clH (wr h o (.inr (ci, fs.set kf v))) := fun e he => by
  rw [wr_len]
  rcases List.mem_or_eq_of_mem_set he with h1 | rfl
  · exact hc e h1
  · intro x hx
    rcases List.mem_or_eq_of_mem_set hx with h2 | rfl
    · exact hc _ (List.mem_of_getElem? ho) x h2
    · exact hv
theorem clH_wrI {h : List aC} (hc : clH h) {o : Nat} {L : List Int32} : clH (wr h o (.inl L)) := fun e he => by
  rw [wr_len]
  rcases List.mem_or_eq_of_mem_set he with h1 | rfl
  · exact hc e h1
  · trivial
theorem clH.app {h : List aC} (hc : clH h) {cs : List aC} (hs : ∀ e ∈ cs, clE (h ++ cs).length e) : clH (h ++ cs) := fun e he => by
  rcases List.mem_append.mp he with h1 | h1
  · exact (hc e h1).le (by rw [List.length_append]; omega)
  · exact hs e h1
theorem nodup_of {A : Nat → Prop} {sb : Nat} {ad : List Nat} {cI cR : ClassId} {h : List aC} {ws : va_W} (hl : ad.length = h.length) (hD : va_D A (wld sb ad cI cR h ++ ws)) (hn : ad.Nodup) : (ad ++ ws.map Prod.fst).Nodup := by
  have hw : (wld sb ad cI cR h).length = ad.length := by unfold wld; rw [List.length_zipWith]; omega
  have key : ∀ i a, (ad ++ ws.map Prod.fst)[i]? = some a → ∃ e, (wld sb ad cI cR h ++ ws)[i]? = some (a, e) := fun i a hi => by
    by_cases q : i < ad.length
    · rw [List.getElem?_append_left q] at hi
      have hh : i < h.length := by omega
      refine ⟨rC sb ad cI cR h[i], ?_⟩
      rw [List.getElem?_append_left (by omega)]
      unfold wld
      rw [List.getElem?_zipWith, hi, List.getElem?_eq_getElem hh]
    · rw [List.getElem?_append_right (by omega), List.getElem?_map] at hi
      rw [List.getElem?_append_right (by omega), hw]
      cases hz : ws[i - ad.length]? with
      | none => rw [hz] at hi; cases hi
      | some x => rw [hz] at hi; cases hi; exact ⟨x.2, rfl⟩
  refine List.pairwise_iff_getElem.mpr fun i j hi hj hij e => ?_
  have h1 := List.getElem?_eq_getElem (l := ad ++ ws.map Prod.fst) (i := i) hi
  have h2 := List.getElem?_eq_getElem (l := ad ++ ws.map Prod.fst) (i := j) hj
  obtain ⟨e1, h3⟩ := key i _ h1
  obtain ⟨e2, h4⟩ := key j _ h2
  have := hD.1 i j _ _ h3 h4 e
  omega
section
variable {Y : YM} {R : Room} {X : Option (Nat × (Nat → Int32))} {P : Option Value → List aC → Prop} {k n pc : Nat} {ls ls' : List (Nat × Value)} {st : List Value} {h : List aC}
theorem jD.push {s : State} {dC : Nat → ClassId} {dI : Nat → Nat → Nat} {cI cR : ClassId} {sb : Nat} {ad0 ad : List Nat} {H H1 : Heap} {locs : List Loc} {lsA : Array Slot} {k' : Nat} {ws : va_W} {cs : List aC} (D : jD Y s dC dI cI cR sb ad0 ad h H locs ls lsA k) (hc : clH h) (hls : clL h.length ls)
    (hw : List.zipWith (fun a e => (a, rC sb (ad ++ ws.map Prod.fst) cI cR e)) (ws.map Prod.fst) cs = ws) (hlen : ws.length = cs.length) (hk : 0 < k') (hP : va_P (dC, dI) vwCl (wld sb ad cI cR h ++ ws) H1) (hD : va_D (fA ad0 s.heap.size) (wld sb ad cI cR h ++ ws)) (hS : va_S (fA ad0 s.heap.size) s.heap H1 locs) :
    jD Y s dC dI cI cR sb ad0 (ad ++ ws.map Prod.fst) (h ++ cs) H1 locs ls lsA k' := by
  refine ⟨by rw [List.length_append, List.length_append, List.length_map, D.1, hlen], nodup_of D.1 hD D.2.1, D.2.2.1.trans (List.prefix_append _ _), fun q hq => ?_, fun z => absurd z (by omega), ?_, hS, by rw [ls_pre (by rw [D.1]; exact hls)]; exact D.2.2.2.2.2.2.2⟩
  · rcases List.mem_append.mp hq with h1 | h1
    · exact D.2.2.2.1 q h1
    · obtain ⟨x, hx, rfl⟩ := List.mem_map.mp h1
      obtain ⟨i, hi⟩ := List.getElem?_of_mem hx
      refine hD.2 ((wld sb ad cI cR h).length + i) x ?_
      rw [List.getElem?_append_right (by omega), Nat.add_sub_cancel_left]
      exact hi
  · rw [wld_push D.1 hc, hw]; exact hP
theorem g_new {i ci N : Nat} {C : String} {T : u_T} {ty : Nat → FieldType} {ds : List Value} (hd : decode Y.2.1 pc = .ok (.new i, 3)) (cl : clsOK ci C T N ty) (hw : Cond.classLink Y.1.cls i C ∈ lw_tbl) (hi : Cond.instantiable C N ∈ lw_tbl) (hin : Cond.initialized C ∈ lw_tbl) (hds : ∀ j, j < N → defaultValue (ty j) = vp_V ds j) (hdr : ∀ (sb : Nat) (ad : List Nat), ds.map (rv sb ad) = ds) (hdc : ∀ v ∈ ds, clV 0 v) (hc : clH h) (hls : clL h.length ls) (hst : clS h.length st) (hk : k + 1 ≤ R.cells) (hn : n + N ≤ R.slots)
    (K : clH (h ++ [.inr (ci, ds)]) → G Y R X P (k + 1) (n + N) (pc + 3) ls (.ref h.length :: st) (h ++ [.inr (ci, ds)])) : G Y R X P k n pc ls st h := by
  intro p l e s m args below meth c dC dI cI cR sb ad0 ad H locs lsA S D
  refine va_new S.1 S.2.1 S.2.2.2.2.2.2.2.1 cl.2.2.1 ty cl.2.2.2.2.1 S.2.2.2.2.2.2.1 (S.2.2.2.2.2.2.2.1 _ (in_tblN hw rfl)) (S.2.2.2.2.2.2.2.1 _ (in_tblN hi rfl)) (S.2.2.2.2.2.2.2.1 _ (in_tblN hin rfl)) S.2.2.2.2.2.2.2.2.1 D.2.2.2.2.2.1 (wld_D D.2.1 D.2.2.2.1) D.2.2.2.2.2.2.1 (fun q hq => Or.inr hq) cl.1 hds hk hn hd (fun q H1 hP hD hS => ?_)
  have hcn : clH (h ++ [.inr (ci, ds)]) := hc.app fun e he => by
    rw [List.mem_singleton.mp he]
    exact fun v hv => (hdc v hv).le (Nat.zero_le _)
  have D2 := D.push (ws := [(q, .inr (ci, ds))]) (cs := [.inr (ci, ds)]) (k' := k + 1) hc hls (by show [(q, rC sb (ad ++ [q]) cI cR (.inr (ci, ds)))] = _; rw [rC_o cl.2.1, hdr]) rfl (Nat.succ_pos k) hP hD hS
  have KK := K hcn p l e s m args below meth c dC dI cI cR sb ad0 _ H1 locs lsA S D2
  rw [List.map_cons, st_pre (by rw [D.1]; exact hst), show rv sb (ad ++ [(q, (Sum.inr (ci, ds) : va_E))].map Prod.fst) (.ref h.length) = .ref q from by
    show Value.ref ((ad ++ [q]).getD h.length 0) = _
    rw [← D.1, List.getD_eq_getElem?_getD, List.getElem?_append_right (Nat.le_refl _), Nat.sub_self]; rfl] at KK
  exact KK
theorem repl0 (N : Nat) : (fun i => (List.replicate N (0 : Int32)).getD i 0) = fun _ => 0 := funext fun i => by
  rw [List.getD_eq_getElem?_getD, List.getElem?_replicate]
  split <;> rfl
theorem g_newa {N : Nat} (hd : decode Y.2.1 pc = .ok (.newarray .int, 2)) (hN : N ≤ 10000) (hc : clH h) (hls : clL h.length ls) (hst : clS h.length st) (hk : k + 1 ≤ R.cells) (hn : n + N ≤ R.slots)
    (K : clH (h ++ [.inl (List.replicate N 0)]) → G Y R X P (k + 1) (n + N) (pc + 2) ls (.ref h.length :: st) (h ++ [.inl (List.replicate N 0)])) : G Y R X P k n pc ls (.int (nI N) :: st) h := by
  intro p l e s m args below meth c dC dI cI cR sb ad0 ad H locs lsA S D
  have hcl : (nI N).toNatClampNeg = N := nI_clamp (by omega)
  refine va_newa (atype := .int) (ty := .int) (N' := N) (a0 := (N, .inl (fun _ => 0))) S.1 S.2.1 (S.2.2.2.2.2.2.2.1 _ (in_tblN wArr rfl)) rfl S.2.2.2.2.2.2.2.2.1 D.2.2.2.2.2.1 (wld_D D.2.1 D.2.2.2.1) D.2.2.2.2.2.2.1 (fun q hq => Or.inr hq) (fun cA => rfl) (Int32.not_lt.mpr (nI_pos' (by omega))) hcl (by show N * 4 ≤ _; omega) hk hn hd (fun q cA H1 hK hP hD hS => ?_)
  have eA : cA = cI := by
    have h1 := (S.2.2.2.2.2.2.2.2.1.2 0 _ rfl).2
    have h2 := (hK.2 2 _ rfl).2
    exact Option.some.inj (h2.symm.trans h1)
  subst eA
  have hcn : clH (h ++ [.inl (List.replicate N 0)]) := hc.app fun e he => by rw [List.mem_singleton.mp he]; trivial
  have D2 := D.push (ws := [(q, .inl (cA, (N, .inl (fun _ => 0))))]) (cs := [.inl (List.replicate N 0)]) (k' := k + 1) hc hls (by show [(q, (Sum.inl (cA, (List.replicate N (0 : Int32)).length, .inl (fun i => (List.replicate N (0 : Int32)).getD i 0)) : va_E))] = _; rw [repl0, List.length_replicate]) rfl (Nat.succ_pos k) hP hD hS
  have KK := K hcn p l e s m args below meth c dC dI cA cR sb ad0 _ H1 locs lsA S D2
  rw [List.map_cons, st_pre (by rw [D.1]; exact hst), show rv sb (ad ++ [(q, (Sum.inl (cA, (N, .inl (fun _ => 0))) : va_E))].map Prod.fst) (.ref h.length) = .ref q from by
    show Value.ref ((ad ++ [q]).getD h.length 0) = _
    rw [← D.1, List.getD_eq_getElem?_getD, List.getElem?_append_right (Nat.le_refl _), Nat.sub_self]; rfl] at KK
  exact KK
end
