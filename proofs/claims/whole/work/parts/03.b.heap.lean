def clsOK (ci : Nat) (C : String) (T : u_T) (N : Nat) (ty : Nat → FieldType) : Prop := vwCl[ci]? = some (C, T, N) ∧ ci ≠ 100 ∧ (∀ w ∈ u_ws C T N, w ∈ tblN) ∧ (∀ k, k < N → (T k).1 = C) ∧ (∀ k, k < N → parseFieldDescriptor (T k).2.2.1 = some (ty k)) ∧ (∀ a, a < N → ∀ b, b < N → a ≠ b → (T a).2.1 ≠ (T b).2.1)
theorem rC_o {sb : Nat} {ad : List Nat} {cI cR : ClassId} {ci : Nat} {fs : List Value} (h : ci ≠ 100) : rC sb ad cI cR (.inr (ci, fs)) = .inr (ci, fs.map (rv sb ad)) := by
  show (if ci = 100 then _ else _) = _
  rw [if_neg h]
theorem rC_q {sb : Nat} {ad : List Nat} {cI cR : ClassId} {fs : List Value} : rC sb ad cI cR (.inr (100, fs)) = .inl (cR, fs.length, .inr (.inr (.inr (.inr (fun i => uN_ (rv sb ad (fs.getD i .null))))))) := by
  unfold rC
  exact if_pos rfl
theorem upd_getD (L : List Int32) (j : Nat) (x : Int32) (hj : j < L.length) : upd (fun i => L.getD i 0) j x = fun i => (L.set j x).getD i 0 := by
  funext i
  unfold upd
  by_cases h : i = j
  · subst h
    rw [if_pos rfl, List.getD_eq_getElem?_getD, List.getElem?_set_self hj]
    rfl
  · rw [if_neg h]
    show L.getD i 0 = _
    rw [List.getD_eq_getElem?_getD, List.getD_eq_getElem?_getD, List.getElem?_set_ne (fun q => h q.symm)]
theorem cpy_getD (L M : List Int32) (n : Nat) (h1 : L.length = n) (h2 : M.length = n) : va_cpy (fun i => L.getD i 0) (fun i => M.getD i 0) 0 0 n = fun i => L.getD i 0 := by
  funext i
  by_cases h : i < n
  · rw [pk_cpy_in (Nat.zero_le _) (by omega)]
    congr 1
    omega
  · rw [pk_cpy_out (Or.inr (by omega)), List.getD_eq_getElem?_getD, List.getD_eq_getElem?_getD, List.getElem?_eq_none (by omega), List.getElem?_eq_none (by omega)]
section
variable {Y : YM} {R : Room} {X : Option (Nat × (Nat → Int32))} {P : Option Value → List aC → Prop} {k n pc : Nat} {ls ls' : List (Nat × Value)} {st : List Value} {h : List aC}
theorem g_getf {i ci N kf o : Nat} {C : String} {T : u_T} {ty : Nat → FieldType} {fs : List Value} {v : Value} (hd : decode Y.2.1 pc = .ok (.getfield i, 3)) (cl : clsOK ci C T N ty) (hw : Cond.fieldLink Y.1.cls i C (T kf).2.1 (T kf).2.2.1 ∈ lw_tbl) (hk : kf < N) (ho : rd h o = some (.inr (ci, fs))) (hv : fs[kf]? = some v) (K : G Y R X P k n (pc + 3) ls (v :: st) h) : G Y R X P k n pc ls (.ref o :: st) h := by
  intro p l e s m args below meth c dC dI cI cR sb ad0 ad H locs lsA S D
  have he : (wld sb ad cI cR h)[o]? = some (ad.getD o 0, .inr (ci, fs.map (rv sb ad))) := by rw [wld_get D.1 ho, rC_o cl.2.1]
  exact va_get S.1 S.2.1 S.2.2.2.2.2.2.2.1 cl.2.2.1 S.2.2.2.2.2.2.1 S.2.2.2.2.2.2.2.2.1 D.2.2.2.2.2.1 o he cl.1 kf hk (S.2.2.2.2.2.2.2.1 _ (in_tblN hw rfl)) (fun x hx => by rw [cl.2.2.2.1 kf hk] at hx; exact hx) (v := rv sb ad v) (by rw [List.getElem?_map, hv]; rfl) hd (K p l e s m args below meth c dC dI cI cR sb ad0 ad H locs lsA S D)
theorem g_put {i ci N kf o : Nat} {C : String} {T : u_T} {ty : Nat → FieldType} {fs fs' : List Value} {v : Value} (hd : decode Y.2.1 pc = .ok (.putfield i, 3)) (cl : clsOK ci C T N ty) (hw : Cond.fieldLink Y.1.cls i C (T kf).2.1 (T kf).2.2.1 ∈ lw_tbl) (hk : kf < N) (hfin : (T kf).2.2.2 = false) (hnf : ∀ (sb : Nat) (ad : List Nat), narrow (ty kf) (rv sb ad v) = rv sb ad v ∧ fits (ty kf) (rv sb ad v) = true) (ho : rd h o = some (.inr (ci, fs))) (hl : kf < fs.length) (hs : fs.set kf v = fs') (K : G Y R X P k n (pc + 3) ls st (wr h o (.inr (ci, fs')))) : G Y R X P k n pc ls (v :: .ref o :: st) h := by
  intro p l e s m args below meth c dC dI cI cR sb ad0 ad H locs lsA S D
  subst hs
  have he : (wld sb ad cI cR h)[o]? = some (ad.getD o 0, .inr (ci, fs.map (rv sb ad))) := by rw [wld_get D.1 ho, rC_o cl.2.1]
  refine va_put S.1 S.2.1 S.2.2.2.2.2.2.2.1 cl.2.2.1 ty cl.2.2.2.2.1 cl.2.2.2.2.2 S.2.2.2.2.2.2.1 S.2.2.2.2.2.2.2.2.1 D.2.2.2.2.2.1 (wld_D D.2.1 D.2.2.2.1) D.2.2.2.2.2.2.1 o he cl.1 kf hk (S.2.2.2.2.2.2.2.1 _ (in_tblN hw rfl)) (fun x hx => by rw [cl.2.2.2.1 kf hk] at hx; exact hx) hfin (cl.2.2.2.2.1 kf hk) (hnf sb ad).1 (hnf sb ad).2 (by rw [List.length_map]; exact hl) hd (fun H1 locs1 hP1 hD1 hS1 => K p l e s m args below meth c dC dI cI cR sb ad0 ad H1 locs1 lsA S ⟨by rw [wr_len]; exact D.1, D.2.1, D.2.2.1, D.2.2.2.1, D.2.2.2.2.1, ?_, hS1, D.2.2.2.2.2.2.2⟩)
  rw [← wld_set D.1 ho, rC_o cl.2.1, List.map_set]
  exact hP1
theorem g_putF {i ci N kf o : Nat} {C : String} {T : u_T} {ty : Nat → FieldType} {fs fs' : List Value} {v : Value} (hd : decode Y.2.1 pc = .ok (.putfield i, 3)) (cl : clsOK ci C T N ty) (hw : Cond.fieldLink Y.1.cls i C (T kf).2.1 (T kf).2.2.1 ∈ lw_tbl) (hk : kf < N) (hfin : (T kf).2.2.2 = true) (hin : Y.1.name = "<init>") (hdc : C = Y.1.cls) (hnf : ∀ (sb : Nat) (ad : List Nat), narrow (ty kf) (rv sb ad v) = rv sb ad v ∧ fits (ty kf) (rv sb ad v) = true) (ho : rd h o = some (.inr (ci, fs))) (hl : kf < fs.length) (hs : fs.set kf v = fs') (K : G Y R X P k n (pc + 3) ls st (wr h o (.inr (ci, fs')))) : G Y R X P k n pc ls (v :: .ref o :: st) h := by
  intro p l e s m args below meth c dC dI cI cR sb ad0 ad H locs lsA S D
  subst hs
  have he : (wld sb ad cI cR h)[o]? = some (ad.getD o 0, .inr (ci, fs.map (rv sb ad))) := by rw [wld_get D.1 ho, rC_o cl.2.1]
  refine va_putF S.1 S.2.1 S.2.2.2.2.2.2.2.1 cl.2.2.1 ty cl.2.2.2.2.1 cl.2.2.2.2.2 S.2.2.2.2.2.2.1 S.2.2.2.2.2.2.2.2.1 D.2.2.2.2.2.1 (wld_D D.2.1 D.2.2.2.1) D.2.2.2.2.2.2.1 o he cl.1 kf hk (S.2.2.2.2.2.2.2.1 _ (in_tblN hw rfl)) (fun x hx => by rw [cl.2.2.2.1 kf hk] at hx; exact hx) hfin (S.2.2.2.2.1.trans hin) ((cl.2.2.2.1 kf hk).trans hdc) (cl.2.2.2.2.1 kf hk) (hnf sb ad).1 (hnf sb ad).2 (by rw [List.length_map]; exact hl) hd (fun H1 locs1 hP1 hD1 hS1 => K p l e s m args below meth c dC dI cI cR sb ad0 ad H1 locs1 lsA S ⟨by rw [wr_len]; exact D.1, D.2.1, D.2.2.1, D.2.2.2.1, D.2.2.2.2.1, ?_, hS1, D.2.2.2.2.2.2.2⟩)
  rw [← wld_set D.1 ho, rC_o cl.2.1, List.map_set]
  exact hP1
theorem g_iaload {o : Nat} {L : List Int32} {i v : Int32} (hd : decode Y.2.1 pc = .ok (.iaload, 1)) (ho : rd h o = some (.inl L)) (hi : vp_in i L.length) (hv : L.getD i.toNatClampNeg 0 = v) (K : G Y R X P k n (pc + 1) ls (.int v :: st) h) : G Y R X P k n pc ls (.int i :: .ref o :: st) h := by
  intro p l e s m args below meth c dC dI cI cR sb ad0 ad H locs lsA S D
  subst hv
  exact va_iald S.1 S.2.1 S.2.2.2.2.2.2.2.2.1 D.2.2.2.2.2.1 o 0 (wld_get D.1 ho) rfl hi hd (K p l e s m args below meth c dC dI cI cR sb ad0 ad H locs lsA S D)
theorem g_iastore {o : Nat} {L L' : List Int32} {i x : Int32} (hd : decode Y.2.1 pc = .ok (.iastore, 1)) (ho : rd h o = some (.inl L)) (hi : vp_in i L.length) (hs : L.set i.toNatClampNeg x = L') (K : G Y R X P k n (pc + 1) ls st (wr h o (.inl L'))) : G Y R X P k n pc ls (.int x :: .int i :: .ref o :: st) h := by
  intro p l e s m args below meth c dC dI cI cR sb ad0 ad H locs lsA S D
  subst hs
  refine va_iast S.1 S.2.1 S.2.2.2.2.2.2.2.2.1 D.2.2.2.2.2.1 (wld_D D.2.1 D.2.2.2.1) D.2.2.2.2.2.2.1 o 0 (wld_get D.1 ho) rfl hi hd (fun H1 locs1 hP1 hD1 hS1 => K p l e s m args below meth c dC dI cI cR sb ad0 ad H1 locs1 lsA S ⟨by rw [wr_len]; exact D.1, D.2.1, D.2.2.1, D.2.2.2.1, D.2.2.2.2.1, ?_, hS1, D.2.2.2.2.2.2.2⟩)
  have hj : i.toNatClampNeg < L.length := Nat.not_le.mp fun q => hi (Or.inr q)
  rw [← wld_set D.1 ho]
  show va_P _ _ ((wld sb ad cI cR h).set o (ad.getD o 0, .inl (cI, (L.set i.toNatClampNeg x).length, .inl (fun q => (L.set i.toNatClampNeg x).getD q 0)))) H1
  rw [← upd_getD L _ _ hj, List.length_set]
  exact hP1
theorem g_aaload {o q : Nat} {fs : List Value} {i : Int32} (hd : decode Y.2.1 pc = .ok (.aaload, 1)) (ho : rd h o = some (.inr (100, fs))) (hi : vp_in i fs.length) (hv : fs.getD i.toNatClampNeg .null = .ref q) (K : G Y R X P k n (pc + 1) ls (.ref q :: st) h) : G Y R X P k n pc ls (.int i :: .ref o :: st) h := by
  intro p l e s m args below meth c dC dI cI cR sb ad0 ad H locs lsA S D
  have hlt : i.toNatClampNeg < fs.length := Nat.not_le.mp fun q => hi (Or.inr q)
  have he := wld_get (sb := sb) (cI := cI) (cR := cR) D.1 ho
  rw [rC_q] at he
  have hc := D.2.2.2.2.2.1 o _ he
  have hk := K p l e s m args below meth c dC dI cI cR sb ad0 ad H locs lsA S D
  refine W.aald (v := va_rf (uN_ (rv sb ad (fs.getD i.toNatClampNeg .null)))) (ty := .array .int) S.1 S.2.1 hc ((S.2.2.2.2.2.2.2.2.1.2 1 _ rfl).1 fs.length (fun j => va_rf (uN_ (rv sb ad (fs.getD j .null))))) rfl (fun q => by cases q) (by show ¬ (i < 0 ∨ (arrV _ _ _).slots.size ≤ _); rw [arrV_size]; exact hi) (by show (arrV _ _ _).slots[_]? = _; rw [arrV_read _ _ hlt]) rfl rfl hd ?_
  rw [hv]
  exact hk
theorem g_alen {o : Nat} {L : List Int32} {v : Int32} (hd : decode Y.2.1 pc = .ok (.arraylength, 1)) (ho : rd h o = some (.inl L)) (hv : Int32.ofNat L.length = v) (K : G Y R X P k n (pc + 1) ls (.int v :: st) h) : G Y R X P k n pc ls (.ref o :: st) h := by
  intro p l e s m args below meth c dC dI cI cR sb ad0 ad H locs lsA S D
  exact va_alen S.1 S.2.1 S.2.2.2.2.2.2.2.2.1 D.2.2.2.2.2.1 o 0 (wld_get D.1 ho) rfl hv hd (K p l e s m args below meth c dC dI cI cR sb ad0 ad H locs lsA S D)
theorem g_copy {i o0 o1 : Nat} {L M : List Int32} {z : Int32} (hd : decode Y.2.1 pc = .ok (.invokestatic i, 3)) (hw : Cond.methodLink Y.1.cls i arraycopyName ∈ lw_tbl) (ho0 : rd h o0 = some (.inl L)) (ho1 : rd h o1 = some (.inl M)) (h1 : L.length = z.toNatClampNeg) (h2 : M.length = z.toNatClampNeg) (hz : ¬ z < 0) (hR : 1 ≤ R.frames ∧ 8 + (nativeFrameWords "java/lang/System" "arraycopy" 5 + 11) ≤ R.locals) (hst : (st.map fun v => v.category).sum ≤ 8) (K : G Y R X P k n (pc + 3) ls st (wr h o1 (.inl L))) : G Y R X P k n pc ls (.int z :: .int 0 :: .ref o1 :: .int 0 :: .ref o0 :: st) h := by
  intro p l e s m args below meth c dC dI cI cR sb ad0 ad H locs lsA S D
  refine va_copyi (sp := 0) (dp := 0) (ty := .int) S.1 S.2.1 (S.2.2.1.trans D.2.2.2.2.2.2.2.1.symm) S.2.2.2.2.2.2.1 (S.2.2.2.2.2.2.2.1 _ (in_tblN hw rfl)) (S.2.2.2.2.2.2.2.1 _ (in_tblN wvACopy rfl)) (S.2.2.2.2.2.2.2.1 _ (in_tblN wsACopy rfl)) (S.2.2.2.2.2.2.2.1 _ (in_tblN wzJ10 rfl)) S.2.2.2.2.2.2.2.2.1 D.2.2.2.2.2.1 (wld_D D.2.1 D.2.2.2.1) D.2.2.2.2.2.2.1 o0 o1 0 0 (wld_get D.1 ho0) (wld_get D.1 ho1) rfl rfl rfl (by decide) (by decide) hz (by rw [h1]; exact Nat.le_of_eq (Nat.zero_add _)) (by rw [h2]; exact Nat.le_of_eq (Nat.zero_add _)) (fun _ _ => rfl) hR.1 (by have := rv_sum sb ad st; omega) hd (fun H1 locs1 hP1 hD1 hS1 => K p l e s m args below meth c dC dI cI cR sb ad0 ad H1 locs1 lsA S ⟨by rw [wr_len]; exact D.1, D.2.1, D.2.2.1, D.2.2.2.1, D.2.2.2.2.1, ?_, hS1, D.2.2.2.2.2.2.2⟩)
  rw [← wld_set D.1 ho1]
  have e := cpy_getD L M z.toNatClampNeg h1 h2
  show va_P _ _ ((wld sb ad cI cR h).set o1 (ad.getD o1 0, .inl (cI, L.length, .inl (fun q => L.getD q 0)))) H1
  rw [← e, h1, ← h2]
  rw [← h2] at hP1
  exact hP1
theorem g_sald {L : Nat} {xs : Nat → Int32} {z : Nat} {i v : Int32} (hX : X = some (L, xs)) (hd : decode Y.2.1 pc = .ok (.iaload, 1)) (hi : vp_in i L) (hv : xs i.toNatClampNeg = v) (K : G Y R X P k n (pc + 1) ls (.int v :: st) h) : G Y R X P k n pc ls (.int i :: .retAddr z :: st) h := by
  intro p l e s m args below meth c dC dI cI cR sb ad0 ad H locs lsA S D
  subst hv
  obtain ⟨q1, q2, q3⟩ := S.2.2.2.2.2.2.2.2.2.2 _ hX
  exact va_sld S.1 S.2.1 q1 q2 q3 D.2.2.2.2.2.2.1 hi hd (K p l e s m args below meth c dC dI cI cR sb ad0 ad H locs lsA S D)
theorem g_slen {L : Nat} {xs : Nat → Int32} {z : Nat} {v : Int32} (hX : X = some (L, xs)) (hd : decode Y.2.1 pc = .ok (.arraylength, 1)) (hv : Int32.ofNat L = v) (K : G Y R X P k n (pc + 1) ls (.int v :: st) h) : G Y R X P k n pc ls (.retAddr z :: st) h := by
  intro p l e s m args below meth c dC dI cI cR sb ad0 ad H locs lsA S D
  subst hv
  obtain ⟨q1, q2, q3⟩ := S.2.2.2.2.2.2.2.2.2.2 _ hX
  exact va_slen S.1 S.2.1 q1 q2 q3 D.2.2.2.2.2.2.1 hd (K p l e s m args below meth c dC dI cI cR sb ad0 ad H locs lsA S D)
/-! returns -/
theorem g_iret {x : Int32} (hd : decode Y.2.1 pc = .ok (.ireturn, 1)) (hr : Y.2.2.2 = some .int) (hk : k ≤ R.cells ∧ n ≤ R.slots) (HP : P (some (.int x)) h) : G Y R X P k n pc ls [.int x] h := by
  intro p l e s m args below meth c dC dI cI cR sb ad0 ad H locs lsA S D
  refine W.widen hk.1 hk.2 ?_
  exact W.iret S.1 S.2.1 (S.2.2.2.1.trans hr) (fun t ht hW => ⟨ad, some (.int x), h, HP, D.2.2.1, D.2.2.2.1, fun h0 => D.2.2.2.2.1 (by omega), rfl, ⟨D.1, D.2.1, by rw [ht]; exact D.2.2.2.2.2.1, va_K.moved hW.alike S.2.2.2.2.2.2.2.2.1, eN.moved hW S.2.2.2.2.2.2.2.2.2.1⟩, D.2.2.2.2.2.2.1.F ht⟩) D.2.2.2.2.2.2.1.2.2 hd (hlocks := S.2.2.2.2.2.1)
theorem g_zret {x : Int32} (hd : decode Y.2.1 pc = .ok (.ireturn, 1)) (hr : Y.2.2.2 = some .boolean) (hx : narrow .boolean (.int x) = .int x) (hk : k ≤ R.cells ∧ n ≤ R.slots) (HP : P (some (.int x)) h) : G Y R X P k n pc ls [.int x] h := by
  intro p l e s m args below meth c dC dI cI cR sb ad0 ad H locs lsA S D
  refine W.widen hk.1 hk.2 ?_
  exact W.zret S.1 S.2.1 (S.2.2.2.1.trans hr) hx (fun t ht hW => ⟨ad, some (.int x), h, HP, D.2.2.1, D.2.2.2.1, fun h0 => D.2.2.2.2.1 (by omega), rfl, ⟨D.1, D.2.1, by rw [ht]; exact D.2.2.2.2.2.1, va_K.moved hW.alike S.2.2.2.2.2.2.2.2.1, eN.moved hW S.2.2.2.2.2.2.2.2.2.1⟩, D.2.2.2.2.2.2.1.F ht⟩) D.2.2.2.2.2.2.1.2.2 hd (hlocks := S.2.2.2.2.2.1)
theorem g_lret {x : Int64} (hd : decode Y.2.1 pc = .ok (.lreturn, 1)) (hr : Y.2.2.2 = some .long) (hk : k ≤ R.cells ∧ n ≤ R.slots) (HP : P (some (.long x)) h) : G Y R X P k n pc ls [.long x] h := by
  intro p l e s m args below meth c dC dI cI cR sb ad0 ad H locs lsA S D
  refine W.widen hk.1 hk.2 ?_
  exact W.lret S.1 S.2.1 (S.2.2.2.1.trans hr) (fun t ht hW => ⟨ad, some (.long x), h, HP, D.2.2.1, D.2.2.2.1, fun h0 => D.2.2.2.2.1 (by omega), rfl, ⟨D.1, D.2.1, by rw [ht]; exact D.2.2.2.2.2.1, va_K.moved hW.alike S.2.2.2.2.2.2.2.2.1, eN.moved hW S.2.2.2.2.2.2.2.2.2.1⟩, D.2.2.2.2.2.2.1.F ht⟩) D.2.2.2.2.2.2.1.2.2 hd (hlocks := S.2.2.2.2.2.1)
theorem g_vret (hd : decode Y.2.1 pc = .ok (.return_, 1)) (hr : Y.2.2.2 = none) (hk : k ≤ R.cells ∧ n ≤ R.slots) (HP : P none h) : G Y R X P k n pc ls [] h := by
  intro p l e s m args below meth c dC dI cI cR sb ad0 ad H locs lsA S D
  refine W.widen hk.1 hk.2 ?_
  exact W.vret S.1 S.2.1 (S.2.2.2.1.trans hr) (fun t ht hW => ⟨ad, none, h, HP, D.2.2.1, D.2.2.2.1, fun h0 => D.2.2.2.2.1 (by omega), rfl, ⟨D.1, D.2.1, by rw [ht]; exact D.2.2.2.2.2.1, va_K.moved hW.alike S.2.2.2.2.2.2.2.2.1, eN.moved hW S.2.2.2.2.2.2.2.2.2.1⟩, D.2.2.2.2.2.2.1.F ht⟩) D.2.2.2.2.2.2.1.2.2 hd (hlocks := S.2.2.2.2.2.1)
end
