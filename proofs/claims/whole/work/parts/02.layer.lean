/-! THE PICTURE: a heap of numbered cells beside the machine's heap; a row of ints is a list, an object is its class's number and its fields; number 100: a row of rows. References in the picture are numbers of cells; the list ad has the machine's addresses; .retAddr stands for the law's script. -/
abbrev aC : Type := (List Int32) ⊕ (Nat × List Value)
def rv (sb : Nat) (ad : List Nat) : Value → Value
  | .ref k => .ref (ad.getD k 0)
  | .retAddr _ => .ref sb
  | .int x => .int x
  | .long x => .long x
  | .float x => .float x
  | .double x => .double x
  | .null => .null
def uN_ (v : Value) : Option Nat := match v with
  | .ref a => some a
  | _ => none
def rC (sb : Nat) (ad : List Nat) (cI cR : ClassId) (e : aC) : va_E := match e with
  | .inl a => .inl (cI, a.length, .inl (fun i => a.getD i 0))
  | .inr o => if o.1 = 100 then .inl (cR, o.2.length, .inr (.inr (.inr (.inr (fun i => uN_ (rv sb ad (o.2.getD i .null))))))) else .inr (o.1, o.2.map (rv sb ad))
def wld (sb : Nat) (ad : List Nat) (cI cR : ClassId) (h : List aC) : va_W := List.zipWith (fun a e => (a, rC sb ad cI cR e)) ad h
def rd (h : List aC) (o : Nat) : Option aC := h[o]?
def wr (h : List aC) (o : Nat) (e : aC) : List aC := h.set o e
theorem rd_wr_ne {h : List aC} {o q : Nat} {e : aC} (hq : o ≠ q) : rd (wr h o e) q = rd h q := List.getElem?_set_ne hq
theorem rd_wr_eq {h : List aC} {o : Nat} {e e' : aC} (ho : rd h o = some e') : rd (wr h o e) o = some e := List.getElem?_set_self (List.getElem?_eq_some_iff.mp ho).1
theorem wr_len {h : List aC} {o : Nat} {e : aC} : (wr h o e).length = h.length := List.length_set
theorem rv_cat (sb : Nat) (ad : List Nat) (v : Value) : (rv sb ad v).category = v.category := by cases v <;> rfl
theorem rv_sum (sb : Nat) (ad : List Nat) (l : List Value) : ((l.map (rv sb ad)).map fun v => v.category).sum = (l.map fun v => v.category).sum := by
  rw [List.map_map]
  congr 1
  apply List.map_congr_left
  intro v _
  exact rv_cat sb ad v
def rL (sb : Nat) (ad : List Nat) (q : Nat × Value) : Nat × Value := (q.1, rv sb ad q.2)
theorem rL_args (sb : Nat) (ad : List Nat) : ∀ (vs : List Value) (i : Nat), lv_args i (vs.map (rv sb ad)) = (lv_args i vs).map (rL sb ad)
  | [], _ => rfl
  | v :: vs, i => by
    show (i, rv sb ad v) :: lv_args (if (rv sb ad v).category = 2 then i + 2 else i + 1) (vs.map (rv sb ad)) = (i, rv sb ad v) :: (lv_args (if v.category = 2 then i + 2 else i + 1) vs).map (rL sb ad)
    rw [rv_cat, rL_args sb ad vs]
theorem rL_sl (sb : Nat) (ad : List Nat) : ∀ (av : List Value), (lg_sl (av.map (rv sb ad))).length = (lg_sl av).length
  | [] => rfl
  | v :: t => by
    have ih := rL_sl sb ad t
    simp only [lg_sl, List.map_cons, List.flatMap_cons, List.length_append] at ih ⊢
    rw [ih, rv_cat]
    by_cases hc : v.category = 2
    · rw [if_pos hc, if_pos hc]
      rfl
    · rw [if_neg hc, if_neg hc]
      rfl
theorem wld_get {sb : Nat} {ad : List Nat} {cI cR : ClassId} {h : List aC} (hl : ad.length = h.length) {o : Nat} {e : aC} (ho : rd h o = some e) : (wld sb ad cI cR h)[o]? = some (ad.getD o 0, rC sb ad cI cR e) := by
  have h1 : o < h.length := (List.getElem?_eq_some_iff.mp ho).1
  have h2 : ad[o]? = some (ad.getD o 0) := by
    rw [List.getD_eq_getElem?_getD, List.getElem?_eq_getElem (by omega)]
    rfl
  unfold wld
  rw [List.getElem?_zipWith, h2, show h[o]? = some e from ho]
theorem wld_set {sb : Nat} {ad : List Nat} {cI cR : ClassId} {h : List aC} (hl : ad.length = h.length) {o : Nat} {e0 e : aC} (ho : rd h o = some e0) : (wld sb ad cI cR h).set o (ad.getD o 0, rC sb ad cI cR e) = wld sb ad cI cR (wr h o e) := by
  have h1 : o < h.length := (List.getElem?_eq_some_iff.mp ho).1
  apply List.ext_getElem?
  intro j
  by_cases hj : o = j
  · subst hj
    rw [wld_get (e := e) (by rw [wr_len]; exact hl) (rd_wr_eq ho), List.getElem?_set_self (by unfold wld; rw [List.length_zipWith]; omega)]
  · rw [List.getElem?_set_ne hj]
    unfold wld
    rw [List.getElem?_zipWith, List.getElem?_zipWith]
    unfold wr
    rw [List.getElem?_set_ne hj]
theorem wld_D {sb : Nat} {ad : List Nat} {cI cR : ClassId} {h : List aC} {A : Nat → Prop} (hn : ad.Nodup) (hA : ∀ q ∈ ad, A q) : va_D A (wld sb ad cI cR h) := by
  have key : ∀ (k : Nat) (q : Nat × va_E), (wld sb ad cI cR h)[k]? = some q → ad[k]? = some q.1 := by
    intro k q hk
    unfold wld at hk
    rw [List.getElem?_zipWith] at hk
    cases ha : ad[k]? with
    | none => rw [ha] at hk; cases hk
    | some a =>
      cases hh : h[k]? with
      | none => rw [ha, hh] at hk; cases hk
      | some b => rw [ha, hh] at hk; cases hk; rfl
  refine ⟨fun i j x y hi hj hxy => ?_, fun k q hk => ?_⟩
  · have h1 := key i x hi
    have h2 := key j y hj
    rw [← hxy] at h2
    exact (List.getElem?_inj (List.getElem?_eq_some_iff.mp h1).1 hn).mp (h1.trans h2.symm)
  · exact hA _ (List.mem_of_getElem? (key k q hk))
/-- the words that hold in every state alike; those of nest mates and of rows of rows go by themselves -/
def tblN : List Cond := lw_tbl.filter goodWord
theorem in_tblN {w : Cond} (h : w ∈ lw_tbl) (g : goodWord w = true) : w ∈ tblN := List.mem_filter.mpr ⟨h, g⟩
theorem good_tbl : GoodIn tblN tblN := fun w hw => ⟨hw, good_of_word (List.mem_filter.mp hw).2⟩
theorem good_cons {c : Cond} (h : c ∈ tblN) : GoodIn tblN (c :: tblN) := fun w hw => by
  rcases List.mem_cons.mp hw with rfl | hw
  · exact good_tbl _ h
  · exact good_tbl w hw
def isArr (comp : ClassId) (x : Class) : Bool := match x.kind with
  | .array component _ => component == comp
  | _ => false
theorem isArr_bare (vm : Vm) (comp : ClassId) : vm.bare.classes.findIdx? (isArr comp) = vm.classes.findIdx? (isArr comp) := by
  simp only [Vm.bare, Array.findIdx?_map]
  rfl
theorem aov_spec {s : State} (h : va_AOA .int s) : ∃ comp c k, s.vm.findClass (FieldType.array .int).toString = some comp ∧ s.vm.classes.findIdx? (isArr comp) = some c ∧ s.vm.classes[c]? = some k ∧ k.kind = .array comp (.array .int) ∧ s.vm.findClass ("[" ++ (FieldType.array .int).toString) = some c := by
  unfold va_AOA Cond.before at h
  simp only [Cond.holds, Cond.value, beq_iff_eq] at h
  cases hc : s.vm.findClass (FieldType.array .int).toString with
  | none => simp [hc] at h
  | some comp =>
    simp only [hc, Option.bind_some, Option.bind_eq_some_iff, Option.map_eq_some_iff] at h
    obtain ⟨c, hi, k, hk, hb⟩ := h
    obtain ⟨hlt, hp, -⟩ := Array.findIdx?_eq_some_iff_getElem.mp hi
    have hkk : s.vm.classes[c] = k := (Array.getElem?_eq_some_iff.mp hk).2
    rw [hkk] at hp
    cases hkind : k.kind with
    | array component ty =>
      rw [hkind] at hb hp
      simp at hb hp
      exact ⟨comp, c, k, rfl, hi, hk, by rw [hkind, hp, hb.1], hb.2⟩
    | _ => rw [hkind] at hb; simp at hb
theorem aov_moved {u U : State} (hvm : u.vm.Alike U.vm) (h : va_AOA .int u) : va_AOA .int U := by
  obtain ⟨comp, c, k, h1, h2, h3, h4, h5⟩ := aov_spec h
  obtain ⟨k', hk', he⟩ := hvm.2.2 _ _ h3
  have hi : U.vm.classes.findIdx? (isArr comp) = some c := by
    rw [← isArr_bare]
    first | rw [hvm.bare_eq] | rw [← hvm.bare_eq]
    rw [isArr_bare]
    exact h2
  have hkind : k'.kind = .array comp (.array .int) := by rw [he]; exact h4
  have f1 : U.vm.findClass (FieldType.array .int).toString = some comp := by rw [hvm.findClass]; exact h1
  have f2 : U.vm.findClass ("[" ++ (FieldType.array .int).toString) = some c := by rw [hvm.findClass]; exact h5
  unfold va_AOA Cond.before Cond.holds
  simp only [Cond.value]
  rw [f1, Option.bind_some]
  refine (congrArg (fun o : Option Nat => (o.bind (fun c => (U.vm.classes[c]?).map fun (k : Class) => match k.kind with | .array _ ty => decide (ty = FieldType.array .int) && decide (U.vm.findClass ("[" ++ (FieldType.array .int).toString) = some c) | _ => false) == some true)) hi).trans ?_
  simp [hk', hkind, f2]
def eN (U : State) : Prop := (∀ q ∈ nestL, va_Nw (.methodLinkNest q.1 q.2.1 q.2.2.1 q.2.2.2) U) ∧ va_AOA .int U
theorem eN.moved {s U : State} (hW : s.WarmedH U.vm) (h : eN s) : eN U := ⟨fun q hq => va_Nw.warmM hW (h.1 q hq), aov_moved hW.alike h.2⟩
theorem eN.same {s U : State} (hv : s.vm = U.vm) (h : eN s) : eN U := ⟨fun q hq => va_Nw.same rfl hv (h.1 q hq), aov_moved (by rw [hv]; exact Vm.Alike.refl U.vm) h.2⟩
def fA (ad : List Nat) (sz : Nat) : Nat → Prop := fun q => q ∈ ad ∨ sz ≤ q
abbrev eK (dC : Nat → ClassId) (dI : Nat → Nat → Nat) (cI cR : ClassId) (s : State) : Prop := va_K (dC, dI) vwCl [(cI, .int), (cR, .array .int)] s
abbrev jS (Y : YM) (X : Option (Nat × (Nat → Int32))) (p : Program) (s : State) (m : MethodId) (args : Array Value) (meth : Method) (c : Code) (dC : Nat → ClassId) (dI : Nat → Nat → Nat) (cI cR : ClassId) (sb : Nat) (ad0 : List Nat) : Prop :=
  p.tables.exec = Jvm.exec ∧ c.code = Y.2.1 ∧ c.maxLocals = Y.2.2.1 ∧ meth.sig.returnType = Y.2.2.2 ∧ meth.name = Y.1.name ∧ meth.locks = false ∧ s.vm.findClass Y.1.cls = some m.cls ∧ (∀ w ∈ tblN, w.before args s = true) ∧ eK dC dI cI cR s ∧ eN s ∧ (∀ x, X = some x → va_X sb x.1 x.2 s s.heap ∧ sb < s.heap.size ∧ ¬ fA ad0 s.heap.size sb)
abbrev jD (Y : YM) (s : State) (dC : Nat → ClassId) (dI : Nat → Nat → Nat) (cI cR : ClassId) (sb : Nat) (ad0 ad : List Nat) (h : List aC) (H : Heap) (locs : List Loc) (ls : List (Nat × Value)) (lsA : Array Slot) (k : Nat) : Prop :=
  ad.length = h.length ∧ ad.Nodup ∧ ad0 <+: ad ∧ (∀ q ∈ ad, fA ad0 s.heap.size q) ∧ (k = 0 → ad = ad0) ∧ va_P (dC, dI) vwCl (wld sb ad cI cR h) H ∧ va_S (fA ad0 s.heap.size) s.heap H locs ∧ lv_has lsA Y.2.2.1 (ls.map (rL sb ad))
def eB (dC : Nat → ClassId) (dI : Nat → Nat → Nat) (cI cR : ClassId) (sb : Nat) (ad : List Nat) (h : List aC) (U : State) : Prop := ad.length = h.length ∧ ad.Nodup ∧ va_P (dC, dI) vwCl (wld sb ad cI cR h) U.heap ∧ eK dC dI cI cR U ∧ eN U
def eQ (dC : Nat → ClassId) (dI : Nat → Nat → Nat) (cI cR : ClassId) (sb : Nat) (ad0 : List Nat) (sz mc : Nat) (P : Option Value → List aC → Prop) : Array Value → State → Outcome → State → Prop := fun _ st oc t =>
  ∃ (ad : List Nat) (w : Option Value) (h1 : List aC), P w h1 ∧ ad0 <+: ad ∧ (∀ q ∈ ad, fA ad0 sz q) ∧ (mc = 0 → ad = ad0) ∧ oc = .returned (w.map (rv sb ad)) ∧ eB dC dI cI cR sb ad h1 t ∧ va_F (fA ad0 sz) st t
def G (Y : YM) (R : Room) (X : Option (Nat × (Nat → Int32))) (P : Option Value → List aC → Prop) (k n pc : Nat) (ls : List (Nat × Value)) (st : List Value) (h : List aC) : Prop :=
  ∀ (p : Program) (l : Launch) (e : Env) (s : State) (m : MethodId) (args : Array Value) (below : List Frame) (meth : Method) (c : Code) (dC : Nat → ClassId) (dI : Nat → Nat → Nat) (cI cR : ClassId) (sb : Nat) (ad0 ad : List Nat) (H : Heap) (locs : List Loc) (lsA : Array Slot),
    jS Y X p s m args meth c dC dI cI cR sb ad0 → jD Y s dC dI cI cR sb ad0 ad h H locs ls lsA k →
    W p l e R s m args below meth c H locs k n (MQ below (eQ dC dI cI cR sb ad0 s.heap.size R.cells P) args s R.cells R.slots (fA ad0 s.heap.size)) (F0 m pc lsA (st.map (rv sb ad)))
def rmD (d mc ms : Nat) : Room := { frames := d, cells := mc, slots := ms, locals := 41 * d }
/-- the contract of a method: from the picture h with the arguments av it returns, at a picture and an answer with P; mc cells of ms slots are new -/
def Ev (Y : YM) (d mc ms : Nat) (av : List Value) (h : List aC) (P : Option Value → List aC → Prop) : Prop :=
  ∀ (l : Launch) (dC : Nat → ClassId) (dI : Nat → Nat → Nat) (cI cR : ClassId) (sb : Nat) (ad : List Nat) (sz : Nat),
    Met l Y.1 (.code Y.1 Y.2.1 Y.2.2.1 Y.2.2.2 :: tblN) (rmD d mc ms) (va_Pc (av.map (rv sb ad)) (fun U => U.heap.size = sz ∧ eB dC dI cI cR sb ad h U)) (eQ dC dI cI cR sb ad sz mc P) mc ms (fA ad sz)
theorem Ev.mono {Y : YM} {d mc ms : Nat} {av : List Value} {h : List aC} {P P' : Option Value → List aC → Prop} (E : Ev Y d mc ms av h P) (hp : ∀ w h1, P w h1 → P' w h1) : Ev Y d mc ms av h P' := by
  intro l dC dI cI cR sb ad sz p e ha hc hk s m args below hf happ hpre
  intro hkk
  obtain ⟨t, o, a1, a2, a3, ⟨⟨ad', w, h1, b1, b2⟩, a4⟩⟩ := E l dC dI cI cR sb ad sz p e ha hc hk s m args below hf happ hpre hkk
  exact ⟨t, o, a1, a2, a3, ⟨⟨ad', w, h1, hp _ _ b1, b2⟩, a4⟩⟩
theorem Met.ofWF {l : Launch} {y : MethodName} {ws ws' : List Cond} {rm : Room} {Pc : Array Value → State → Prop} {Qc : Array Value → State → Outcome → State → Prop} {mc ms : Nat} {free : Addr → Prop} {cc : ByteArray} {maxL : Nat} {ret : Option FieldType}
    (hy : plainFor y = true) (hw : ws = Cond.code y cc maxL ret :: ws')
    (body : ∀ p e s m args below meth c s₁, BodyLoose p l y (headSpec ws rm) cc maxL ret e s m args below meth c s₁ → c.maxLocals = maxL → Pc args s →
      W p l e (headSpec ws rm).room s m args below meth c s.heap [] 0 0 (MQ below Qc args s mc ms free) (entryFrame m args maxL)) : Met l y ws rm Pc Qc mc ms free := by
  refine MetFree.of_bodySF (code := cc) (maxLocals := maxL) (ret := ret) hy ?_ ?_
  · intro args s m h hn
    obtain ⟨meth, c, h1, h2, h3, h4, h5, h6, -, -⟩ := Cond.code_spec hn (atoms_spec (ws := ws) h _ (by rw [hw]; exact List.mem_cons_self))
    exact ⟨meth, c, h1, h2, h3, h4, h5, h6⟩
  · intro p e s m args below meth c s₁ B hml hP _
    have hh0 : s₁.heap = s.heap := by rw [B.state]; rfl
    obtain ⟨t, a1, o, b1, b2, b3⟩ := body p e s m args below meth c s₁ B hml hP s₁ hh0 (Stand.of_body B)
    exact ⟨t, o, a1, b1, b2, ⟨b3.1, b3.2⟩⟩
theorem Ev.of {Y : YM} {d mc ms : Nat} {av : List Value} {h : List aC} {P : Option Value → List aC → Prop} (hy : plainFor Y.1 = true) (hn : (lg_sl av).length ≤ Y.2.2.1) (K : G Y (rmD d mc ms) none P 0 0 0 (lv_args 0 av) [] h) : Ev Y d mc ms av h P := by
  intro l dC dI cI cR sb ad sz
  refine Met.ofWF (cc := Y.2.1) (maxL := Y.2.2.1) (ret := Y.2.2.2) hy rfl ?_
  intro p e s m args below meth c s₁ B hml hv
  obtain ⟨rfl, rfl, hl, hnd, hP, hK, hN⟩ := hv
  have hts := atoms_spec (ws := .code Y.1 Y.2.1 Y.2.2.1 Y.2.2.2 :: tblN) B.pre
  have hsl := rL_sl sb ad av
  have hle := lv_entry (av.map (rv sb ad)) (n := Y.2.2.1) (by rw [hsl]; exact hn)
  rw [lg_entry_eq]
  refine K p l e s m _ below meth c dC dI cI cR sb ad ad s.heap [] _ ⟨B.exec, B.bytes, hml, B.returns, (name_of_methodNamed B.named B.method).1, B.notSynchronized, findClass_of_methodNamed B.named, fun w hw => hts w (List.mem_cons_of_mem _ hw), hK, hN, fun x h => by cases h⟩ ⟨hl, hnd, List.prefix_refl _, fun q hq => Or.inl hq, fun _ => rfl, hP, va_S.rf, ?_⟩
  rw [← rL_args]
  exact hle
