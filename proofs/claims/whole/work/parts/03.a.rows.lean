section
variable {Y : YM} {R : Room} {X : Option (Nat × (Nat → Int32))} {P : Option Value → List aC → Prop} {k n pc : Nat} {ls ls' : List (Nat × Value)} {st : List Value} {h : List aC}
theorem g_iadd {x y : Int32} (hd : decode Y.2.1 pc = .ok (.iadd, 1)) (K : G Y R X P k n (pc + 1) ls (.int (x + y) :: st) h) : G Y R X P k n pc ls (.int y :: .int x :: st) h := by
  intro p l e s m args below meth c dC dI cI cR sb ad0 ad H locs lsA S D
  exact lv_iadd S.1 S.2.1 hd (K p l e s m args below meth c dC dI cI cR sb ad0 ad H locs lsA S D)
theorem g_isub {x y : Int32} (hd : decode Y.2.1 pc = .ok (.isub, 1)) (K : G Y R X P k n (pc + 1) ls (.int (x - y) :: st) h) : G Y R X P k n pc ls (.int y :: .int x :: st) h := by
  intro p l e s m args below meth c dC dI cI cR sb ad0 ad H locs lsA S D
  exact lv_isub S.1 S.2.1 hd (K p l e s m args below meth c dC dI cI cR sb ad0 ad H locs lsA S D)
theorem g_imul {x y : Int32} (hd : decode Y.2.1 pc = .ok (.imul, 1)) (K : G Y R X P k n (pc + 1) ls (.int (x * y) :: st) h) : G Y R X P k n pc ls (.int y :: .int x :: st) h := by
  intro p l e s m args below meth c dC dI cI cR sb ad0 ad H locs lsA S D
  exact lv_imul S.1 S.2.1 hd (K p l e s m args below meth c dC dI cI cR sb ad0 ad H locs lsA S D)
theorem g_iand {x y : Int32} (hd : decode Y.2.1 pc = .ok (.iand, 1)) (K : G Y R X P k n (pc + 1) ls (.int (x &&& y) :: st) h) : G Y R X P k n pc ls (.int y :: .int x :: st) h := by
  intro p l e s m args below meth c dC dI cI cR sb ad0 ad H locs lsA S D
  exact lv_iand S.1 S.2.1 hd (K p l e s m args below meth c dC dI cI cR sb ad0 ad H locs lsA S D)
theorem g_ior {x y : Int32} (hd : decode Y.2.1 pc = .ok (.ior, 1)) (K : G Y R X P k n (pc + 1) ls (.int (x ||| y) :: st) h) : G Y R X P k n pc ls (.int y :: .int x :: st) h := by
  intro p l e s m args below meth c dC dI cI cR sb ad0 ad H locs lsA S D
  exact lv_ior S.1 S.2.1 hd (K p l e s m args below meth c dC dI cI cR sb ad0 ad H locs lsA S D)
theorem g_ixor {x y : Int32} (hd : decode Y.2.1 pc = .ok (.ixor, 1)) (K : G Y R X P k n (pc + 1) ls (.int (x ^^^ y) :: st) h) : G Y R X P k n pc ls (.int y :: .int x :: st) h := by
  intro p l e s m args below meth c dC dI cI cR sb ad0 ad H locs lsA S D
  exact lv_ixor S.1 S.2.1 hd (K p l e s m args below meth c dC dI cI cR sb ad0 ad H locs lsA S D)
theorem g_ishl {x y : Int32} (hd : decode Y.2.1 pc = .ok (.ishl, 1)) (K : G Y R X P k n (pc + 1) ls (.int (x <<< (y &&& 31)) :: st) h) : G Y R X P k n pc ls (.int y :: .int x :: st) h := by
  intro p l e s m args below meth c dC dI cI cR sb ad0 ad H locs lsA S D
  exact lv_ishl S.1 S.2.1 hd (K p l e s m args below meth c dC dI cI cR sb ad0 ad H locs lsA S D)
theorem g_ishr {x y : Int32} (hd : decode Y.2.1 pc = .ok (.ishr, 1)) (K : G Y R X P k n (pc + 1) ls (.int (x >>> (y &&& 31)) :: st) h) : G Y R X P k n pc ls (.int y :: .int x :: st) h := by
  intro p l e s m args below meth c dC dI cI cR sb ad0 ad H locs lsA S D
  exact lv_ishr S.1 S.2.1 hd (K p l e s m args below meth c dC dI cI cR sb ad0 ad H locs lsA S D)
theorem g_idiv {x y : Int32} (hd : decode Y.2.1 pc = .ok (.idiv, 1)) (hne : ¬ y = 0) (K : G Y R X P k n (pc + 1) ls (.int (x / y) :: st) h) : G Y R X P k n pc ls (.int y :: .int x :: st) h := by
  intro p l e s m args below meth c dC dI cI cR sb ad0 ad H locs lsA S D
  exact lv_idiv S.1 S.2.1 hd hne (K p l e s m args below meth c dC dI cI cR sb ad0 ad H locs lsA S D)
theorem g_irem {x y : Int32} (hd : decode Y.2.1 pc = .ok (.irem, 1)) (hne : ¬ y = 0) (K : G Y R X P k n (pc + 1) ls (.int (x - x / y * y) :: st) h) : G Y R X P k n pc ls (.int y :: .int x :: st) h := by
  intro p l e s m args below meth c dC dI cI cR sb ad0 ad H locs lsA S D
  exact lv_irem S.1 S.2.1 hd hne (K p l e s m args below meth c dC dI cI cR sb ad0 ad H locs lsA S D)
theorem g_ineg {x : Int32} (hd : decode Y.2.1 pc = .ok (.ineg, 1)) (K : G Y R X P k n (pc + 1) ls (.int (-x) :: st) h) : G Y R X P k n pc ls (.int x :: st) h := by
  intro p l e s m args below meth c dC dI cI cR sb ad0 ad H locs lsA S D
  exact lv_ineg S.1 S.2.1 hd (K p l e s m args below meth c dC dI cI cR sb ad0 ad H locs lsA S D)
theorem g_iushr {x y v : Int32} (hd : decode Y.2.1 pc = .ok (.iushr, 1)) (hv : (x.toUInt32 >>> (y.toUInt32 &&& Int32.toUInt32 31)).toInt32 = v) (K : G Y R X P k n (pc + 1) ls (.int v :: st) h) : G Y R X P k n pc ls (.int y :: .int x :: st) h := by
  intro p l e s m args below meth c dC dI cI cR sb ad0 ad H locs lsA S D
  exact lv_iushr S.1 S.2.1 hd hv (K p l e s m args below meth c dC dI cI cR sb ad0 ad H locs lsA S D)
theorem g_i2l {x : Int32} {v : Int64} (hd : decode Y.2.1 pc = .ok (.i2l, 1)) (hv : x.toInt64 = v) (K : G Y R X P k n (pc + 1) ls (.long v :: st) h) : G Y R X P k n pc ls (.int x :: st) h := by
  intro p l e s m args below meth c dC dI cI cR sb ad0 ad H locs lsA S D
  exact lv_i2l S.1 S.2.1 hd hv (K p l e s m args below meth c dC dI cI cR sb ad0 ad H locs lsA S D)
theorem g_lsub {x y : Int64} (hd : decode Y.2.1 pc = .ok (.lsub, 1)) (K : G Y R X P k n (pc + 1) ls (.long (x - y) :: st) h) : G Y R X P k n pc ls (.long y :: .long x :: st) h := by
  intro p l e s m args below meth c dC dI cI cR sb ad0 ad H locs lsA S D
  exact lv_lsub S.1 S.2.1 hd (K p l e s m args below meth c dC dI cI cR sb ad0 ad H locs lsA S D)
theorem g_ldiv {x y : Int64} (hd : decode Y.2.1 pc = .ok (.ldiv, 1)) (hne : ¬ y = 0) (K : G Y R X P k n (pc + 1) ls (.long (x / y) :: st) h) : G Y R X P k n pc ls (.long y :: .long x :: st) h := by
  intro p l e s m args below meth c dC dI cI cR sb ad0 ad H locs lsA S D
  exact lv_ldiv S.1 S.2.1 hd hne (K p l e s m args below meth c dC dI cI cR sb ad0 ad H locs lsA S D)
theorem g_lrem {x y : Int64} (hd : decode Y.2.1 pc = .ok (.lrem, 1)) (hne : ¬ y = 0) (K : G Y R X P k n (pc + 1) ls (.long (x - x / y * y) :: st) h) : G Y R X P k n pc ls (.long y :: .long x :: st) h := by
  intro p l e s m args below meth c dC dI cI cR sb ad0 ad H locs lsA S D
  exact lv_lrem S.1 S.2.1 hd hne (K p l e s m args below meth c dC dI cI cR sb ad0 ad H locs lsA S D)
theorem g_iconst {z : Int} {v : Int32} (hd : decode Y.2.1 pc = .ok (.iconst z, 1)) (hv : Int32.ofInt z = v) (K : G Y R X P k n (pc + 1) ls (.int v :: st) h) : G Y R X P k n pc ls (st) h := by
  intro p l e s m args below meth c dC dI cI cR sb ad0 ad H locs lsA S D
  exact lv_iconst S.1 S.2.1 hd hv (K p l e s m args below meth c dC dI cI cR sb ad0 ad H locs lsA S D)
theorem g_bipush {z : Int} {v : Int32} (hd : decode Y.2.1 pc = .ok (.bipush z, 2)) (hv : (Int8.ofInt z).toInt32 = v) (K : G Y R X P k n (pc + 2) ls (.int v :: st) h) : G Y R X P k n pc ls (st) h := by
  intro p l e s m args below meth c dC dI cI cR sb ad0 ad H locs lsA S D
  exact lv_bipush S.1 S.2.1 hd hv (K p l e s m args below meth c dC dI cI cR sb ad0 ad H locs lsA S D)
theorem g_sipush {z : Int} {v : Int32} (hd : decode Y.2.1 pc = .ok (.sipush z, 3)) (hv : (Int16.ofInt z).toInt32 = v) (K : G Y R X P k n (pc + 3) ls (.int v :: st) h) : G Y R X P k n pc ls (st) h := by
  intro p l e s m args below meth c dC dI cI cR sb ad0 ad H locs lsA S D
  exact lv_sipush S.1 S.2.1 hd hv (K p l e s m args below meth c dC dI cI cR sb ad0 ad H locs lsA S D)
theorem g_lconst {z : Fin 2} {v : Int64} (hd : decode Y.2.1 pc = .ok (.lconst z, 1)) (hv : Int64.ofNat (z : Nat) = v) (K : G Y R X P k n (pc + 1) ls (.long v :: st) h) : G Y R X P k n pc ls (st) h := by
  intro p l e s m args below meth c dC dI cI cR sb ad0 ad H locs lsA S D
  exact lv_lconst S.1 S.2.1 hd hv (K p l e s m args below meth c dC dI cI cR sb ad0 ad H locs lsA S D)
theorem g_ldc {i : Nat} {v : Int32} (hd : decode Y.2.1 pc = .ok (.ldc i, 2)) (hw : Cond.constant Y.1.cls i v ∈ lw_tbl) (K : G Y R X P k n (pc + 2) ls (.int v :: st) h) : G Y R X P k n pc ls st h := by
  intro p l e s m args below meth c dC dI cI cR sb ad0 ad H locs lsA S D
  exact lv_ldc S.1 S.2.1 S.2.2.2.2.2.2.1 (S.2.2.2.2.2.2.2.1 _ (in_tblN hw rfl)) hd (K p l e s m args below meth c dC dI cI cR sb ad0 ad H locs lsA S D)
theorem g_ldcw {i : Nat} {v : Int32} (hd : decode Y.2.1 pc = .ok (.ldc_w i, 3)) (hw : Cond.constant Y.1.cls i v ∈ lw_tbl) (K : G Y R X P k n (pc + 3) ls (.int v :: st) h) : G Y R X P k n pc ls st h := by
  intro p l e s m args below meth c dC dI cI cR sb ad0 ad H locs lsA S D
  exact lv_ldcw S.1 S.2.1 S.2.2.2.2.2.2.1 (S.2.2.2.2.2.2.2.1 _ (in_tblN hw rfl)) hd (K p l e s m args below meth c dC dI cI cR sb ad0 ad H locs lsA S D)
theorem g_ldc2 {i : Nat} {v : Int64} (hd : decode Y.2.1 pc = .ok (.ldc2_w i, 3)) (hw : Cond.constantLong Y.1.cls i v ∈ lw_tbl) (K : G Y R X P k n (pc + 3) ls (.long v :: st) h) : G Y R X P k n pc ls st h := by
  intro p l e s m args below meth c dC dI cI cR sb ad0 ad H locs lsA S D
  exact lv_ldc2 S.1 S.2.1 S.2.2.2.2.2.2.1 (S.2.2.2.2.2.2.2.1 _ (in_tblN hw rfl)) hd (K p l e s m args below meth c dC dI cI cR sb ad0 ad H locs lsA S D)
theorem rL_at {sb : Nat} {ad : List Nat} {q i : Nat} {v : Value} (hq : ls[q]? = some (i, v)) : (ls.map (rL sb ad))[q]? = some (i, rv sb ad v) := by
  rw [List.getElem?_map, hq]
  rfl
theorem g_iload_n {j : Fin 4} {x : Int32} (hd : decode Y.2.1 pc = .ok (.iload_n j, 1)) (q : Nat) (hq : ls[q]? = some (j.val, .int x)) (K : G Y R X P k n (pc + 1) ls (.int x :: st) h) : G Y R X P k n pc ls st h := by
  intro p l e s m args below meth c dC dI cI cR sb ad0 ad H locs lsA S D
  exact lv_iload_n S.1 S.2.1 hd rfl (lv_at D.2.2.2.2.2.2.2 q (rL_at hq)) (K p l e s m args below meth c dC dI cI cR sb ad0 ad H locs lsA S D)
theorem g_iload {j : Nat} {x : Int32} (hd : decode Y.2.1 pc = .ok (.iload j, 2)) (q : Nat) (hq : ls[q]? = some (j, .int x)) (K : G Y R X P k n (pc + 2) ls (.int x :: st) h) : G Y R X P k n pc ls st h := by
  intro p l e s m args below meth c dC dI cI cR sb ad0 ad H locs lsA S D
  exact lv_iload S.1 S.2.1 hd (lv_at D.2.2.2.2.2.2.2 q (rL_at hq)) (K p l e s m args below meth c dC dI cI cR sb ad0 ad H locs lsA S D)
theorem g_lload_n {j : Fin 4} {x : Int64} (hd : decode Y.2.1 pc = .ok (.lload_n j, 1)) (q : Nat) (hq : ls[q]? = some (j.val, .long x)) (K : G Y R X P k n (pc + 1) ls (.long x :: st) h) : G Y R X P k n pc ls st h := by
  intro p l e s m args below meth c dC dI cI cR sb ad0 ad H locs lsA S D
  exact lv_lload_n S.1 S.2.1 hd rfl (lv_at D.2.2.2.2.2.2.2 q (rL_at hq)) (K p l e s m args below meth c dC dI cI cR sb ad0 ad H locs lsA S D)
theorem g_lload {j : Nat} {x : Int64} (hd : decode Y.2.1 pc = .ok (.lload j, 2)) (q : Nat) (hq : ls[q]? = some (j, .long x)) (K : G Y R X P k n (pc + 2) ls (.long x :: st) h) : G Y R X P k n pc ls st h := by
  intro p l e s m args below meth c dC dI cI cR sb ad0 ad H locs lsA S D
  exact lv_lload S.1 S.2.1 hd (lv_at D.2.2.2.2.2.2.2 q (rL_at hq)) (K p l e s m args below meth c dC dI cI cR sb ad0 ad H locs lsA S D)
theorem g_aload_n {j : Fin 4} {x : Nat} (hd : decode Y.2.1 pc = .ok (.aload_n j, 1)) (q : Nat) (hq : ls[q]? = some (j.val, .ref x)) (K : G Y R X P k n (pc + 1) ls (.ref x :: st) h) : G Y R X P k n pc ls st h := by
  intro p l e s m args below meth c dC dI cI cR sb ad0 ad H locs lsA S D
  exact lv_aload_n S.1 S.2.1 hd rfl (lv_at D.2.2.2.2.2.2.2 q (rL_at hq)) (K p l e s m args below meth c dC dI cI cR sb ad0 ad H locs lsA S D)
theorem g_aload_nS {j : Fin 4} {x : Nat} (hd : decode Y.2.1 pc = .ok (.aload_n j, 1)) (q : Nat) (hq : ls[q]? = some (j.val, .retAddr x)) (K : G Y R X P k n (pc + 1) ls (.retAddr x :: st) h) : G Y R X P k n pc ls st h := by
  intro p l e s m args below meth c dC dI cI cR sb ad0 ad H locs lsA S D
  exact lv_aload_n S.1 S.2.1 hd rfl (lv_at D.2.2.2.2.2.2.2 q (rL_at hq)) (K p l e s m args below meth c dC dI cI cR sb ad0 ad H locs lsA S D)
theorem g_aload {j : Nat} {x : Nat} (hd : decode Y.2.1 pc = .ok (.aload j, 2)) (q : Nat) (hq : ls[q]? = some (j, .ref x)) (K : G Y R X P k n (pc + 2) ls (.ref x :: st) h) : G Y R X P k n pc ls st h := by
  intro p l e s m args below meth c dC dI cI cR sb ad0 ad H locs lsA S D
  exact lv_aload S.1 S.2.1 hd (lv_at D.2.2.2.2.2.2.2 q (rL_at hq)) (K p l e s m args below meth c dC dI cI cR sb ad0 ad H locs lsA S D)
def fS (i : Nat) (q : Nat × Value) : Bool := !(q.1 == i) && !(q.1 + 1 == i && q.2.category == 2)
def fS2 (i : Nat) (q : Nat × Value) : Bool := !(q.1 == i) && (!(q.1 == i + 1) && !(q.1 + 1 == i && q.2.category == 2))
theorem fS_rL (sb : Nat) (ad : List Nat) (i : Nat) (l : List (Nat × Value)) : (l.map (rL sb ad)).filter (fS i) = (l.filter (fS i)).map (rL sb ad) := by
  rw [List.filter_map]
  congr 2
  funext q
  show (!(q.1 == i) && !(q.1 + 1 == i && (rv sb ad q.2).category == 2)) = _
  rw [rv_cat]
  rfl
theorem fS2_rL (sb : Nat) (ad : List Nat) (i : Nat) (l : List (Nat × Value)) : (l.map (rL sb ad)).filter (fS2 i) = (l.filter (fS2 i)).map (rL sb ad) := by
  rw [List.filter_map]
  congr 2
  funext q
  show (!(q.1 == i) && (!(q.1 == i + 1) && !(q.1 + 1 == i && (rv sb ad q.2).category == 2))) = _
  rw [rv_cat]
  rfl
theorem g_istore_n {j : Fin 4} {x : Int32} (hd : decode Y.2.1 pc = .ok (.istore_n j, 1)) (hn : j.val < Y.2.2.1) (hl : (j.val, Value.int x) :: ls.filter (fS j.val) = ls') (K : G Y R X P k n (pc + 1) ls' st h) : G Y R X P k n pc ls (.int x :: st) h := by
  intro p l e s m args below meth c dC dI cI cR sb ad0 ad H locs lsA S D
  subst hl
  refine lv_istore_n (lv' := ((j.val, Value.int x) :: ls.filter (fS j.val)).map (rL sb ad)) S.1 S.2.1 hd rfl D.2.2.2.2.2.2.2 hn ?_ (fun lsA2 hl2 => (K p l e s m args below meth c dC dI cI cR sb ad0 ad H locs _ S ⟨D.1, D.2.1, D.2.2.1, D.2.2.2.1, D.2.2.2.2.1, D.2.2.2.2.2.1, D.2.2.2.2.2.2.1, hl2⟩))
  rw [List.map_cons, ← fS_rL]
  rfl
theorem g_istore {j : Nat} {x : Int32} (hd : decode Y.2.1 pc = .ok (.istore j, 2)) (hn : j < Y.2.2.1) (hl : (j, Value.int x) :: ls.filter (fS j) = ls') (K : G Y R X P k n (pc + 2) ls' st h) : G Y R X P k n pc ls (.int x :: st) h := by
  intro p l e s m args below meth c dC dI cI cR sb ad0 ad H locs lsA S D
  subst hl
  refine lv_istore (lv' := ((j, Value.int x) :: ls.filter (fS j)).map (rL sb ad)) S.1 S.2.1 hd D.2.2.2.2.2.2.2 hn ?_ (fun lsA2 hl2 => (K p l e s m args below meth c dC dI cI cR sb ad0 ad H locs _ S ⟨D.1, D.2.1, D.2.2.1, D.2.2.2.1, D.2.2.2.2.1, D.2.2.2.2.2.1, D.2.2.2.2.2.2.1, hl2⟩))
  rw [List.map_cons, ← fS_rL]
  rfl
theorem g_astore_n {j : Fin 4} {x : Nat} (hd : decode Y.2.1 pc = .ok (.astore_n j, 1)) (hn : j.val < Y.2.2.1) (hl : (j.val, Value.ref x) :: ls.filter (fS j.val) = ls') (K : G Y R X P k n (pc + 1) ls' st h) : G Y R X P k n pc ls (.ref x :: st) h := by
  intro p l e s m args below meth c dC dI cI cR sb ad0 ad H locs lsA S D
  subst hl
  refine lv_astore_n (lv' := ((j.val, Value.ref x) :: ls.filter (fS j.val)).map (rL sb ad)) S.1 S.2.1 hd rfl D.2.2.2.2.2.2.2 hn ?_ (fun lsA2 hl2 => (K p l e s m args below meth c dC dI cI cR sb ad0 ad H locs _ S ⟨D.1, D.2.1, D.2.2.1, D.2.2.2.1, D.2.2.2.2.1, D.2.2.2.2.2.1, D.2.2.2.2.2.2.1, hl2⟩))
  rw [List.map_cons, ← fS_rL]
  rfl
theorem g_astore {j : Nat} {x : Nat} (hd : decode Y.2.1 pc = .ok (.astore j, 2)) (hn : j < Y.2.2.1) (hl : (j, Value.ref x) :: ls.filter (fS j) = ls') (K : G Y R X P k n (pc + 2) ls' st h) : G Y R X P k n pc ls (.ref x :: st) h := by
  intro p l e s m args below meth c dC dI cI cR sb ad0 ad H locs lsA S D
  subst hl
  refine lv_astore (lv' := ((j, Value.ref x) :: ls.filter (fS j)).map (rL sb ad)) S.1 S.2.1 hd D.2.2.2.2.2.2.2 hn ?_ (fun lsA2 hl2 => (K p l e s m args below meth c dC dI cI cR sb ad0 ad H locs _ S ⟨D.1, D.2.1, D.2.2.1, D.2.2.2.1, D.2.2.2.2.1, D.2.2.2.2.2.1, D.2.2.2.2.2.2.1, hl2⟩))
  rw [List.map_cons, ← fS_rL]
  rfl
theorem g_lstore_n {j : Fin 4} {x : Int64} (hd : decode Y.2.1 pc = .ok (.lstore_n j, 1)) (hn : j.val + 1 < Y.2.2.1) (hl : (j.val, Value.long x) :: ls.filter (fS2 j.val) = ls') (K : G Y R X P k n (pc + 1) ls' st h) : G Y R X P k n pc ls (.long x :: st) h := by
  intro p l e s m args below meth c dC dI cI cR sb ad0 ad H locs lsA S D
  subst hl
  refine lv_lstore_n (lv' := ((j.val, Value.long x) :: ls.filter (fS2 j.val)).map (rL sb ad)) S.1 S.2.1 hd rfl D.2.2.2.2.2.2.2 hn ?_ (fun lsA2 hl2 => (K p l e s m args below meth c dC dI cI cR sb ad0 ad H locs _ S ⟨D.1, D.2.1, D.2.2.1, D.2.2.2.1, D.2.2.2.2.1, D.2.2.2.2.2.1, D.2.2.2.2.2.2.1, hl2⟩))
  rw [List.map_cons, ← fS2_rL]
  rfl
theorem g_lstore {j : Nat} {x : Int64} (hd : decode Y.2.1 pc = .ok (.lstore j, 2)) (hn : j + 1 < Y.2.2.1) (hl : (j, Value.long x) :: ls.filter (fS2 j) = ls') (K : G Y R X P k n (pc + 2) ls' st h) : G Y R X P k n pc ls (.long x :: st) h := by
  intro p l e s m args below meth c dC dI cI cR sb ad0 ad H locs lsA S D
  subst hl
  refine lv_lstore (lv' := ((j, Value.long x) :: ls.filter (fS2 j)).map (rL sb ad)) S.1 S.2.1 hd D.2.2.2.2.2.2.2 hn ?_ (fun lsA2 hl2 => (K p l e s m args below meth c dC dI cI cR sb ad0 ad H locs _ S ⟨D.1, D.2.1, D.2.2.1, D.2.2.2.1, D.2.2.2.2.1, D.2.2.2.2.2.1, D.2.2.2.2.2.2.1, hl2⟩))
  rw [List.map_cons, ← fS2_rL]
  rfl
theorem g_iinc {j q : Nat} {z : Int} {x v : Int32} (hd : decode Y.2.1 pc = .ok (.iinc j z, 3)) (hq : ls[q]? = some (j, .int x)) (hv : x + Int32.ofInt z = v) (hn : j < Y.2.2.1) (hl : (j, Value.int v) :: ls.filter (fS j) = ls') (K : G Y R X P k n (pc + 3) ls' st h) : G Y R X P k n pc ls st h := by
  intro p l e s m args below meth c dC dI cI cR sb ad0 ad H locs lsA S D
  subst hl
  refine lv_iinc (lv' := ((j, Value.int v) :: ls.filter (fS j)).map (rL sb ad)) S.1 S.2.1 hd D.2.2.2.2.2.2.2 (rL_at hq) hv hn ?_ (fun lsA2 hl2 => (K p l e s m args below meth c dC dI cI cR sb ad0 ad H locs _ S ⟨D.1, D.2.1, D.2.2.1, D.2.2.2.1, D.2.2.2.2.1, D.2.2.2.2.2.1, D.2.2.2.2.2.2.1, hl2⟩))
  rw [List.map_cons, ← fS_rL]
  rfl
theorem g_lsub_ {ls2 : List (Nat × Value)} (ks : List Nat) (hl : lv_pick ls ks = ls2) (K : G Y R X P k n pc ls2 st h) : G Y R X P k n pc ls st h := by
  intro p l e s m args below meth c dC dI cI cR sb ad0 ad H locs lsA S D
  refine K p l e s m args below meth c dC dI cI cR sb ad0 ad H locs lsA S ⟨D.1, D.2.1, D.2.2.1, D.2.2.2.1, D.2.2.2.2.1, D.2.2.2.2.2.1, D.2.2.2.2.2.2.1, lv_sub D.2.2.2.2.2.2.2 ks ?_⟩
  subst hl
  unfold lv_pick
  rw [List.map_filterMap]
  congr 1
  funext i
  rw [List.getElem?_map]
theorem g_dup {x : Value} (hd : decode Y.2.1 pc = .ok (.dup, 1)) (hc : x.category = 1) (K : G Y R X P k n (pc + 1) ls (x :: x :: st) h) : G Y R X P k n pc ls (x :: st) h := by
  intro p l e s m args below meth c dC dI cI cR sb ad0 ad H locs lsA S D
  exact lv_dup S.1 S.2.1 hd ((rv_cat sb ad x).trans hc) (K p l e s m args below meth c dC dI cI cR sb ad0 ad H locs lsA S D)
theorem g_dup2 {x y : Value} (hd : decode Y.2.1 pc = .ok (.dup2, 1)) (hc : x.category = 1) (hc2 : y.category = 1) (K : G Y R X P k n (pc + 1) ls (x :: y :: x :: y :: st) h) : G Y R X P k n pc ls (x :: y :: st) h := by
  intro p l e s m args below meth c dC dI cI cR sb ad0 ad H locs lsA S D
  exact lv_dup2_11 S.1 S.2.1 hd ((rv_cat sb ad x).trans hc) ((rv_cat sb ad y).trans hc2) (K p l e s m args below meth c dC dI cI cR sb ad0 ad H locs lsA S D)
theorem g_goto {off : Int} (tgt : Nat) (hd : decode Y.2.1 pc = .ok (.goto off, 3)) (ht : (pc : Int) + off = (tgt : Int)) (K : G Y R X P k n tgt ls st h) : G Y R X P k n pc ls st h := by
  intro p l e s m args below meth c dC dI cI cR sb ad0 ad H locs lsA S D
  exact lv_goto S.1 S.2.1 hd ht (K p l e s m args below meth c dC dI cI cR sb ad0 ad H locs lsA S D)
theorem g_icmp_eq {x y : Int32} {off : Int} (tgt : Nat) (hd : decode Y.2.1 pc = .ok (.if_icmp .eq off, 3)) (ht : (pc : Int) + off = (tgt : Int)) (Kt : x = y → G Y R X P k n tgt ls st h) (Kf : ¬ (x = y) → G Y R X P k n (pc + 3) ls st h) : G Y R X P k n pc ls (.int y :: .int x :: st) h := by
  intro p l e s m args below meth c dC dI cI cR sb ad0 ad H locs lsA S D
  exact lv_icmp_eq S.1 S.2.1 hd ht (fun q => Kt q p l e s m args below meth c dC dI cI cR sb ad0 ad H locs lsA S D) (fun q => Kf q p l e s m args below meth c dC dI cI cR sb ad0 ad H locs lsA S D)
theorem g_if_eq {x : Int32} {off : Int} (tgt : Nat) (hd : decode Y.2.1 pc = .ok (.ifCond .eq off, 3)) (ht : (pc : Int) + off = (tgt : Int)) (Kt : x = 0 → G Y R X P k n tgt ls st h) (Kf : ¬ (x = 0) → G Y R X P k n (pc + 3) ls st h) : G Y R X P k n pc ls (.int x :: st) h := by
  intro p l e s m args below meth c dC dI cI cR sb ad0 ad H locs lsA S D
  exact lv_if_eq S.1 S.2.1 hd ht (fun q => Kt q p l e s m args below meth c dC dI cI cR sb ad0 ad H locs lsA S D) (fun q => Kf q p l e s m args below meth c dC dI cI cR sb ad0 ad H locs lsA S D)
theorem g_icmp_ne {x y : Int32} {off : Int} (tgt : Nat) (hd : decode Y.2.1 pc = .ok (.if_icmp .ne off, 3)) (ht : (pc : Int) + off = (tgt : Int)) (Kt : ¬ x = y → G Y R X P k n tgt ls st h) (Kf : x = y → G Y R X P k n (pc + 3) ls st h) : G Y R X P k n pc ls (.int y :: .int x :: st) h := by
  intro p l e s m args below meth c dC dI cI cR sb ad0 ad H locs lsA S D
  exact lv_icmp_ne S.1 S.2.1 hd ht (fun q => Kt q p l e s m args below meth c dC dI cI cR sb ad0 ad H locs lsA S D) (fun q => Kf q p l e s m args below meth c dC dI cI cR sb ad0 ad H locs lsA S D)
theorem g_if_ne {x : Int32} {off : Int} (tgt : Nat) (hd : decode Y.2.1 pc = .ok (.ifCond .ne off, 3)) (ht : (pc : Int) + off = (tgt : Int)) (Kt : ¬ x = 0 → G Y R X P k n tgt ls st h) (Kf : x = 0 → G Y R X P k n (pc + 3) ls st h) : G Y R X P k n pc ls (.int x :: st) h := by
  intro p l e s m args below meth c dC dI cI cR sb ad0 ad H locs lsA S D
  exact lv_if_ne S.1 S.2.1 hd ht (fun q => Kt q p l e s m args below meth c dC dI cI cR sb ad0 ad H locs lsA S D) (fun q => Kf q p l e s m args below meth c dC dI cI cR sb ad0 ad H locs lsA S D)
theorem g_icmp_lt {x y : Int32} {off : Int} (tgt : Nat) (hd : decode Y.2.1 pc = .ok (.if_icmp .lt off, 3)) (ht : (pc : Int) + off = (tgt : Int)) (Kt : x < y → G Y R X P k n tgt ls st h) (Kf : ¬ (x < y) → G Y R X P k n (pc + 3) ls st h) : G Y R X P k n pc ls (.int y :: .int x :: st) h := by
  intro p l e s m args below meth c dC dI cI cR sb ad0 ad H locs lsA S D
  exact lv_icmp_lt S.1 S.2.1 hd ht (fun q => Kt q p l e s m args below meth c dC dI cI cR sb ad0 ad H locs lsA S D) (fun q => Kf q p l e s m args below meth c dC dI cI cR sb ad0 ad H locs lsA S D)
theorem g_if_lt {x : Int32} {off : Int} (tgt : Nat) (hd : decode Y.2.1 pc = .ok (.ifCond .lt off, 3)) (ht : (pc : Int) + off = (tgt : Int)) (Kt : x < 0 → G Y R X P k n tgt ls st h) (Kf : ¬ (x < 0) → G Y R X P k n (pc + 3) ls st h) : G Y R X P k n pc ls (.int x :: st) h := by
  intro p l e s m args below meth c dC dI cI cR sb ad0 ad H locs lsA S D
  exact lv_if_lt S.1 S.2.1 hd ht (fun q => Kt q p l e s m args below meth c dC dI cI cR sb ad0 ad H locs lsA S D) (fun q => Kf q p l e s m args below meth c dC dI cI cR sb ad0 ad H locs lsA S D)
theorem g_icmp_ge {x y : Int32} {off : Int} (tgt : Nat) (hd : decode Y.2.1 pc = .ok (.if_icmp .ge off, 3)) (ht : (pc : Int) + off = (tgt : Int)) (Kt : y ≤ x → G Y R X P k n tgt ls st h) (Kf : ¬ (y ≤ x) → G Y R X P k n (pc + 3) ls st h) : G Y R X P k n pc ls (.int y :: .int x :: st) h := by
  intro p l e s m args below meth c dC dI cI cR sb ad0 ad H locs lsA S D
  exact lv_icmp_ge S.1 S.2.1 hd ht (fun q => Kt q p l e s m args below meth c dC dI cI cR sb ad0 ad H locs lsA S D) (fun q => Kf q p l e s m args below meth c dC dI cI cR sb ad0 ad H locs lsA S D)
theorem g_if_ge {x : Int32} {off : Int} (tgt : Nat) (hd : decode Y.2.1 pc = .ok (.ifCond .ge off, 3)) (ht : (pc : Int) + off = (tgt : Int)) (Kt : 0 ≤ x → G Y R X P k n tgt ls st h) (Kf : ¬ (0 ≤ x) → G Y R X P k n (pc + 3) ls st h) : G Y R X P k n pc ls (.int x :: st) h := by
  intro p l e s m args below meth c dC dI cI cR sb ad0 ad H locs lsA S D
  exact lv_if_ge S.1 S.2.1 hd ht (fun q => Kt q p l e s m args below meth c dC dI cI cR sb ad0 ad H locs lsA S D) (fun q => Kf q p l e s m args below meth c dC dI cI cR sb ad0 ad H locs lsA S D)
theorem g_icmp_gt {x y : Int32} {off : Int} (tgt : Nat) (hd : decode Y.2.1 pc = .ok (.if_icmp .gt off, 3)) (ht : (pc : Int) + off = (tgt : Int)) (Kt : y < x → G Y R X P k n tgt ls st h) (Kf : ¬ (y < x) → G Y R X P k n (pc + 3) ls st h) : G Y R X P k n pc ls (.int y :: .int x :: st) h := by
  intro p l e s m args below meth c dC dI cI cR sb ad0 ad H locs lsA S D
  exact lv_icmp_gt S.1 S.2.1 hd ht (fun q => Kt q p l e s m args below meth c dC dI cI cR sb ad0 ad H locs lsA S D) (fun q => Kf q p l e s m args below meth c dC dI cI cR sb ad0 ad H locs lsA S D)
theorem g_if_gt {x : Int32} {off : Int} (tgt : Nat) (hd : decode Y.2.1 pc = .ok (.ifCond .gt off, 3)) (ht : (pc : Int) + off = (tgt : Int)) (Kt : 0 < x → G Y R X P k n tgt ls st h) (Kf : ¬ (0 < x) → G Y R X P k n (pc + 3) ls st h) : G Y R X P k n pc ls (.int x :: st) h := by
  intro p l e s m args below meth c dC dI cI cR sb ad0 ad H locs lsA S D
  exact lv_if_gt S.1 S.2.1 hd ht (fun q => Kt q p l e s m args below meth c dC dI cI cR sb ad0 ad H locs lsA S D) (fun q => Kf q p l e s m args below meth c dC dI cI cR sb ad0 ad H locs lsA S D)
theorem g_icmp_le {x y : Int32} {off : Int} (tgt : Nat) (hd : decode Y.2.1 pc = .ok (.if_icmp .le off, 3)) (ht : (pc : Int) + off = (tgt : Int)) (Kt : x ≤ y → G Y R X P k n tgt ls st h) (Kf : ¬ (x ≤ y) → G Y R X P k n (pc + 3) ls st h) : G Y R X P k n pc ls (.int y :: .int x :: st) h := by
  intro p l e s m args below meth c dC dI cI cR sb ad0 ad H locs lsA S D
  exact lv_icmp_le S.1 S.2.1 hd ht (fun q => Kt q p l e s m args below meth c dC dI cI cR sb ad0 ad H locs lsA S D) (fun q => Kf q p l e s m args below meth c dC dI cI cR sb ad0 ad H locs lsA S D)
theorem g_if_le {x : Int32} {off : Int} (tgt : Nat) (hd : decode Y.2.1 pc = .ok (.ifCond .le off, 3)) (ht : (pc : Int) + off = (tgt : Int)) (Kt : x ≤ 0 → G Y R X P k n tgt ls st h) (Kf : ¬ (x ≤ 0) → G Y R X P k n (pc + 3) ls st h) : G Y R X P k n pc ls (.int x :: st) h := by
  intro p l e s m args below meth c dC dI cI cR sb ad0 ad H locs lsA S D
  exact lv_if_le S.1 S.2.1 hd ht (fun q => Kt q p l e s m args below meth c dC dI cI cR sb ad0 ad H locs lsA S D) (fun q => Kf q p l e s m args below meth c dC dI cI cR sb ad0 ad H locs lsA S D)
theorem g_tableIn {dflt lo hi : Int} {offs : Array Int} {len : Nat} {x : Int32} {off : Int} (tgt : Nat) (hd : decode Y.2.1 pc = .ok (.tableswitch dflt lo hi offs, len)) (h1 : ¬ x.toInt < lo) (h2 : ¬ hi < x.toInt) (ho : offs[(x.toInt - lo).toNat]? = some off) (ht : (pc : Int) + off = (tgt : Int)) (K : G Y R X P k n tgt ls st h) : G Y R X P k n pc ls (.int x :: st) h := by
  intro p l e s m args below meth c dC dI cI cR sb ad0 ad H locs lsA S D
  exact lv_tableIn S.1 S.2.1 hd h1 h2 ho ht (K p l e s m args below meth c dC dI cI cR sb ad0 ad H locs lsA S D)
theorem g_tableOut {dflt lo hi : Int} {offs : Array Int} {len : Nat} {x : Int32} (tgt : Nat) (hd : decode Y.2.1 pc = .ok (.tableswitch dflt lo hi offs, len)) (h1 : x.toInt < lo ∨ hi < x.toInt) (ht : (pc : Int) + dflt = (tgt : Int)) (K : G Y R X P k n tgt ls st h) : G Y R X P k n pc ls (.int x :: st) h := by
  intro p l e s m args below meth c dC dI cI cR sb ad0 ad H locs lsA S D
  exact lv_tableOut S.1 S.2.1 hd h1 ht (K p l e s m args below meth c dC dI cI cR sb ad0 ad H locs lsA S D)
theorem g_lookup {dflt : Int} {ps : Array (Int × Int)} {len : Nat} {x : Int32} {off : Int} (tgt : Nat) (hd : decode Y.2.1 pc = .ok (.lookupswitch dflt ps, len)) (hp : (ps.toList.zip (ps.toList.drop 1)).all (fun (a, next) => a.1 < next.1) = true) (ho : Op.lookupswitch.offset ps.toList dflt x.toInt = off) (ht : (pc : Int) + off = (tgt : Int)) (K : G Y R X P k n tgt ls st h) : G Y R X P k n pc ls (.int x :: st) h := by
  intro p l e s m args below meth c dC dI cI cR sb ad0 ad H locs lsA S D
  exact lv_lookup S.1 S.2.1 hd hp ho ht (K p l e s m args below meth c dC dI cI cR sb ad0 ad H locs lsA S D)
theorem g_lcmp {x y : Int64} (hd : decode Y.2.1 pc = .ok (.lcmp, 1)) {v : Int32} (hv : lg_cmp x y = v) (K : G Y R X P k n (pc + 1) ls (.int v :: st) h) : G Y R X P k n pc ls (.long y :: .long x :: st) h := by
  intro p l e s m args below meth c dC dI cI cR sb ad0 ad H locs lsA S D
  subst hv
  exact W.lcmp S.1 S.2.1 hd (K p l e s m args below meth c dC dI cI cR sb ad0 ad H locs lsA S D)
theorem g_top {x y : Int32} (e : x = y) (K : G Y R X P k n pc ls (.int y :: st) h) : G Y R X P k n pc ls (.int x :: st) h := e ▸ K
theorem g_topl {x y : Int64} (e : x = y) (K : G Y R X P k n pc ls (.long y :: st) h) : G Y R X P k n pc ls (.long x :: st) h := e ▸ K
theorem g_heap {h2 : List aC} (e : h = h2) (K : G Y R X P k n pc ls st h2) : G Y R X P k n pc ls st h := e ▸ K
theorem g_loc {l2 : List (Nat × Value)} (e : ls = l2) (K : G Y R X P k n pc l2 st h) : G Y R X P k n pc ls st h := e ▸ K
end
