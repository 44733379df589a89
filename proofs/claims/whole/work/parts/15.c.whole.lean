theorem clH0 : clH [] := fun e he => absurd he List.not_mem_nil
set_option maxRecDepth 100000 in
set_option maxHeartbeats 4000000 in
theorem lw_G {nm : String} {L : Nat} {xs : Nat → Int32} (hL : L ≤ 2560) : G (mLn nm) room_1 (some (L, xs)) PL 0 0 0 [(0, .retAddr 0)] [] [] := by
  refine g_new (ds := [.null, .null, .null, .int 0, .null, .null, .null, .null, .null, .null, .null]) dL_law_0 kX8 wkL_7 wtX8 wzX8 dvX8 (fun _ _ => rfl) dcX8 clH0 ⟨trivial, trivial⟩ trivial (Nat.le_of_ble_eq_true rfl) (Nat.le_of_ble_eq_true rfl) (fun hc => ?_)
  refine g_dup dL_law_3 rfl ?_
  refine g_initI (mc := 97) (ms := 1793) dL_law_4 (ec_X8 (b := []) clH0 (L := 0) rfl) oX8_init rfl wiX8_init wmL_9 ⟨(Nat.le_of_ble_eq_true rfl), (Nat.le_of_ble_eq_true rfl)⟩ ⟨(Nat.le_of_ble_eq_true rfl), (Nat.le_of_ble_eq_true rfl)⟩ (Nat.le_of_ble_eq_true rfl) ⟨trivial, trivial⟩ ⟨(show (0 : Nat) < 1 by omega), trivial⟩ (fun h1 q1 => ?_)
  obtain ⟨rfl, hc1⟩ := q1
  have hc1 : clH (objC 0) := hc1
  show G _ _ _ _ _ _ _ _ [.ref 0] (objC 0)
  refine g_astore_n (ls' := [(1, .ref 0), (0, .retAddr 0)]) dL_law_7 (Nat.le_of_ble_eq_true rfl) rfl ?_
  refine g_new (ds := [.int 0, .int 0, .null, .null, .null, .int 0, .null, .int 0, .null, .null, .null, .int 0, .int 0, .int 0, .int 0, .null, .null, .null, .int 0, .null, .null, .null, .int 0, .null, .null, .null, .null, .null, .int 0, .int 0, .int 0, .int 0, .null, .null, .null]) dL_law_8 kX9 wkL_10 wtX9 wzX9 dvX9 (fun _ _ => rfl) dcX9 hc1 ⟨(show (0 : Nat) < (objC 0).length by rw [len0]; omega), trivial, trivial⟩ trivial (Nat.le_of_ble_eq_true rfl) (Nat.le_of_ble_eq_true rfl) (fun hc2 => ?_)
  rw [len0]
  refine g_dup dL_law_11 rfl ?_
  have l99 : List.length (α := aC) (objC 0 ++ [.inr (9, [.int 0, .int 0, .null, .null, .null, .int 0, .null, .int 0, .null, .null, .null, .int 0, .int 0, .int 0, .int 0, .null, .null, .null, .int 0, .null, .null, .null, .int 0, .null, .null, .null, .null, .null, .int 0, .int 0, .int 0, .int 0, .null, .null, .null])]) = 99 := by rw [List.length_append, len0]; rfl
  refine g_initI (mc := 21) (ms := 5840) dL_law_12 (ec_X9 hc1 len0) oX9_init rfl wiX9_init wmL_12 ⟨(Nat.le_of_ble_eq_true rfl), (Nat.le_of_ble_eq_true rfl)⟩ ⟨(Nat.le_of_ble_eq_true rfl), (Nat.le_of_ble_eq_true rfl)⟩ (Nat.le_of_ble_eq_true rfl) ⟨(show (0 : Nat) < _ by rw [l99]; omega), trivial, trivial⟩ ⟨(show (98 : Nat) < _ by rw [l99]; omega), trivial⟩ (fun h2 q2 => ?_)
  obtain ⟨HM, hS⟩ := q2
  have HC : RC h2 sg0 := rc0.mv hS (Nat.le_refl 98)
  refine g_astore_n (ls' := [(2, .ref 98), (1, .ref 0), (0, .retAddr 0)]) dL_law_15 (Nat.le_of_ble_eq_true rfl) rfl ?_
  refine g_iconst (v := nI 0) dL_law_16 (by decide +kernel) ?_
  refine g_istore_n (ls' := [(3, .int (nI 0)), (2, .ref 98), (1, .ref 0), (0, .retAddr 0)]) dL_law_17 (Nat.le_of_ble_eq_true rfl) rfl ?_
  refine g_lsub_ (ls2 := [(3, .int (nI 0)), (0, .retAddr 0), (1, .ref 0), (2, .ref 98)]) [0, 3, 2, 1] rfl ?_
  exact lw_loop hL L 0 h2 sg0 (by omega) (by omega) HC HM ok0
theorem lw_kn {s : State} {args : Array Value} (hts : ∀ w ∈ lw_tbl, w.before args s = true) : ∀ c : Nat, ∃ (cC : ClassId) (iS : Nat → Nat), ∀ q : vw_C, vwCl[c]? = some q → u_Kn s q.1 q.2.1 q.2.2 cC iS := fun c => by
  match c with
    | 0 => obtain ⟨a, f, h⟩ := u_known hts inX0 (hts _ wtX0); exact ⟨a, f, fun q hq => by cases hq; exact h⟩
    | 1 => obtain ⟨a, f, h⟩ := u_known hts inX1 (hts _ wtX1); exact ⟨a, f, fun q hq => by cases hq; exact h⟩
    | 2 => obtain ⟨a, f, h⟩ := u_known hts inX2 (hts _ wtX2); exact ⟨a, f, fun q hq => by cases hq; exact h⟩
    | 3 => obtain ⟨a, f, h⟩ := u_known hts inX3 (hts _ wtX3); exact ⟨a, f, fun q hq => by cases hq; exact h⟩
    | 4 => obtain ⟨a, f, h⟩ := u_known hts inX4 (hts _ wtX4); exact ⟨a, f, fun q hq => by cases hq; exact h⟩
    | 5 => obtain ⟨a, f, h⟩ := u_known hts inX5 (hts _ wtX5); exact ⟨a, f, fun q hq => by cases hq; exact h⟩
    | 6 => obtain ⟨a, f, h⟩ := u_known hts inX6 (hts _ wtX6); exact ⟨a, f, fun q hq => by cases hq; exact h⟩
    | 7 => obtain ⟨a, f, h⟩ := u_known hts inX7 (hts _ wtX7); exact ⟨a, f, fun q hq => by cases hq; exact h⟩
    | 8 => obtain ⟨a, f, h⟩ := u_known hts inX8 (hts _ wtX8); exact ⟨a, f, fun q hq => by cases hq; exact h⟩
    | 9 => obtain ⟨a, f, h⟩ := u_known hts inX9 (hts _ wtX9); exact ⟨a, f, fun q hq => by cases hq; exact h⟩
    | c + 10 => exact ⟨0, fun _ => 0, fun q hq => by cases hq⟩
theorem lw_arr {s : State} {args : Array Value} (hts : ∀ w ∈ lw_tbl, w.before args s = true) : ∃ cI cR : ClassId, (ArrOfT s cI .int ∧ va_RA s cI .int) ∧ (ArrOfT s cR (.array .int) ∧ va_RA s cR (.array .int)) := by
  obtain ⟨cI, kI, comp, h1, h2, h3⟩ := Cond.arrayClass_spec (hts _ wArr)
  obtain ⟨comp2, cR, kR, -, g2, g3, g1⟩ := Cond.arrayOver_specA (hts _ wAov)
  exact ⟨cI, cR, ⟨fun n z => ⟨fun k h => (by cases h), kI, h2, comp, h3⟩, h1⟩, ⟨fun n z => ⟨fun k h => (by cases h), kR, g2, comp2, g3⟩, g1⟩⟩
theorem lw_fr {s t : State} {o : Outcome} {Lc : List Loc} {k n : Nat} (h : Jvm.Free.FrameEnd s o t Lc k n) (hL : ∀ q ∈ Lc, s.heap.size ≤ q.base) : Framed s o t [] k n := by
  obtain ⟨h1, h2, a1, a2, a3, a4, a5, a6⟩ := h
  refine ⟨h1, h2, a1, a2, a3, a4, a5, fun a c hc => ?_⟩
  obtain ⟨c', e1, e2, e3, e4⟩ := a6 a c hc
  refine ⟨c', e1, e2, e3, fun i _ => e4 i fun hm => ?_⟩
  have l1 := hL _ hm
  have l2 := (Array.getElem?_eq_some_iff.mp hc).1
  have l1 : s.heap.size ≤ a := l1
  omega

/-! THE CLAIM OUT OF ONE WALK OF THE LAW'S BODY. Your part is whole_start (and what it stands on); all else here is the same for every law, but numbers. -/
def R_law : String := "SquareRoomsLaw"
def lw_P (b : Addr) (xs : List Int32) (args : Array Value) (s : State) : Prop := args = #[.ref b] ∧ s.IntsAt b xs ∧ xs.length ≤ 2560 ∧ (Jvm.Cond.and given_1 narrow_1).before args s = true
def lw_Q (_ : Array Value) (s : State) (o : Outcome) (t : State) : Prop := o = .returned (some (.int 1)) ∧ Framed s o t [] 600000 7302250
def lw_Z (below : List Frame) (a : Array Value) (s : State) : State → Prop := fun t => ∃ o, t.status = .running ∧ Ended t below o ∧ lw_Q a s o t
/-- the law's own end, with 1 on the stack, nothing written that was there before, its room as the claim has it -/
theorem lw_ret {p : Program} {l : Launch} {e : Env} {s : State} {m : MethodId} {below : List Frame} {meth : Method} {c : Code} {b : Nat} (hx : p.tables.exec = Jvm.exec) (hb : c.code = code) (hr : meth.sig.returnType = ret) (hlocks : meth.locks = false) {pc : Nat} {H : Heap} {ls : Array Slot} (hdg : decode code pc = .ok (.ireturn, 1)) : W p l e room_1 s m #[Value.ref b] below meth c H [] 600000 7302250 (lw_Z below #[Value.ref b] s) (F0 m pc ls [.int 1]) := by
  intro T hT X
  obtain ⟨fs, hret, hrun, hended, hW, hframe⟩ := X.leave (v := some (.int 1)) (hlocks := hlocks) (fun h => by rw [hr] at h; cases h)
  have hmeth' : T.vm.method? m = some meth := X.method'
  refine ⟨T.setFrames fs, ?_, .returned (some (.int 1)), hrun, hended, rfl, ⟨_, rfl⟩, hW, hframe⟩
  jvm_step X.here [X.here.top, hx, hb, hdg, hmeth', hr, ret, narrow_b1]
  (try refine ⟨rfl, ?_⟩); (try refine ⟨rfl, ?_⟩)
  first | (intro acts; rw [hret _ acts rfl rfl rfl]) | rw [hret _ _ rfl rfl rfl]
  exact Steps.refl _
/-- what holds at the law's entry: the machine, the code, the tables' words (any of lw_tbl by 'hts w (by decide +kernel)'), the script of L ints xs at the cell b, what the Statement gives of the start (any of its parts by flat_of_before) -/
def lw_At (p : Program) (s : State) (m : MethodId) (meth : Method) (c : Code) (b L : Nat) (xs : Nat → Int32) : Prop :=
  p.tables.exec = Jvm.exec ∧ c.code = code ∧ meth.sig.returnType = ret ∧ c.maxLocals = 4 ∧ s.vm.findClass R_law = some m.cls ∧ (∀ w ∈ lw_tbl, w.before #[Value.ref b] s = true) ∧ va_X b L xs s s.heap ∧ b < s.heap.size ∧ meth.locks = false ∧ (Jvm.Cond.and given_1 narrow_1).before #[Value.ref b] s = true

-- ===== YOUR PART BEGINS =====
/-- YOUR PART: from the entry, for every script of at most 2560 ints, the law comes to its end with true ('hflags': the launch's flags, for a law that throws: no stack traces) -/
theorem whole_start {p : Program} {e : Env} {s : State} {m : MethodId} {below : List Frame} {meth : Method} {c : Code} (l : Launch) (hflags : l.flags = flags0) {b L : Nat} {xs : Nat → Int32} (hL : L ≤ 2560) (C0 : lw_At p s m meth c b L xs) : W p l e room_1 s m #[Value.ref b] below meth c s.heap [] 0 0 (lw_Z below #[Value.ref b] s) (entryFrame m ([Value.ref b] : List Value).toArray 4) := by
  obtain ⟨hexec, hcode, hret, hml, hown, hts, hX, hbl, hlocks, -⟩ := C0
  obtain ⟨cI, cR, hI, hR⟩ := lw_arr hts
  have hK : eK (fun c => Classical.choose (lw_kn hts c)) (fun c => Classical.choose (Classical.choose_spec (lw_kn hts c))) cI cR s := ⟨fun c q hq => Classical.choose_spec (Classical.choose_spec (lw_kn hts c)) q hq, fun k q hk => by
    match k with
    | 0 => cases hk; exact hI
    | 1 => cases hk; exact hR
    | k + 2 => cases hk⟩
  have hN : eN s := ⟨fun q hq => hts _ (nest_in q hq), hts _ wAov⟩
  have hle := lv_entry ([Value.ref b] : List Value) (n := 4) (by show 1 ≤ 4; decide)
  have KG := lw_G (nm := meth.name) (xs := xs) hL p l e s m #[Value.ref b] below meth c _ _ cI cR b [] [] s.heap [] _ ⟨hexec, hcode, hml, hret, rfl, hlocks, hown, fun w hw => hts w (List.mem_filter.mp hw).1, hK, hN, fun x hx => by
    cases hx
    refine ⟨hX, hbl, fun z => ?_⟩
    rcases z with z | z
    · exact absurd z List.not_mem_nil
    · omega⟩ ⟨rfl, List.nodup_nil, List.prefix_refl _, fun q hq => absurd hq List.not_mem_nil, fun _ => rfl, fun k q hq => (by cases hq), va_S.rf, hle⟩
  rw [lg_entry_eq]
  intro T hT XT
  obtain ⟨t, a1, o, b1, b2, ⟨ad, w, h1, c1, -, -, -, c2, -, -⟩, Lc, c3, c4⟩ := KG T hT XT
  have c1 : w = some (.int 1) := c1
  subst c1
  refine ⟨t, a1, o, b1, b2, c2, lw_fr c3 fun q hq => ?_⟩
  rcases c4 q hq with z | z
  · exact absurd z List.not_mem_nil
  · exact z

-- ===== YOUR PART ENDS =====
set_option maxHeartbeats 4000000 in
theorem lw_walk (l : Launch) (hflags : l.flags = flags0) (b : Addr) (xs : List Int32) : MetFree l x (headSpec (Jvm.Cond.code x code maxLocals ret :: tables_1) room_1) (lw_P b xs) (fun _ _ _ _ _ => True) lw_Q := by
  refine MetFree.of_bodyS (code := code) (maxLocals := maxLocals) (ret := ret) (by decide) ?_ ?_
  · intro args s m h hn
    obtain ⟨meth, c, h1, h2, h3, h4, h5, h6, -, -⟩ := Cond.code_spec hn (atoms_spec (ws := Jvm.Cond.code x code maxLocals ret :: tables_1) h _ List.mem_cons_self)
    exact ⟨meth, c, h1, h2, h3, h4, h5, h6⟩
  · intro p e s m args below meth c s₁ B hml0 hP _
    obtain ⟨rfl, hx, hbd, hgv⟩ := hP
    obtain ⟨scr, harrAt, hlist, hof, hsmall⟩ := hx
    obtain ⟨hcb, hkn, -, -⟩ := State.arrayAt?_spec harrAt
    have hown : s.vm.findClass R_law = some m.cls := findClass_of_methodNamed B.named
    have hts0 : ∀ c ∈ (Jvm.Cond.code x code maxLocals ret :: tables_1), c.before #[Value.ref b] s = true := atoms_spec (ws := Jvm.Cond.code x code maxLocals ret :: tables_1) B.pre
    have hts : ∀ w ∈ lw_tbl, w.before #[Value.ref b] s = true := k2_hts_sels lw_privs (fun w hw => hts0 w (List.mem_cons_of_mem _ hw)) lw_privs_ok
    have hml : c.maxLocals = 4 := B.maxLocals_eq (hts0 _ List.mem_cons_self)
    have X₀ : Stand p l e room_1 s m #[Value.ref b] below meth c s₁ [] 0 0 := Stand.of_body B
    have hh0 : s₁.heap = s.heap := by rw [B.state]; rfl
    have hsz : scr.slots.size = xs.length := by rw [← Array.length_toList, hlist, List.length_map]
    have hval : ∀ j : Nat, j < xs.length → scr.slots[j]? = some (.int (xs.getD j 0)) := fun j hj => by
      rw [← Array.getElem?_toList, hlist]
      simp [hj]
    have hbl : b < s.heap.size := (Array.getElem?_eq_some_iff.mp hcb).1
    have hX : va_X b xs.length (fun j => xs.getD j 0) s s.heap := ⟨scr, hcb, hof, hkn, hsz, hval⟩
    have K : W p l e room_1 s m #[Value.ref b] below meth c s₁.heap [] 0 0 (lw_Z below #[Value.ref b] s) (entryFrame m ([Value.ref b] : List Value).toArray 4) := by
      rw [hh0]
      exact whole_start l hflags hbd ⟨B.exec, B.bytes, B.returns, hml, hown, hts, hX, hbl, B.notSynchronized, hgv⟩
    obtain ⟨t, a1, o, b1, b2, b3⟩ := K s₁ rfl X₀
    exact ⟨t, o, a1, b1, b2, b3⟩
theorem lw_pre_spec {args : Array Value} {s : State} (h : (Jvm.Cond.and given_1 narrow_1).before args s = true) (hr : rest_1_c.before args s = true) : ∃ (b : Addr) (xs : List Int32), lw_P b xs args s := by
  have hs := flat_of_before _ h
  have hq := flat_of_before _ hr
  have hc : (Cond.count 1).before args s = true := hs _ (by decide +kernel)
  have harr : (Cond.arrayOf (.arg 0) .int).before args s = true := hs _ (by decide +kernel)
  have hle : (Cond.le (.length (.arg 0)) (.int 2560)).before args s = true := hs _ (by decide +kernel)
  have hlen : (Cond.isInt (.length (.arg 0))).before args s = true := hq _ (by decide +kernel)
  have hall : (Cond.all (.arg 0) (.isInt (.elem (.arg 0) (.index 0)))).before args s = true := hq _ (by decide +kernel)
  obtain ⟨b, xs, hb, hx⟩ := State.ints_of_pre rfl harr hlen hall
  have hsm : xs.length < 2 ^ 31 := hx.choose_spec.2.2.2
  have hev : (Term.length (.arg 0)).eval args s none [] s = some (.int xs.length.toInt32) := hx.length_eval hb
  have hv := Cond.le_ints hev (show (Term.int 2560).eval args s none [] s = some (.int 2560) from rfl)
  have hd : xs.length.toInt32 ≤ 2560 := by
    simpa [Cond.before, Cond.holds, hv] using hle
  have hN : xs.length ≤ 2560 := (Int32.ofNat_le_ofNat hsm (by decide)).mp (show Int32.ofNat xs.length ≤ Int32.ofNat 2560 from hd)
  exact ⟨b, xs, Cond.one_arg hc (show args[0]? = some (.ref b) from hb), hx, hN, h⟩
theorem lw_comes (l : Launch) (hflags : l.flags = flags0) : Comes l x (Jvm.Cond.code x code maxLocals ret :: tables_1) room_1 (fun tb e args s => Calls_1 tb e args s ∧ rest_1 tb e args s ∧ Pre_1 tb e args s)
    (fun _ _ args s o t => lw_Q args s o t) := by
  intro p e ha hc hk s m args below hf hfit hheap happ hpre
  obtain ⟨b, xs, hP⟩ := lw_pre_spec hpre.2.2 hpre.2.1
  obtain ⟨k, o, h1, h2, h3, hQ⟩ := lw_walk l hflags b xs p e ha hc hk s m args below hf ((Spec.applies_iff_loose hf).mp happ).1 hP trivial
  exact ⟨k, o, h1, h2, h3, hQ⟩
theorem lw_frame {s t : State} {o : Outcome} {args : Array Value} (h : Framed s o t [] 600000 7302250) :
    Framed s o t (fieldLocs frame_1_writes args s ++ arrayLocs frame_1_arrays args s ++ staticLocs frame_1_statics s) 600000 7302250 := h
theorem lw_limb (L : Cond) (hL : ∀ (args : Array Value) (s t : State), L.after args s (.returned (some (.int 1))) t = true) :
    ArmFor flags0 classFile x code maxLocals ret World_1 tables_1 room_1 Calls_1 rest_1 Pre_1
      (fun tb e a s o t => postC L tb e a s o t ∧ Framed s o t (fieldLocs frame_1_writes a s ++ arrayLocs frame_1_arrays a s ++ staticLocs frame_1_statics s) 600000 7302250) := by
  intro l hflags _ _ p e ha hc hk s m args below hf hfit hheap happ hpre
  obtain ⟨k, o, h1, h2, h3, rfl, hF⟩ := lw_comes l hflags p e ha hc hk s m args below hf hfit hheap happ hpre
  exact ⟨k, _, h1, h2, h3, hL args s _, lw_frame hF⟩
theorem i_vc : Claimed_1_1 ∧ Claimed_1_2 := ⟨lw_limb limb_1_1 (fun args s t => by simp [limb_1_1, Cond.after, Cond.holds, Cond.value]), lw_limb limb_1_2 (fun args s t => Cond.after_iff.mpr (by
  first | (rw [show limb_1_2 = Cond.eq .result (.int 1) from rfl, Cond.eq_ints (x := 1) (y := 1) rfl rfl]; simp; done) | (simp [limb_1_2, Cond.value, Term.eval]; done)))⟩
