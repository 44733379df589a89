/-- the cells of the Lists at 36 -/
def LA (h : List aC) (LR : Nat → List Int32) (LN : List Int32) : Prop := rd h 36 = some (.inr (2, [.ref 37, .ref 41])) ∧ rd h 37 = some (.inr (100, (List.range 3).map (fun i => Value.ref (38 + i)))) ∧ (∀ i, i < 3 → rd h (38 + i) = some (.inl (LR i)) ∧ (LR i).length = 40) ∧ rd h 41 = some (.inl LN) ∧ LN.length = 3
theorem LA.mv {h h' : List aC} {lo hi : Nat} {LR : Nat → List Int32} {LN : List Int32} (H : LA h LR LN) (s : Smo lo hi h h') (hq : 42 ≤ lo ∨ hi ≤ 36) : LA h' LR LN := ⟨by rw [s _ (by omega)]; exact H.1, by rw [s _ (by omega)]; exact H.2.1, fun i hi => by rw [s _ (by omega)]; exact H.2.2.1 i hi, by rw [s _ (by omega)]; exact H.2.2.2.1, H.2.2.2.2⟩
theorem rows3 {y : Nat} (hy : y < 3) : ((List.range 3).map (fun i => Value.ref (38 + i))).getD y .null = .ref (38 + y) := by
  rw [List.getD_eq_getElem?_getD, List.getElem?_map, List.getElem?_range hy]
  rfl
def upI (f : Nat → List Int32) (y : Nat) (v : List Int32) : Nat → List Int32 := fun j => if j = y then v else f j
theorem upI_eq {f : Nat → List Int32} {y : Nat} {v : List Int32} : upI f y v y = v := if_pos rfl
theorem upI_ne {f : Nat → List Int32} {y i : Nat} {v : List Int32} (h : i ≠ y) : upI f y v i = f i := if_neg h

set_option maxRecDepth 100000 in
set_option maxHeartbeats 4000000 in
theorem ev_lhas (l : Int32) (h : List aC) : Ev mX2_has 1 0 0 [.ref 36, .int l] h (pv (.int (nI (bI (decide (0 ≤ l ∧ l < 3))))) h) := by
  refine Ev.of pX2_has (Nat.le_of_ble_eq_true rfl) ?_
  show G mX2_has (rmD 1 0 0) none _ 0 0 0 [(0, .ref 36), (1, .int l)] [] h
  refine g_iload_n dX2_has_0 1 rfl ?_
  refine g_if_lt 13 dX2_has_1 (by decide) (fun c1 => ?_) (fun c1 => ?_)
  · refine g_iconst (v := nI 0) dX2_has_13 (by decide +kernel) ?_
    exact g_zret dX2_has_14 rfl (by decide) ⟨Nat.zero_le _, Nat.zero_le _⟩ (pvN (fun z => by first | exact absurd z.1 (Int32.not_le.mpr c1) | exact absurd z.2 (Int32.not_lt.mpr c6)))
  · refine g_iload_n dX2_has_4 1 rfl ?_
    refine g_iconst (v := nI 3) dX2_has_5 (by decide +kernel) ?_
    refine g_icmp_ge 13 dX2_has_6 (by decide) (fun c6 => ?_) (fun c6 => ?_)
    · refine g_iconst (v := nI 0) dX2_has_13 (by decide +kernel) ?_
      exact g_zret dX2_has_14 rfl (by decide) ⟨Nat.zero_le _, Nat.zero_le _⟩ (pvN (fun z => by first | exact absurd z.1 (Int32.not_le.mpr c1) | exact absurd z.2 (Int32.not_lt.mpr c6)))
    · refine g_iconst (v := nI 1) dX2_has_9 (by decide +kernel) ?_
      refine g_goto 14 dX2_has_10 (by decide) ?_
      exact g_zret dX2_has_14 rfl (by decide) ⟨Nat.zero_le _, Nat.zero_le _⟩ (pvB ⟨Int32.not_lt.mp c1, Int32.not_le.mp c6⟩)

set_option maxRecDepth 100000 in
set_option maxHeartbeats 4000000 in
theorem lp_make {h0 : List aC} {LR : Nat → List Int32} {LN : List Int32} {y : Nat} (hy : y < 3) : ∀ j k (h : List aC) (R0 : List Int32), k + j = 40 → LA h (upI LR y R0) LN → (∀ i, i < k → R0.getD i 0 = 0) → Smo 36 42 h0 h → G mX2_make (rmD 1 0 0) none (pq none (fun h2 => ∃ R0, LA h2 (upI LR y R0) LN ∧ (∀ i, i < 40 → R0.getD i 0 = 0) ∧ Smo 36 42 h0 h2)) 0 0 9 [(3, .int (nI k)), (0, .ref 36), (1, .int (nI y))] [] h := by
  intro j
  induction j with
  | zero =>
    intro k h R0 hk hL hI hS
    obtain ⟨-, -, rL, -, lN⟩ := id hL
    refine g_iload_n dX2_make_9 0 rfl ?_
    refine g_bipush (v := nI 40) dX2_make_10 (by decide +kernel) ?_
    refine g_icmp_geN 30 dX2_make_12 (by decide) (by omega) (by omega) (fun c12 => ?_) (fun z => absurd z (by omega))
    exact g_vret dX2_make_30 rfl ⟨Nat.zero_le _, Nat.zero_le _⟩ (⟨rfl, R0, hL, fun i hi => hI i (by omega), hS⟩)
  | succ j ih =>
    intro k h R0 hk hL hI hS
    obtain ⟨-, -, rL, -, lN⟩ := id hL
    have lR := (rL y hy).2
    rw [upI_eq] at lR
    have hr := (rL y hy).1
    rw [upI_eq] at hr
    refine g_iload_n dX2_make_9 0 rfl ?_
    refine g_bipush (v := nI 40) dX2_make_10 (by decide +kernel) ?_
    refine g_icmp_geN 30 dX2_make_12 (by decide) (by omega) (by omega) (fun z => absurd z (by omega)) (fun c12 => ?_)
    refine g_aload_n dX2_make_15 1 rfl ?_
    refine g_getf dX2_make_16 kX2 wfX2_13 (Nat.le_of_ble_eq_true rfl) (hL.1) rfl ?_
    refine g_iload_n dX2_make_19 2 rfl ?_
    refine g_aalN dX2_make_20 (hL.2.1) (by simp; omega) (by simp) (rows3 hy) ?_
    refine g_iload_n dX2_make_21 0 rfl ?_
    refine g_iconst (v := nI 0) dX2_make_22 (by decide +kernel) ?_
    refine g_iasI dX2_make_23 (hr) (by omega) (by omega) (fun h1 e1 => ?_)
    have f1_38_y : rd h1 (38 + y) = some (.inl ((R0).set k (nI 0))) := by rw [e1]; exact rd_wr_eq (hr)
    have s1 : Smo (38 + y) ((38 + y) + 1) h h1 := by rw [e1]; exact Smo.wr (by omega) (by omega)
    have f1_36 : rd h1 36 = some (.inr (2, [.ref 37, .ref 41])) := by rw [s1 _ (by omega)]; exact hL.1
    have f1_37 : rd h1 37 = some (.inr (100, (List.range 3).map (fun i => Value.ref (38 + i)))) := by rw [s1 _ (by omega)]; exact hL.2.1
    have f1_41 : rd h1 41 = some (.inl (LN)) := by rw [s1 _ (by omega)]; exact hL.2.2.2.1
    refine g_iinc (q := 0) (v := nI (k + 1)) (ls' := [(3, .int (nI (k + 1))), (0, .ref 36), (1, .int (nI y))]) dX2_make_24 rfl (inc1 _) (Nat.le_of_ble_eq_true rfl) rfl ?_
    refine g_goto 9 dX2_make_27 (by decide) ?_
    exact ih (k + 1) h1 (R0.set k (nI 0)) (by omega) ⟨f1_36, f1_37, (fun i hi => by by_cases q : i = y; (subst q; rw [upI_eq]; exact ⟨f1_38_y, by simp [lR]⟩); (have z := rL i hi; rw [upI_ne q] at z ⊢; rw [s1 _ (by omega)]; exact z)), f1_41, lN⟩ (fun i hi => by by_cases q : k = i; (subst q; exact getD_set_eqI (by omega)); (rw [getD_set_neI q]; exact hI i (by omega))) (hS.tr (fun q hq => by rw [s1 q (by omega)]))

set_option maxRecDepth 100000 in
set_option maxHeartbeats 4000000 in
theorem ev_make {h : List aC} {LR : Nat → List Int32} {LN : List Int32} (hL : LA h LR LN) (y q : Nat) (hy : y < 3) : Ev mX2_make 1 0 0 [.ref 36, .int (nI y), .int (nI q)] h (pq none (fun h2 => ∃ R0, LA h2 (upI LR y R0) (LN.set y (nI q)) ∧ (∀ i, i < 40 → R0.getD i 0 = 0) ∧ Smo 36 42 h h2)) := by
  obtain ⟨-, -, rL, -, lN⟩ := id hL
  refine Ev.of pX2_make (Nat.le_of_ble_eq_true rfl) ?_
  show G mX2_make (rmD 1 0 0) none _ 0 0 0 [(0, .ref 36), (1, .int (nI y)), (2, .int (nI q))] [] h
  refine g_aload_n dX2_make_0 0 rfl ?_
  refine g_getf dX2_make_1 kX2 wfX2_16 (Nat.le_of_ble_eq_true rfl) (hL.1) rfl ?_
  refine g_iload_n dX2_make_4 1 rfl ?_
  refine g_iload_n dX2_make_5 2 rfl ?_
  refine g_iasI dX2_make_6 (hL.2.2.2.1) (by omega) (by omega) (fun h1 e1 => ?_)
  have f1_41 : rd h1 41 = some (.inl ((LN).set y (nI q))) := by rw [e1]; exact rd_wr_eq (hL.2.2.2.1)
  have s1 : Smo 41 (41 + 1) h h1 := by rw [e1]; exact Smo.wr (by omega) (by omega)
  have f1_36 : rd h1 36 = some (.inr (2, [.ref 37, .ref 41])) := by rw [s1 _ (by omega)]; exact hL.1
  have f1_37 : rd h1 37 = some (.inr (100, (List.range 3).map (fun i => Value.ref (38 + i)))) := by rw [s1 _ (by omega)]; exact hL.2.1
  have f1_38_y : rd h1 (38 + y) = some (.inl (LR y)) := by rw [s1 _ (by omega)]; exact (hL.2.2.1 y hy).1
  refine g_iconst (v := nI 0) dX2_make_7 (by decide +kernel) ?_
  refine g_istore_n (ls' := [(3, .int (nI 0)), (0, .ref 36), (1, .int (nI y)), (2, .int (nI q))]) dX2_make_8 (Nat.le_of_ble_eq_true rfl) rfl ?_
  refine g_lsub_ (ls2 := [(3, .int (nI 0)), (0, .ref 36), (1, .int (nI y))]) [0, 1, 2] rfl ?_
  refine G.mono (lp_make hy 40 0 h1 (LR y) (by omega) ⟨f1_36, f1_37, (fun i hi => by by_cases q : i = y; (subst q; rw [upI_eq, s1 _ (by omega)]; exact rL i hi); (rw [upI_ne q, s1 _ (by omega)]; exact rL i hi)), f1_41, by simp [lN]⟩ (fun i hi => absurd hi (Nat.not_lt_zero i)) Smo.rf) ?_
  rintro w h3 ⟨rfl, R0, g1, g2, g3⟩
  exact ⟨rfl, R0, g1, g2, Smo.tr (fun q hq => by rw [s1 q (by omega)]) g3⟩

def nAt (F S : List Nat) (j : Nat) : Nat := if j % 2 = 0 then F.getD (j / 2) 0 else S.getD (j / 2) 0
def otB (m : Nat) (F S : List Nat) (L : List Int32) (i : Nat) : Bool := decide (¬ (i / 2 < m ∧ nI (nAt F S i) = L.getD i 0))

set_option maxRecDepth 100000 in
set_option maxHeartbeats 4000000 in
theorem lp_otherwise {h : List aC} {LR : Nat → List Int32} {LN : List Int32} (hL : LA h LR LN) {p n m : Nat} {F S A : List Nat} (hP : PA h p n m F S A) (hm : m ≤ 6) (y q : Nat) (hy : y < 3) (hq : q ≤ 40) (hN : LN.getD y 0 = nI q) : ∀ j k , k + j = q → G mX2_firstOtherwise (rmD 2 0 0) none (pv (.int (oI (sc1 (otB m F S (LR y)) 0 j k))) h) 0 0 2 [(3, .int (nI k)), (0, .ref 36), (1, .int (nI y)), (2, .ref p)] [] h := by
  obtain ⟨-, -, rL, -, lN⟩ := id hL
  have lR := (rL y hy).2
  intro j
  induction j with
  | zero =>
    intro k  hk 
    refine g_iload_n dX2_firstOtherwise_2 0 rfl ?_
    refine g_aload_n dX2_firstOtherwise_3 1 rfl ?_
    refine g_getf dX2_firstOtherwise_4 kX2 wfX2_16 (Nat.le_of_ble_eq_true rfl) (hL.1) rfl ?_
    refine g_iload_n dX2_firstOtherwise_7 2 rfl ?_
    refine g_ialI dX2_firstOtherwise_8 (hL.2.2.2.1) (by omega) (by omega) ?_
    refine g_top (hN) ?_
    refine g_icmp_geN 46 dX2_firstOtherwise_9 (by decide) (by omega) (by omega) (fun c9 => ?_) (fun z => absurd z (by omega))
    refine g_bipush (v := (-9)) dX2_firstOtherwise_46 (by decide +kernel) ?_
    exact g_iret dX2_firstOtherwise_48 rfl ⟨Nat.zero_le _, Nat.zero_le _⟩ (⟨rfl, rfl⟩)
  | succ j ih =>
    intro k  hk 
    refine g_iload_n dX2_firstOtherwise_2 0 rfl ?_
    refine g_aload_n dX2_firstOtherwise_3 1 rfl ?_
    refine g_getf dX2_firstOtherwise_4 kX2 wfX2_16 (Nat.le_of_ble_eq_true rfl) (hL.1) rfl ?_
    refine g_iload_n dX2_firstOtherwise_7 2 rfl ?_
    refine g_ialI dX2_firstOtherwise_8 (hL.2.2.2.1) (by omega) (by omega) ?_
    refine g_top (hN) ?_
    refine g_icmp_geN 46 dX2_firstOtherwise_9 (by decide) (by omega) (by omega) (fun z => absurd z (by omega)) (fun c9 => ?_)
    refine g_aload_n dX2_firstOtherwise_12 3 rfl ?_
    refine g_iload_n dX2_firstOtherwise_13 0 rfl ?_
    refine g_iconst (v := nI 2) dX2_firstOtherwise_14 (by decide +kernel) ?_
    refine g_idivN dX2_firstOtherwise_15 (by omega) (by omega) (by omega) ?_
    refine g_callVp dX2_firstOtherwise_16 (ev_hasN hP (by omega) (k / 2) (by omega)) oX3_has wiX3_has weX3_has wmX2_20 kX3 (hP.1) rfl ⟨(Nat.le_of_ble_eq_true rfl), (Nat.le_of_ble_eq_true rfl)⟩ ⟨Nat.zero_le _, Nat.zero_le _⟩ (Nat.le_of_ble_eq_true rfl) rfl ?_
    refine g_if_eqB 38 dX2_firstOtherwise_19 (by decide) (fun c19 => ?_) (fun c19 => ?_)
    · refine g_iload_n dX2_firstOtherwise_38 0 rfl ?_
      exact g_iret dX2_firstOtherwise_39 rfl ⟨Nat.zero_le _, Nat.zero_le _⟩ (⟨by rw [sc1_t (show otB m F S (LR y) k = true from decide_eq_true (by first | exact fun z => of_decide_eq_false c19 z.1 | exact fun z => c35 z.2))]; show _ = some (Value.int (nI (0 + k))); rw [Nat.zero_add], rfl⟩)
    · refine g_aload_n dX2_firstOtherwise_22 3 rfl ?_
      refine g_iload_n dX2_firstOtherwise_23 0 rfl ?_
      have c19 := of_decide_eq_true c19
      refine g_callVp dX2_firstOtherwise_24 (show Ev _ _ _ _ _ _ (pv (.int (nI (nAt F S k))) h) from ev_numberAt hP k (by omega)) oX3_numberAt wiX3_numberAt weX3_numberAt wmX2_26 kX3 (hP.1) rfl ⟨(Nat.le_of_ble_eq_true rfl), (Nat.le_of_ble_eq_true rfl)⟩ ⟨Nat.zero_le _, Nat.zero_le _⟩ (Nat.le_of_ble_eq_true rfl) rfl ?_
      refine g_aload_n dX2_firstOtherwise_27 1 rfl ?_
      refine g_getf dX2_firstOtherwise_28 kX2 wfX2_13 (Nat.le_of_ble_eq_true rfl) (hL.1) rfl ?_
      refine g_iload_n dX2_firstOtherwise_31 2 rfl ?_
      refine g_aalN dX2_firstOtherwise_32 (hL.2.1) (by simp; omega) (by simp) (rows3 hy) ?_
      refine g_iload_n dX2_firstOtherwise_33 0 rfl ?_
      refine g_ialI dX2_firstOtherwise_34 ((hL.2.2.1 y hy).1) (by omega) (by omega) ?_
      refine g_icmp_eq 40 dX2_firstOtherwise_35 (by decide) (fun c35 => ?_) (fun c35 => ?_)
      · refine g_iinc (q := 0) (v := nI (k + 1)) (ls' := [(3, .int (nI (k + 1))), (0, .ref 36), (1, .int (nI y)), (2, .ref p)]) dX2_firstOtherwise_40 rfl (inc1 _) (Nat.le_of_ble_eq_true rfl) rfl ?_
        refine g_goto 2 dX2_firstOtherwise_43 (by decide) ?_
        have x := sc1_f (q := otB m F S (LR y)) (u := 0) (j := j) (k := k) (by show ¬ decide _ = true; rw [decide_eq_true_eq]; exact not_not_intro ⟨c19, c35⟩)
        rw [x]
        exact ih (k + 1) (by omega)
      · refine g_iload_n dX2_firstOtherwise_38 0 rfl ?_
        exact g_iret dX2_firstOtherwise_39 rfl ⟨Nat.zero_le _, Nat.zero_le _⟩ (⟨by rw [sc1_t (show otB m F S (LR y) k = true from decide_eq_true (by first | exact fun z => of_decide_eq_false c19 z.1 | exact fun z => c35 z.2))]; show _ = some (Value.int (nI (0 + k))); rw [Nat.zero_add], rfl⟩)

set_option maxRecDepth 100000 in
set_option maxHeartbeats 4000000 in
theorem ev_otherwise {h : List aC} {LR : Nat → List Int32} {LN : List Int32} (hL : LA h LR LN) {p n m : Nat} {F S A : List Nat} (hP : PA h p n m F S A) (hm : m ≤ 6) (y q : Nat) (hy : y < 3) (hq : q ≤ 40) (hN : LN.getD y 0 = nI q) : Ev mX2_firstOtherwise 2 0 0 [.ref 36, .int (nI y), .ref p] h (pv (.int (oI (sc1 (otB m F S (LR y)) 0 q 0))) h) := by
  refine Ev.of pX2_firstOtherwise (Nat.le_of_ble_eq_true rfl) ?_
  show G mX2_firstOtherwise (rmD 2 0 0) none _ 0 0 0 [(0, .ref 36), (1, .int (nI y)), (2, .ref p)] [] h
  refine g_iconst (v := nI 0) dX2_firstOtherwise_0 (by decide +kernel) ?_
  refine g_istore_n (ls' := [(3, .int (nI 0)), (0, .ref 36), (1, .int (nI y)), (2, .ref p)]) dX2_firstOtherwise_1 (Nat.le_of_ble_eq_true rfl) rfl ?_
  exact lp_otherwise hL hP hm y q hy hq hN q 0 (by omega)

theorem ge1 {x : Int32} (h : ¬ x < nI 1) : ∃ j : Nat, 1 ≤ j ∧ j < 2 ^ 31 ∧ x = nI j := by
  have h0 : ¬ x < 0 := fun z => h (Int32.lt_trans z (by decide))
  obtain ⟨j, hj, rfl⟩ := nI_of h0
  refine ⟨j, ?_, hj, rfl⟩
  rcases Nat.eq_zero_or_pos j with q | q
  · subst q; exact absurd (by decide) h
  · exact q
def szX (L : List Int32) (k : Nat) : Nat := (L.getD (2 * k) 0).toNatClampNeg
def szY (L : List Int32) (k : Nat) : Nat := (L.getD (2 * k + 1) 0).toNatClampNeg
def okS (n : Nat) (L : List Int32) (k : Nat) : Prop := ¬ L.getD (2 * k) 0 < nI 1 ∧ ¬ nI n ≤ L.getD (2 * k) 0 ∧ ¬ L.getD (2 * k + 1) 0 < nI 1 ∧ ¬ nI n ≤ L.getD (2 * k + 1) 0 ∧ L.getD (2 * k) 0 ≠ L.getD (2 * k + 1) 0
def lX (L : List Int32) : List Nat := (List.range 6).map (szX L)
def lY (L : List Int32) : List Nat := (List.range 6).map (szY L)
theorem lX_at (L : List Int32) {k : Nat} (h : k < 6) : (lX L).getD k 0 = szX L k := by
  unfold lX
  rw [List.getD_eq_getElem?_getD, List.getElem?_map, List.getElem?_range h]
  rfl
theorem lY_at (L : List Int32) {k : Nat} (h : k < 6) : (lY L).getD k 0 = szY L k := by
  unfold lY
  rw [List.getD_eq_getElem?_getD, List.getElem?_map, List.getElem?_range h]
  rfl
theorem nBits_ext {F S F2 S2 : List Nat} : ∀ k, (∀ i, i < k → F.getD i 0 = F2.getD i 0 ∧ S.getD i 0 = S2.getD i 0) → nBits F S k = nBits F2 S2 k
  | 0, _ => rfl
  | k + 1, h => by
    show nBits F S k ||| _ = nBits F2 S2 k ||| _
    rw [nBits_ext k (fun i hi => h i (by omega)), (h k (by omega)).1, (h k (by omega)).2]
theorem dBits_ext {n : Nat} {F S F2 S2 : List Nat} : ∀ k, (∀ i, i < k → F.getD i 0 = F2.getD i 0 ∧ S.getD i 0 = S2.getD i 0) → dBits n F S k = dBits n F2 S2 k
  | 0, _ => rfl
  | k + 1, h => by
    show (dBits n F S k ||| _) ||| _ = (dBits n F2 S2 k ||| _) ||| _
    rw [dBits_ext k (fun i hi => h i (by omega)), (h k (by omega)).1, (h k (by omega)).2]
theorem sBits_ext {n : Nat} {F S F2 S2 : List Nat} : ∀ k, (∀ i, i < k → F.getD i 0 = F2.getD i 0 ∧ S.getD i 0 = S2.getD i 0) → sBits n F S k = sBits n F2 S2 k
  | 0, _ => rfl
  | k + 1, h => by
    show sBits n F S k ||| _ = sBits n F2 S2 k ||| _
    rw [sBits_ext k (fun i hi => h i (by omega)), (h k (by omega)).1, (h k (by omega)).2]
theorem isSt_ext {n m : Nat} {F S F2 S2 : List Nat} (h : ∀ i, i < m → F.getD i 0 = F2.getD i 0 ∧ S.getD i 0 = S2.getD i 0) : isSt n m F S = isSt n m F2 S2 := by
  unfold isSt
  rw [nBits_ext m h, dBits_ext m h]
/-- whether q pairs of a row of numbers are a starter of n -/
def szB (n q : Nat) (L : List Int32) : Prop := (∀ k, k < q → okS n L k) ∧ isSt n q (lX L) (lY L) = true
def szA (n q : Nat) (L : List Int32) (r : Int32) : Prop := (szB n q L ∧ r = nI (2 ^ ((n - 3) / 2))) ∨ (¬ szB n q L ∧ r = nI 0)
theorem szX_eq {L : List Int32} {k j : Nat} (h : L.getD (2 * k) 0 = nI j) (hj : j < 2 ^ 31) : szX L k = j := by unfold szX; rw [h, nI_clamp hj]
theorem szY_eq {L : List Int32} {k j : Nat} (h : L.getD (2 * k + 1) 0 = nI j) (hj : j < 2 ^ 31) : szY L k = j := by unfold szY; rw [h, nI_clamp hj]

set_option maxRecDepth 100000 in
set_option maxHeartbeats 4000000 in
theorem lp_sizes {h0 : List aC} {LR : Nat → List Int32} {LN : List Int32} {p n q y : Nat} (hd : 42 ≤ p ∨ p + 4 ≤ 36) (hy : y < 3) (hq : 1 ≤ q ∧ q ≤ 6) (hn : n = 2 * q + 1) : ∀ j k (h : List aC) (F S A : List Nat), k + j = q → LA h LR LN → PA h p n k F S A → (∀ i, i < k → okS n (LR y) i ∧ F.getD i 0 = szX (LR y) i ∧ S.getD i 0 = szY (LR y) i ∧ A.getD i 0 = 0) → Smo p (p + 4) h0 h → G mX2_sizesOfStarter (rmD 5 0 0) none (fun w h2 => ∃ r, w = some (.int r) ∧ szA n q (LR y) r ∧ (∃ n1 m1 F1 S1 A1, PA h2 p n1 m1 F1 S1 A1) ∧ Smo p (p + 4) h0 h2) 0 0 30 [(4, .int (nI (2 * k))), (3, .int (nI n)), (0, .ref 36), (1, .int (nI y)), (2, .ref p)] [] h := by
  intro j
  induction j with
  | zero =>
    intro k h F S A hk hL hP hI hS
    obtain ⟨-, -, rL, -, lN⟩ := id hL
    obtain rfl : q = k := by omega
    have hb : bnd n q F S A := fun i hi => by
          obtain ⟨z1, z2, z3, z4⟩ := hI i hi
          obtain ⟨x1, -, x3, x4⟩ := ge1 z1.1
          obtain ⟨y1, -, y3, y4⟩ := ge1 z1.2.2.1
          have w1 := z1.2.1
          have w2 := z1.2.2.2.1
          rw [x4] at w1
          rw [y4] at w2
          rw [z2, z3, z4, szX_eq x4 x3, szY_eq y4 y3]
          refine ⟨Nat.not_le.mp fun z => w1 ((nI_leI (by omega) (by omega)).mpr z), Nat.not_le.mp fun z => w2 ((nI_leI (by omega) (by omega)).mpr z), by omega⟩
    have e9 : isSt n q F S = isSt n q (lX (LR y)) (lY (LR y)) := isSt_ext fun i hi => ⟨(hI i hi).2.1.trans (lX_at _ (by omega)).symm, (hI i hi).2.2.1.trans (lY_at _ (by omega)).symm⟩
    refine g_iload dX2_sizesOfStarter_30 0 rfl ?_
    refine g_iconst (v := nI 1) dX2_sizesOfStarter_32 (by decide +kernel) ?_
    refine g_iaddN dX2_sizesOfStarter_33 ?_
    refine g_iload_n dX2_sizesOfStarter_34 1 rfl ?_
    refine g_icmp_geN 109 dX2_sizesOfStarter_35 (by decide) (by omega) (by omega) (fun c35 => ?_) (fun z => absurd z (by omega))
    refine g_aload_n dX2_sizesOfStarter_109 4 rfl ?_
    refine g_callVp dX2_sizesOfStarter_110 (ev_areStarter hP (by omega) (by omega) hb (by omega)) oX3_areStarter wiX3_areStarter weX3_areStarter wmX2_38 kX3 (hP.1) rfl ⟨(Nat.le_of_ble_eq_true rfl), (Nat.le_of_ble_eq_true rfl)⟩ ⟨Nat.zero_le _, Nat.zero_le _⟩ (Nat.le_of_ble_eq_true rfl) rfl ?_
    refine g_if_eqB 126 dX2_sizesOfStarter_113 (by decide) (fun c113 => ?_) (fun c113 => ?_)
    · refine g_iconst (v := nI 0) dX2_sizesOfStarter_126 (by decide +kernel) ?_
      exact g_iret dX2_sizesOfStarter_127 rfl ⟨Nat.zero_le _, Nat.zero_le _⟩ (⟨_, rfl, Or.inr ⟨fun z => (by rw [e9, z.2] at c113; exact absurd c113 (by decide)), rfl⟩, ⟨_, _, _, _, _, hP⟩, hS⟩)
    · refine g_iconst (v := nI 1) dX2_sizesOfStarter_116 (by decide +kernel) ?_
      refine g_iload_n dX2_sizesOfStarter_117 1 rfl ?_
      refine g_iconst (v := nI 3) dX2_sizesOfStarter_118 (by decide +kernel) ?_
      refine g_isubN dX2_sizesOfStarter_119 (by omega) ?_
      refine g_iconst (v := nI 2) dX2_sizesOfStarter_120 (by decide +kernel) ?_
      refine g_idivN dX2_sizesOfStarter_121 (by omega) (by omega) (by omega) ?_
      refine g_ishl1 dX2_sizesOfStarter_122 (by first | omega | exact Nat.lt_of_lt_of_le (Nat.mod_lt _ (by omega)) (by omega)) ?_
      refine g_goto 127 dX2_sizesOfStarter_123 (by decide) ?_
      exact g_iret dX2_sizesOfStarter_127 rfl ⟨Nat.zero_le _, Nat.zero_le _⟩ (⟨_, rfl, Or.inl ⟨⟨fun i hi => (hI i hi).1, e9.symm.trans c113⟩, rfl⟩, ⟨_, _, _, _, _, hP⟩, hS⟩)
  | succ j ih =>
    intro k h F S A hk hL hP hI hS
    obtain ⟨-, -, rL, -, lN⟩ := id hL
    have lR := (rL y hy).2
    obtain ⟨-, -, -, -, lF, lS, lA⟩ := id hP
    refine g_iload dX2_sizesOfStarter_30 0 rfl ?_
    refine g_iconst (v := nI 1) dX2_sizesOfStarter_32 (by decide +kernel) ?_
    refine g_iaddN dX2_sizesOfStarter_33 ?_
    refine g_iload_n dX2_sizesOfStarter_34 1 rfl ?_
    refine g_icmp_geN 109 dX2_sizesOfStarter_35 (by decide) (by omega) (by omega) (fun z => absurd z (by omega)) (fun c35 => ?_)
    refine g_aload_n dX2_sizesOfStarter_38 2 rfl ?_
    refine g_getf dX2_sizesOfStarter_39 kX2 wfX2_13 (Nat.le_of_ble_eq_true rfl) (hL.1) rfl ?_
    refine g_iload_n dX2_sizesOfStarter_42 3 rfl ?_
    refine g_aalN dX2_sizesOfStarter_43 (hL.2.1) (by simp; omega) (by simp) (rows3 hy) ?_
    refine g_iload dX2_sizesOfStarter_44 0 rfl ?_
    refine g_ialI dX2_sizesOfStarter_46 ((hL.2.2.1 y hy).1) (by omega) (by omega) ?_
    refine g_istore (ls' := [(5, .int ((LR y).getD (2 * k) 0)), (4, .int (nI (2 * k))), (3, .int (nI n)), (0, .ref 36), (1, .int (nI y)), (2, .ref p)]) dX2_sizesOfStarter_47 (Nat.le_of_ble_eq_true rfl) rfl ?_
    refine g_aload_n dX2_sizesOfStarter_49 3 rfl ?_
    refine g_getf dX2_sizesOfStarter_50 kX2 wfX2_13 (Nat.le_of_ble_eq_true rfl) (hL.1) rfl ?_
    refine g_iload_n dX2_sizesOfStarter_53 4 rfl ?_
    refine g_aalN dX2_sizesOfStarter_54 (hL.2.1) (by simp; omega) (by simp) (rows3 hy) ?_
    refine g_iload dX2_sizesOfStarter_55 1 rfl ?_
    refine g_iconst (v := nI 1) dX2_sizesOfStarter_57 (by decide +kernel) ?_
    refine g_iaddN dX2_sizesOfStarter_58 ?_
    refine g_ialI dX2_sizesOfStarter_59 ((hL.2.2.1 y hy).1) (by omega) (by omega) ?_
    refine g_istore (ls' := [(6, .int ((LR y).getD ((2 * k) + 1) 0)), (5, .int ((LR y).getD (2 * k) 0)), (4, .int (nI (2 * k))), (3, .int (nI n)), (0, .ref 36), (1, .int (nI y)), (2, .ref p)]) dX2_sizesOfStarter_60 (Nat.le_of_ble_eq_true rfl) rfl ?_
    refine g_iload dX2_sizesOfStarter_62 1 rfl ?_
    refine g_iconst (v := nI 1) dX2_sizesOfStarter_64 (by decide +kernel) ?_
    refine g_icmp_lt 93 dX2_sizesOfStarter_65 (by decide) (fun c65 => ?_) (fun c65 => ?_)
    · refine g_iconst (v := nI 0) dX2_sizesOfStarter_93 (by decide +kernel) ?_
      exact g_iret dX2_sizesOfStarter_94 rfl ⟨Nat.zero_le _, Nat.zero_le _⟩ (⟨_, rfl, Or.inr ⟨fun z => by have c := z.1 k (by omega); unfold okS at c; first | exact c.1 c65 | exact c.2.1 c71 | exact c.2.2.1 c77 | exact c.2.2.2.1 c83 | exact c.2.2.2.2 c90, rfl⟩, ⟨_, _, _, _, _, hP⟩, hS⟩)
    · refine g_iload dX2_sizesOfStarter_68 1 rfl ?_
      refine g_iload_n dX2_sizesOfStarter_70 3 rfl ?_
      refine g_icmp_ge 93 dX2_sizesOfStarter_71 (by decide) (fun c71 => ?_) (fun c71 => ?_)
      · refine g_iconst (v := nI 0) dX2_sizesOfStarter_93 (by decide +kernel) ?_
        exact g_iret dX2_sizesOfStarter_94 rfl ⟨Nat.zero_le _, Nat.zero_le _⟩ (⟨_, rfl, Or.inr ⟨fun z => by have c := z.1 k (by omega); unfold okS at c; first | exact c.1 c65 | exact c.2.1 c71 | exact c.2.2.1 c77 | exact c.2.2.2.1 c83 | exact c.2.2.2.2 c90, rfl⟩, ⟨_, _, _, _, _, hP⟩, hS⟩)
      · refine g_iload dX2_sizesOfStarter_74 0 rfl ?_
        refine g_iconst (v := nI 1) dX2_sizesOfStarter_76 (by decide +kernel) ?_
        refine g_icmp_lt 93 dX2_sizesOfStarter_77 (by decide) (fun c77 => ?_) (fun c77 => ?_)
        · refine g_iconst (v := nI 0) dX2_sizesOfStarter_93 (by decide +kernel) ?_
          exact g_iret dX2_sizesOfStarter_94 rfl ⟨Nat.zero_le _, Nat.zero_le _⟩ (⟨_, rfl, Or.inr ⟨fun z => by have c := z.1 k (by omega); unfold okS at c; first | exact c.1 c65 | exact c.2.1 c71 | exact c.2.2.1 c77 | exact c.2.2.2.1 c83 | exact c.2.2.2.2 c90, rfl⟩, ⟨_, _, _, _, _, hP⟩, hS⟩)
        · refine g_iload dX2_sizesOfStarter_80 0 rfl ?_
          refine g_iload_n dX2_sizesOfStarter_82 3 rfl ?_
          refine g_icmp_ge 93 dX2_sizesOfStarter_83 (by decide) (fun c83 => ?_) (fun c83 => ?_)
          · refine g_iconst (v := nI 0) dX2_sizesOfStarter_93 (by decide +kernel) ?_
            exact g_iret dX2_sizesOfStarter_94 rfl ⟨Nat.zero_le _, Nat.zero_le _⟩ (⟨_, rfl, Or.inr ⟨fun z => by have c := z.1 k (by omega); unfold okS at c; first | exact c.1 c65 | exact c.2.1 c71 | exact c.2.2.1 c77 | exact c.2.2.2.1 c83 | exact c.2.2.2.2 c90, rfl⟩, ⟨_, _, _, _, _, hP⟩, hS⟩)
          · refine g_iload dX2_sizesOfStarter_86 1 rfl ?_
            refine g_iload dX2_sizesOfStarter_88 0 rfl ?_
            refine g_icmp_ne 95 dX2_sizesOfStarter_90 (by decide) (fun c90 => ?_) (fun c90 => ?_)
            · refine g_aload_n dX2_sizesOfStarter_95 6 rfl ?_
              obtain ⟨xx, x1, x2, x3⟩ := ge1 c65
              obtain ⟨yy, y1, y2, y3⟩ := ge1 c77
              refine g_iload dX2_sizesOfStarter_96 1 rfl ?_
              refine g_top (x3) ?_
              refine g_iload dX2_sizesOfStarter_98 0 rfl ?_
              refine g_top (y3) ?_
              refine g_callVq (st1 := []) dX2_sizesOfStarter_100 (ev_append hP (by omega) (xx) (yy)) oX3_append wiX3_append weX3_append wmX2_34 kX3 (hP.1) rfl ⟨(Nat.le_of_ble_eq_true rfl), (Nat.le_of_ble_eq_true rfl)⟩ ⟨Nat.zero_le _, Nat.zero_le _⟩ (Nat.le_of_ble_eq_true rfl) rfl rfl (fun h1 q1 => ?_)
              obtain ⟨q1a, q1s⟩ := q1
              have b1_36 := hL.mv q1s (by omega)
              refine g_iinc (q := 2) (v := nI (2 * k + 2)) (ls' := [(4, .int (nI (2 * k + 2))), (6, .int ((LR y).getD ((2 * k) + 1) 0)), (5, .int ((LR y).getD (2 * k) 0)), (3, .int (nI n)), (0, .ref 36), (1, .int (nI y)), (2, .ref p)]) dX2_sizesOfStarter_103 rfl (incN _ 2) (Nat.le_of_ble_eq_true rfl) rfl ?_
              refine g_goto 30 dX2_sizesOfStarter_106 (by decide) ?_
              refine g_lsub_ (ls2 := [(4, .int (nI (2 * k + 2))), (3, .int (nI n)), (0, .ref 36), (1, .int (nI y)), (2, .ref p)]) [0, 3, 4, 5, 6] rfl ?_
              exact ih (k + 1) h1 _ _ _ (by omega) b1_36 q1a (fun i hi => by by_cases q9 : k = i; (subst q9; rw [getD_set_eq (by omega), getD_set_eq (by omega), getD_set_eq (by omega)]; exact ⟨⟨c65, c71, c77, c83, c90⟩, (szX_eq x3 x2).symm, (szY_eq y3 y2).symm, rfl⟩); (rw [getD_set_ne q9, getD_set_ne q9, getD_set_ne q9]; exact hI i (by omega))) (hS.tr q1s)
            · refine g_iconst (v := nI 0) dX2_sizesOfStarter_93 (by decide +kernel) ?_
              exact g_iret dX2_sizesOfStarter_94 rfl ⟨Nat.zero_le _, Nat.zero_le _⟩ (⟨_, rfl, Or.inr ⟨fun z => by have c := z.1 k (by omega); unfold okS at c; first | exact c.1 c65 | exact c.2.1 c71 | exact c.2.2.1 c77 | exact c.2.2.2.1 c83 | exact c.2.2.2.2 c90, rfl⟩, ⟨_, _, _, _, _, hP⟩, hS⟩)

set_option maxRecDepth 100000 in
set_option maxHeartbeats 4000000 in
theorem ev_sizes {h : List aC} {LR : Nat → List Int32} {LN : List Int32} (hL : LA h LR LN) {p n0 m0 : Nat} {F S A : List Nat} (hP : PA h p n0 m0 F S A) (hd : 42 ≤ p ∨ p + 4 ≤ 36) (y q : Nat) (hy : y < 3) (hN : LN.getD y 0 = nI (2 * q)) (hq : 1 ≤ q ∧ q ≤ 6) : Ev mX2_sizesOfStarter 5 0 0 [.ref 36, .int (nI y), .ref p] h (fun w h2 => ∃ r, w = some (.int r) ∧ szA (2 * q + 1) q (LR y) r ∧ (∃ n1 m1 F1 S1 A1, PA h2 p n1 m1 F1 S1 A1) ∧ Smo p (p + 4) h h2) := by
  obtain ⟨-, -, rL, -, lN⟩ := id hL
  refine Ev.of pX2_sizesOfStarter (Nat.le_of_ble_eq_true rfl) ?_
  show G mX2_sizesOfStarter (rmD 5 0 0) none _ 0 0 0 [(0, .ref 36), (1, .int (nI y)), (2, .ref p)] [] h
  refine g_aload_n dX2_sizesOfStarter_0 0 rfl ?_
  refine g_getf dX2_sizesOfStarter_1 kX2 wfX2_16 (Nat.le_of_ble_eq_true rfl) (hL.1) rfl ?_
  refine g_iload_n dX2_sizesOfStarter_4 1 rfl ?_
  refine g_ialI dX2_sizesOfStarter_5 (hL.2.2.2.1) (by omega) (by omega) ?_
  refine g_top (hN) ?_
  refine g_iconst (v := nI 1) dX2_sizesOfStarter_6 (by decide +kernel) ?_
  refine g_iaddN dX2_sizesOfStarter_7 ?_
  refine g_istore_n (ls' := [(3, .int (nI ((2 * q) + 1))), (0, .ref 36), (1, .int (nI y)), (2, .ref p)]) dX2_sizesOfStarter_8 (Nat.le_of_ble_eq_true rfl) rfl ?_
  refine g_iload_n dX2_sizesOfStarter_9 0 rfl ?_
  refine g_iconst (v := nI 3) dX2_sizesOfStarter_10 (by decide +kernel) ?_
  refine g_icmp_ltN 20 dX2_sizesOfStarter_11 (by decide) (by omega) (by omega) (fun z => absurd z (by omega)) (fun c11 => ?_)
  refine g_iload_n dX2_sizesOfStarter_14 0 rfl ?_
  refine g_bipush (v := nI 13) dX2_sizesOfStarter_15 (by decide +kernel) ?_
  refine g_icmp_leN 22 dX2_sizesOfStarter_17 (by decide) (by omega) (by omega) (fun c17 => ?_) (fun z => absurd z (by omega))
  refine g_aload_n dX2_sizesOfStarter_22 3 rfl ?_
  refine g_iload_n dX2_sizesOfStarter_23 0 rfl ?_
  refine g_callVq (st1 := []) dX2_sizesOfStarter_24 (ev_becomeEmpty hP ((2 * q) + 1)) oX3_becomeEmpty wiX3_becomeEmpty weX3_becomeEmpty wmX2_30 kX3 (hP.1) rfl ⟨(Nat.le_of_ble_eq_true rfl), (Nat.le_of_ble_eq_true rfl)⟩ ⟨Nat.zero_le _, Nat.zero_le _⟩ (Nat.le_of_ble_eq_true rfl) rfl rfl (fun h1 q1 => ?_)
  obtain ⟨q1a, q1s⟩ := q1
  have b1_36 := hL.mv q1s (by omega)
  refine g_iconst (v := nI 0) dX2_sizesOfStarter_27 (by decide +kernel) ?_
  refine g_istore (ls' := [(4, .int (nI 0)), (3, .int (nI ((2 * q) + 1))), (0, .ref 36), (1, .int (nI y)), (2, .ref p)]) dX2_sizesOfStarter_28 (Nat.le_of_ble_eq_true rfl) rfl ?_
  refine G.mono (lp_sizes hd hy hq rfl q 0 h1 F S A (by omega) b1_36 q1a (fun i hi => absurd hi (Nat.not_lt_zero i)) Smo.rf) ?_
  rintro w h3 ⟨r, g1, g2, g3, g4⟩
  exact ⟨r, g1, g2, g3, Smo.tr q1s g4⟩

set_option maxRecDepth 100000 in
set_option maxHeartbeats 4000000 in
theorem ev_sizes0 {h : List aC} {LR : Nat → List Int32} {LN : List Int32} (hL : LA h LR LN) {p n0 m0 : Nat} {F S A : List Nat} (hP : PA h p n0 m0 F S A) (hd : 42 ≤ p ∨ p + 4 ≤ 36) (y q : Nat) (hy : y < 3) (hN : LN.getD y 0 = nI (2 * q)) (hq : q = 0 ∨ (7 ≤ q ∧ q ≤ 20)) : Ev mX2_sizesOfStarter 5 0 0 [.ref 36, .int (nI y), .ref p] h (pq (some (.int (nI 0))) (fun h2 => h2 = h)) := by
  obtain ⟨-, -, rL, -, lN⟩ := id hL
  refine Ev.of pX2_sizesOfStarter (Nat.le_of_ble_eq_true rfl) ?_
  show G mX2_sizesOfStarter (rmD 5 0 0) none _ 0 0 0 [(0, .ref 36), (1, .int (nI y)), (2, .ref p)] [] h
  refine g_aload_n dX2_sizesOfStarter_0 0 rfl ?_
  refine g_getf dX2_sizesOfStarter_1 kX2 wfX2_16 (Nat.le_of_ble_eq_true rfl) (hL.1) rfl ?_
  refine g_iload_n dX2_sizesOfStarter_4 1 rfl ?_
  refine g_ialI dX2_sizesOfStarter_5 (hL.2.2.2.1) (by omega) (by omega) ?_
  refine g_top (hN) ?_
  refine g_iconst (v := nI 1) dX2_sizesOfStarter_6 (by decide +kernel) ?_
  refine g_iaddN dX2_sizesOfStarter_7 ?_
  refine g_istore_n (ls' := [(3, .int (nI ((2 * q) + 1))), (0, .ref 36), (1, .int (nI y)), (2, .ref p)]) dX2_sizesOfStarter_8 (Nat.le_of_ble_eq_true rfl) rfl ?_
  refine g_iload_n dX2_sizesOfStarter_9 0 rfl ?_
  refine g_iconst (v := nI 3) dX2_sizesOfStarter_10 (by decide +kernel) ?_
  refine g_icmp_ltN 20 dX2_sizesOfStarter_11 (by decide) (by omega) (by omega) (fun c11 => ?_) (fun c11 => ?_)
  · refine g_iconst (v := nI 0) dX2_sizesOfStarter_20 (by decide +kernel) ?_
    exact g_iret dX2_sizesOfStarter_21 rfl ⟨Nat.zero_le _, Nat.zero_le _⟩ (⟨rfl, rfl⟩)
  · refine g_iload_n dX2_sizesOfStarter_14 0 rfl ?_
    refine g_bipush (v := nI 13) dX2_sizesOfStarter_15 (by decide +kernel) ?_
    refine g_icmp_leN 22 dX2_sizesOfStarter_17 (by decide) (by omega) (by omega) (fun z => absurd z (by omega)) (fun c17 => ?_)
    refine g_iconst (v := nI 0) dX2_sizesOfStarter_20 (by decide +kernel) ?_
    exact g_iret dX2_sizesOfStarter_21 rfl ⟨Nat.zero_le _, Nat.zero_le _⟩ (⟨rfl, rfl⟩)
