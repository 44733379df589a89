def cC (R : List Int32) (n : Nat) (c : Nat → Nat) : Prop := ∀ p, p ≤ n → R.getD p 0 = nI (c p)
theorem oth_eq {R : List Int32} {n : Nat} {g : Nat → Nat} (hn : n ≤ 13) (h : cC R n (fun p => cL g p n)) : sumN (fun p => bI (decide (R.getD p 0 ≠ 1))) (n + 1) = lnM n g := sumN_ext _ fun p hp => by
  have b := cL_le g p n
  rw [h p (by omega)]
  congr 1
  show decide (¬ nI (cL g p n) = nI 1) = decide (¬ cL g p n = 1)
  congr 1
  rw [nI_eq (by omega) (by omega)]

theorem g_st2 {Y : YM} {R : Room} {X : Option (Nat × (Nat → Int32))} {P : Option Value → List aC → Prop} {k n pc : Nat} {ls : List (Nat × Value)} {st : List Value} {h : List aC} {x y : Int32} {v : Value} (e : x = y) (K : G Y R X P k n pc ls (v :: .int y :: st) h) : G Y R X P k n pc ls (v :: .int x :: st) h := e ▸ K
def gW (w u : Nat) (rm : Nat → Nat → Nat) (j : Nat) : Nat := if w = 0 then rm u j else rm j u
def iW (w u j : Nat) : Nat := if w = 0 then 2 * (13 * u + j) else 2 * (13 * j + u)
theorem iW_lt {w u j : Nat} (hu : u < 13) (hj : j < 13) : iW w u j + 1 < 338 := by unfold iW; split <;> omega
theorem gW_x {R : List Int32} {rm : Nat → Nat → Nat} (h : rR R 0 rm) {w u j : Nat} (hu : u < 13) (hj : j < 13) : R.getD (iW w u j) 0 = xV (gW w u rm j) := by
  unfold iW gW
  split
  · exact rRx h hu hj
  · exact rRx h hj hu
theorem gW_y {R : List Int32} {rm : Nat → Nat → Nat} (h : rR R 0 rm) {w u j : Nat} (hu : u < 13) (hj : j < 13) : R.getD (iW w u j + 1) 0 = yV (gW w u rm j) := by
  unfold iW gW
  split
  · exact rRy h hu hj
  · exact rRy h hj hu
theorem gW_ok {n : Nat} {rm : Nat → Nat → Nat} (k8 : ∀ a b, a < n → b < n → okC n (rm a b)) {w u j : Nat} (hu : u < n) (hj : j < n) : okC n (gW w u rm j) := by
  unfold gW
  split
  · exact k8 _ _ hu hj
  · exact k8 _ _ hj hu
theorem cC_0 {R : List Int32} {n : Nat} {g : Nat → Nat} (l : R.length = 196) (hn : n ≤ 13) : cC (zeroL R 0 (n + 1)) n (fun p => cL g p 0) := fun p hp => zeroL_at (n + 1) (by omega) (by omega) (by omega)
theorem cC_z {R : List Int32} {n j : Nat} {g : Nat → Nat} (h : cC R n (fun p => cL g p j)) (q : g j = 0) : cC R n (fun p => cL g p (j + 1)) := fun p hp => by
  rw [h p hp]
  show nI (cL g p j) = nI (cL g p j + if g j = 0 then 0 else _)
  rw [if_pos q, Nat.add_zero]
theorem cC_s {R : List Int32} {n j : Nat} {g : Nat → Nat} (h : cC R n (fun p => cL g p j)) (l : R.length = 196) (hn : n ≤ 13) (q : g j ≠ 0) (ok : okC n (g j)) : cC ((R.set (g j / 14) (nI (cL g (g j / 14) j + 1))).set (g j % 14) (nI (cL g (g j % 14) j + 1))) n (fun p => cL g p (j + 1)) := fun p hp => by
  have hd : g j / 14 < g j % 14 ∧ g j % 14 ≤ n := by rcases ok with z | z; exact absurd z q; exact z
  show _ = nI (cL g p j + if g j = 0 then 0 else _)
  rw [if_neg q]
  by_cases e2 : g j % 14 = p
  · rw [← e2, getD_set_eqI (by rw [List.length_set]; omega), decide_eq_true rfl, decide_eq_false (show ¬ g j / 14 = g j % 14 by omega)]
    exact congrArg nI (show _ + 1 = _ + (0 + 1) by omega)
  · rw [getD_set_neI e2, decide_eq_false e2]
    by_cases e1 : g j / 14 = p
    · rw [← e1, getD_set_eqI (by omega), decide_eq_true rfl]; exact congrArg nI (show _ + 1 = _ + (1 + 0) by omega)
    · rw [getD_set_neI e1, decide_eq_false e1, h p hp]; rfl

set_option maxRecDepth 100000 in
set_option maxHeartbeats 4000000 in
theorem lp_moth {h : List aC} {n m a de : Nat} {fo as_ sm sk z : Int32} {am : Nat} {ib : Bool} {iN iM iT : Int32} (hO : MO h n m a de fo as_ sm sk z am ib iN iM iT) {R : List Int32} (hR : rd h 108 = some (.inl R)) (lR : R.length = 196) {q : Nat} (hq : q ≤ 196) : ∀ j k , k + j = q → G mX9_otherThanOne (rmD 1 0 0) none (pv (.int (nI (sumN (fun p => bI (decide (R.getD p 0 ≠ 1))) q))) h) 0 0 4 [(3, .int (nI k)), (2, .int (nI (sumN (fun p => bI (decide (R.getD p 0 ≠ 1))) k))), (0, .ref 98), (1, .int (nI q))] [] h := by
  intro j
  induction j with
  | zero =>
    intro k  hk 
    have hO : rd h 98 = some (.inr (9, [.int (nI n), .int (nI m), .ref 99, .ref 100, .ref 101, .int (nI a), .ref 102, .int (nI de), .ref 103, .ref 104, .ref 105, .int fo, .int as_, .int sm, .int sk, .ref 106, .ref 107, .ref 108, .int z, .ref 109, .ref 110, .ref 111, .int (nI am), .ref 112, .ref 113, .ref 114, .ref 115, .ref 116, .int (nI (bI ib)), .int iN, .int iM, .int iT, .ref 117, .ref 118, .ref 119])) := hO
    refine g_iload_n dX9_otherThanOne_4 0 rfl ?_
    refine g_iload_n dX9_otherThanOne_5 3 rfl ?_
    refine g_icmp_geN 33 dX9_otherThanOne_6 (by decide) (by omega) (by omega) (fun c6 => ?_) (fun z => absurd z (by omega))
    refine g_iload_n dX9_otherThanOne_33 1 rfl ?_
    exact g_iret dX9_otherThanOne_34 rfl ⟨Nat.zero_le _, Nat.zero_le _⟩ (⟨by rw [show k = q by omega], rfl⟩)
  | succ j ih =>
    intro k  hk 
    have hO : rd h 98 = some (.inr (9, [.int (nI n), .int (nI m), .ref 99, .ref 100, .ref 101, .int (nI a), .ref 102, .int (nI de), .ref 103, .ref 104, .ref 105, .int fo, .int as_, .int sm, .int sk, .ref 106, .ref 107, .ref 108, .int z, .ref 109, .ref 110, .ref 111, .int (nI am), .ref 112, .ref 113, .ref 114, .ref 115, .ref 116, .int (nI (bI ib)), .int iN, .int iM, .int iT, .ref 117, .ref 118, .ref 119])) := hO
    have lo := sumN_le (f := fun p => bI (decide (R.getD p 0 ≠ 1))) 1 k (fun i _ => by show bI _ ≤ 1; cases decide (R.getD i 0 ≠ 1) <;> decide)
    refine g_iload_n dX9_otherThanOne_4 0 rfl ?_
    refine g_iload_n dX9_otherThanOne_5 3 rfl ?_
    refine g_icmp_geN 33 dX9_otherThanOne_6 (by decide) (by omega) (by omega) (fun z => absurd z (by omega)) (fun c6 => ?_)
    refine g_iload_n dX9_otherThanOne_9 1 rfl ?_
    refine g_aload_n dX9_otherThanOne_10 2 rfl ?_
    refine g_getf dX9_otherThanOne_11 kX9 wfX9_41 (Nat.le_of_ble_eq_true rfl) (hO) rfl ?_
    refine g_iload_n dX9_otherThanOne_14 0 rfl ?_
    refine g_ialI dX9_otherThanOne_15 (hR) (by omega) (by omega) ?_
    refine g_iconst (v := nI 1) dX9_otherThanOne_16 (by decide +kernel) ?_
    refine g_icmp_ne 24 dX9_otherThanOne_17 (by decide) (fun c17 => ?_) (fun c17 => ?_)
    · refine g_iconst (v := nI 1) dX9_otherThanOne_24 (by decide +kernel) ?_
      refine g_iaddN dX9_otherThanOne_25 ?_
      refine g_top (show nI ((sumN (fun p => bI (decide (R.getD p 0 ≠ 1))) k) + 1) = nI (sumN (fun p => bI (decide (R.getD p 0 ≠ 1))) (k + 1)) from congrArg nI (by show (sumN (fun p => bI (decide (R.getD p 0 ≠ 1))) k) + 1 = sumN (fun p => bI (decide (R.getD p 0 ≠ 1))) k + bI (decide (R.getD k 0 ≠ 1)); rw [decide_eq_true (show R.getD k 0 ≠ 1 from c17)]; rfl)) ?_
      refine g_istore_n (ls' := [(2, .int (nI (sumN (fun p => bI (decide (R.getD p 0 ≠ 1))) (k + 1)))), (3, .int (nI k)), (0, .ref 98), (1, .int (nI q))]) dX9_otherThanOne_26 (Nat.le_of_ble_eq_true rfl) rfl ?_
      refine g_iinc (q := 1) (v := nI (k + 1)) (ls' := [(3, .int (nI (k + 1))), (2, .int (nI (sumN (fun p => bI (decide (R.getD p 0 ≠ 1))) (k + 1)))), (0, .ref 98), (1, .int (nI q))]) dX9_otherThanOne_27 rfl (inc1 _) (Nat.le_of_ble_eq_true rfl) rfl ?_
      refine g_goto 4 dX9_otherThanOne_30 (by decide) ?_
      exact ih (k + 1) (by omega)
    · refine g_iconst (v := nI 0) dX9_otherThanOne_20 (by decide +kernel) ?_
      refine g_goto 25 dX9_otherThanOne_21 (by decide) ?_
      refine g_iaddN dX9_otherThanOne_25 ?_
      refine g_top (show nI ((sumN (fun p => bI (decide (R.getD p 0 ≠ 1))) k) + 0) = nI (sumN (fun p => bI (decide (R.getD p 0 ≠ 1))) (k + 1)) from congrArg nI (by show (sumN (fun p => bI (decide (R.getD p 0 ≠ 1))) k) + 0 = sumN (fun p => bI (decide (R.getD p 0 ≠ 1))) k + bI (decide (R.getD k 0 ≠ 1)); rw [decide_eq_false (show ¬ (R.getD k 0 ≠ 1) from not_not_intro c17)]; rfl)) ?_
      refine g_istore_n (ls' := [(2, .int (nI (sumN (fun p => bI (decide (R.getD p 0 ≠ 1))) (k + 1)))), (3, .int (nI k)), (0, .ref 98), (1, .int (nI q))]) dX9_otherThanOne_26 (Nat.le_of_ble_eq_true rfl) rfl ?_
      refine g_iinc (q := 1) (v := nI (k + 1)) (ls' := [(3, .int (nI (k + 1))), (2, .int (nI (sumN (fun p => bI (decide (R.getD p 0 ≠ 1))) (k + 1)))), (0, .ref 98), (1, .int (nI q))]) dX9_otherThanOne_27 rfl (inc1 _) (Nat.le_of_ble_eq_true rfl) rfl ?_
      refine g_goto 4 dX9_otherThanOne_30 (by decide) ?_
      exact ih (k + 1) (by omega)

set_option maxRecDepth 100000 in
set_option maxHeartbeats 4000000 in
theorem ev_other {h : List aC} {n m a de : Nat} {fo as_ sm sk z : Int32} {am : Nat} {ib : Bool} {iN iM iT : Int32} (hO : MO h n m a de fo as_ sm sk z am ib iN iM iT) {R : List Int32} (hR : rd h 108 = some (.inl R)) (lR : R.length = 196) (q : Nat) (hq : q ≤ 196) : Ev mX9_otherThanOne 1 0 0 [.ref 98, .int (nI q)] h (pv (.int (nI (sumN (fun p => bI (decide (R.getD p 0 ≠ 1))) q))) h) := by
  refine Ev.of pX9_otherThanOne (Nat.le_of_ble_eq_true rfl) ?_
  show G mX9_otherThanOne (rmD 1 0 0) none _ 0 0 0 [(0, .ref 98), (1, .int (nI q))] [] h
  refine g_iconst (v := nI 0) dX9_otherThanOne_0 (by decide +kernel) ?_
  refine g_istore_n (ls' := [(2, .int (nI 0)), (0, .ref 98), (1, .int (nI q))]) dX9_otherThanOne_1 (Nat.le_of_ble_eq_true rfl) rfl ?_
  refine g_iconst (v := nI 0) dX9_otherThanOne_2 (by decide +kernel) ?_
  refine g_istore_n (ls' := [(3, .int (nI 0)), (2, .int (nI 0)), (0, .ref 98), (1, .int (nI q))]) dX9_otherThanOne_3 (Nat.le_of_ble_eq_true rfl) rfl ?_
  exact lp_moth hO hR lR hq q 0 (by omega)

set_option maxRecDepth 100000 in
set_option maxHeartbeats 4000000 in
theorem lp_mlf0 {h0 : List aC} {P : Option Value → List aC → Prop} {n m a de : Nat} {fo as_ sm sk z : Int32} {am : Nat} {ib : Bool} {iN iM iT : Int32} {Co : List Int32} (lC : Co.length = 196) {w u : Nat} (n3 : n ≤ 13) (K : ∀ h', rd h' 108 = some (.inl (zeroL Co 0 (n + 1))) → Smo 108 (108 + 1) h0 h' → G mX9_lineFaults (rmD 2 0 0) none P 0 0 23 [(0, .ref 98), (1, .int (nI w)), (2, .int (nI u)), (3, .int (nI (n + 1)))] [] h') : ∀ j k (h : List aC), k + j = n + 1 → MO h n m a de fo as_ sm sk z am ib iN iM iT → rd h 108 = some (.inl (zeroL Co 0 (k))) → Smo 108 (108 + 1) h0 h → G mX9_lineFaults (rmD 2 0 0) none P 0 0 2 [(3, .int (nI k)), (0, .ref 98), (1, .int (nI w)), (2, .int (nI u))] [] h := by
  intro j
  induction j with
  | zero =>
    intro k h hk hO hR hS
    have hO : rd h 98 = some (.inr (9, [.int (nI n), .int (nI m), .ref 99, .ref 100, .ref 101, .int (nI a), .ref 102, .int (nI de), .ref 103, .ref 104, .ref 105, .int fo, .int as_, .int sm, .int sk, .ref 106, .ref 107, .ref 108, .int z, .ref 109, .ref 110, .ref 111, .int (nI am), .ref 112, .ref 113, .ref 114, .ref 115, .ref 116, .int (nI (bI ib)), .int iN, .int iM, .int iT, .ref 117, .ref 118, .ref 119])) := hO
    have lk := (zeroL_len Co 0 k).trans lC
    refine g_iload_n dX9_lineFaults_2 0 rfl ?_
    refine g_aload_n dX9_lineFaults_3 1 rfl ?_
    refine g_getf dX9_lineFaults_4 kX9 wfX9_7 (Nat.le_of_ble_eq_true rfl) (hO) rfl ?_
    refine g_icmp_gtN 23 dX9_lineFaults_7 (by decide) (by omega) (by omega) (fun c7 => ?_) (fun z => absurd z (by omega))
    refine g_lsub_ (ls2 := [(0, .ref 98), (1, .int (nI w)), (2, .int (nI u)), (3, .int (nI k))]) [1, 2, 3, 0] rfl ?_
    have ek : k = n + 1 := by omega
    subst ek
    exact K _ hR hS
  | succ j ih =>
    intro k h hk hO hR hS
    have hO : rd h 98 = some (.inr (9, [.int (nI n), .int (nI m), .ref 99, .ref 100, .ref 101, .int (nI a), .ref 102, .int (nI de), .ref 103, .ref 104, .ref 105, .int fo, .int as_, .int sm, .int sk, .ref 106, .ref 107, .ref 108, .int z, .ref 109, .ref 110, .ref 111, .int (nI am), .ref 112, .ref 113, .ref 114, .ref 115, .ref 116, .int (nI (bI ib)), .int iN, .int iM, .int iT, .ref 117, .ref 118, .ref 119])) := hO
    have lk := (zeroL_len Co 0 k).trans lC
    refine g_iload_n dX9_lineFaults_2 0 rfl ?_
    refine g_aload_n dX9_lineFaults_3 1 rfl ?_
    refine g_getf dX9_lineFaults_4 kX9 wfX9_7 (Nat.le_of_ble_eq_true rfl) (hO) rfl ?_
    refine g_icmp_gtN 23 dX9_lineFaults_7 (by decide) (by omega) (by omega) (fun z => absurd z (by omega)) (fun c7 => ?_)
    refine g_aload_n dX9_lineFaults_10 1 rfl ?_
    refine g_getf dX9_lineFaults_11 kX9 wfX9_41 (Nat.le_of_ble_eq_true rfl) (hO) rfl ?_
    refine g_iload_n dX9_lineFaults_14 0 rfl ?_
    refine g_iconst (v := nI 0) dX9_lineFaults_15 (by decide +kernel) ?_
    refine g_st2 (show (nI k) = nI (0 + k) by rw [Nat.zero_add]) ?_
    refine g_iasI dX9_lineFaults_16 (hR) (by rw [lk]; omega) (by omega) (fun h1 e1 => ?_)
    have f1_108 : rd h1 108 = some (.inl ((zeroL Co 0 (k)).set (0 + k) (nI 0))) := by rw [e1]; exact rd_wr_eq (hR)
    have lf1_108 : ((zeroL Co 0 (k)).set (0 + k) (nI 0)).length = _ := List.length_set.trans lk
    have s1 : Smo 108 (108 + 1) h h1 := by rw [e1]; exact Smo.wr (by omega) (by omega)
    have f1_98 : rd h1 98 = some (.inr (9, [.int (nI n), .int (nI m), .ref 99, .ref 100, .ref 101, .int (nI a), .ref 102, .int (nI de), .ref 103, .ref 104, .ref 105, .int fo, .int as_, .int sm, .int sk, .ref 106, .ref 107, .ref 108, .int z, .ref 109, .ref 110, .ref 111, .int (nI am), .ref 112, .ref 113, .ref 114, .ref 115, .ref 116, .int (nI (bI ib)), .int iN, .int iM, .int iT, .ref 117, .ref 118, .ref 119])) := by rw [s1 _ (by omega)]; exact hO
    refine g_iinc (q := 0) (v := nI (k + 1)) (ls' := [(3, .int (nI (k + 1))), (0, .ref 98), (1, .int (nI w)), (2, .int (nI u))]) dX9_lineFaults_17 rfl (inc1 _) (Nat.le_of_ble_eq_true rfl) rfl ?_
    refine g_goto 2 dX9_lineFaults_20 (by decide) ?_
    exact ih (k + 1) _ (by omega) f1_98 f1_108 (hS.tr (fun q hq => by rw [s1 q (by omega)]))

set_option maxRecDepth 100000 in
set_option maxHeartbeats 4000000 in
theorem lp_mlf1 {h0 : List aC} {P : Option Value → List aC → Prop} {n m a de : Nat} {fo as_ sm sk z : Int32} {am : Nat} {ib : Bool} {iN iM iT : Int32} (n3 : n ≤ 13) {Ro : List Int32} (hRo : rd h0 100 = some (.inl Ro)) (lRo : Ro.length = 338) {rm : Nat → Nat → Nat} (vRo : rR Ro 0 rm) (k8 : ∀ a b, a < n → b < n → okC n (rm a b)) {w u : Nat} (hw : w ≤ 1) (hu : u < n) (K : ∀ R h', MO h' n m a de fo as_ sm sk z am ib iN iM iT → rd h' 108 = some (.inl R) → R.length = 196 → cC R n (fun p => cL (gW w u rm) p n) → Smo 108 109 h0 h' → G mX9_lineFaults (rmD 2 0 0) none P 0 0 104 [(0, .ref 98), (1, .int (nI w)), (2, .int (nI u)), (3, .int (nI n))] [] h') : ∀ j k (h : List aC) (R : List Int32), k + j = n → MO h n m a de fo as_ sm sk z am ib iN iM iT → rd h 108 = some (.inl R) → R.length = 196 → cC R n (fun p => cL (gW w u rm) p k) → Smo 108 109 h0 h → G mX9_lineFaults (rmD 2 0 0) none P 0 0 25 [(3, .int (nI k)), (0, .ref 98), (1, .int (nI w)), (2, .int (nI u))] [] h := by
  intro j
  induction j with
  | zero =>
    intro k h R hk hO hR lR hC hS
    have hO : rd h 98 = some (.inr (9, [.int (nI n), .int (nI m), .ref 99, .ref 100, .ref 101, .int (nI a), .ref 102, .int (nI de), .ref 103, .ref 104, .ref 105, .int fo, .int as_, .int sm, .int sk, .ref 106, .ref 107, .ref 108, .int z, .ref 109, .ref 110, .ref 111, .int (nI am), .ref 112, .ref 113, .ref 114, .ref 115, .ref 116, .int (nI (bI ib)), .int iN, .int iM, .int iT, .ref 117, .ref 118, .ref 119])) := hO
    refine g_iload_n dX9_lineFaults_25 0 rfl ?_
    refine g_aload_n dX9_lineFaults_26 1 rfl ?_
    refine g_getf dX9_lineFaults_27 kX9 wfX9_7 (Nat.le_of_ble_eq_true rfl) (hO) rfl ?_
    refine g_icmp_geN 104 dX9_lineFaults_30 (by decide) (by omega) (by omega) (fun c30 => ?_) (fun z => absurd z (by omega))
    refine g_lsub_ (ls2 := [(0, .ref 98), (1, .int (nI w)), (2, .int (nI u)), (3, .int (nI k))]) [1, 2, 3, 0] rfl ?_
    have ek : k = n := by omega
    subst ek
    exact K _ _ hO hR lR hC hS
  | succ j ih =>
    intro k h R hk hO hR lR hC hS
    have hO : rd h 98 = some (.inr (9, [.int (nI n), .int (nI m), .ref 99, .ref 100, .ref 101, .int (nI a), .ref 102, .int (nI de), .ref 103, .ref 104, .ref 105, .int fo, .int as_, .int sm, .int sk, .ref 106, .ref 107, .ref 108, .int z, .ref 109, .ref 110, .ref 111, .int (nI am), .ref 112, .ref 113, .ref 114, .ref 115, .ref 116, .int (nI (bI ib)), .int iN, .int iM, .int iT, .ref 117, .ref 118, .ref 119])) := hO
    have okg := gW_ok k8 (w := w) hu (show k < n by omega)
    have iwl := iW_lt (w := w) (u := u) (j := k) (by omega) (by omega)
    have b1 := cL_le (gW w u rm) (gW w u rm k / 14) k
    refine g_iload_n dX9_lineFaults_25 0 rfl ?_
    refine g_aload_n dX9_lineFaults_26 1 rfl ?_
    refine g_getf dX9_lineFaults_27 kX9 wfX9_7 (Nat.le_of_ble_eq_true rfl) (hO) rfl ?_
    refine g_icmp_geN 104 dX9_lineFaults_30 (by decide) (by omega) (by omega) (fun z => absurd z (by omega)) (fun c30 => ?_)
    refine g_iload_n dX9_lineFaults_33 2 rfl ?_
    refine g_if_neN 46 dX9_lineFaults_34 (by decide) (by omega) (fun c34 => ?_) (fun c34 => ?_)
    · refine g_aload_n dX9_lineFaults_46 1 rfl ?_
      refine g_iload_n dX9_lineFaults_47 0 rfl ?_
      refine g_iload_n dX9_lineFaults_48 3 rfl ?_
      refine g_callVp dX9_lineFaults_49 (ev_cAt (k) (u)) oX9_cellAt wiX9_cellAt weX9_cellAt wmX9_194 kX9 (hO) rfl ⟨(Nat.le_of_ble_eq_true rfl), (Nat.le_of_ble_eq_true rfl)⟩ ⟨Nat.zero_le _, Nat.zero_le _⟩ (Nat.le_of_ble_eq_true rfl) rfl ?_
      refine g_top (show nI (2 * (13 * k + u)) = nI (iW w u k) from congrArg nI ((if_neg (by omega)).symm)) ?_
      refine g_istore (ls' := [(4, .int (nI (iW w u k))), (3, .int (nI k)), (0, .ref 98), (1, .int (nI w)), (2, .int (nI u))]) dX9_lineFaults_52 (Nat.le_of_ble_eq_true rfl) rfl ?_
      refine g_iconst (v := nI 0) dX9_lineFaults_54 (by decide +kernel) ?_
      refine g_istore (ls' := [(5, .int (nI 0)), (4, .int (nI (iW w u k))), (3, .int (nI k)), (0, .ref 98), (1, .int (nI w)), (2, .int (nI u))]) dX9_lineFaults_55 (Nat.le_of_ble_eq_true rfl) rfl ?_
      refine g_iload dX9_lineFaults_57 0 rfl ?_
      refine g_iconst (v := nI 2) dX9_lineFaults_59 (by decide +kernel) ?_
      refine g_icmp_geN 98 dX9_lineFaults_60 (by decide) (by omega) (by omega) (fun z => absurd z (by omega)) (fun c60 => ?_)
      refine g_aload_n dX9_lineFaults_63 3 rfl ?_
      refine g_getf dX9_lineFaults_64 kX9 wfX9_17 (Nat.le_of_ble_eq_true rfl) (hO) rfl ?_
      refine g_iload dX9_lineFaults_67 1 rfl ?_
      refine g_ialI dX9_lineFaults_69 ((show rd h 100 = some (.inl Ro) by rw [hS 100 (by omega)]; exact hRo)) (by omega) (by omega) ?_
      refine g_top (gW_x (w := w) vRo (by omega) (by omega)) ?_
      refine g_if_lt 98 dX9_lineFaults_70 (by decide) (fun c70 => ?_) (fun c70 => ?_)
      · refine g_iinc (q := 2) (v := nI (k + 1)) (ls' := [(3, .int (nI (k + 1))), (5, .int (nI 0)), (4, .int (nI (iW w u k))), (0, .ref 98), (1, .int (nI w)), (2, .int (nI u))]) dX9_lineFaults_98 rfl (inc1 _) (Nat.le_of_ble_eq_true rfl) rfl ?_
        refine g_goto 25 dX9_lineFaults_101 (by decide) ?_
        refine g_lsub_ (ls2 := [(3, .int (nI (k + 1))), (0, .ref 98), (1, .int (nI w)), (2, .int (nI u))]) [0, 3, 4, 5] rfl ?_
        exact ih (k + 1) _ R (by omega) hO hR lR (cC_z hC (Decidable.byContradiction fun q => absurd ((xV_i _ (okC_lt n3 okg)).mpr q) (Int32.not_le.mpr c70))) (hS.tr Smo.rf)
      · refine g_aload_n dX9_lineFaults_73 3 rfl ?_
        refine g_getf dX9_lineFaults_74 kX9 wfX9_41 (Nat.le_of_ble_eq_true rfl) (hO) rfl ?_
        refine g_aload_n dX9_lineFaults_77 3 rfl ?_
        refine g_getf dX9_lineFaults_78 kX9 wfX9_17 (Nat.le_of_ble_eq_true rfl) (hO) rfl ?_
        refine g_iload dX9_lineFaults_81 1 rfl ?_
        refine g_iload dX9_lineFaults_83 0 rfl ?_
        refine g_iaddN dX9_lineFaults_85 ?_
        have ng : gW w u rm k ≠ 0 := (xV_i _ (okC_lt n3 okg)).mp (Int32.not_lt.mp c70)
        have hd : gW w u rm k / 14 < gW w u rm k % 14 ∧ gW w u rm k % 14 ≤ n := by rcases okg with z | z; exact absurd z ng; exact z
        have b1 := cL_le (gW w u rm) (gW w u rm k / 14) k
        have b2 := cL_le (gW w u rm) (gW w u rm k % 14) k
        refine g_ialI dX9_lineFaults_86 ((show rd h 100 = some (.inl Ro) by rw [hS 100 (by omega)]; exact hRo)) (by show iW w u k + 0 < _; omega) (by omega) ?_
        refine g_top ((gW_x (w := w) (u := u) vRo (by omega) (by omega)).trans (if_neg ng)) ?_
        refine g_dup2 dX9_lineFaults_87 rfl rfl ?_
        refine g_ialI dX9_lineFaults_88 (hR) (by omega) (by omega) ?_
        refine g_top (hC _ (by omega)) ?_
        refine g_iconst (v := nI 1) dX9_lineFaults_89 (by decide +kernel) ?_
        refine g_iaddN dX9_lineFaults_90 ?_
        refine g_iasI dX9_lineFaults_91 (hR) (by first | omega | (rw [List.length_set]; omega)) (by omega) (fun h1 e1 => ?_)
        have f1_108 : rd h1 108 = some (.inl ((R).set (gW w u rm k / 14) (nI ((cL (gW w u rm) (gW w u rm k / 14) k) + 1)))) := by rw [e1]; exact rd_wr_eq (hR)
        have lf1_108 : ((R).set (gW w u rm k / 14) (nI ((cL (gW w u rm) (gW w u rm k / 14) k) + 1))).length = _ := List.length_set.trans lR
        have s1 : Smo 108 (108 + 1) h h1 := by rw [e1]; exact Smo.wr (by omega) (by omega)
        have f1_98 : rd h1 98 = some (.inr (9, [.int (nI n), .int (nI m), .ref 99, .ref 100, .ref 101, .int (nI a), .ref 102, .int (nI de), .ref 103, .ref 104, .ref 105, .int fo, .int as_, .int sm, .int sk, .ref 106, .ref 107, .ref 108, .int z, .ref 109, .ref 110, .ref 111, .int (nI am), .ref 112, .ref 113, .ref 114, .ref 115, .ref 116, .int (nI (bI ib)), .int iN, .int iM, .int iT, .ref 117, .ref 118, .ref 119])) := by rw [s1 _ (by omega)]; exact hO
        have f1_100 : rd h1 100 = some (.inl (Ro)) := by rw [s1 _ (by omega)]; exact (show rd h 100 = some (.inl Ro) by rw [hS 100 (by omega)]; exact hRo)
        refine g_iinc (q := 0) (v := nI (0 + 1)) (ls' := [(5, .int (nI (0 + 1))), (4, .int (nI (iW w u k))), (3, .int (nI k)), (0, .ref 98), (1, .int (nI w)), (2, .int (nI u))]) dX9_lineFaults_92 rfl (inc1 _) (Nat.le_of_ble_eq_true rfl) rfl ?_
        refine g_goto 57 dX9_lineFaults_95 (by decide) ?_
        refine g_iload dX9_lineFaults_57 0 rfl ?_
        refine g_iconst (v := nI 2) dX9_lineFaults_59 (by decide +kernel) ?_
        refine g_icmp_geN 98 dX9_lineFaults_60 (by decide) (by omega) (by omega) (fun z => absurd z (by omega)) (fun c60 => ?_)
        refine g_aload_n dX9_lineFaults_63 3 rfl ?_
        refine g_getf dX9_lineFaults_64 kX9 wfX9_17 (Nat.le_of_ble_eq_true rfl) (f1_98) rfl ?_
        refine g_iload dX9_lineFaults_67 1 rfl ?_
        refine g_ialI dX9_lineFaults_69 (f1_100) (by omega) (by omega) ?_
        refine g_top (gW_x (w := w) vRo (by omega) (by omega)) ?_
        refine g_if_lt 98 dX9_lineFaults_70 (by decide) (fun z => absurd z c70) (fun c70 => ?_)
        refine g_aload_n dX9_lineFaults_73 3 rfl ?_
        refine g_getf dX9_lineFaults_74 kX9 wfX9_41 (Nat.le_of_ble_eq_true rfl) (f1_98) rfl ?_
        refine g_aload_n dX9_lineFaults_77 3 rfl ?_
        refine g_getf dX9_lineFaults_78 kX9 wfX9_17 (Nat.le_of_ble_eq_true rfl) (f1_98) rfl ?_
        refine g_iload dX9_lineFaults_81 1 rfl ?_
        refine g_iload dX9_lineFaults_83 0 rfl ?_
        refine g_iaddN dX9_lineFaults_85 ?_
        refine g_ialI dX9_lineFaults_86 (f1_100) (by show iW w u k + (0 + 1) < _; omega) (by omega) ?_
        refine g_top ((show Ro.getD (iW w u k + 1) 0 = _ from gW_y (w := w) (u := u) vRo (by omega) (by omega)).trans (if_neg ng)) ?_
        refine g_dup2 dX9_lineFaults_87 rfl rfl ?_
        refine g_ialI dX9_lineFaults_88 (f1_108) (by rw [List.length_set]; omega) (by simp only [List.length_set]; omega) ?_
        refine g_top ((getD_set_neI (by omega)).trans (hC _ (by omega))) ?_
        refine g_iconst (v := nI 1) dX9_lineFaults_89 (by decide +kernel) ?_
        refine g_iaddN dX9_lineFaults_90 ?_
        refine g_iasI dX9_lineFaults_91 (f1_108) (by first | omega | (rw [List.length_set]; omega)) (by simp only [List.length_set]; omega) (fun h2 e2 => ?_)
        have f2_108 : rd h2 108 = some (.inl (((R).set (gW w u rm k / 14) (nI ((cL (gW w u rm) (gW w u rm k / 14) k) + 1))).set (gW w u rm k % 14) (nI ((cL (gW w u rm) (gW w u rm k % 14) k) + 1)))) := by rw [e2]; exact rd_wr_eq (f1_108)
        have lf2_108 : (((R).set (gW w u rm k / 14) (nI ((cL (gW w u rm) (gW w u rm k / 14) k) + 1))).set (gW w u rm k % 14) (nI ((cL (gW w u rm) (gW w u rm k % 14) k) + 1))).length = _ := List.length_set.trans lf1_108
        have s2 : Smo 108 (108 + 1) h1 h2 := by rw [e2]; exact Smo.wr (by omega) (by omega)
        have f2_98 : rd h2 98 = some (.inr (9, [.int (nI n), .int (nI m), .ref 99, .ref 100, .ref 101, .int (nI a), .ref 102, .int (nI de), .ref 103, .ref 104, .ref 105, .int fo, .int as_, .int sm, .int sk, .ref 106, .ref 107, .ref 108, .int z, .ref 109, .ref 110, .ref 111, .int (nI am), .ref 112, .ref 113, .ref 114, .ref 115, .ref 116, .int (nI (bI ib)), .int iN, .int iM, .int iT, .ref 117, .ref 118, .ref 119])) := by rw [s2 _ (by omega)]; exact f1_98
        have f2_100 : rd h2 100 = some (.inl (Ro)) := by rw [s2 _ (by omega)]; exact f1_100
        refine g_iinc (q := 0) (v := nI (0 + 1 + 1)) (ls' := [(5, .int (nI (0 + 1 + 1))), (4, .int (nI (iW w u k))), (3, .int (nI k)), (0, .ref 98), (1, .int (nI w)), (2, .int (nI u))]) dX9_lineFaults_92 rfl (inc1 _) (Nat.le_of_ble_eq_true rfl) rfl ?_
        refine g_goto 57 dX9_lineFaults_95 (by decide) ?_
        refine g_iload dX9_lineFaults_57 0 rfl ?_
        refine g_iconst (v := nI 2) dX9_lineFaults_59 (by decide +kernel) ?_
        refine g_icmp_geN 98 dX9_lineFaults_60 (by decide) (by omega) (by omega) (fun c60 => ?_) (fun z => absurd z (by omega))
        refine g_iinc (q := 2) (v := nI (k + 1)) (ls' := [(3, .int (nI (k + 1))), (5, .int (nI (0 + 1 + 1))), (4, .int (nI (iW w u k))), (0, .ref 98), (1, .int (nI w)), (2, .int (nI u))]) dX9_lineFaults_98 rfl (inc1 _) (Nat.le_of_ble_eq_true rfl) rfl ?_
        refine g_goto 25 dX9_lineFaults_101 (by decide) ?_
        refine g_lsub_ (ls2 := [(3, .int (nI (k + 1))), (0, .ref 98), (1, .int (nI w)), (2, .int (nI u))]) [0, 3, 4, 5] rfl ?_
        exact ih (k + 1) _ _ (by omega) f2_98 f2_108 (lf2_108) (cC_s hC lR n3 ng okg) (hS.tr (fun q hq => by rw [s2 q (by omega), s1 q (by omega)]))
    · refine g_aload_n dX9_lineFaults_37 1 rfl ?_
      refine g_iload_n dX9_lineFaults_38 3 rfl ?_
      refine g_iload_n dX9_lineFaults_39 0 rfl ?_
      refine g_callVp dX9_lineFaults_40 (ev_cAt (u) (k)) oX9_cellAt wiX9_cellAt weX9_cellAt wmX9_194 kX9 (hO) rfl ⟨(Nat.le_of_ble_eq_true rfl), (Nat.le_of_ble_eq_true rfl)⟩ ⟨Nat.zero_le _, Nat.zero_le _⟩ (Nat.le_of_ble_eq_true rfl) rfl ?_
      refine g_goto 52 dX9_lineFaults_43 (by decide) ?_
      refine g_top (show nI (2 * (13 * u + k)) = nI (iW w u k) from congrArg nI ((if_pos c34).symm)) ?_
      refine g_istore (ls' := [(4, .int (nI (iW w u k))), (3, .int (nI k)), (0, .ref 98), (1, .int (nI w)), (2, .int (nI u))]) dX9_lineFaults_52 (Nat.le_of_ble_eq_true rfl) rfl ?_
      refine g_iconst (v := nI 0) dX9_lineFaults_54 (by decide +kernel) ?_
      refine g_istore (ls' := [(5, .int (nI 0)), (4, .int (nI (iW w u k))), (3, .int (nI k)), (0, .ref 98), (1, .int (nI w)), (2, .int (nI u))]) dX9_lineFaults_55 (Nat.le_of_ble_eq_true rfl) rfl ?_
      refine g_iload dX9_lineFaults_57 0 rfl ?_
      refine g_iconst (v := nI 2) dX9_lineFaults_59 (by decide +kernel) ?_
      refine g_icmp_geN 98 dX9_lineFaults_60 (by decide) (by omega) (by omega) (fun z => absurd z (by omega)) (fun c60 => ?_)
      refine g_aload_n dX9_lineFaults_63 3 rfl ?_
      refine g_getf dX9_lineFaults_64 kX9 wfX9_17 (Nat.le_of_ble_eq_true rfl) (hO) rfl ?_
      refine g_iload dX9_lineFaults_67 1 rfl ?_
      refine g_ialI dX9_lineFaults_69 ((show rd h 100 = some (.inl Ro) by rw [hS 100 (by omega)]; exact hRo)) (by omega) (by omega) ?_
      refine g_top (gW_x (w := w) vRo (by omega) (by omega)) ?_
      refine g_if_lt 98 dX9_lineFaults_70 (by decide) (fun c70 => ?_) (fun c70 => ?_)
      · refine g_iinc (q := 2) (v := nI (k + 1)) (ls' := [(3, .int (nI (k + 1))), (5, .int (nI 0)), (4, .int (nI (iW w u k))), (0, .ref 98), (1, .int (nI w)), (2, .int (nI u))]) dX9_lineFaults_98 rfl (inc1 _) (Nat.le_of_ble_eq_true rfl) rfl ?_
        refine g_goto 25 dX9_lineFaults_101 (by decide) ?_
        refine g_lsub_ (ls2 := [(3, .int (nI (k + 1))), (0, .ref 98), (1, .int (nI w)), (2, .int (nI u))]) [0, 3, 4, 5] rfl ?_
        exact ih (k + 1) _ R (by omega) hO hR lR (cC_z hC (Decidable.byContradiction fun q => absurd ((xV_i _ (okC_lt n3 okg)).mpr q) (Int32.not_le.mpr c70))) (hS.tr Smo.rf)
      · refine g_aload_n dX9_lineFaults_73 3 rfl ?_
        refine g_getf dX9_lineFaults_74 kX9 wfX9_41 (Nat.le_of_ble_eq_true rfl) (hO) rfl ?_
        refine g_aload_n dX9_lineFaults_77 3 rfl ?_
        refine g_getf dX9_lineFaults_78 kX9 wfX9_17 (Nat.le_of_ble_eq_true rfl) (hO) rfl ?_
        refine g_iload dX9_lineFaults_81 1 rfl ?_
        refine g_iload dX9_lineFaults_83 0 rfl ?_
        refine g_iaddN dX9_lineFaults_85 ?_
        have ng : gW w u rm k ≠ 0 := (xV_i _ (okC_lt n3 okg)).mp (Int32.not_lt.mp c70)
        have hd : gW w u rm k / 14 < gW w u rm k % 14 ∧ gW w u rm k % 14 ≤ n := by rcases okg with z | z; exact absurd z ng; exact z
        have b1 := cL_le (gW w u rm) (gW w u rm k / 14) k
        have b2 := cL_le (gW w u rm) (gW w u rm k % 14) k
        refine g_ialI dX9_lineFaults_86 ((show rd h 100 = some (.inl Ro) by rw [hS 100 (by omega)]; exact hRo)) (by show iW w u k + 0 < _; omega) (by omega) ?_
        refine g_top ((gW_x (w := w) (u := u) vRo (by omega) (by omega)).trans (if_neg ng)) ?_
        refine g_dup2 dX9_lineFaults_87 rfl rfl ?_
        refine g_ialI dX9_lineFaults_88 (hR) (by omega) (by omega) ?_
        refine g_top (hC _ (by omega)) ?_
        refine g_iconst (v := nI 1) dX9_lineFaults_89 (by decide +kernel) ?_
        refine g_iaddN dX9_lineFaults_90 ?_
        refine g_iasI dX9_lineFaults_91 (hR) (by first | omega | (rw [List.length_set]; omega)) (by omega) (fun h3 e3 => ?_)
        have f3_108 : rd h3 108 = some (.inl ((R).set (gW w u rm k / 14) (nI ((cL (gW w u rm) (gW w u rm k / 14) k) + 1)))) := by rw [e3]; exact rd_wr_eq (hR)
        have lf3_108 : ((R).set (gW w u rm k / 14) (nI ((cL (gW w u rm) (gW w u rm k / 14) k) + 1))).length = _ := List.length_set.trans lR
        have s3 : Smo 108 (108 + 1) h h3 := by rw [e3]; exact Smo.wr (by omega) (by omega)
        have f3_98 : rd h3 98 = some (.inr (9, [.int (nI n), .int (nI m), .ref 99, .ref 100, .ref 101, .int (nI a), .ref 102, .int (nI de), .ref 103, .ref 104, .ref 105, .int fo, .int as_, .int sm, .int sk, .ref 106, .ref 107, .ref 108, .int z, .ref 109, .ref 110, .ref 111, .int (nI am), .ref 112, .ref 113, .ref 114, .ref 115, .ref 116, .int (nI (bI ib)), .int iN, .int iM, .int iT, .ref 117, .ref 118, .ref 119])) := by rw [s3 _ (by omega)]; exact hO
        have f3_100 : rd h3 100 = some (.inl (Ro)) := by rw [s3 _ (by omega)]; exact (show rd h 100 = some (.inl Ro) by rw [hS 100 (by omega)]; exact hRo)
        refine g_iinc (q := 0) (v := nI (0 + 1)) (ls' := [(5, .int (nI (0 + 1))), (4, .int (nI (iW w u k))), (3, .int (nI k)), (0, .ref 98), (1, .int (nI w)), (2, .int (nI u))]) dX9_lineFaults_92 rfl (inc1 _) (Nat.le_of_ble_eq_true rfl) rfl ?_
        refine g_goto 57 dX9_lineFaults_95 (by decide) ?_
        refine g_iload dX9_lineFaults_57 0 rfl ?_
        refine g_iconst (v := nI 2) dX9_lineFaults_59 (by decide +kernel) ?_
        refine g_icmp_geN 98 dX9_lineFaults_60 (by decide) (by omega) (by omega) (fun z => absurd z (by omega)) (fun c60 => ?_)
        refine g_aload_n dX9_lineFaults_63 3 rfl ?_
        refine g_getf dX9_lineFaults_64 kX9 wfX9_17 (Nat.le_of_ble_eq_true rfl) (f3_98) rfl ?_
        refine g_iload dX9_lineFaults_67 1 rfl ?_
        refine g_ialI dX9_lineFaults_69 (f3_100) (by omega) (by omega) ?_
        refine g_top (gW_x (w := w) vRo (by omega) (by omega)) ?_
        refine g_if_lt 98 dX9_lineFaults_70 (by decide) (fun z => absurd z c70) (fun c70 => ?_)
        refine g_aload_n dX9_lineFaults_73 3 rfl ?_
        refine g_getf dX9_lineFaults_74 kX9 wfX9_41 (Nat.le_of_ble_eq_true rfl) (f3_98) rfl ?_
        refine g_aload_n dX9_lineFaults_77 3 rfl ?_
        refine g_getf dX9_lineFaults_78 kX9 wfX9_17 (Nat.le_of_ble_eq_true rfl) (f3_98) rfl ?_
        refine g_iload dX9_lineFaults_81 1 rfl ?_
        refine g_iload dX9_lineFaults_83 0 rfl ?_
        refine g_iaddN dX9_lineFaults_85 ?_
        refine g_ialI dX9_lineFaults_86 (f3_100) (by show iW w u k + (0 + 1) < _; omega) (by omega) ?_
        refine g_top ((show Ro.getD (iW w u k + 1) 0 = _ from gW_y (w := w) (u := u) vRo (by omega) (by omega)).trans (if_neg ng)) ?_
        refine g_dup2 dX9_lineFaults_87 rfl rfl ?_
        refine g_ialI dX9_lineFaults_88 (f3_108) (by rw [List.length_set]; omega) (by simp only [List.length_set]; omega) ?_
        refine g_top ((getD_set_neI (by omega)).trans (hC _ (by omega))) ?_
        refine g_iconst (v := nI 1) dX9_lineFaults_89 (by decide +kernel) ?_
        refine g_iaddN dX9_lineFaults_90 ?_
        refine g_iasI dX9_lineFaults_91 (f3_108) (by first | omega | (rw [List.length_set]; omega)) (by simp only [List.length_set]; omega) (fun h4 e4 => ?_)
        have f4_108 : rd h4 108 = some (.inl (((R).set (gW w u rm k / 14) (nI ((cL (gW w u rm) (gW w u rm k / 14) k) + 1))).set (gW w u rm k % 14) (nI ((cL (gW w u rm) (gW w u rm k % 14) k) + 1)))) := by rw [e4]; exact rd_wr_eq (f3_108)
        have lf4_108 : (((R).set (gW w u rm k / 14) (nI ((cL (gW w u rm) (gW w u rm k / 14) k) + 1))).set (gW w u rm k % 14) (nI ((cL (gW w u rm) (gW w u rm k % 14) k) + 1))).length = _ := List.length_set.trans lf3_108
        have s4 : Smo 108 (108 + 1) h3 h4 := by rw [e4]; exact Smo.wr (by omega) (by omega)
        have f4_98 : rd h4 98 = some (.inr (9, [.int (nI n), .int (nI m), .ref 99, .ref 100, .ref 101, .int (nI a), .ref 102, .int (nI de), .ref 103, .ref 104, .ref 105, .int fo, .int as_, .int sm, .int sk, .ref 106, .ref 107, .ref 108, .int z, .ref 109, .ref 110, .ref 111, .int (nI am), .ref 112, .ref 113, .ref 114, .ref 115, .ref 116, .int (nI (bI ib)), .int iN, .int iM, .int iT, .ref 117, .ref 118, .ref 119])) := by rw [s4 _ (by omega)]; exact f3_98
        have f4_100 : rd h4 100 = some (.inl (Ro)) := by rw [s4 _ (by omega)]; exact f3_100
        refine g_iinc (q := 0) (v := nI (0 + 1 + 1)) (ls' := [(5, .int (nI (0 + 1 + 1))), (4, .int (nI (iW w u k))), (3, .int (nI k)), (0, .ref 98), (1, .int (nI w)), (2, .int (nI u))]) dX9_lineFaults_92 rfl (inc1 _) (Nat.le_of_ble_eq_true rfl) rfl ?_
        refine g_goto 57 dX9_lineFaults_95 (by decide) ?_
        refine g_iload dX9_lineFaults_57 0 rfl ?_
        refine g_iconst (v := nI 2) dX9_lineFaults_59 (by decide +kernel) ?_
        refine g_icmp_geN 98 dX9_lineFaults_60 (by decide) (by omega) (by omega) (fun c60 => ?_) (fun z => absurd z (by omega))
        refine g_iinc (q := 2) (v := nI (k + 1)) (ls' := [(3, .int (nI (k + 1))), (5, .int (nI (0 + 1 + 1))), (4, .int (nI (iW w u k))), (0, .ref 98), (1, .int (nI w)), (2, .int (nI u))]) dX9_lineFaults_98 rfl (inc1 _) (Nat.le_of_ble_eq_true rfl) rfl ?_
        refine g_goto 25 dX9_lineFaults_101 (by decide) ?_
        refine g_lsub_ (ls2 := [(3, .int (nI (k + 1))), (0, .ref 98), (1, .int (nI w)), (2, .int (nI u))]) [0, 3, 4, 5] rfl ?_
        exact ih (k + 1) _ _ (by omega) f4_98 f4_108 (lf4_108) (cC_s hC lR n3 ng okg) (hS.tr (fun q hq => by rw [s4 q (by omega), s3 q (by omega)]))

set_option maxRecDepth 100000 in
set_option maxHeartbeats 4000000 in
theorem ev_mline {h : List aC} {n m a de : Nat} {fo as_ sm sk z : Int32} {am : Nat} {ib : Bool} {iN iM iT : Int32} (hO : MO h n m a de fo as_ sm sk z am ib iN iM iT) {Ro : List Int32} (hR : rd h 100 = some (.inl Ro)) (lR : Ro.length = 338) {rm : Nat → Nat → Nat} (vR : rR Ro 0 rm) (n3 : n ≤ 13) (k8 : ∀ a b, a < n → b < n → okC n (rm a b)) {Co : List Int32} (hC : rd h 108 = some (.inl Co)) (lC : Co.length = 196) {w u : Nat} (hw : w ≤ 1) (hu : u < n) : Ev mX9_lineFaults 2 0 0 [.ref 98, .int (nI w), .int (nI u)] h (pq (some (.int (nI (lnF n (gW w u rm))))) (fun h2 => ∃ C2, rd h2 108 = some (.inl C2) ∧ C2.length = 196 ∧ Smo 108 109 h h2)) := by
  have hO : rd h 98 = some (.inr (9, [.int (nI n), .int (nI m), .ref 99, .ref 100, .ref 101, .int (nI a), .ref 102, .int (nI de), .ref 103, .ref 104, .ref 105, .int fo, .int as_, .int sm, .int sk, .ref 106, .ref 107, .ref 108, .int z, .ref 109, .ref 110, .ref 111, .int (nI am), .ref 112, .ref 113, .ref 114, .ref 115, .ref 116, .int (nI (bI ib)), .int iN, .int iM, .int iT, .ref 117, .ref 118, .ref 119])) := hO
  refine Ev.of pX9_lineFaults (Nat.le_of_ble_eq_true rfl) ?_
  show G mX9_lineFaults (rmD 2 0 0) none _ 0 0 0 [(0, .ref 98), (1, .int (nI w)), (2, .int (nI u))] [] h
  refine g_iconst (v := nI 0) dX9_lineFaults_0 (by decide +kernel) ?_
  refine g_istore_n (ls' := [(3, .int (nI 0)), (0, .ref 98), (1, .int (nI w)), (2, .int (nI u))]) dX9_lineFaults_1 (Nat.le_of_ble_eq_true rfl) rfl ?_
  refine lp_mlf0 lC n3 (fun h1 y1_0 sK1 => ?_) (n + 1) 0 _ (by omega) hO hC Smo.rf
  have f1_98 : rd h1 98 = some (.inr (9, [.int (nI n), .int (nI m), .ref 99, .ref 100, .ref 101, .int (nI a), .ref 102, .int (nI de), .ref 103, .ref 104, .ref 105, .int fo, .int as_, .int sm, .int sk, .ref 106, .ref 107, .ref 108, .int z, .ref 109, .ref 110, .ref 111, .int (nI am), .ref 112, .ref 113, .ref 114, .ref 115, .ref 116, .int (nI (bI ib)), .int iN, .int iM, .int iT, .ref 117, .ref 118, .ref 119])) := by rw [sK1 _ (by omega)]; exact hO
  have f1_100 : rd h1 100 = some (.inl (Ro)) := by rw [sK1 _ (by omega)]; exact hR
  refine g_iconst (v := nI 0) dX9_lineFaults_23 (by decide +kernel) ?_
  refine g_istore_n (ls' := [(3, .int (nI 0)), (0, .ref 98), (1, .int (nI w)), (2, .int (nI u))]) dX9_lineFaults_24 (Nat.le_of_ble_eq_true rfl) rfl ?_
  refine lp_mlf1 n3 (show rd h1 100 = some (.inl Ro) from f1_100) lR vR k8 hw hu (fun R9 h9 o9 y9 l9 c9 s9 => ?_) n 0 _ _ (by omega) f1_98 y1_0 ((zeroL_len Co 0 (n + 1)).trans lC) (cC_0 lC n3) Smo.rf
  have f9_100 : rd h9 100 = some (.inl (Ro)) := by rw [s9 _ (by omega)]; exact f1_100
  refine g_aload_n dX9_lineFaults_104 0 rfl ?_
  refine g_aload_n dX9_lineFaults_105 0 rfl ?_
  refine g_getf dX9_lineFaults_106 kX9 wfX9_7 (Nat.le_of_ble_eq_true rfl) (o9) rfl ?_
  refine g_iconst (v := nI 1) dX9_lineFaults_109 (by decide +kernel) ?_
  refine g_iaddN dX9_lineFaults_110 ?_
  refine g_callVp dX9_lineFaults_111 (ev_other o9 y9 l9 (n + 1) (by omega)) oX9_otherThanOne wiX9_otherThanOne weX9_otherThanOne wmX9_204 kX9 (o9) rfl ⟨(Nat.le_of_ble_eq_true rfl), (Nat.le_of_ble_eq_true rfl)⟩ ⟨Nat.zero_le _, Nat.zero_le _⟩ (Nat.le_of_ble_eq_true rfl) rfl ?_
  refine g_top (congrArg nI ((oth_eq n3 c9).trans (lnM_eq n3 (fun i hi => gW_ok k8 hu hi)))) ?_
  exact g_iret dX9_lineFaults_114 rfl ⟨Nat.zero_le _, Nat.zero_le _⟩ (⟨rfl, _, y9, l9, (fun q hq => by rw [s9 q (by omega), sK1 q (by omega)])⟩)

theorem cntR_rows {n v : Nat} {rm : Nat → Nat → Nat} (h0 : 0 < n) : cntR n rm v = sumN (fun a => sumN (fun b => bI (decide (rm a b = v))) n) n := by
  unfold cntR
  rw [sumN_rows _ n n]
  refine sumN_ext _ fun a ha => sumN_ext _ fun b hb => ?_
  have d1 : (a * n + b) / n = a := by rw [Nat.mul_comm, Nat.mul_add_div h0, Nat.div_eq_of_lt hb, Nat.add_zero]
  have d2 : (a * n + b) % n = b := by rw [Nat.mul_comm, Nat.mul_add_mod, Nat.mod_eq_of_lt hb]
  rw [d1, d2]
theorem code_iff {v x y : Nat} (hv : v < 196) (hx : x < y) (hy : y ≤ 13) : v = x * 14 + y ↔ (xV v = nI x ∧ yV v = nI y) := by
  have z := cod_iff hv (show x ≤ 13 by omega) hy (by omega)
  rw [show min x y = x by omega, show max x y = y by omega] at z
  rw [← z]
  unfold cod
  rw [show min x y = x by omega, show max x y = y by omega]
theorem bIle (b : Bool) : bI b ≤ 1 := by cases b <;> decide

theorem bI_t : bI true = 1 := rfl
theorem bI_f : bI false = 0 := rfl

set_option maxRecDepth 100000 in
set_option maxHeartbeats 4000000 in
theorem lp_mpf6 {h : List aC} {P : Option Value → List aC → Prop} {n m a de : Nat} {fo as_ sm sk z : Int32} {am : Nat} {ib : Bool} {iN iM iT : Int32} (hO : MO h n m a de fo as_ sm sk z am ib iN iM iT) {Ro : List Int32} (hR : rd h 100 = some (.inl Ro)) (lR : Ro.length = 338) {rm : Nat → Nat → Nat} (vR : rR Ro 0 rm) (n3 : n ≤ 13) (k8 : ∀ a b, a < n → b < n → okC n (rm a b)) {x y A : Nat} (hxy : x < y) (hy : y ≤ n) (r T : Nat) (hr : r < n) (K : G mX9_pairFaults (rmD 2 0 0) none P 0 0 103 [(6, .int (nI n)), (5, .int (nI r)), (4, .int (nI (T + sumN (fun b => bI (decide (rm r b = x * 14 + y))) n))), (3, .int (nI y)), (2, .int (nI x)), (1, .int (nI A)), (0, .ref 98)] [] h) : ∀ j k , k + j = n → G mX9_pairFaults (rmD 2 0 0) none P 0 0 42 [(6, .int (nI k)), (5, .int (nI r)), (4, .int (nI (T + sumN (fun b => bI (decide (rm r b = x * 14 + y))) k))), (3, .int (nI y)), (2, .int (nI x)), (1, .int (nI A)), (0, .ref 98)] [] h := by
  intro j
  induction j with
  | zero =>
    intro k  hk 
    have hO : rd h 98 = some (.inr (9, [.int (nI n), .int (nI m), .ref 99, .ref 100, .ref 101, .int (nI a), .ref 102, .int (nI de), .ref 103, .ref 104, .ref 105, .int fo, .int as_, .int sm, .int sk, .ref 106, .ref 107, .ref 108, .int z, .ref 109, .ref 110, .ref 111, .int (nI am), .ref 112, .ref 113, .ref 114, .ref 115, .ref 116, .int (nI (bI ib)), .int iN, .int iM, .int iT, .ref 117, .ref 118, .ref 119])) := hO
    refine g_iload dX9_pairFaults_42 0 rfl ?_
    refine g_aload_n dX9_pairFaults_44 6 rfl ?_
    refine g_getf dX9_pairFaults_45 kX9 wfX9_7 (Nat.le_of_ble_eq_true rfl) (hO) rfl ?_
    refine g_icmp_geN 103 dX9_pairFaults_48 (by decide) (by omega) (by omega) (fun c48 => ?_) (fun z => absurd z (by omega))
    have ek : k = n := by omega
    subst ek
    exact K
  | succ j ih =>
    intro k  hk 
    have hO : rd h 98 = some (.inr (9, [.int (nI n), .int (nI m), .ref 99, .ref 100, .ref 101, .int (nI a), .ref 102, .int (nI de), .ref 103, .ref 104, .ref 105, .int fo, .int as_, .int sm, .int sk, .ref 106, .ref 107, .ref 108, .int z, .ref 109, .ref 110, .ref 111, .int (nI am), .ref 112, .ref 113, .ref 114, .ref 115, .ref 116, .int (nI (bI ib)), .int iN, .int iM, .int iT, .ref 117, .ref 118, .ref 119])) := hO
    refine g_iload dX9_pairFaults_42 0 rfl ?_
    refine g_aload_n dX9_pairFaults_44 6 rfl ?_
    refine g_getf dX9_pairFaults_45 kX9 wfX9_7 (Nat.le_of_ble_eq_true rfl) (hO) rfl ?_
    refine g_icmp_geN 103 dX9_pairFaults_48 (by decide) (by omega) (by omega) (fun z => absurd z (by omega)) (fun c48 => ?_)
    refine g_iload dX9_pairFaults_51 2 rfl ?_
    refine g_aload_n dX9_pairFaults_53 6 rfl ?_
    refine g_getf dX9_pairFaults_54 kX9 wfX9_17 (Nat.le_of_ble_eq_true rfl) (hO) rfl ?_
    refine g_aload_n dX9_pairFaults_57 6 rfl ?_
    refine g_iload dX9_pairFaults_58 1 rfl ?_
    refine g_iload dX9_pairFaults_60 0 rfl ?_
    refine g_callVp dX9_pairFaults_62 (ev_cAt (r) (k)) oX9_cellAt wiX9_cellAt weX9_cellAt wmX9_194 kX9 (hO) rfl ⟨(Nat.le_of_ble_eq_true rfl), (Nat.le_of_ble_eq_true rfl)⟩ ⟨Nat.zero_le _, Nat.zero_le _⟩ (Nat.le_of_ble_eq_true rfl) rfl ?_
    refine g_ialI dX9_pairFaults_65 (hR) (by omega) (by omega) ?_
    refine g_top (rRx vR (by omega) (by omega)) ?_
    refine g_iload_n dX9_pairFaults_66 4 rfl ?_
    refine g_icmp_ne 93 dX9_pairFaults_67 (by decide) (fun c67 => ?_) (fun c67 => ?_)
    · refine g_iconst (v := nI 0) dX9_pairFaults_93 (by decide +kernel) ?_
      refine g_iaddN dX9_pairFaults_94 ?_
      refine g_top (show nI ((T + sumN (fun b => bI (decide (rm r b = x * 14 + y))) k) + 0) = nI (T + sumN (fun b => bI (decide (rm r b = x * 14 + y))) (k + 1)) from congrArg nI (by show (T + sumN (fun b => bI (decide (rm r b = x * 14 + y))) k) + 0 = T + (sumN (fun b => bI (decide (rm r b = x * 14 + y))) k + bI (decide (rm r k = x * 14 + y))); rw [decide_eq_false (fun z => by have z2 := (code_iff (okC_lt n3 (k8 r k (by omega) (by omega))) hxy (show y ≤ 13 by omega)).mp z; first | exact c67 z2.1 | exact c86 z2.2)]; simp only [bI_t, bI_f]; omega)) ?_
      refine g_istore (ls' := [(4, .int (nI (T + sumN (fun b => bI (decide (rm r b = x * 14 + y))) (k + 1)))), (6, .int (nI k)), (5, .int (nI r)), (3, .int (nI y)), (2, .int (nI x)), (1, .int (nI A)), (0, .ref 98)]) dX9_pairFaults_95 (Nat.le_of_ble_eq_true rfl) rfl ?_
      refine g_iinc (q := 1) (v := nI (k + 1)) (ls' := [(6, .int (nI (k + 1))), (4, .int (nI (T + sumN (fun b => bI (decide (rm r b = x * 14 + y))) (k + 1)))), (5, .int (nI r)), (3, .int (nI y)), (2, .int (nI x)), (1, .int (nI A)), (0, .ref 98)]) dX9_pairFaults_97 rfl (inc1 _) (Nat.le_of_ble_eq_true rfl) rfl ?_
      refine g_goto 42 dX9_pairFaults_100 (by decide) ?_
      refine g_lsub_ (ls2 := [(6, .int (nI (k + 1))), (5, .int (nI r)), (4, .int (nI (T + sumN (fun b => bI (decide (rm r b = x * 14 + y))) (k + 1)))), (3, .int (nI y)), (2, .int (nI x)), (1, .int (nI A)), (0, .ref 98)]) [0, 2, 1, 3, 4, 5, 6] rfl ?_
      exact ih (k + 1) (by omega)
    · refine g_aload_n dX9_pairFaults_70 6 rfl ?_
      refine g_getf dX9_pairFaults_71 kX9 wfX9_17 (Nat.le_of_ble_eq_true rfl) (hO) rfl ?_
      refine g_aload_n dX9_pairFaults_74 6 rfl ?_
      refine g_iload dX9_pairFaults_75 1 rfl ?_
      refine g_iload dX9_pairFaults_77 0 rfl ?_
      refine g_callVp dX9_pairFaults_79 (ev_cAt (r) (k)) oX9_cellAt wiX9_cellAt weX9_cellAt wmX9_194 kX9 (hO) rfl ⟨(Nat.le_of_ble_eq_true rfl), (Nat.le_of_ble_eq_true rfl)⟩ ⟨Nat.zero_le _, Nat.zero_le _⟩ (Nat.le_of_ble_eq_true rfl) rfl ?_
      refine g_iconst (v := nI 1) dX9_pairFaults_82 (by decide +kernel) ?_
      refine g_iaddN dX9_pairFaults_83 ?_
      refine g_ialI dX9_pairFaults_84 (hR) (by omega) (by omega) ?_
      refine g_top (rRy vR (by omega) (by omega)) ?_
      refine g_iload_n dX9_pairFaults_85 3 rfl ?_
      refine g_icmp_ne 93 dX9_pairFaults_86 (by decide) (fun c86 => ?_) (fun c86 => ?_)
      · refine g_iconst (v := nI 0) dX9_pairFaults_93 (by decide +kernel) ?_
        refine g_iaddN dX9_pairFaults_94 ?_
        refine g_top (show nI ((T + sumN (fun b => bI (decide (rm r b = x * 14 + y))) k) + 0) = nI (T + sumN (fun b => bI (decide (rm r b = x * 14 + y))) (k + 1)) from congrArg nI (by show (T + sumN (fun b => bI (decide (rm r b = x * 14 + y))) k) + 0 = T + (sumN (fun b => bI (decide (rm r b = x * 14 + y))) k + bI (decide (rm r k = x * 14 + y))); rw [decide_eq_false (fun z => by have z2 := (code_iff (okC_lt n3 (k8 r k (by omega) (by omega))) hxy (show y ≤ 13 by omega)).mp z; first | exact c67 z2.1 | exact c86 z2.2)]; simp only [bI_t, bI_f]; omega)) ?_
        refine g_istore (ls' := [(4, .int (nI (T + sumN (fun b => bI (decide (rm r b = x * 14 + y))) (k + 1)))), (6, .int (nI k)), (5, .int (nI r)), (3, .int (nI y)), (2, .int (nI x)), (1, .int (nI A)), (0, .ref 98)]) dX9_pairFaults_95 (Nat.le_of_ble_eq_true rfl) rfl ?_
        refine g_iinc (q := 1) (v := nI (k + 1)) (ls' := [(6, .int (nI (k + 1))), (4, .int (nI (T + sumN (fun b => bI (decide (rm r b = x * 14 + y))) (k + 1)))), (5, .int (nI r)), (3, .int (nI y)), (2, .int (nI x)), (1, .int (nI A)), (0, .ref 98)]) dX9_pairFaults_97 rfl (inc1 _) (Nat.le_of_ble_eq_true rfl) rfl ?_
        refine g_goto 42 dX9_pairFaults_100 (by decide) ?_
        refine g_lsub_ (ls2 := [(6, .int (nI (k + 1))), (5, .int (nI r)), (4, .int (nI (T + sumN (fun b => bI (decide (rm r b = x * 14 + y))) (k + 1)))), (3, .int (nI y)), (2, .int (nI x)), (1, .int (nI A)), (0, .ref 98)]) [0, 2, 1, 3, 4, 5, 6] rfl ?_
        exact ih (k + 1) (by omega)
      · refine g_iconst (v := nI 1) dX9_pairFaults_89 (by decide +kernel) ?_
        refine g_goto 94 dX9_pairFaults_90 (by decide) ?_
        refine g_iaddN dX9_pairFaults_94 ?_
        refine g_top (show nI ((T + sumN (fun b => bI (decide (rm r b = x * 14 + y))) k) + 1) = nI (T + sumN (fun b => bI (decide (rm r b = x * 14 + y))) (k + 1)) from congrArg nI (by show (T + sumN (fun b => bI (decide (rm r b = x * 14 + y))) k) + 1 = T + (sumN (fun b => bI (decide (rm r b = x * 14 + y))) k + bI (decide (rm r k = x * 14 + y))); rw [decide_eq_true ((code_iff (okC_lt n3 (k8 r k (by omega) (by omega))) hxy (show y ≤ 13 by omega)).mpr ⟨c67, c86⟩)]; simp only [bI_t, bI_f]; omega)) ?_
        refine g_istore (ls' := [(4, .int (nI (T + sumN (fun b => bI (decide (rm r b = x * 14 + y))) (k + 1)))), (6, .int (nI k)), (5, .int (nI r)), (3, .int (nI y)), (2, .int (nI x)), (1, .int (nI A)), (0, .ref 98)]) dX9_pairFaults_95 (Nat.le_of_ble_eq_true rfl) rfl ?_
        refine g_iinc (q := 1) (v := nI (k + 1)) (ls' := [(6, .int (nI (k + 1))), (4, .int (nI (T + sumN (fun b => bI (decide (rm r b = x * 14 + y))) (k + 1)))), (5, .int (nI r)), (3, .int (nI y)), (2, .int (nI x)), (1, .int (nI A)), (0, .ref 98)]) dX9_pairFaults_97 rfl (inc1 _) (Nat.le_of_ble_eq_true rfl) rfl ?_
        refine g_goto 42 dX9_pairFaults_100 (by decide) ?_
        refine g_lsub_ (ls2 := [(6, .int (nI (k + 1))), (5, .int (nI r)), (4, .int (nI (T + sumN (fun b => bI (decide (rm r b = x * 14 + y))) (k + 1)))), (3, .int (nI y)), (2, .int (nI x)), (1, .int (nI A)), (0, .ref 98)]) [0, 2, 1, 3, 4, 5, 6] rfl ?_
        exact ih (k + 1) (by omega)

set_option maxRecDepth 100000 in
set_option maxHeartbeats 4000000 in
theorem lp_mpf5 {h : List aC} {P : Option Value → List aC → Prop} {n m a de : Nat} {fo as_ sm sk z : Int32} {am : Nat} {ib : Bool} {iN iM iT : Int32} (hO : MO h n m a de fo as_ sm sk z am ib iN iM iT) {Ro : List Int32} (hR : rd h 100 = some (.inl Ro)) (lR : Ro.length = 338) {rm : Nat → Nat → Nat} (vR : rR Ro 0 rm) (n3 : n ≤ 13) (k8 : ∀ a b, a < n → b < n → okC n (rm a b)) {x y A : Nat} (hxy : x < y) (hy : y ≤ n) (K : G mX9_pairFaults (rmD 2 0 0) none P 0 0 109 [(5, .int (nI n)), (4, .int (nI (sumN (fun a => sumN (fun b => bI (decide (rm a b = x * 14 + y))) n) n))), (3, .int (nI y)), (2, .int (nI x)), (1, .int (nI A)), (0, .ref 98)] [] h) : ∀ j k , k + j = n → G mX9_pairFaults (rmD 2 0 0) none P 0 0 30 [(5, .int (nI k)), (4, .int (nI (sumN (fun a => sumN (fun b => bI (decide (rm a b = x * 14 + y))) n) k))), (3, .int (nI y)), (2, .int (nI x)), (1, .int (nI A)), (0, .ref 98)] [] h := by
  intro j
  induction j with
  | zero =>
    intro k  hk 
    have hO : rd h 98 = some (.inr (9, [.int (nI n), .int (nI m), .ref 99, .ref 100, .ref 101, .int (nI a), .ref 102, .int (nI de), .ref 103, .ref 104, .ref 105, .int fo, .int as_, .int sm, .int sk, .ref 106, .ref 107, .ref 108, .int z, .ref 109, .ref 110, .ref 111, .int (nI am), .ref 112, .ref 113, .ref 114, .ref 115, .ref 116, .int (nI (bI ib)), .int iN, .int iM, .int iT, .ref 117, .ref 118, .ref 119])) := hO
    refine g_iload dX9_pairFaults_30 0 rfl ?_
    refine g_aload_n dX9_pairFaults_32 5 rfl ?_
    refine g_getf dX9_pairFaults_33 kX9 wfX9_7 (Nat.le_of_ble_eq_true rfl) (hO) rfl ?_
    refine g_icmp_geN 109 dX9_pairFaults_36 (by decide) (by omega) (by omega) (fun c36 => ?_) (fun z => absurd z (by omega))
    have ek : k = n := by omega
    subst ek
    exact K
  | succ j ih =>
    intro k  hk 
    have hO : rd h 98 = some (.inr (9, [.int (nI n), .int (nI m), .ref 99, .ref 100, .ref 101, .int (nI a), .ref 102, .int (nI de), .ref 103, .ref 104, .ref 105, .int fo, .int as_, .int sm, .int sk, .ref 106, .ref 107, .ref 108, .int z, .ref 109, .ref 110, .ref 111, .int (nI am), .ref 112, .ref 113, .ref 114, .ref 115, .ref 116, .int (nI (bI ib)), .int iN, .int iM, .int iT, .ref 117, .ref 118, .ref 119])) := hO
    refine g_iload dX9_pairFaults_30 0 rfl ?_
    refine g_aload_n dX9_pairFaults_32 5 rfl ?_
    refine g_getf dX9_pairFaults_33 kX9 wfX9_7 (Nat.le_of_ble_eq_true rfl) (hO) rfl ?_
    refine g_icmp_geN 109 dX9_pairFaults_36 (by decide) (by omega) (by omega) (fun z => absurd z (by omega)) (fun c36 => ?_)
    refine g_iconst (v := nI 0) dX9_pairFaults_39 (by decide +kernel) ?_
    refine g_istore (ls' := [(6, .int (nI 0)), (5, .int (nI k)), (4, .int (nI (sumN (fun a => sumN (fun b => bI (decide (rm a b = x * 14 + y))) n) k))), (3, .int (nI y)), (2, .int (nI x)), (1, .int (nI A)), (0, .ref 98)]) dX9_pairFaults_40 (Nat.le_of_ble_eq_true rfl) rfl ?_
    refine lp_mpf6 hO hR lR vR n3 k8 hxy hy k (sumN (fun a => sumN (fun b => bI (decide (rm a b = x * 14 + y))) n) k) (by omega) ?_ n 0 (by omega)
    show G mX9_pairFaults (rmD 2 0 0) none P 0 0 103 [(6, .int (nI n)), (5, .int (nI k)), (4, .int (nI (sumN (fun a => sumN (fun b => bI (decide (rm a b = x * 14 + y))) n) (k + 1)))), (3, .int (nI y)), (2, .int (nI x)), (1, .int (nI A)), (0, .ref 98)] [] h
    refine g_iinc (q := 1) (v := nI (k + 1)) (ls' := [(5, .int (nI (k + 1))), (6, .int (nI n)), (4, .int (nI (sumN (fun a => sumN (fun b => bI (decide (rm a b = x * 14 + y))) n) (k + 1)))), (3, .int (nI y)), (2, .int (nI x)), (1, .int (nI A)), (0, .ref 98)]) dX9_pairFaults_103 rfl (inc1 _) (Nat.le_of_ble_eq_true rfl) rfl ?_
    refine g_goto 30 dX9_pairFaults_106 (by decide) ?_
    refine g_lsub_ (ls2 := [(5, .int (nI (k + 1))), (4, .int (nI (sumN (fun a => sumN (fun b => bI (decide (rm a b = x * 14 + y))) n) (k + 1)))), (3, .int (nI y)), (2, .int (nI x)), (1, .int (nI A)), (0, .ref 98)]) [0, 2, 3, 4, 5, 6] rfl ?_
    exact ih (k + 1) (by omega)

set_option maxRecDepth 100000 in
set_option maxHeartbeats 4000000 in
theorem lp_mpf3 {h : List aC} {P : Option Value → List aC → Prop} {n m a de : Nat} {fo as_ sm sk z : Int32} {am : Nat} {ib : Bool} {iN iM iT : Int32} (hO : MO h n m a de fo as_ sm sk z am ib iN iM iT) {Ro : List Int32} (hR : rd h 100 = some (.inl Ro)) (lR : Ro.length = 338) {rm : Nat → Nat → Nat} (vR : rR Ro 0 rm) (n3 : n ≤ 13) (k8 : ∀ a b, a < n → b < n → okC n (rm a b)) (h3 : 3 ≤ n) {x A : Nat} (hx : x ≤ n) (hA : A ≤ 1000) (K : G mX9_pairFaults (rmD 2 0 0) none P 0 0 129 [(3, .int (nI (x + 1 + (n - x)))), (2, .int (nI x)), (1, .int (nI (A + sumN (fun t => bI (decide (cntR n rm (x * 14 + (x + 1 + t)) ≠ 1))) (n - x)))), (0, .ref 98)] [] h) : ∀ j k , k + j = n - x → G mX9_pairFaults (rmD 2 0 0) none P 0 0 16 [(3, .int (nI (x + 1 + k))), (2, .int (nI x)), (1, .int (nI (A + sumN (fun t => bI (decide (cntR n rm (x * 14 + (x + 1 + t)) ≠ 1))) k))), (0, .ref 98)] [] h := by
  intro j
  induction j with
  | zero =>
    intro k  hk 
    have hO : rd h 98 = some (.inr (9, [.int (nI n), .int (nI m), .ref 99, .ref 100, .ref 101, .int (nI a), .ref 102, .int (nI de), .ref 103, .ref 104, .ref 105, .int fo, .int as_, .int sm, .int sk, .ref 106, .ref 107, .ref 108, .int z, .ref 109, .ref 110, .ref 111, .int (nI am), .ref 112, .ref 113, .ref 114, .ref 115, .ref 116, .int (nI (bI ib)), .int iN, .int iM, .int iT, .ref 117, .ref 118, .ref 119])) := hO
    refine g_iload_n dX9_pairFaults_16 0 rfl ?_
    refine g_aload_n dX9_pairFaults_17 3 rfl ?_
    refine g_getf dX9_pairFaults_18 kX9 wfX9_7 (Nat.le_of_ble_eq_true rfl) (hO) rfl ?_
    refine g_icmp_gtN 129 dX9_pairFaults_21 (by decide) (by omega) (by omega) (fun c21 => ?_) (fun z => absurd z (by omega))
    have ek : k = n - x := by omega
    subst ek
    exact K
  | succ j ih =>
    intro k  hk 
    have hO : rd h 98 = some (.inr (9, [.int (nI n), .int (nI m), .ref 99, .ref 100, .ref 101, .int (nI a), .ref 102, .int (nI de), .ref 103, .ref 104, .ref 105, .int fo, .int as_, .int sm, .int sk, .ref 106, .ref 107, .ref 108, .int z, .ref 109, .ref 110, .ref 111, .int (nI am), .ref 112, .ref 113, .ref 114, .ref 115, .ref 116, .int (nI (bI ib)), .int iN, .int iM, .int iT, .ref 117, .ref 118, .ref 119])) := hO
    have cb : cntR n rm (x * 14 + (x + 1 + k)) ≤ 169 := by rw [cntR_rows (by omega)]; exact Nat.le_trans (sumN_le 13 n (fun a ha => Nat.le_trans (sumN_le 1 n (fun b hb => bIle _)) (by omega))) (by omega)
    refine g_iload_n dX9_pairFaults_16 0 rfl ?_
    refine g_aload_n dX9_pairFaults_17 3 rfl ?_
    refine g_getf dX9_pairFaults_18 kX9 wfX9_7 (Nat.le_of_ble_eq_true rfl) (hO) rfl ?_
    refine g_icmp_gtN 129 dX9_pairFaults_21 (by decide) (by omega) (by omega) (fun z => absurd z (by omega)) (fun c21 => ?_)
    refine g_iconst (v := nI 0) dX9_pairFaults_24 (by decide +kernel) ?_
    refine g_istore (ls' := [(4, .int (nI 0)), (3, .int (nI (x + 1 + k))), (2, .int (nI x)), (1, .int (nI (A + sumN (fun t => bI (decide (cntR n rm (x * 14 + (x + 1 + t)) ≠ 1))) k))), (0, .ref 98)]) dX9_pairFaults_25 (Nat.le_of_ble_eq_true rfl) rfl ?_
    refine g_iconst (v := nI 0) dX9_pairFaults_27 (by decide +kernel) ?_
    refine g_istore (ls' := [(5, .int (nI 0)), (4, .int (nI 0)), (3, .int (nI (x + 1 + k))), (2, .int (nI x)), (1, .int (nI (A + sumN (fun t => bI (decide (cntR n rm (x * 14 + (x + 1 + t)) ≠ 1))) k))), (0, .ref 98)]) dX9_pairFaults_28 (Nat.le_of_ble_eq_true rfl) rfl ?_
    refine lp_mpf5 (x := x) (y := x + 1 + k) hO hR lR vR n3 k8 (by omega) (by omega) ?_ n 0 (by omega)
    rw [← cntR_rows (by omega)]
    refine g_iload_n dX9_pairFaults_109 4 rfl ?_
    refine g_iload dX9_pairFaults_110 1 rfl ?_
    refine g_iconst (v := nI 1) dX9_pairFaults_112 (by decide +kernel) ?_
    refine g_icmp_neN 120 dX9_pairFaults_113 (by decide) (by omega) (by omega) (fun c113 => ?_) (fun c113 => ?_)
    · refine g_iconst (v := nI 1) dX9_pairFaults_120 (by decide +kernel) ?_
      refine g_iaddN dX9_pairFaults_121 ?_
      refine g_top (show nI ((A + sumN (fun t => bI (decide (cntR n rm (x * 14 + (x + 1 + t)) ≠ 1))) k) + 1) = nI (A + sumN (fun t => bI (decide (cntR n rm (x * 14 + (x + 1 + t)) ≠ 1))) (k + 1)) from congrArg nI (by show (A + sumN (fun t => bI (decide (cntR n rm (x * 14 + (x + 1 + t)) ≠ 1))) k) + 1 = A + (sumN (fun t => bI (decide (cntR n rm (x * 14 + (x + 1 + t)) ≠ 1))) k + bI (decide (cntR n rm (x * 14 + (x + 1 + k)) ≠ 1))); rw [decide_eq_true c113]; simp only [bI_t, bI_f]; omega)) ?_
      refine g_istore_n (ls' := [(1, .int (nI (A + sumN (fun t => bI (decide (cntR n rm (x * 14 + (x + 1 + t)) ≠ 1))) (k + 1)))), (5, .int (nI n)), (4, .int (nI (cntR n rm (x * 14 + (x + 1 + k))))), (3, .int (nI (x + 1 + k))), (2, .int (nI x)), (0, .ref 98)]) dX9_pairFaults_122 (Nat.le_of_ble_eq_true rfl) rfl ?_
      refine g_iinc (q := 3) (v := nI (x + 1 + (k + 1))) (ls' := [(3, .int (nI (x + 1 + (k + 1)))), (1, .int (nI (A + sumN (fun t => bI (decide (cntR n rm (x * 14 + (x + 1 + t)) ≠ 1))) (k + 1)))), (5, .int (nI n)), (4, .int (nI (cntR n rm (x * 14 + (x + 1 + k))))), (2, .int (nI x)), (0, .ref 98)]) dX9_pairFaults_123 rfl (inc1 _) (Nat.le_of_ble_eq_true rfl) rfl ?_
      refine g_goto 16 dX9_pairFaults_126 (by decide) ?_
      refine g_lsub_ (ls2 := [(3, .int (nI (x + 1 + (k + 1)))), (2, .int (nI x)), (1, .int (nI (A + sumN (fun t => bI (decide (cntR n rm (x * 14 + (x + 1 + t)) ≠ 1))) (k + 1)))), (0, .ref 98)]) [0, 4, 1, 5] rfl ?_
      exact ih (k + 1) (by omega)
    · refine g_iconst (v := nI 0) dX9_pairFaults_116 (by decide +kernel) ?_
      refine g_goto 121 dX9_pairFaults_117 (by decide) ?_
      refine g_iaddN dX9_pairFaults_121 ?_
      refine g_top (show nI ((A + sumN (fun t => bI (decide (cntR n rm (x * 14 + (x + 1 + t)) ≠ 1))) k) + 0) = nI (A + sumN (fun t => bI (decide (cntR n rm (x * 14 + (x + 1 + t)) ≠ 1))) (k + 1)) from congrArg nI (by show (A + sumN (fun t => bI (decide (cntR n rm (x * 14 + (x + 1 + t)) ≠ 1))) k) + 0 = A + (sumN (fun t => bI (decide (cntR n rm (x * 14 + (x + 1 + t)) ≠ 1))) k + bI (decide (cntR n rm (x * 14 + (x + 1 + k)) ≠ 1))); rw [decide_eq_false (show ¬ (cntR n rm (x * 14 + (x + 1 + k)) ≠ 1) from not_not_intro c113)]; simp only [bI_t, bI_f]; omega)) ?_
      refine g_istore_n (ls' := [(1, .int (nI (A + sumN (fun t => bI (decide (cntR n rm (x * 14 + (x + 1 + t)) ≠ 1))) (k + 1)))), (5, .int (nI n)), (4, .int (nI (cntR n rm (x * 14 + (x + 1 + k))))), (3, .int (nI (x + 1 + k))), (2, .int (nI x)), (0, .ref 98)]) dX9_pairFaults_122 (Nat.le_of_ble_eq_true rfl) rfl ?_
      refine g_iinc (q := 3) (v := nI (x + 1 + (k + 1))) (ls' := [(3, .int (nI (x + 1 + (k + 1)))), (1, .int (nI (A + sumN (fun t => bI (decide (cntR n rm (x * 14 + (x + 1 + t)) ≠ 1))) (k + 1)))), (5, .int (nI n)), (4, .int (nI (cntR n rm (x * 14 + (x + 1 + k))))), (2, .int (nI x)), (0, .ref 98)]) dX9_pairFaults_123 rfl (inc1 _) (Nat.le_of_ble_eq_true rfl) rfl ?_
      refine g_goto 16 dX9_pairFaults_126 (by decide) ?_
      refine g_lsub_ (ls2 := [(3, .int (nI (x + 1 + (k + 1)))), (2, .int (nI x)), (1, .int (nI (A + sumN (fun t => bI (decide (cntR n rm (x * 14 + (x + 1 + t)) ≠ 1))) (k + 1)))), (0, .ref 98)]) [0, 4, 1, 5] rfl ?_
      exact ih (k + 1) (by omega)

set_option maxRecDepth 100000 in
set_option maxHeartbeats 4000000 in
theorem lp_mpf2 {h : List aC} {n m a de : Nat} {fo as_ sm sk z : Int32} {am : Nat} {ib : Bool} {iN iM iT : Int32} (hO : MO h n m a de fo as_ sm sk z am ib iN iM iT) {Ro : List Int32} (hR : rd h 100 = some (.inl Ro)) (lR : Ro.length = 338) {rm : Nat → Nat → Nat} (vR : rR Ro 0 rm) (n3 : n ≤ 13) (k8 : ∀ a b, a < n → b < n → okC n (rm a b)) (h3 : 3 ≤ n) : ∀ j k , k + j = n + 1 → G mX9_pairFaults (rmD 2 0 0) none (pv (.int (nI (pfM n rm))) h) 0 0 4 [(2, .int (nI k)), (1, .int (nI (sumN (fun x => sumN (fun t => bI (decide (cntR n rm (x * 14 + (x + 1 + t)) ≠ 1))) (n - x)) k))), (0, .ref 98)] [] h := by
  intro j
  induction j with
  | zero =>
    intro k  hk 
    have hO : rd h 98 = some (.inr (9, [.int (nI n), .int (nI m), .ref 99, .ref 100, .ref 101, .int (nI a), .ref 102, .int (nI de), .ref 103, .ref 104, .ref 105, .int fo, .int as_, .int sm, .int sk, .ref 106, .ref 107, .ref 108, .int z, .ref 109, .ref 110, .ref 111, .int (nI am), .ref 112, .ref 113, .ref 114, .ref 115, .ref 116, .int (nI (bI ib)), .int iN, .int iM, .int iT, .ref 117, .ref 118, .ref 119])) := hO
    refine g_iload_n dX9_pairFaults_4 0 rfl ?_
    refine g_aload_n dX9_pairFaults_5 2 rfl ?_
    refine g_getf dX9_pairFaults_6 kX9 wfX9_7 (Nat.le_of_ble_eq_true rfl) (hO) rfl ?_
    refine g_icmp_gtN 135 dX9_pairFaults_9 (by decide) (by omega) (by omega) (fun c9 => ?_) (fun z => absurd z (by omega))
    refine g_iload_n dX9_pairFaults_135 1 rfl ?_
    exact g_iret dX9_pairFaults_136 rfl ⟨Nat.zero_le _, Nat.zero_le _⟩ (⟨by rw [show k = n + 1 by omega]; rfl, rfl⟩)
  | succ j ih =>
    intro k  hk 
    have hO : rd h 98 = some (.inr (9, [.int (nI n), .int (nI m), .ref 99, .ref 100, .ref 101, .int (nI a), .ref 102, .int (nI de), .ref 103, .ref 104, .ref 105, .int fo, .int as_, .int sm, .int sk, .ref 106, .ref 107, .ref 108, .int z, .ref 109, .ref 110, .ref 111, .int (nI am), .ref 112, .ref 113, .ref 114, .ref 115, .ref 116, .int (nI (bI ib)), .int iN, .int iM, .int iT, .ref 117, .ref 118, .ref 119])) := hO
    have lb : sumN (fun x => sumN (fun t => bI (decide (cntR n rm (x * 14 + (x + 1 + t)) ≠ 1))) (n - x)) k ≤ k * 13 := sumN_le 13 k (fun x hx => Nat.le_trans (sumN_le 1 (n - x) (fun b hb => bIle _)) (by omega))
    refine g_iload_n dX9_pairFaults_4 0 rfl ?_
    refine g_aload_n dX9_pairFaults_5 2 rfl ?_
    refine g_getf dX9_pairFaults_6 kX9 wfX9_7 (Nat.le_of_ble_eq_true rfl) (hO) rfl ?_
    refine g_icmp_gtN 135 dX9_pairFaults_9 (by decide) (by omega) (by omega) (fun z => absurd z (by omega)) (fun c9 => ?_)
    refine g_iload_n dX9_pairFaults_12 0 rfl ?_
    refine g_iconst (v := nI 1) dX9_pairFaults_13 (by decide +kernel) ?_
    refine g_iaddN dX9_pairFaults_14 ?_
    refine g_istore_n (ls' := [(3, .int (nI (k + 1))), (2, .int (nI k)), (1, .int (nI (sumN (fun x => sumN (fun t => bI (decide (cntR n rm (x * 14 + (x + 1 + t)) ≠ 1))) (n - x)) k))), (0, .ref 98)]) dX9_pairFaults_15 (Nat.le_of_ble_eq_true rfl) rfl ?_
    refine lp_mpf3 hO hR lR vR n3 k8 h3 (x := k) (A := sumN (fun x => sumN (fun t => bI (decide (cntR n rm (x * 14 + (x + 1 + t)) ≠ 1))) (n - x)) k) (by omega) (by omega) ?_ (n - k) 0 (by omega)
    show G mX9_pairFaults (rmD 2 0 0) none (pv (.int (nI (pfM n rm))) h) 0 0 129 [(3, .int (nI (k + 1 + (n - k)))), (2, .int (nI k)), (1, .int (nI (sumN (fun x => sumN (fun t => bI (decide (cntR n rm (x * 14 + (x + 1 + t)) ≠ 1))) (n - x)) (k + 1)))), (0, .ref 98)] [] h
    refine g_iinc (q := 1) (v := nI (k + 1)) (ls' := [(2, .int (nI (k + 1))), (3, .int (nI (k + 1 + (n - k)))), (1, .int (nI (sumN (fun x => sumN (fun t => bI (decide (cntR n rm (x * 14 + (x + 1 + t)) ≠ 1))) (n - x)) (k + 1)))), (0, .ref 98)]) dX9_pairFaults_129 rfl (inc1 _) (Nat.le_of_ble_eq_true rfl) rfl ?_
    refine g_goto 4 dX9_pairFaults_132 (by decide) ?_
    refine g_lsub_ (ls2 := [(2, .int (nI (k + 1))), (1, .int (nI (sumN (fun x => sumN (fun t => bI (decide (cntR n rm (x * 14 + (x + 1 + t)) ≠ 1))) (n - x)) (k + 1)))), (0, .ref 98)]) [0, 2, 3] rfl ?_
    exact ih (k + 1) (by omega)

set_option maxRecDepth 100000 in
set_option maxHeartbeats 4000000 in
theorem ev_mpf {h : List aC} {n m a de : Nat} {fo as_ sm sk z : Int32} {am : Nat} {ib : Bool} {iN iM iT : Int32} (hO : MO h n m a de fo as_ sm sk z am ib iN iM iT) {Ro : List Int32} (hR : rd h 100 = some (.inl Ro)) (lR : Ro.length = 338) {rm : Nat → Nat → Nat} (vR : rR Ro 0 rm) (n3 : n ≤ 13) (k8 : ∀ a b, a < n → b < n → okC n (rm a b)) (h3 : 3 ≤ n) : Ev mX9_pairFaults 2 0 0 [.ref 98] h (pv (.int (nI (pfM n rm))) h) := by
  refine Ev.of pX9_pairFaults (Nat.le_of_ble_eq_true rfl) ?_
  show G mX9_pairFaults (rmD 2 0 0) none _ 0 0 0 [(0, .ref 98)] [] h
  refine g_iconst (v := nI 0) dX9_pairFaults_0 (by decide +kernel) ?_
  refine g_istore_n (ls' := [(1, .int (nI 0)), (0, .ref 98)]) dX9_pairFaults_1 (Nat.le_of_ble_eq_true rfl) rfl ?_
  refine g_iconst (v := nI 0) dX9_pairFaults_2 (by decide +kernel) ?_
  refine g_istore_n (ls' := [(2, .int (nI 0)), (1, .int (nI 0)), (0, .ref 98)]) dX9_pairFaults_3 (Nat.le_of_ble_eq_true rfl) rfl ?_
  exact lp_mpf2 hO hR lR vR n3 k8 h3 (n + 1) 0 (by omega)
