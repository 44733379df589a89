def isSt (n m : Nat) (F S : List Nat) : Bool := decide (m = (n - 1) / 2 ∧ nBits F S m = 2 ^ n - 2 ∧ dBits n F S m = 2 ^ n - 2)
def stS (n m : Nat) (F S : List Nat) : Bool := decide (sBits n F S m &&& 1 = 0 ∧ popN (sBits n F S m) 14 = m)
def skS (n m : Nat) (F S : List Nat) : Bool := decide (∀ k, k < m → sBits n F S m / 2 ^ ((n - (F.getD k 0 + S.getD k 0) % n) % n) &&& 1 = 0)
def uBits (A : List Nat) : Nat → Nat
  | 0 => 0
  | k + 1 => uBits A k ||| 2 ^ A.getD k 0
def hBits (n : Nat) (F S A : List Nat) : Nat → Nat
  | 0 => 0
  | k + 1 => (hBits n F S A k ||| 2 ^ ((F.getD k 0 + A.getD k 0) % n)) ||| 2 ^ ((S.getD k 0 + A.getD k 0) % n)
def adS (n m : Nat) (F S A : List Nat) : Bool := decide (isSt n m F S = true ∧ uBits A m &&& 1 = 0 ∧ popN (uBits A m) 14 = m ∧ hBits n F S A m = 2 ^ n - 2)
theorem pvB {p : Prop} [Decidable p] {h : List aC} (e : p) : pv (.int (nI (bI (decide p)))) h (some (.int (nI 1))) h := pvT (decide_eq_true e)
theorem pvN {p : Prop} [Decidable p] {h : List aC} (e : ¬ p) : pv (.int (nI (bI (decide p)))) h (some (.int (nI 0))) h := pvF (decide_eq_false e)
theorem popN_le (x : Nat) : ∀ k, popN x k ≤ k
  | 0 => Nat.le_refl 0
  | k + 1 => by
    have := popN_le x k
    show popN x k + x / 2 ^ k % 2 ≤ k + 1
    omega
theorem pw13 {n : Nat} (h0 : 0 < n) (hn : n ≤ 13) : 2 ≤ 2 ^ n ∧ 2 ^ n ≤ 2 ^ 13 := ⟨Nat.pow_le_pow_right (n := 2) (i := 1) (by decide) h0, Nat.pow_le_pow_right (by decide) hn⟩
theorem fm_ng' : ∀ n, n < 14 → ∀ a, a < 26 → 0 < n → fm (-nI a) n = (n - a % n) % n := by decide +kernel
theorem fm_ng {a n : Nat} (ha : a < 26) (hn : n < 14) (h0 : 0 < n) : fm (-nI a) n = (n - a % n) % n := fm_ng' n hn a ha h0

set_option maxRecDepth 100000 in
set_option maxHeartbeats 4000000 in
theorem ev_lesserDifference {h : List aC} {p n m : Nat} {F S A : List Nat} (hP : PA h p n m F S A) (hn : 0 < n ∧ n ≤ 13) (j : Nat) (hj : j < 6) (hF : F.getD j 0 < n) (hS : S.getD j 0 < n) : Ev mX3_lesserDifference 3 0 0 [.ref p, .int (nI j)] h (pv (.int (nI (min ((F.getD j 0 + n - S.getD j 0) % n) (n - (F.getD j 0 + n - S.getD j 0) % n)))) h) := by
  obtain ⟨-, -, -, -, lF, lS, lA⟩ := id hP
  have hz := Nat.mod_lt (F.getD j 0 + n - S.getD j 0) (y := n) (by omega)
  refine Ev.of pX3_lesserDifference (Nat.le_of_ble_eq_true rfl) ?_
  show G mX3_lesserDifference (rmD 3 0 0) none _ 0 0 0 [(0, .ref p), (1, .int (nI j))] [] h
  refine g_aload_n dX3_lesserDifference_0 0 rfl ?_
  refine g_getf dX3_lesserDifference_1 kX3 wfX3_9 (Nat.le_of_ble_eq_true rfl) (hP.1) rfl ?_
  refine g_iload_n dX3_lesserDifference_4 1 rfl ?_
  refine g_ialN dX3_lesserDifference_5 (hP.2.1) (by omega) (by omega) ?_
  refine g_aload_n dX3_lesserDifference_6 0 rfl ?_
  refine g_getf dX3_lesserDifference_7 kX3 wfX3_15 (Nat.le_of_ble_eq_true rfl) (hP.1) rfl ?_
  refine g_iload_n dX3_lesserDifference_10 1 rfl ?_
  refine g_ialN dX3_lesserDifference_11 (hP.2.2.1) (by omega) (by omega) ?_
  refine g_isub dX3_lesserDifference_12 ?_
  refine g_aload_n dX3_lesserDifference_13 0 rfl ?_
  refine g_getf dX3_lesserDifference_14 kX3 wfX3_21 (Nat.le_of_ble_eq_true rfl) (hP.1) rfl ?_
  refine g_callSNp dX3_lesserDifference_17 (ev_wrapS ((F).getD j 0) ((S).getD j 0) (n) (by omega) (by omega) (by omega) (by omega) _) oX8_wrap wsX8_wrap wqX3_46 rfl ⟨(Nat.le_of_ble_eq_true rfl), (Nat.le_of_ble_eq_true rfl)⟩ ⟨Nat.zero_le _, Nat.zero_le _⟩ (Nat.le_of_ble_eq_true rfl) rfl ?_
  refine g_istore_n (ls' := [(2, .int (nI ((((F).getD j 0) + n - ((S).getD j 0)) % n))), (0, .ref p), (1, .int (nI j))]) dX3_lesserDifference_20 (Nat.le_of_ble_eq_true rfl) rfl ?_
  refine g_iload_n dX3_lesserDifference_21 0 rfl ?_
  refine g_aload_n dX3_lesserDifference_22 1 rfl ?_
  refine g_getf dX3_lesserDifference_23 kX3 wfX3_21 (Nat.le_of_ble_eq_true rfl) (hP.1) rfl ?_
  refine g_iload_n dX3_lesserDifference_26 0 rfl ?_
  refine g_isubN dX3_lesserDifference_27 (by omega) ?_
  refine g_callSp dX3_lesserDifference_28 (ev_min ((((F).getD j 0) + n - ((S).getD j 0)) % n) (n - ((((F).getD j 0) + n - ((S).getD j 0)) % n)) (by omega) (by omega) _) oJ9_min_7cf53 wsJ9_min_7cf53 wmX3_54 rfl ⟨(Nat.le_of_ble_eq_true rfl), (Nat.le_of_ble_eq_true rfl)⟩ ⟨Nat.zero_le _, Nat.zero_le _⟩ (Nat.le_of_ble_eq_true rfl) rfl ?_
  exact g_iret dX3_lesserDifference_31 rfl ⟨Nat.zero_le _, Nat.zero_le _⟩ (⟨rfl, rfl⟩)

set_option maxRecDepth 100000 in
set_option maxHeartbeats 4000000 in
theorem ev_told_0 {h : List aC} {p n m : Nat} {F S A : List Nat} (hP : PA h p n m F S A) (hn : 0 < n ∧ n ≤ 13) (j : Nat) (hj : j < 6) (hF : F.getD j 0 < n) (hS : S.getD j 0 < n) : Ev mX3_told 4 0 0 [.ref p, .int (nI j), .int (nI 0)] h (pv (.int (nI (F.getD j 0))) h) := by
  obtain ⟨-, -, -, -, lF, lS, lA⟩ := id hP
  refine Ev.of pX3_told (Nat.le_of_ble_eq_true rfl) ?_
  show G mX3_told (rmD 4 0 0) none _ 0 0 0 [(0, .ref p), (1, .int (nI j)), (2, .int (nI 0))] [] h
  refine g_iload_n dX3_told_0 2 rfl ?_
  refine g_tableIn 32 dX3_told_1 (by decide +kernel) (by decide +kernel) (off := 31) (by decide +kernel) (by decide) ?_
  refine g_aload_n dX3_told_32 0 rfl ?_
  refine g_getf dX3_told_33 kX3 wfX3_9 (Nat.le_of_ble_eq_true rfl) (hP.1) rfl ?_
  refine g_iload_n dX3_told_36 1 rfl ?_
  refine g_ialN dX3_told_37 (hP.2.1) (by omega) (by omega) ?_
  exact g_iret dX3_told_38 rfl ⟨Nat.zero_le _, Nat.zero_le _⟩ (⟨rfl, rfl⟩)

set_option maxRecDepth 100000 in
set_option maxHeartbeats 4000000 in
theorem ev_told_1 {h : List aC} {p n m : Nat} {F S A : List Nat} (hP : PA h p n m F S A) (hn : 0 < n ∧ n ≤ 13) (j : Nat) (hj : j < 6) (hF : F.getD j 0 < n) (hS : S.getD j 0 < n) : Ev mX3_told 4 0 0 [.ref p, .int (nI j), .int (nI 1)] h (pv (.int (nI (S.getD j 0))) h) := by
  obtain ⟨-, -, -, -, lF, lS, lA⟩ := id hP
  refine Ev.of pX3_told (Nat.le_of_ble_eq_true rfl) ?_
  show G mX3_told (rmD 4 0 0) none _ 0 0 0 [(0, .ref p), (1, .int (nI j)), (2, .int (nI 1))] [] h
  refine g_iload_n dX3_told_0 2 rfl ?_
  refine g_tableIn 39 dX3_told_1 (by decide +kernel) (by decide +kernel) (off := 38) (by decide +kernel) (by decide) ?_
  refine g_aload_n dX3_told_39 0 rfl ?_
  refine g_getf dX3_told_40 kX3 wfX3_15 (Nat.le_of_ble_eq_true rfl) (hP.1) rfl ?_
  refine g_iload_n dX3_told_43 1 rfl ?_
  refine g_ialN dX3_told_44 (hP.2.2.1) (by omega) (by omega) ?_
  exact g_iret dX3_told_45 rfl ⟨Nat.zero_le _, Nat.zero_le _⟩ (⟨rfl, rfl⟩)

set_option maxRecDepth 100000 in
set_option maxHeartbeats 4000000 in
theorem ev_told_2 {h : List aC} {p n m : Nat} {F S A : List Nat} (hP : PA h p n m F S A) (hn : 0 < n ∧ n ≤ 13) (j : Nat) (hj : j < 6) (hF : F.getD j 0 < n) (hS : S.getD j 0 < n) : Ev mX3_told 4 0 0 [.ref p, .int (nI j), .int (nI 2)] h (pv (.int (nI (A.getD j 0))) h) := by
  obtain ⟨-, -, -, -, lF, lS, lA⟩ := id hP
  refine Ev.of pX3_told (Nat.le_of_ble_eq_true rfl) ?_
  show G mX3_told (rmD 4 0 0) none _ 0 0 0 [(0, .ref p), (1, .int (nI j)), (2, .int (nI 2))] [] h
  refine g_iload_n dX3_told_0 2 rfl ?_
  refine g_tableIn 46 dX3_told_1 (by decide +kernel) (by decide +kernel) (off := 45) (by decide +kernel) (by decide) ?_
  refine g_aload_n dX3_told_46 0 rfl ?_
  refine g_getf dX3_told_47 kX3 wfX3_18 (Nat.le_of_ble_eq_true rfl) (hP.1) rfl ?_
  refine g_iload_n dX3_told_50 1 rfl ?_
  refine g_ialN dX3_told_51 (hP.2.2.2.1) (by omega) (by omega) ?_
  exact g_iret dX3_told_52 rfl ⟨Nat.zero_le _, Nat.zero_le _⟩ (⟨rfl, rfl⟩)

set_option maxRecDepth 100000 in
set_option maxHeartbeats 4000000 in
theorem ev_told_3 {h : List aC} {p n m : Nat} {F S A : List Nat} (hP : PA h p n m F S A) (hn : 0 < n ∧ n ≤ 13) (j : Nat) (hj : j < 6) (hF : F.getD j 0 < n) (hS : S.getD j 0 < n) : Ev mX3_told 4 0 0 [.ref p, .int (nI j), .int (nI 3)] h (pv (.int (nI ((F.getD j 0 + S.getD j 0) % n))) h) := by
  obtain ⟨-, -, -, -, lF, lS, lA⟩ := id hP
  refine Ev.of pX3_told (Nat.le_of_ble_eq_true rfl) ?_
  show G mX3_told (rmD 4 0 0) none _ 0 0 0 [(0, .ref p), (1, .int (nI j)), (2, .int (nI 3))] [] h
  refine g_iload_n dX3_told_0 2 rfl ?_
  refine g_tableIn 53 dX3_told_1 (by decide +kernel) (by decide +kernel) (off := 52) (by decide +kernel) (by decide) ?_
  refine g_aload_n dX3_told_53 0 rfl ?_
  refine g_getf dX3_told_54 kX3 wfX3_9 (Nat.le_of_ble_eq_true rfl) (hP.1) rfl ?_
  refine g_iload_n dX3_told_57 1 rfl ?_
  refine g_ialN dX3_told_58 (hP.2.1) (by omega) (by omega) ?_
  refine g_aload_n dX3_told_59 0 rfl ?_
  refine g_getf dX3_told_60 kX3 wfX3_15 (Nat.le_of_ble_eq_true rfl) (hP.1) rfl ?_
  refine g_iload_n dX3_told_63 1 rfl ?_
  refine g_ialN dX3_told_64 (hP.2.2.1) (by omega) (by omega) ?_
  refine g_iaddN dX3_told_65 ?_
  refine g_aload_n dX3_told_66 0 rfl ?_
  refine g_getf dX3_told_67 kX3 wfX3_21 (Nat.le_of_ble_eq_true rfl) (hP.1) rfl ?_
  refine g_callSNp dX3_told_70 (ev_wrapN (((F).getD j 0) + ((S).getD j 0)) (n) (by omega) (by omega) (by omega) _) oX8_wrap wsX8_wrap wqX3_46 rfl ⟨(Nat.le_of_ble_eq_true rfl), (Nat.le_of_ble_eq_true rfl)⟩ ⟨Nat.zero_le _, Nat.zero_le _⟩ (Nat.le_of_ble_eq_true rfl) rfl ?_
  exact g_iret dX3_told_73 rfl ⟨Nat.zero_le _, Nat.zero_le _⟩ (⟨rfl, rfl⟩)

set_option maxRecDepth 100000 in
set_option maxHeartbeats 4000000 in
theorem ev_told_4 {h : List aC} {p n m : Nat} {F S A : List Nat} (hP : PA h p n m F S A) (hn : 0 < n ∧ n ≤ 13) (j : Nat) (hj : j < 6) (hF : F.getD j 0 < n) (hS : S.getD j 0 < n) : Ev mX3_told 4 0 0 [.ref p, .int (nI j), .int (nI 4)] h (pv (.int (nI (min ((F.getD j 0 + n - S.getD j 0) % n) (n - (F.getD j 0 + n - S.getD j 0) % n)))) h) := by
  obtain ⟨-, -, -, -, lF, lS, lA⟩ := id hP
  refine Ev.of pX3_told (Nat.le_of_ble_eq_true rfl) ?_
  show G mX3_told (rmD 4 0 0) none _ 0 0 0 [(0, .ref p), (1, .int (nI j)), (2, .int (nI 4))] [] h
  refine g_iload_n dX3_told_0 2 rfl ?_
  refine g_tableOut 74 dX3_told_1 (by decide +kernel) (by decide) ?_
  refine g_aload_n dX3_told_74 0 rfl ?_
  refine g_iload_n dX3_told_75 1 rfl ?_
  refine g_callVp dX3_told_76 (ev_lesserDifference hP (by omega) (j) (by omega) (by omega) (by omega)) oX3_lesserDifference wiX3_lesserDifference weX3_lesserDifference wmX3_50 kX3 (hP.1) rfl ⟨(Nat.le_of_ble_eq_true rfl), (Nat.le_of_ble_eq_true rfl)⟩ ⟨Nat.zero_le _, Nat.zero_le _⟩ (Nat.le_of_ble_eq_true rfl) rfl ?_
  exact g_iret dX3_told_79 rfl ⟨Nat.zero_le _, Nat.zero_le _⟩ (⟨rfl, rfl⟩)

set_option maxRecDepth 100000 in
set_option maxHeartbeats 4000000 in
theorem ev_areStarter {h : List aC} {p n m : Nat} {F S A : List Nat} (hP : PA h p n m F S A) (hm : m ≤ 6) (hn : n ≤ 13) (hb : bnd n m F S A) (h0 : 0 < n) : Ev mX3_areStarter 4 0 0 [.ref p] h (pv (.int (nI (bI (isSt n m F S)))) h) := by
  obtain ⟨-, -, -, -, lF, lS, lA⟩ := id hP
  have l1 := nBits_lt hb hn m (Nat.le_refl m)
  have l2 := dBits_lt hb hn m (Nat.le_refl m)
  have l3 := pw13 h0 hn
  refine Ev.of pX3_areStarter (Nat.le_of_ble_eq_true rfl) ?_
  show G mX3_areStarter (rmD 4 0 0) none _ 0 0 0 [(0, .ref p)] [] h
  refine g_aload_n dX3_areStarter_0 0 rfl ?_
  refine g_callVp dX3_areStarter_1 (ev_areWhole hP (by omega) (by omega)) oX3_areWhole wiX3_areWhole weX3_areWhole wmX3_59 kX3 (hP.1) rfl ⟨(Nat.le_of_ble_eq_true rfl), (Nat.le_of_ble_eq_true rfl)⟩ ⟨Nat.zero_le _, Nat.zero_le _⟩ (Nat.le_of_ble_eq_true rfl) rfl ?_
  refine g_if_eqB 33 dX3_areStarter_4 (by decide) (fun c4 => ?_) (fun c4 => ?_)
  · have c4 := of_decide_eq_false c4
    refine g_iconst (v := nI 0) dX3_areStarter_33 (by decide +kernel) ?_
    exact g_zret dX3_areStarter_34 rfl (by decide) ⟨Nat.zero_le _, Nat.zero_le _⟩ (pvN (fun z => by first | exact c4 z.1 | exact c15 z.2.1 | exact c26 z.2.2))
  · have c4 := of_decide_eq_true c4
    refine g_aload_n dX3_areStarter_7 0 rfl ?_
    refine g_callVp dX3_areStarter_8 (ev_numberBits hP (by omega) (by omega) hb) oX3_numberBits wiX3_numberBits weX3_numberBits wmX3_75 kX3 (hP.1) rfl ⟨(Nat.le_of_ble_eq_true rfl), (Nat.le_of_ble_eq_true rfl)⟩ ⟨Nat.zero_le _, Nat.zero_le _⟩ (Nat.le_of_ble_eq_true rfl) rfl ?_
    refine g_aload_n dX3_areStarter_11 0 rfl ?_
    refine g_callVp dX3_areStarter_12 (ev_allBut hP (by omega)) oX3_allButZero wiX3_allButZero weX3_allButZero wmX3_78 kX3 (hP.1) rfl ⟨(Nat.le_of_ble_eq_true rfl), (Nat.le_of_ble_eq_true rfl)⟩ ⟨Nat.zero_le _, Nat.zero_le _⟩ (Nat.le_of_ble_eq_true rfl) rfl ?_
    refine g_icmp_neN 33 dX3_areStarter_15 (by decide) (by omega) (by omega) (fun c15 => ?_) (fun c15 => ?_)
    · refine g_iconst (v := nI 0) dX3_areStarter_33 (by decide +kernel) ?_
      exact g_zret dX3_areStarter_34 rfl (by decide) ⟨Nat.zero_le _, Nat.zero_le _⟩ (pvN (fun z => by first | exact c4 z.1 | exact c15 z.2.1 | exact c26 z.2.2))
    · refine g_aload_n dX3_areStarter_18 0 rfl ?_
      refine g_callVp dX3_areStarter_19 (ev_differenceBits hP (by omega) (by omega) hb) oX3_differenceBits wiX3_differenceBits weX3_differenceBits wmX3_81 kX3 (hP.1) rfl ⟨(Nat.le_of_ble_eq_true rfl), (Nat.le_of_ble_eq_true rfl)⟩ ⟨Nat.zero_le _, Nat.zero_le _⟩ (Nat.le_of_ble_eq_true rfl) rfl ?_
      refine g_aload_n dX3_areStarter_22 0 rfl ?_
      refine g_callVp dX3_areStarter_23 (ev_allBut hP (by omega)) oX3_allButZero wiX3_allButZero weX3_allButZero wmX3_78 kX3 (hP.1) rfl ⟨(Nat.le_of_ble_eq_true rfl), (Nat.le_of_ble_eq_true rfl)⟩ ⟨Nat.zero_le _, Nat.zero_le _⟩ (Nat.le_of_ble_eq_true rfl) rfl ?_
      refine g_icmp_neN 33 dX3_areStarter_26 (by decide) (by omega) (by omega) (fun c26 => ?_) (fun c26 => ?_)
      · refine g_iconst (v := nI 0) dX3_areStarter_33 (by decide +kernel) ?_
        exact g_zret dX3_areStarter_34 rfl (by decide) ⟨Nat.zero_le _, Nat.zero_le _⟩ (pvN (fun z => by first | exact c4 z.1 | exact c15 z.2.1 | exact c26 z.2.2))
      · refine g_iconst (v := nI 1) dX3_areStarter_29 (by decide +kernel) ?_
        refine g_goto 34 dX3_areStarter_30 (by decide) ?_
        exact g_zret dX3_areStarter_34 rfl (by decide) ⟨Nat.zero_le _, Nat.zero_le _⟩ (pvB ⟨c4, c15, c26⟩)

set_option maxRecDepth 100000 in
set_option maxHeartbeats 4000000 in
theorem ev_strong {h : List aC} {p n m : Nat} {F S A : List Nat} (hP : PA h p n m F S A) (hm : m ≤ 6) (hn : n ≤ 13) (hb : bnd n m F S A) : Ev mX3_haveStrongSums 4 0 0 [.ref p] h (pv (.int (nI (bI (stS n m F S)))) h) := by
  obtain ⟨-, -, -, -, lF, lS, lA⟩ := id hP
  have l1 := sBits_lt hb hn m (Nat.le_refl m)
  have l2 := popN_le (sBits n F S m) 14
  have l3 : sBits n F S m &&& 1 ≤ 1 := Nat.and_le_right
  refine Ev.of pX3_haveStrongSums (Nat.le_of_ble_eq_true rfl) ?_
  show G mX3_haveStrongSums (rmD 4 0 0) none _ 0 0 0 [(0, .ref p)] [] h
  refine g_aload_n dX3_haveStrongSums_0 0 rfl ?_
  refine g_callVp dX3_haveStrongSums_1 (ev_sumBits hP (by omega) (by omega) hb) oX3_sumBits wiX3_sumBits weX3_sumBits wmX3_84 kX3 (hP.1) rfl ⟨(Nat.le_of_ble_eq_true rfl), (Nat.le_of_ble_eq_true rfl)⟩ ⟨Nat.zero_le _, Nat.zero_le _⟩ (Nat.le_of_ble_eq_true rfl) rfl ?_
  refine g_istore_n (ls' := [(1, .int (nI (sBits n F S m))), (0, .ref p)]) dX3_haveStrongSums_4 (Nat.le_of_ble_eq_true rfl) rfl ?_
  refine g_iload_n dX3_haveStrongSums_5 0 rfl ?_
  refine g_iconst (v := nI 1) dX3_haveStrongSums_6 (by decide +kernel) ?_
  refine g_iandN dX3_haveStrongSums_7 ?_
  refine g_if_neN 26 dX3_haveStrongSums_8 (by decide) (by omega) (fun c8 => ?_) (fun c8 => ?_)
  · refine g_iconst (v := nI 0) dX3_haveStrongSums_26 (by decide +kernel) ?_
    exact g_zret dX3_haveStrongSums_27 rfl (by decide) ⟨Nat.zero_le _, Nat.zero_le _⟩ (pvN (fun z => by first | exact absurd z.1 (Nat.ne_of_gt c8) | exact c19 z.2))
  · refine g_iload_n dX3_haveStrongSums_11 0 rfl ?_
    refine g_callSp dX3_haveStrongSums_12 (ev_bitCount (sBits n F S m) (by omega) _) oJ6_bitCount_0f7a4 wsJ6_bitCount_0f7a4 wmX3_87 rfl ⟨(Nat.le_of_ble_eq_true rfl), (Nat.le_of_ble_eq_true rfl)⟩ ⟨Nat.zero_le _, Nat.zero_le _⟩ (Nat.le_of_ble_eq_true rfl) rfl ?_
    refine g_aload_n dX3_haveStrongSums_15 1 rfl ?_
    refine g_getf dX3_haveStrongSums_16 kX3 wfX3_25 (Nat.le_of_ble_eq_true rfl) (hP.1) rfl ?_
    refine g_icmp_neN 26 dX3_haveStrongSums_19 (by decide) (by omega) (by omega) (fun c19 => ?_) (fun c19 => ?_)
    · refine g_iconst (v := nI 0) dX3_haveStrongSums_26 (by decide +kernel) ?_
      exact g_zret dX3_haveStrongSums_27 rfl (by decide) ⟨Nat.zero_le _, Nat.zero_le _⟩ (pvN (fun z => by first | exact absurd z.1 (Nat.ne_of_gt c8) | exact c19 z.2))
    · refine g_iconst (v := nI 1) dX3_haveStrongSums_22 (by decide +kernel) ?_
      refine g_goto 27 dX3_haveStrongSums_23 (by decide) ?_
      exact g_zret dX3_haveStrongSums_27 rfl (by decide) ⟨Nat.zero_le _, Nat.zero_le _⟩ (pvB ⟨c8, c19⟩)

set_option maxRecDepth 100000 in
set_option maxHeartbeats 4000000 in
theorem lp_skew {h : List aC} {p n m : Nat} {F S A : List Nat} (hP : PA h p n m F S A) (hm : m ≤ 6) (hn : n ≤ 13) (hb : bnd n m F S A) (h0 : 0 < n) : ∀ j k , k + j = m → (∀ i, i < k → sBits n F S m / 2 ^ ((n - (F.getD i 0 + S.getD i 0) % n) % n) &&& 1 = 0) → G mX3_haveSkewSums (rmD 4 0 0) none (pv (.int (nI (bI (skS n m F S)))) h) 0 0 7 [(2, .int (nI k)), (1, .int (nI (sBits n F S m))), (0, .ref p)] [] h := by
  obtain ⟨-, -, -, -, lF, lS, lA⟩ := id hP
  have l1 := sBits_lt hb hn m (Nat.le_refl m)
  intro j
  induction j with
  | zero =>
    intro k  hk hA
    refine g_iload_n dX3_haveSkewSums_7 0 rfl ?_
    refine g_aload_n dX3_haveSkewSums_8 2 rfl ?_
    refine g_getf dX3_haveSkewSums_9 kX3 wfX3_25 (Nat.le_of_ble_eq_true rfl) (hP.1) rfl ?_
    refine g_icmp_geN 53 dX3_haveSkewSums_12 (by decide) (by omega) (by omega) (fun c12 => ?_) (fun z => absurd z (by omega))
    refine g_iconst (v := nI 1) dX3_haveSkewSums_53 (by decide +kernel) ?_
    exact g_zret dX3_haveSkewSums_54 rfl (by decide) ⟨Nat.zero_le _, Nat.zero_le _⟩ (pvB (fun i hi => hA i (by omega)))
  | succ j ih =>
    intro k  hk hA
    obtain ⟨bF, bS, bA⟩ := hb k (by omega)
    have l4 := Nat.mod_lt (n - (F.getD k 0 + S.getD k 0) % n) (y := n) h0
    have l3 : sBits n F S m / 2 ^ ((n - (F.getD k 0 + S.getD k 0) % n) % n) &&& 1 ≤ 1 := Nat.and_le_right
    refine g_iload_n dX3_haveSkewSums_7 0 rfl ?_
    refine g_aload_n dX3_haveSkewSums_8 2 rfl ?_
    refine g_getf dX3_haveSkewSums_9 kX3 wfX3_25 (Nat.le_of_ble_eq_true rfl) (hP.1) rfl ?_
    refine g_icmp_geN 53 dX3_haveSkewSums_12 (by decide) (by omega) (by omega) (fun z => absurd z (by omega)) (fun c12 => ?_)
    refine g_aload_n dX3_haveSkewSums_15 2 rfl ?_
    refine g_getf dX3_haveSkewSums_16 kX3 wfX3_9 (Nat.le_of_ble_eq_true rfl) (hP.1) rfl ?_
    refine g_iload_n dX3_haveSkewSums_19 0 rfl ?_
    refine g_ialN dX3_haveSkewSums_20 (hP.2.1) (by omega) (by omega) ?_
    refine g_aload_n dX3_haveSkewSums_21 2 rfl ?_
    refine g_getf dX3_haveSkewSums_22 kX3 wfX3_15 (Nat.le_of_ble_eq_true rfl) (hP.1) rfl ?_
    refine g_iload_n dX3_haveSkewSums_25 0 rfl ?_
    refine g_ialN dX3_haveSkewSums_26 (hP.2.2.1) (by omega) (by omega) ?_
    refine g_iaddN dX3_haveSkewSums_27 ?_
    refine g_ineg dX3_haveSkewSums_28 ?_
    refine g_aload_n dX3_haveSkewSums_29 2 rfl ?_
    refine g_getf dX3_haveSkewSums_30 kX3 wfX3_21 (Nat.le_of_ble_eq_true rfl) (hP.1) rfl ?_
    refine g_callSNp dX3_haveSkewSums_33 (by have e := ev_wrap (-nI (F.getD k 0 + S.getD k 0)) n (by omega) (by omega) h; rw [fm_ng (by omega) (by omega) (by omega)] at e; exact e) oX8_wrap wsX8_wrap wqX3_46 rfl ⟨(Nat.le_of_ble_eq_true rfl), (Nat.le_of_ble_eq_true rfl)⟩ ⟨Nat.zero_le _, Nat.zero_le _⟩ (Nat.le_of_ble_eq_true rfl) rfl ?_
    refine g_istore_n (ls' := [(3, .int (nI ((n - (F.getD k 0 + S.getD k 0) % n) % n))), (2, .int (nI k)), (1, .int (nI (sBits n F S m))), (0, .ref p)]) dX3_haveSkewSums_36 (Nat.le_of_ble_eq_true rfl) rfl ?_
    refine g_iload_n dX3_haveSkewSums_37 2 rfl ?_
    refine g_iload_n dX3_haveSkewSums_38 0 rfl ?_
    refine g_ishrN dX3_haveSkewSums_39 (by omega) (by omega) ?_
    refine g_iconst (v := nI 1) dX3_haveSkewSums_40 (by decide +kernel) ?_
    refine g_iandN dX3_haveSkewSums_41 ?_
    refine g_if_eqN 47 dX3_haveSkewSums_42 (by decide) (by omega) (fun c42 => ?_) (fun c42 => ?_)
    · refine g_iinc (q := 1) (v := nI (k + 1)) (ls' := [(2, .int (nI (k + 1))), (3, .int (nI ((n - (F.getD k 0 + S.getD k 0) % n) % n))), (1, .int (nI (sBits n F S m))), (0, .ref p)]) dX3_haveSkewSums_47 rfl (inc1 _) (Nat.le_of_ble_eq_true rfl) rfl ?_
      refine g_goto 7 dX3_haveSkewSums_50 (by decide) ?_
      refine g_lsub_ (ls2 := [(2, .int (nI (k + 1))), (1, .int (nI (sBits n F S m))), (0, .ref p)]) [0, 2, 3] rfl ?_
      exact ih (k + 1) (by omega) (fun i hi => by rcases Nat.lt_succ_iff_lt_or_eq.mp hi with q | q; exact hA i q; rw [q]; exact c42)
    · refine g_iconst (v := nI 0) dX3_haveSkewSums_45 (by decide +kernel) ?_
      exact g_zret dX3_haveSkewSums_46 rfl (by decide) ⟨Nat.zero_le _, Nat.zero_le _⟩ (pvN (fun z => absurd (z k (by omega)) (Nat.ne_of_gt c42)))

set_option maxRecDepth 100000 in
set_option maxHeartbeats 4000000 in
theorem ev_skew {h : List aC} {p n m : Nat} {F S A : List Nat} (hP : PA h p n m F S A) (hm : m ≤ 6) (hn : n ≤ 13) (hb : bnd n m F S A) (h0 : 0 < n) : Ev mX3_haveSkewSums 4 0 0 [.ref p] h (pv (.int (nI (bI (skS n m F S)))) h) := by
  obtain ⟨-, -, -, -, lF, lS, lA⟩ := id hP
  refine Ev.of pX3_haveSkewSums (Nat.le_of_ble_eq_true rfl) ?_
  show G mX3_haveSkewSums (rmD 4 0 0) none _ 0 0 0 [(0, .ref p)] [] h
  refine g_aload_n dX3_haveSkewSums_0 0 rfl ?_
  refine g_callVp dX3_haveSkewSums_1 (ev_sumBits hP (by omega) (by omega) hb) oX3_sumBits wiX3_sumBits weX3_sumBits wmX3_84 kX3 (hP.1) rfl ⟨(Nat.le_of_ble_eq_true rfl), (Nat.le_of_ble_eq_true rfl)⟩ ⟨Nat.zero_le _, Nat.zero_le _⟩ (Nat.le_of_ble_eq_true rfl) rfl ?_
  refine g_istore_n (ls' := [(1, .int (nI (sBits n F S m))), (0, .ref p)]) dX3_haveSkewSums_4 (Nat.le_of_ble_eq_true rfl) rfl ?_
  refine g_iconst (v := nI 0) dX3_haveSkewSums_5 (by decide +kernel) ?_
  refine g_istore_n (ls' := [(2, .int (nI 0)), (1, .int (nI (sBits n F S m))), (0, .ref p)]) dX3_haveSkewSums_6 (Nat.le_of_ble_eq_true rfl) rfl ?_
  exact lp_skew hP hm hn hb h0 m 0 (by omega) (fun i hi => absurd hi (Nat.not_lt_zero i))

theorem uBits_lt {n m : Nat} {F S A : List Nat} (hb : bnd n m F S A) (hn : n ≤ 13) : ∀ k, k ≤ m → uBits A k < 2 ^ 13
  | 0, _ => Nat.two_pow_pos 13
  | k + 1, hk => by
    obtain ⟨a, b, c⟩ := hb k (by omega)
    exact or_lt (uBits_lt hb hn k (by omega)) (pw_lt (by omega))
theorem hBits_lt {n m : Nat} {F S A : List Nat} (hb : bnd n m F S A) (hn : n ≤ 13) : ∀ k, k ≤ m → hBits n F S A k < 2 ^ 13
  | 0, _ => Nat.two_pow_pos 13
  | k + 1, hk => by
    obtain ⟨a, b, c⟩ := hb k (by omega)
    have e1 := Nat.mod_lt (F.getD k 0 + A.getD k 0) (y := n) (by omega)
    have e2 := Nat.mod_lt (S.getD k 0 + A.getD k 0) (y := n) (by omega)
    exact or_lt (or_lt (hBits_lt hb hn k (by omega)) (pw_lt (by omega))) (pw_lt (by omega))

set_option maxRecDepth 100000 in
set_option maxHeartbeats 4000000 in
theorem lp_added {h : List aC} {p n m : Nat} {F S A : List Nat} (hP : PA h p n m F S A) (hm : m ≤ 6) (hn : n ≤ 13) (hb : bnd n m F S A) (h0 : 0 < n) (hs : isSt n m F S = true) : ∀ j k , k + j = m → G mX3_areAdded (rmD 5 0 0) none (pv (.int (nI (bI (adS n m F S A)))) h) 0 0 15 [(3, .int (nI k)), (2, .int (nI (hBits n F S A k))), (1, .int (nI (uBits A k))), (0, .ref p)] [] h := by
  obtain ⟨-, -, -, -, lF, lS, lA⟩ := id hP
  have l1 := hBits_lt hb hn m (Nat.le_refl m)
  have l2 := uBits_lt hb hn m (Nat.le_refl m)
  have l3 := pw13 h0 hn
  have l4 := popN_le (uBits A m) 14
  have l5 : uBits A m &&& 1 ≤ 1 := Nat.and_le_right
  intro j
  induction j with
  | zero =>
    intro k  hk 
    obtain rfl : k = m := by omega
    refine g_iload_n dX3_areAdded_15 0 rfl ?_
    refine g_aload_n dX3_areAdded_16 3 rfl ?_
    refine g_getf dX3_areAdded_17 kX3 wfX3_25 (Nat.le_of_ble_eq_true rfl) (hP.1) rfl ?_
    refine g_icmp_geN 90 dX3_areAdded_20 (by decide) (by omega) (by omega) (fun c20 => ?_) (fun z => absurd z (by omega))
    refine g_iload_n dX3_areAdded_90 2 rfl ?_
    refine g_iconst (v := nI 1) dX3_areAdded_91 (by decide +kernel) ?_
    refine g_iandN dX3_areAdded_92 ?_
    refine g_if_neN 119 dX3_areAdded_93 (by decide) (by omega) (fun c93 => ?_) (fun c93 => ?_)
    · refine g_iconst (v := nI 0) dX3_areAdded_119 (by decide +kernel) ?_
      exact g_zret dX3_areAdded_120 rfl (by decide) ⟨Nat.zero_le _, Nat.zero_le _⟩ (pvN (fun z => by first | exact absurd z.2.1 (Nat.ne_of_gt c93) | exact c104 z.2.2.1 | exact c112 z.2.2.2))
    · refine g_iload_n dX3_areAdded_96 2 rfl ?_
      refine g_callSp dX3_areAdded_97 (ev_bitCount (uBits A k) (by omega) _) oJ6_bitCount_0f7a4 wsJ6_bitCount_0f7a4 wmX3_87 rfl ⟨(Nat.le_of_ble_eq_true rfl), (Nat.le_of_ble_eq_true rfl)⟩ ⟨Nat.zero_le _, Nat.zero_le _⟩ (Nat.le_of_ble_eq_true rfl) rfl ?_
      refine g_aload_n dX3_areAdded_100 3 rfl ?_
      refine g_getf dX3_areAdded_101 kX3 wfX3_25 (Nat.le_of_ble_eq_true rfl) (hP.1) rfl ?_
      refine g_icmp_neN 119 dX3_areAdded_104 (by decide) (by omega) (by omega) (fun c104 => ?_) (fun c104 => ?_)
      · refine g_iconst (v := nI 0) dX3_areAdded_119 (by decide +kernel) ?_
        exact g_zret dX3_areAdded_120 rfl (by decide) ⟨Nat.zero_le _, Nat.zero_le _⟩ (pvN (fun z => by first | exact absurd z.2.1 (Nat.ne_of_gt c93) | exact c104 z.2.2.1 | exact c112 z.2.2.2))
      · refine g_iload_n dX3_areAdded_107 1 rfl ?_
        refine g_aload_n dX3_areAdded_108 3 rfl ?_
        refine g_callVp dX3_areAdded_109 (ev_allBut hP (by omega)) oX3_allButZero wiX3_allButZero weX3_allButZero wmX3_78 kX3 (hP.1) rfl ⟨(Nat.le_of_ble_eq_true rfl), (Nat.le_of_ble_eq_true rfl)⟩ ⟨Nat.zero_le _, Nat.zero_le _⟩ (Nat.le_of_ble_eq_true rfl) rfl ?_
        refine g_icmp_neN 119 dX3_areAdded_112 (by decide) (by omega) (by omega) (fun c112 => ?_) (fun c112 => ?_)
        · refine g_iconst (v := nI 0) dX3_areAdded_119 (by decide +kernel) ?_
          exact g_zret dX3_areAdded_120 rfl (by decide) ⟨Nat.zero_le _, Nat.zero_le _⟩ (pvN (fun z => by first | exact absurd z.2.1 (Nat.ne_of_gt c93) | exact c104 z.2.2.1 | exact c112 z.2.2.2))
        · refine g_iconst (v := nI 1) dX3_areAdded_115 (by decide +kernel) ?_
          refine g_goto 120 dX3_areAdded_116 (by decide) ?_
          exact g_zret dX3_areAdded_120 rfl (by decide) ⟨Nat.zero_le _, Nat.zero_le _⟩ (pvB ⟨hs, c93, c104, c112⟩)
  | succ j ih =>
    intro k  hk 
    obtain ⟨bF, bS, bA⟩ := hb k (by omega)
    refine g_iload_n dX3_areAdded_15 0 rfl ?_
    refine g_aload_n dX3_areAdded_16 3 rfl ?_
    refine g_getf dX3_areAdded_17 kX3 wfX3_25 (Nat.le_of_ble_eq_true rfl) (hP.1) rfl ?_
    refine g_icmp_geN 90 dX3_areAdded_20 (by decide) (by omega) (by omega) (fun z => absurd z (by omega)) (fun c20 => ?_)
    refine g_iload_n dX3_areAdded_23 2 rfl ?_
    refine g_iconst (v := nI 1) dX3_areAdded_24 (by decide +kernel) ?_
    refine g_aload_n dX3_areAdded_25 3 rfl ?_
    refine g_getf dX3_areAdded_26 kX3 wfX3_18 (Nat.le_of_ble_eq_true rfl) (hP.1) rfl ?_
    refine g_iload_n dX3_areAdded_29 0 rfl ?_
    refine g_ialN dX3_areAdded_30 (hP.2.2.2.1) (by omega) (by omega) ?_
    refine g_ishl1 dX3_areAdded_31 (by first | omega | exact Nat.lt_of_lt_of_le (Nat.mod_lt _ (by omega)) (by omega)) ?_
    refine g_iorN dX3_areAdded_32 ?_
    refine g_istore_n (ls' := [(1, .int (nI ((uBits A k) ||| (2 ^ ((A).getD k 0))))), (3, .int (nI k)), (2, .int (nI (hBits n F S A k))), (0, .ref p)]) dX3_areAdded_33 (Nat.le_of_ble_eq_true rfl) rfl ?_
    refine g_iload_n dX3_areAdded_34 2 rfl ?_
    refine g_iconst (v := nI 1) dX3_areAdded_35 (by decide +kernel) ?_
    refine g_aload_n dX3_areAdded_36 3 rfl ?_
    refine g_getf dX3_areAdded_37 kX3 wfX3_9 (Nat.le_of_ble_eq_true rfl) (hP.1) rfl ?_
    refine g_iload_n dX3_areAdded_40 1 rfl ?_
    refine g_ialN dX3_areAdded_41 (hP.2.1) (by omega) (by omega) ?_
    refine g_aload_n dX3_areAdded_42 3 rfl ?_
    refine g_getf dX3_areAdded_43 kX3 wfX3_18 (Nat.le_of_ble_eq_true rfl) (hP.1) rfl ?_
    refine g_iload_n dX3_areAdded_46 1 rfl ?_
    refine g_ialN dX3_areAdded_47 (hP.2.2.2.1) (by omega) (by omega) ?_
    refine g_iaddN dX3_areAdded_48 ?_
    refine g_aload_n dX3_areAdded_49 3 rfl ?_
    refine g_getf dX3_areAdded_50 kX3 wfX3_21 (Nat.le_of_ble_eq_true rfl) (hP.1) rfl ?_
    refine g_callSNp dX3_areAdded_53 (ev_wrapN (((F).getD k 0) + ((A).getD k 0)) (n) (by omega) (by omega) (by omega) _) oX8_wrap wsX8_wrap wqX3_46 rfl ⟨(Nat.le_of_ble_eq_true rfl), (Nat.le_of_ble_eq_true rfl)⟩ ⟨Nat.zero_le _, Nat.zero_le _⟩ (Nat.le_of_ble_eq_true rfl) rfl ?_
    refine g_ishl1 dX3_areAdded_56 (by first | omega | exact Nat.lt_of_lt_of_le (Nat.mod_lt _ (by omega)) (by omega)) ?_
    refine g_iorN dX3_areAdded_57 ?_
    refine g_istore_n (ls' := [(2, .int (nI ((hBits n F S A k) ||| (2 ^ ((((F).getD k 0) + ((A).getD k 0)) % n))))), (1, .int (nI ((uBits A k) ||| (2 ^ ((A).getD k 0))))), (3, .int (nI k)), (0, .ref p)]) dX3_areAdded_58 (Nat.le_of_ble_eq_true rfl) rfl ?_
    refine g_iload_n dX3_areAdded_59 0 rfl ?_
    refine g_iconst (v := nI 1) dX3_areAdded_60 (by decide +kernel) ?_
    refine g_aload_n dX3_areAdded_61 3 rfl ?_
    refine g_getf dX3_areAdded_62 kX3 wfX3_15 (Nat.le_of_ble_eq_true rfl) (hP.1) rfl ?_
    refine g_iload_n dX3_areAdded_65 2 rfl ?_
    refine g_ialN dX3_areAdded_66 (hP.2.2.1) (by omega) (by omega) ?_
    refine g_aload_n dX3_areAdded_67 3 rfl ?_
    refine g_getf dX3_areAdded_68 kX3 wfX3_18 (Nat.le_of_ble_eq_true rfl) (hP.1) rfl ?_
    refine g_iload_n dX3_areAdded_71 2 rfl ?_
    refine g_ialN dX3_areAdded_72 (hP.2.2.2.1) (by omega) (by omega) ?_
    refine g_iaddN dX3_areAdded_73 ?_
    refine g_aload_n dX3_areAdded_74 3 rfl ?_
    refine g_getf dX3_areAdded_75 kX3 wfX3_21 (Nat.le_of_ble_eq_true rfl) (hP.1) rfl ?_
    refine g_callSNp dX3_areAdded_78 (ev_wrapN (((S).getD k 0) + ((A).getD k 0)) (n) (by omega) (by omega) (by omega) _) oX8_wrap wsX8_wrap wqX3_46 rfl ⟨(Nat.le_of_ble_eq_true rfl), (Nat.le_of_ble_eq_true rfl)⟩ ⟨Nat.zero_le _, Nat.zero_le _⟩ (Nat.le_of_ble_eq_true rfl) rfl ?_
    refine g_ishl1 dX3_areAdded_81 (by first | omega | exact Nat.lt_of_lt_of_le (Nat.mod_lt _ (by omega)) (by omega)) ?_
    refine g_iorN dX3_areAdded_82 ?_
    refine g_istore_n (ls' := [(2, .int (nI (((hBits n F S A k) ||| (2 ^ ((((F).getD k 0) + ((A).getD k 0)) % n))) ||| (2 ^ ((((S).getD k 0) + ((A).getD k 0)) % n))))), (1, .int (nI ((uBits A k) ||| (2 ^ ((A).getD k 0))))), (3, .int (nI k)), (0, .ref p)]) dX3_areAdded_83 (Nat.le_of_ble_eq_true rfl) rfl ?_
    refine g_iinc (q := 2) (v := nI (k + 1)) (ls' := [(3, .int (nI (k + 1))), (2, .int (nI (((hBits n F S A k) ||| (2 ^ ((((F).getD k 0) + ((A).getD k 0)) % n))) ||| (2 ^ ((((S).getD k 0) + ((A).getD k 0)) % n))))), (1, .int (nI ((uBits A k) ||| (2 ^ ((A).getD k 0))))), (0, .ref p)]) dX3_areAdded_84 rfl (inc1 _) (Nat.le_of_ble_eq_true rfl) rfl ?_
    refine g_goto 15 dX3_areAdded_87 (by decide) ?_
    exact ih (k + 1) (by omega)

set_option maxRecDepth 100000 in
set_option maxHeartbeats 4000000 in
theorem ev_added {h : List aC} {p n m : Nat} {F S A : List Nat} (hP : PA h p n m F S A) (hm : m ≤ 6) (hn : n ≤ 13) (hb : bnd n m F S A) (h0 : 0 < n) : Ev mX3_areAdded 5 0 0 [.ref p] h (pv (.int (nI (bI (adS n m F S A)))) h) := by
  obtain ⟨-, -, -, -, lF, lS, lA⟩ := id hP
  refine Ev.of pX3_areAdded (Nat.le_of_ble_eq_true rfl) ?_
  show G mX3_areAdded (rmD 5 0 0) none _ 0 0 0 [(0, .ref p)] [] h
  refine g_aload_n dX3_areAdded_0 0 rfl ?_
  refine g_callVp dX3_areAdded_1 (ev_areStarter hP (by omega) (by omega) hb (by omega)) oX3_areStarter wiX3_areStarter weX3_areStarter wmX3_63 kX3 (hP.1) rfl ⟨(Nat.le_of_ble_eq_true rfl), (Nat.le_of_ble_eq_true rfl)⟩ ⟨Nat.zero_le _, Nat.zero_le _⟩ (Nat.le_of_ble_eq_true rfl) rfl ?_
  refine g_if_neB 9 dX3_areAdded_4 (by decide) (fun c4 => ?_) (fun c4 => ?_)
  · refine g_iconst (v := nI 0) dX3_areAdded_9 (by decide +kernel) ?_
    refine g_istore_n (ls' := [(1, .int (nI 0)), (0, .ref p)]) dX3_areAdded_10 (Nat.le_of_ble_eq_true rfl) rfl ?_
    refine g_iconst (v := nI 0) dX3_areAdded_11 (by decide +kernel) ?_
    refine g_istore_n (ls' := [(2, .int (nI 0)), (1, .int (nI 0)), (0, .ref p)]) dX3_areAdded_12 (Nat.le_of_ble_eq_true rfl) rfl ?_
    refine g_iconst (v := nI 0) dX3_areAdded_13 (by decide +kernel) ?_
    refine g_istore_n (ls' := [(3, .int (nI 0)), (2, .int (nI 0)), (1, .int (nI 0)), (0, .ref p)]) dX3_areAdded_14 (Nat.le_of_ble_eq_true rfl) rfl ?_
    exact lp_added hP hm hn hb h0 c4 m 0 (by omega)
  · refine g_iconst (v := nI 0) dX3_areAdded_7 (by decide +kernel) ?_
    exact g_zret dX3_areAdded_8 rfl (by decide) ⟨Nat.zero_le _, Nat.zero_le _⟩ (pvN (fun z => by rw [c4] at z; exact absurd z.1 (by decide)))

set_option maxRecDepth 100000 in
set_option maxHeartbeats 4000000 in
theorem ev_areSuch_0 {h : List aC} {p n m : Nat} {F S A : List Nat} (hP : PA h p n m F S A) (hm : m ≤ 6) (hn : n ≤ 13) (hb : bnd n m F S A) (h0 : 0 < n) : Ev mX3_areSuch 6 0 0 [.ref p, .int (nI 0)] h (pv (.int (nI (bI (decide (m = (n - 1) / 2))))) h) := by
  obtain ⟨-, -, -, -, lF, lS, lA⟩ := id hP
  refine Ev.of pX3_areSuch (Nat.le_of_ble_eq_true rfl) ?_
  show G mX3_areSuch (rmD 6 0 0) none _ 0 0 0 [(0, .ref p), (1, .int (nI 0))] [] h
  refine g_iload_n dX3_areSuch_0 1 rfl ?_
  refine g_tableIn 32 dX3_areSuch_1 (by decide +kernel) (by decide +kernel) (off := 31) (by decide +kernel) (by decide) ?_
  refine g_aload_n dX3_areSuch_32 0 rfl ?_
  refine g_callVp dX3_areSuch_33 (ev_areWhole hP (by omega) (by omega)) oX3_areWhole wiX3_areWhole weX3_areWhole wmX3_59 kX3 (hP.1) rfl ⟨(Nat.le_of_ble_eq_true rfl), (Nat.le_of_ble_eq_true rfl)⟩ ⟨Nat.zero_le _, Nat.zero_le _⟩ (Nat.le_of_ble_eq_true rfl) rfl ?_
  exact g_zret dX3_areSuch_36 rfl (narB _) ⟨Nat.zero_le _, Nat.zero_le _⟩ (⟨rfl, rfl⟩)

set_option maxRecDepth 100000 in
set_option maxHeartbeats 4000000 in
theorem ev_areSuch_1 {h : List aC} {p n m : Nat} {F S A : List Nat} (hP : PA h p n m F S A) (hm : m ≤ 6) (hn : n ≤ 13) (hb : bnd n m F S A) (h0 : 0 < n) : Ev mX3_areSuch 6 0 0 [.ref p, .int (nI 1)] h (pv (.int (nI (bI (isSt n m F S)))) h) := by
  obtain ⟨-, -, -, -, lF, lS, lA⟩ := id hP
  refine Ev.of pX3_areSuch (Nat.le_of_ble_eq_true rfl) ?_
  show G mX3_areSuch (rmD 6 0 0) none _ 0 0 0 [(0, .ref p), (1, .int (nI 1))] [] h
  refine g_iload_n dX3_areSuch_0 1 rfl ?_
  refine g_tableIn 37 dX3_areSuch_1 (by decide +kernel) (by decide +kernel) (off := 36) (by decide +kernel) (by decide) ?_
  refine g_aload_n dX3_areSuch_37 0 rfl ?_
  refine g_callVp dX3_areSuch_38 (ev_areStarter hP (by omega) (by omega) hb (by omega)) oX3_areStarter wiX3_areStarter weX3_areStarter wmX3_63 kX3 (hP.1) rfl ⟨(Nat.le_of_ble_eq_true rfl), (Nat.le_of_ble_eq_true rfl)⟩ ⟨Nat.zero_le _, Nat.zero_le _⟩ (Nat.le_of_ble_eq_true rfl) rfl ?_
  exact g_zret dX3_areSuch_41 rfl (narB _) ⟨Nat.zero_le _, Nat.zero_le _⟩ (⟨rfl, rfl⟩)

set_option maxRecDepth 100000 in
set_option maxHeartbeats 4000000 in
theorem ev_areSuch_2 {h : List aC} {p n m : Nat} {F S A : List Nat} (hP : PA h p n m F S A) (hm : m ≤ 6) (hn : n ≤ 13) (hb : bnd n m F S A) (h0 : 0 < n) : Ev mX3_areSuch 6 0 0 [.ref p, .int (nI 2)] h (pv (.int (nI (bI (isSt n m F S && stS n m F S)))) h) := by
  obtain ⟨-, -, -, -, lF, lS, lA⟩ := id hP
  refine Ev.of pX3_areSuch (Nat.le_of_ble_eq_true rfl) ?_
  show G mX3_areSuch (rmD 6 0 0) none _ 0 0 0 [(0, .ref p), (1, .int (nI 2))] [] h
  refine g_iload_n dX3_areSuch_0 1 rfl ?_
  refine g_tableIn 42 dX3_areSuch_1 (by decide +kernel) (by decide +kernel) (off := 41) (by decide +kernel) (by decide) ?_
  refine g_aload_n dX3_areSuch_42 0 rfl ?_
  refine g_callVp dX3_areSuch_43 (ev_areStarter hP (by omega) (by omega) hb (by omega)) oX3_areStarter wiX3_areStarter weX3_areStarter wmX3_63 kX3 (hP.1) rfl ⟨(Nat.le_of_ble_eq_true rfl), (Nat.le_of_ble_eq_true rfl)⟩ ⟨Nat.zero_le _, Nat.zero_le _⟩ (Nat.le_of_ble_eq_true rfl) rfl ?_
  refine g_if_eqB 60 dX3_areSuch_46 (by decide) (fun c46 => ?_) (fun c46 => ?_)
  · refine g_iconst (v := nI 0) dX3_areSuch_60 (by decide +kernel) ?_
    exact g_zret dX3_areSuch_61 rfl (by decide) ⟨Nat.zero_le _, Nat.zero_le _⟩ (⟨by simp [*, bI], rfl⟩)
  · refine g_aload_n dX3_areSuch_49 0 rfl ?_
    refine g_callVp dX3_areSuch_50 (ev_strong hP (by omega) (by omega) hb) oX3_haveStrongSums wiX3_haveStrongSums weX3_haveStrongSums wmX3_66 kX3 (hP.1) rfl ⟨(Nat.le_of_ble_eq_true rfl), (Nat.le_of_ble_eq_true rfl)⟩ ⟨Nat.zero_le _, Nat.zero_le _⟩ (Nat.le_of_ble_eq_true rfl) rfl ?_
    refine g_if_eqB 60 dX3_areSuch_53 (by decide) (fun c53 => ?_) (fun c53 => ?_)
    · refine g_iconst (v := nI 0) dX3_areSuch_60 (by decide +kernel) ?_
      exact g_zret dX3_areSuch_61 rfl (by decide) ⟨Nat.zero_le _, Nat.zero_le _⟩ (⟨by simp [*, bI], rfl⟩)
    · refine g_iconst (v := nI 1) dX3_areSuch_56 (by decide +kernel) ?_
      refine g_goto 61 dX3_areSuch_57 (by decide) ?_
      exact g_zret dX3_areSuch_61 rfl (by decide) ⟨Nat.zero_le _, Nat.zero_le _⟩ (⟨by simp [*, bI], rfl⟩)

set_option maxRecDepth 100000 in
set_option maxHeartbeats 4000000 in
theorem ev_areSuch_3 {h : List aC} {p n m : Nat} {F S A : List Nat} (hP : PA h p n m F S A) (hm : m ≤ 6) (hn : n ≤ 13) (hb : bnd n m F S A) (h0 : 0 < n) : Ev mX3_areSuch 6 0 0 [.ref p, .int (nI 3)] h (pv (.int (nI (bI (isSt n m F S && (stS n m F S && skS n m F S))))) h) := by
  obtain ⟨-, -, -, -, lF, lS, lA⟩ := id hP
  refine Ev.of pX3_areSuch (Nat.le_of_ble_eq_true rfl) ?_
  show G mX3_areSuch (rmD 6 0 0) none _ 0 0 0 [(0, .ref p), (1, .int (nI 3))] [] h
  refine g_iload_n dX3_areSuch_0 1 rfl ?_
  refine g_tableIn 62 dX3_areSuch_1 (by decide +kernel) (by decide +kernel) (off := 61) (by decide +kernel) (by decide) ?_
  refine g_aload_n dX3_areSuch_62 0 rfl ?_
  refine g_callVp dX3_areSuch_63 (ev_areStarter hP (by omega) (by omega) hb (by omega)) oX3_areStarter wiX3_areStarter weX3_areStarter wmX3_63 kX3 (hP.1) rfl ⟨(Nat.le_of_ble_eq_true rfl), (Nat.le_of_ble_eq_true rfl)⟩ ⟨Nat.zero_le _, Nat.zero_le _⟩ (Nat.le_of_ble_eq_true rfl) rfl ?_
  refine g_if_eqB 87 dX3_areSuch_66 (by decide) (fun c66 => ?_) (fun c66 => ?_)
  · refine g_iconst (v := nI 0) dX3_areSuch_87 (by decide +kernel) ?_
    exact g_zret dX3_areSuch_88 rfl (by decide) ⟨Nat.zero_le _, Nat.zero_le _⟩ (⟨by simp [*, bI], rfl⟩)
  · refine g_aload_n dX3_areSuch_69 0 rfl ?_
    refine g_callVp dX3_areSuch_70 (ev_strong hP (by omega) (by omega) hb) oX3_haveStrongSums wiX3_haveStrongSums weX3_haveStrongSums wmX3_66 kX3 (hP.1) rfl ⟨(Nat.le_of_ble_eq_true rfl), (Nat.le_of_ble_eq_true rfl)⟩ ⟨Nat.zero_le _, Nat.zero_le _⟩ (Nat.le_of_ble_eq_true rfl) rfl ?_
    refine g_if_eqB 87 dX3_areSuch_73 (by decide) (fun c73 => ?_) (fun c73 => ?_)
    · refine g_iconst (v := nI 0) dX3_areSuch_87 (by decide +kernel) ?_
      exact g_zret dX3_areSuch_88 rfl (by decide) ⟨Nat.zero_le _, Nat.zero_le _⟩ (⟨by simp [*, bI], rfl⟩)
    · refine g_aload_n dX3_areSuch_76 0 rfl ?_
      refine g_callVp dX3_areSuch_77 (ev_skew hP (by omega) (by omega) hb (by omega)) oX3_haveSkewSums wiX3_haveSkewSums weX3_haveSkewSums wmX3_69 kX3 (hP.1) rfl ⟨(Nat.le_of_ble_eq_true rfl), (Nat.le_of_ble_eq_true rfl)⟩ ⟨Nat.zero_le _, Nat.zero_le _⟩ (Nat.le_of_ble_eq_true rfl) rfl ?_
      refine g_if_eqB 87 dX3_areSuch_80 (by decide) (fun c80 => ?_) (fun c80 => ?_)
      · refine g_iconst (v := nI 0) dX3_areSuch_87 (by decide +kernel) ?_
        exact g_zret dX3_areSuch_88 rfl (by decide) ⟨Nat.zero_le _, Nat.zero_le _⟩ (⟨by simp [*, bI], rfl⟩)
      · refine g_iconst (v := nI 1) dX3_areSuch_83 (by decide +kernel) ?_
        refine g_goto 88 dX3_areSuch_84 (by decide) ?_
        exact g_zret dX3_areSuch_88 rfl (by decide) ⟨Nat.zero_le _, Nat.zero_le _⟩ (⟨by simp [*, bI], rfl⟩)

set_option maxRecDepth 100000 in
set_option maxHeartbeats 4000000 in
theorem ev_areSuch_4 {h : List aC} {p n m : Nat} {F S A : List Nat} (hP : PA h p n m F S A) (hm : m ≤ 6) (hn : n ≤ 13) (hb : bnd n m F S A) (h0 : 0 < n) : Ev mX3_areSuch 6 0 0 [.ref p, .int (nI 4)] h (pv (.int (nI (bI (adS n m F S A)))) h) := by
  obtain ⟨-, -, -, -, lF, lS, lA⟩ := id hP
  refine Ev.of pX3_areSuch (Nat.le_of_ble_eq_true rfl) ?_
  show G mX3_areSuch (rmD 6 0 0) none _ 0 0 0 [(0, .ref p), (1, .int (nI 4))] [] h
  refine g_iload_n dX3_areSuch_0 1 rfl ?_
  refine g_tableOut 89 dX3_areSuch_1 (by decide +kernel) (by decide) ?_
  refine g_aload_n dX3_areSuch_89 0 rfl ?_
  refine g_callVp dX3_areSuch_90 (ev_added hP (by omega) (by omega) hb (by omega)) oX3_areAdded wiX3_areAdded weX3_areAdded wmX3_72 kX3 (hP.1) rfl ⟨(Nat.le_of_ble_eq_true rfl), (Nat.le_of_ble_eq_true rfl)⟩ ⟨Nat.zero_le _, Nat.zero_le _⟩ (Nat.le_of_ble_eq_true rfl) rfl ?_
  exact g_zret dX3_areSuch_93 rfl (narB _) ⟨Nat.zero_le _, Nat.zero_le _⟩ (⟨rfl, rfl⟩)

def cbB (m : Nat) (F S : List Nat) : Bool := decide (∀ k, k < m → F.getD k 0 ≠ 0 ∧ S.getD k 0 ≠ 0 ∧ F.getD k 0 ≠ S.getD k 0)

set_option maxRecDepth 100000 in
set_option maxHeartbeats 4000000 in
theorem lp_canBe {h : List aC} {p n m : Nat} {F S A : List Nat} (hP : PA h p n m F S A) (hm : m ≤ 6) (hn : n ≤ 13) (hb : bnd n m F S A) : ∀ j k , k + j = m → (∀ i, i < k → F.getD i 0 ≠ 0 ∧ S.getD i 0 ≠ 0 ∧ F.getD i 0 ≠ S.getD i 0) → G mX3_canBe (rmD 1 0 0) none (pv (.int (nI (bI (cbB m F S)))) h) 0 0 2 [(1, .int (nI k)), (0, .ref p)] [] h := by
  obtain ⟨-, -, -, -, lF, lS, lA⟩ := id hP
  intro j
  induction j with
  | zero =>
    intro k  hk hA
    refine g_iload_n dX3_canBe_2 0 rfl ?_
    refine g_aload_n dX3_canBe_3 1 rfl ?_
    refine g_getf dX3_canBe_4 kX3 wfX3_25 (Nat.le_of_ble_eq_true rfl) (hP.1) rfl ?_
    refine g_icmp_geN 51 dX3_canBe_7 (by decide) (by omega) (by omega) (fun c7 => ?_) (fun z => absurd z (by omega))
    refine g_iconst (v := nI 1) dX3_canBe_51 (by decide +kernel) ?_
    exact g_zret dX3_canBe_52 rfl (by decide) ⟨Nat.zero_le _, Nat.zero_le _⟩ (pvB (fun i hi => hA i (by omega)))
  | succ j ih =>
    intro k  hk hA
    obtain ⟨bF, bS, bA⟩ := hb k (by omega)
    refine g_iload_n dX3_canBe_2 0 rfl ?_
    refine g_aload_n dX3_canBe_3 1 rfl ?_
    refine g_getf dX3_canBe_4 kX3 wfX3_25 (Nat.le_of_ble_eq_true rfl) (hP.1) rfl ?_
    refine g_icmp_geN 51 dX3_canBe_7 (by decide) (by omega) (by omega) (fun z => absurd z (by omega)) (fun c7 => ?_)
    refine g_aload_n dX3_canBe_10 1 rfl ?_
    refine g_getf dX3_canBe_11 kX3 wfX3_9 (Nat.le_of_ble_eq_true rfl) (hP.1) rfl ?_
    refine g_iload_n dX3_canBe_14 0 rfl ?_
    refine g_ialN dX3_canBe_15 (hP.2.1) (by omega) (by omega) ?_
    refine g_if_eqN 43 dX3_canBe_16 (by decide) (by omega) (fun c16 => ?_) (fun c16 => ?_)
    · refine g_iconst (v := nI 0) dX3_canBe_43 (by decide +kernel) ?_
      exact g_zret dX3_canBe_44 rfl (by decide) ⟨Nat.zero_le _, Nat.zero_le _⟩ (pvN (fun z => by have y := z k (by omega); omega))
    · refine g_aload_n dX3_canBe_19 1 rfl ?_
      refine g_getf dX3_canBe_20 kX3 wfX3_15 (Nat.le_of_ble_eq_true rfl) (hP.1) rfl ?_
      refine g_iload_n dX3_canBe_23 0 rfl ?_
      refine g_ialN dX3_canBe_24 (hP.2.2.1) (by omega) (by omega) ?_
      refine g_if_eqN 43 dX3_canBe_25 (by decide) (by omega) (fun c25 => ?_) (fun c25 => ?_)
      · refine g_iconst (v := nI 0) dX3_canBe_43 (by decide +kernel) ?_
        exact g_zret dX3_canBe_44 rfl (by decide) ⟨Nat.zero_le _, Nat.zero_le _⟩ (pvN (fun z => by have y := z k (by omega); omega))
      · refine g_aload_n dX3_canBe_28 1 rfl ?_
        refine g_getf dX3_canBe_29 kX3 wfX3_9 (Nat.le_of_ble_eq_true rfl) (hP.1) rfl ?_
        refine g_iload_n dX3_canBe_32 0 rfl ?_
        refine g_ialN dX3_canBe_33 (hP.2.1) (by omega) (by omega) ?_
        refine g_aload_n dX3_canBe_34 1 rfl ?_
        refine g_getf dX3_canBe_35 kX3 wfX3_15 (Nat.le_of_ble_eq_true rfl) (hP.1) rfl ?_
        refine g_iload_n dX3_canBe_38 0 rfl ?_
        refine g_ialN dX3_canBe_39 (hP.2.2.1) (by omega) (by omega) ?_
        refine g_icmp_neN 45 dX3_canBe_40 (by decide) (by omega) (by omega) (fun c40 => ?_) (fun c40 => ?_)
        · refine g_iinc (q := 0) (v := nI (k + 1)) (ls' := [(1, .int (nI (k + 1))), (0, .ref p)]) dX3_canBe_45 rfl (inc1 _) (Nat.le_of_ble_eq_true rfl) rfl ?_
          refine g_goto 2 dX3_canBe_48 (by decide) ?_
          exact ih (k + 1) (by omega) (fun i hi => by rcases Nat.lt_succ_iff_lt_or_eq.mp hi with q | q; exact hA i q; rw [q]; omega)
        · refine g_iconst (v := nI 0) dX3_canBe_43 (by decide +kernel) ?_
          exact g_zret dX3_canBe_44 rfl (by decide) ⟨Nat.zero_le _, Nat.zero_le _⟩ (pvN (fun z => by have y := z k (by omega); omega))

set_option maxRecDepth 100000 in
set_option maxHeartbeats 4000000 in
theorem ev_canBe {h : List aC} {p n m : Nat} {F S A : List Nat} (hP : PA h p n m F S A) (hm : m ≤ 6) (hn : n ≤ 13) (hb : bnd n m F S A) : Ev mX3_canBe 1 0 0 [.ref p] h (pv (.int (nI (bI (cbB m F S)))) h) := by
  obtain ⟨-, -, -, -, lF, lS, lA⟩ := id hP
  refine Ev.of pX3_canBe (Nat.le_of_ble_eq_true rfl) ?_
  show G mX3_canBe (rmD 1 0 0) none _ 0 0 0 [(0, .ref p)] [] h
  refine g_iconst (v := nI 0) dX3_canBe_0 (by decide +kernel) ?_
  refine g_istore_n (ls' := [(1, .int (nI 0)), (0, .ref p)]) dX3_canBe_1 (Nat.le_of_ble_eq_true rfl) rfl ?_
  exact lp_canBe hP hm hn hb m 0 (by omega) (fun i hi => absurd hi (Nat.not_lt_zero i))
