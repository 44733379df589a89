/-- the number that less the other one of its pair is d, from pair k on, j pairs to come -/
def nAh (n : Nat) (F S : List Nat) (d : Nat) : Nat → Nat → Nat
  | 0, _ => 0
  | j + 1, k => if (F.getD k 0 + n - S.getD k 0) % n = d then F.getD k 0 else if n - (F.getD k 0 + n - S.getD k 0) % n = d then S.getD k 0 else nAh n F S d j (k + 1)
theorem nAh_step (n : Nat) (F S : List Nat) (d j k : Nat) : nAh n F S d (j + 1) k = if (F.getD k 0 + n - S.getD k 0) % n = d then F.getD k 0 else if n - (F.getD k 0 + n - S.getD k 0) % n = d then S.getD k 0 else nAh n F S d j (k + 1) := rfl
theorem nAh_lt {n m : Nat} {F S A : List Nat} (hb : bnd n m F S A) (h0 : 0 < n) (d : Nat) : ∀ j k, k + j = m → nAh n F S d j k < n
  | 0, _, _ => h0
  | j + 1, k, hk => by
    obtain ⟨a, b, -⟩ := hb k (by omega)
    unfold nAh
    by_cases h1 : (F.getD k 0 + n - S.getD k 0) % n = d
    · rw [if_pos h1]; exact a
    · rw [if_neg h1]
      by_cases h2 : n - (F.getD k 0 + n - S.getD k 0) % n = d
      · rw [if_pos h2]; exact b
      · rw [if_neg h2]; exact nAh_lt hb h0 d j (k + 1) (by omega)

set_option maxRecDepth 100000 in
set_option maxHeartbeats 4000000 in
theorem lp_ahead {h : List aC} {p n m : Nat} {F S A : List Nat} (hP : PA h p n m F S A) (hm : m ≤ 6) (hn : n ≤ 13) (hb : bnd n m F S A) (h0 : 0 < n) (d : Nat) (hd : d < 2 ^ 30) : ∀ j k , k + j = m → G mX3_numberAhead (rmD 3 0 0) none (pv (.int (nI (nAh n F S d j k))) h) 0 0 2 [(2, .int (nI k)), (0, .ref p), (1, .int (nI d))] [] h := by
  obtain ⟨-, -, -, -, lF, lS, lA⟩ := id hP
  intro j
  induction j with
  | zero =>
    intro k  hk 
    refine g_iload_n dX3_numberAhead_2 0 rfl ?_
    refine g_aload_n dX3_numberAhead_3 1 rfl ?_
    refine g_getf dX3_numberAhead_4 kX3 wfX3_25 (Nat.le_of_ble_eq_true rfl) (hP.1) rfl ?_
    refine g_icmp_geN 66 dX3_numberAhead_7 (by decide) (by omega) (by omega) (fun c7 => ?_) (fun z => absurd z (by omega))
    refine g_iconst (v := nI 0) dX3_numberAhead_66 (by decide +kernel) ?_
    exact g_iret dX3_numberAhead_67 rfl ⟨Nat.zero_le _, Nat.zero_le _⟩ (⟨rfl, rfl⟩)
  | succ j ih =>
    intro k  hk 
    obtain ⟨bF, bS, bA⟩ := hb k (by omega)
    have l4 := Nat.mod_lt (F.getD k 0 + n - S.getD k 0) (y := n) h0
    refine g_iload_n dX3_numberAhead_2 0 rfl ?_
    refine g_aload_n dX3_numberAhead_3 1 rfl ?_
    refine g_getf dX3_numberAhead_4 kX3 wfX3_25 (Nat.le_of_ble_eq_true rfl) (hP.1) rfl ?_
    refine g_icmp_geN 66 dX3_numberAhead_7 (by decide) (by omega) (by omega) (fun z => absurd z (by omega)) (fun c7 => ?_)
    refine g_aload_n dX3_numberAhead_10 1 rfl ?_
    refine g_getf dX3_numberAhead_11 kX3 wfX3_9 (Nat.le_of_ble_eq_true rfl) (hP.1) rfl ?_
    refine g_iload_n dX3_numberAhead_14 0 rfl ?_
    refine g_ialN dX3_numberAhead_15 (hP.2.1) (by omega) (by omega) ?_
    refine g_aload_n dX3_numberAhead_16 1 rfl ?_
    refine g_getf dX3_numberAhead_17 kX3 wfX3_15 (Nat.le_of_ble_eq_true rfl) (hP.1) rfl ?_
    refine g_iload_n dX3_numberAhead_20 0 rfl ?_
    refine g_ialN dX3_numberAhead_21 (hP.2.2.1) (by omega) (by omega) ?_
    refine g_isub dX3_numberAhead_22 ?_
    refine g_aload_n dX3_numberAhead_23 1 rfl ?_
    refine g_getf dX3_numberAhead_24 kX3 wfX3_21 (Nat.le_of_ble_eq_true rfl) (hP.1) rfl ?_
    refine g_callSNp dX3_numberAhead_27 (ev_wrapS ((F).getD k 0) ((S).getD k 0) (n) (by omega) (by omega) (by omega) (by omega) _) oX8_wrap wsX8_wrap wqX3_46 rfl ⟨(Nat.le_of_ble_eq_true rfl), (Nat.le_of_ble_eq_true rfl)⟩ ⟨Nat.zero_le _, Nat.zero_le _⟩ (Nat.le_of_ble_eq_true rfl) rfl ?_
    refine g_istore_n (ls' := [(3, .int (nI ((((F).getD k 0) + n - ((S).getD k 0)) % n))), (2, .int (nI k)), (0, .ref p), (1, .int (nI d))]) dX3_numberAhead_30 (Nat.le_of_ble_eq_true rfl) rfl ?_
    refine g_iload_n dX3_numberAhead_31 0 rfl ?_
    refine g_iload_n dX3_numberAhead_32 3 rfl ?_
    refine g_icmp_neN 43 dX3_numberAhead_33 (by decide) (by omega) (by omega) (fun c33 => ?_) (fun c33 => ?_)
    · refine g_aload_n dX3_numberAhead_43 2 rfl ?_
      refine g_getf dX3_numberAhead_44 kX3 wfX3_21 (Nat.le_of_ble_eq_true rfl) (hP.1) rfl ?_
      refine g_iload_n dX3_numberAhead_47 0 rfl ?_
      refine g_isubN dX3_numberAhead_48 (by omega) ?_
      refine g_iload_n dX3_numberAhead_49 3 rfl ?_
      refine g_icmp_neN 60 dX3_numberAhead_50 (by decide) (by omega) (by omega) (fun c50 => ?_) (fun c50 => ?_)
      · refine g_iinc (q := 1) (v := nI (k + 1)) (ls' := [(2, .int (nI (k + 1))), (3, .int (nI ((((F).getD k 0) + n - ((S).getD k 0)) % n))), (0, .ref p), (1, .int (nI d))]) dX3_numberAhead_60 rfl (inc1 _) (Nat.le_of_ble_eq_true rfl) rfl ?_
        refine g_goto 2 dX3_numberAhead_63 (by decide) ?_
        refine g_lsub_ (ls2 := [(2, .int (nI (k + 1))), (0, .ref p), (1, .int (nI d))]) [0, 2, 3] rfl ?_
        have e : nAh n F S d (j + 1) k = nAh n F S d j (k + 1) := by rw [nAh_step, if_neg c33, if_neg c50]
        rw [e]
        exact ih (k + 1) (by omega)
      · refine g_aload_n dX3_numberAhead_53 2 rfl ?_
        refine g_getf dX3_numberAhead_54 kX3 wfX3_15 (Nat.le_of_ble_eq_true rfl) (hP.1) rfl ?_
        refine g_iload_n dX3_numberAhead_57 1 rfl ?_
        refine g_ialN dX3_numberAhead_58 (hP.2.2.1) (by omega) (by omega) ?_
        exact g_iret dX3_numberAhead_59 rfl ⟨Nat.zero_le _, Nat.zero_le _⟩ (⟨by unfold nAh; rw [if_neg c33, if_pos c50], rfl⟩)
    · refine g_aload_n dX3_numberAhead_36 2 rfl ?_
      refine g_getf dX3_numberAhead_37 kX3 wfX3_9 (Nat.le_of_ble_eq_true rfl) (hP.1) rfl ?_
      refine g_iload_n dX3_numberAhead_40 1 rfl ?_
      refine g_ialN dX3_numberAhead_41 (hP.2.1) (by omega) (by omega) ?_
      exact g_iret dX3_numberAhead_42 rfl ⟨Nat.zero_le _, Nat.zero_le _⟩ (⟨by unfold nAh; rw [if_pos c33], rfl⟩)

set_option maxRecDepth 100000 in
set_option maxHeartbeats 4000000 in
theorem ev_ahead {h : List aC} {p n m : Nat} {F S A : List Nat} (hP : PA h p n m F S A) (hm : m ≤ 6) (hn : n ≤ 13) (hb : bnd n m F S A) (h0 : 0 < n) (d : Nat) (hd : d < 2 ^ 30) : Ev mX3_numberAhead 3 0 0 [.ref p, .int (nI d)] h (pv (.int (nI (nAh n F S d m 0))) h) := by
  obtain ⟨-, -, -, -, lF, lS, lA⟩ := id hP
  refine Ev.of pX3_numberAhead (Nat.le_of_ble_eq_true rfl) ?_
  show G mX3_numberAhead (rmD 3 0 0) none _ 0 0 0 [(0, .ref p), (1, .int (nI d))] [] h
  refine g_iconst (v := nI 0) dX3_numberAhead_0 (by decide +kernel) ?_
  refine g_istore_n (ls' := [(2, .int (nI 0)), (0, .ref p), (1, .int (nI d))]) dX3_numberAhead_1 (Nat.le_of_ble_eq_true rfl) rfl ?_
  exact lp_ahead hP hm hn hb h0 d hd m 0 (by omega)

def shF (n m : Nat) (F S : List Nat) (m2 : Nat) (F2 S2 : List Nat) (d : Nat) : Nat := (nAh n F S d m 0 + n - nAh n F2 S2 d m2 0) % n
def shB (n m : Nat) (F S : List Nat) (m2 : Nat) (F2 S2 : List Nat) : Nat → Nat
  | 0 => 0
  | d + 1 => shB n m F S m2 F2 S2 d ||| 2 ^ shF n m F S m2 F2 S2 (d + 1)
theorem shB_lt {n m : Nat} {F S : List Nat} {m2 : Nat} {F2 S2 : List Nat} (h0 : 0 < n) (hn : n ≤ 13) : ∀ d, shB n m F S m2 F2 S2 d < 2 ^ 13
  | 0 => Nat.two_pow_pos 13
  | d + 1 => or_lt (shB_lt h0 hn d) (pw_lt (Nat.lt_of_lt_of_le (Nat.mod_lt _ h0) hn))
def rtB (n m : Nat) (F S : List Nat) (m2 : Nat) (F2 S2 : List Nat) : Bool := decide (shB n m F S m2 F2 S2 ((n - 1) / 2) &&& 1 = 0 ∧ popN (shB n m F S m2 F2 S2 ((n - 1) / 2)) 14 = (n - 1) / 2)

set_option maxRecDepth 100000 in
set_option maxHeartbeats 4000000 in
theorem ev_shift {h : List aC} {p n m : Nat} {F S A : List Nat} (hP : PA h p n m F S A) (hm : m ≤ 6) (hn : n ≤ 13) (hb : bnd n m F S A) (h0 : 0 < n) {p2 m2 : Nat} {F2 S2 A2 : List Nat} (hP2 : PA h p2 n m2 F2 S2 A2) (hm2 : m2 ≤ 6) (hb2 : bnd n m2 F2 S2 A2) (d : Nat) (hd : d < 2 ^ 30) : Ev mX3_shiftFrom 4 0 0 [.ref p, .ref p2, .int (nI d)] h (pv (.int (nI (shF n m F S m2 F2 S2 d))) h) := by
  obtain ⟨-, -, -, -, lF, lS, lA⟩ := id hP
  have z1 := nAh_lt hb h0 d m 0 (by omega)
  have z2 := nAh_lt hb2 h0 d m2 0 (by omega)
  refine Ev.of pX3_shiftFrom (Nat.le_of_ble_eq_true rfl) ?_
  show G mX3_shiftFrom (rmD 4 0 0) none _ 0 0 0 [(0, .ref p), (1, .ref p2), (2, .int (nI d))] [] h
  refine g_aload_n dX3_shiftFrom_0 0 rfl ?_
  refine g_iload_n dX3_shiftFrom_1 2 rfl ?_
  refine g_callVp dX3_shiftFrom_2 (ev_ahead hP (by omega) (by omega) hb (by omega) (d) (by omega)) oX3_numberAhead wiX3_numberAhead weX3_numberAhead wmX3_96 kX3 (hP.1) rfl ⟨(Nat.le_of_ble_eq_true rfl), (Nat.le_of_ble_eq_true rfl)⟩ ⟨Nat.zero_le _, Nat.zero_le _⟩ (Nat.le_of_ble_eq_true rfl) rfl ?_
  refine g_aload_n dX3_shiftFrom_5 1 rfl ?_
  refine g_iload_n dX3_shiftFrom_6 2 rfl ?_
  refine g_callVp dX3_shiftFrom_7 (ev_ahead hP2 (by omega) (by omega) hb2 (by omega) (d) (by omega)) oX3_numberAhead wiX3_numberAhead weX3_numberAhead wmX3_96 kX3 (hP2.1) rfl ⟨(Nat.le_of_ble_eq_true rfl), (Nat.le_of_ble_eq_true rfl)⟩ ⟨Nat.zero_le _, Nat.zero_le _⟩ (Nat.le_of_ble_eq_true rfl) rfl ?_
  refine g_isub dX3_shiftFrom_10 ?_
  refine g_aload_n dX3_shiftFrom_11 0 rfl ?_
  refine g_getf dX3_shiftFrom_12 kX3 wfX3_21 (Nat.le_of_ble_eq_true rfl) (hP.1) rfl ?_
  refine g_callSNp dX3_shiftFrom_15 (ev_wrapS (nAh n F S d m 0) (nAh n F2 S2 d m2 0) (n) (by omega) (by omega) (by omega) (by omega) _) oX8_wrap wsX8_wrap wqX3_46 rfl ⟨(Nat.le_of_ble_eq_true rfl), (Nat.le_of_ble_eq_true rfl)⟩ ⟨Nat.zero_le _, Nat.zero_le _⟩ (Nat.le_of_ble_eq_true rfl) rfl ?_
  exact g_iret dX3_shiftFrom_18 rfl ⟨Nat.zero_le _, Nat.zero_le _⟩ (⟨rfl, rfl⟩)

set_option maxRecDepth 100000 in
set_option maxHeartbeats 4000000 in
theorem lp_right {h : List aC} {p n m : Nat} {F S A : List Nat} (hP : PA h p n m F S A) (hm : m ≤ 6) (hn : n ≤ 13) (hb : bnd n m F S A) (h0 : 0 < n) {p2 m2 : Nat} {F2 S2 A2 : List Nat} (hP2 : PA h p2 n m2 F2 S2 A2) (hm2 : m2 ≤ 6) (hb2 : bnd n m2 F2 S2 A2) : ∀ j k , k + j = (n - 1) / 2 → G mX3_areRightTo (rmD 5 0 0) none (pv (.int (nI (bI (rtB n m F S m2 F2 S2)))) h) 0 0 4 [(3, .int (nI (k + 1))), (2, .int (nI (shB n m F S m2 F2 S2 k))), (0, .ref p), (1, .ref p2)] [] h := by
  obtain ⟨-, -, -, -, lF, lS, lA⟩ := id hP
  have l1 := shB_lt (m := m) (F := F) (S := S) (m2 := m2) (F2 := F2) (S2 := S2) h0 hn ((n - 1) / 2)
  have l2 := popN_le (shB n m F S m2 F2 S2 ((n - 1) / 2)) 14
  have l3 : shB n m F S m2 F2 S2 ((n - 1) / 2) &&& 1 ≤ 1 := Nat.and_le_right
  intro j
  induction j with
  | zero =>
    intro k  hk 
    have ek : k = (n - 1) / 2 := by omega
    rw [← ek] at l1 l2 l3
    refine g_iload_n dX3_areRightTo_4 0 rfl ?_
    refine g_aload_n dX3_areRightTo_5 2 rfl ?_
    refine g_callVp dX3_areRightTo_6 (ev_most hP (by omega)) oX3_most wiX3_most weX3_most wmX3_38 kX3 (hP.1) rfl ⟨(Nat.le_of_ble_eq_true rfl), (Nat.le_of_ble_eq_true rfl)⟩ ⟨Nat.zero_le _, Nat.zero_le _⟩ (Nat.le_of_ble_eq_true rfl) rfl ?_
    refine g_icmp_gtN 29 dX3_areRightTo_9 (by decide) (by omega) (by omega) (fun c9 => ?_) (fun z => absurd z (by omega))
    refine g_iload_n dX3_areRightTo_29 1 rfl ?_
    refine g_iconst (v := nI 1) dX3_areRightTo_30 (by decide +kernel) ?_
    refine g_iandN dX3_areRightTo_31 ?_
    refine g_if_neN 50 dX3_areRightTo_32 (by decide) (by omega) (fun c32 => ?_) (fun c32 => ?_)
    · refine g_iconst (v := nI 0) dX3_areRightTo_50 (by decide +kernel) ?_
      exact g_zret dX3_areRightTo_51 rfl (by decide) ⟨Nat.zero_le _, Nat.zero_le _⟩ (pvN (fun z => by rw [← ek] at z; first | exact absurd z.1 (Nat.ne_of_gt c32) | exact c43 (by omega)))
    · refine g_iload_n dX3_areRightTo_35 1 rfl ?_
      refine g_callSp dX3_areRightTo_36 (ev_bitCount (shB n m F S m2 F2 S2 k) (by omega) _) oJ6_bitCount_0f7a4 wsJ6_bitCount_0f7a4 wmX3_87 rfl ⟨(Nat.le_of_ble_eq_true rfl), (Nat.le_of_ble_eq_true rfl)⟩ ⟨Nat.zero_le _, Nat.zero_le _⟩ (Nat.le_of_ble_eq_true rfl) rfl ?_
      refine g_aload_n dX3_areRightTo_39 2 rfl ?_
      refine g_callVp dX3_areRightTo_40 (ev_most hP (by omega)) oX3_most wiX3_most weX3_most wmX3_38 kX3 (hP.1) rfl ⟨(Nat.le_of_ble_eq_true rfl), (Nat.le_of_ble_eq_true rfl)⟩ ⟨Nat.zero_le _, Nat.zero_le _⟩ (Nat.le_of_ble_eq_true rfl) rfl ?_
      refine g_icmp_neN 50 dX3_areRightTo_43 (by decide) (by omega) (by omega) (fun c43 => ?_) (fun c43 => ?_)
      · refine g_iconst (v := nI 0) dX3_areRightTo_50 (by decide +kernel) ?_
        exact g_zret dX3_areRightTo_51 rfl (by decide) ⟨Nat.zero_le _, Nat.zero_le _⟩ (pvN (fun z => by rw [← ek] at z; first | exact absurd z.1 (Nat.ne_of_gt c32) | exact c43 (by omega)))
      · refine g_iconst (v := nI 1) dX3_areRightTo_46 (by decide +kernel) ?_
        refine g_goto 51 dX3_areRightTo_47 (by decide) ?_
        exact g_zret dX3_areRightTo_51 rfl (by decide) ⟨Nat.zero_le _, Nat.zero_le _⟩ (pvB (by rw [← ek]; exact ⟨c32, by omega⟩))
  | succ j ih =>
    intro k  hk 
    have l4 : shF n m F S m2 F2 S2 (k + 1) < n := Nat.mod_lt _ h0
    refine g_iload_n dX3_areRightTo_4 0 rfl ?_
    refine g_aload_n dX3_areRightTo_5 2 rfl ?_
    refine g_callVp dX3_areRightTo_6 (ev_most hP (by omega)) oX3_most wiX3_most weX3_most wmX3_38 kX3 (hP.1) rfl ⟨(Nat.le_of_ble_eq_true rfl), (Nat.le_of_ble_eq_true rfl)⟩ ⟨Nat.zero_le _, Nat.zero_le _⟩ (Nat.le_of_ble_eq_true rfl) rfl ?_
    refine g_icmp_gtN 29 dX3_areRightTo_9 (by decide) (by omega) (by omega) (fun z => absurd z (by omega)) (fun c9 => ?_)
    refine g_iload_n dX3_areRightTo_12 1 rfl ?_
    refine g_iconst (v := nI 1) dX3_areRightTo_13 (by decide +kernel) ?_
    refine g_aload_n dX3_areRightTo_14 2 rfl ?_
    refine g_aload_n dX3_areRightTo_15 3 rfl ?_
    refine g_iload_n dX3_areRightTo_16 0 rfl ?_
    refine g_callVp dX3_areRightTo_17 (ev_shift hP (by omega) (by omega) hb h0 hP2 hm2 hb2 (k + 1) (by omega)) oX3_shiftFrom wiX3_shiftFrom weX3_shiftFrom wmX3_92 kX3 (hP.1) rfl ⟨(Nat.le_of_ble_eq_true rfl), (Nat.le_of_ble_eq_true rfl)⟩ ⟨Nat.zero_le _, Nat.zero_le _⟩ (Nat.le_of_ble_eq_true rfl) rfl ?_
    refine g_ishl1 dX3_areRightTo_20 (by omega) ?_
    refine g_iorN dX3_areRightTo_21 ?_
    refine g_istore_n (ls' := [(2, .int (nI ((shB n m F S m2 F2 S2 k) ||| (2 ^ (shF n m F S m2 F2 S2 (k + 1)))))), (3, .int (nI (k + 1))), (0, .ref p), (1, .ref p2)]) dX3_areRightTo_22 (Nat.le_of_ble_eq_true rfl) rfl ?_
    refine g_iinc (q := 1) (v := nI (k + 1 + 1)) (ls' := [(3, .int (nI (k + 1 + 1))), (2, .int (nI ((shB n m F S m2 F2 S2 k) ||| (2 ^ (shF n m F S m2 F2 S2 (k + 1)))))), (0, .ref p), (1, .ref p2)]) dX3_areRightTo_23 rfl (inc1 _) (Nat.le_of_ble_eq_true rfl) rfl ?_
    refine g_goto 4 dX3_areRightTo_26 (by decide) ?_
    exact ih (k + 1) (by omega)

set_option maxRecDepth 100000 in
set_option maxHeartbeats 4000000 in
theorem ev_right {h : List aC} {p n m : Nat} {F S A : List Nat} (hP : PA h p n m F S A) (hm : m ≤ 6) (hn : n ≤ 13) (hb : bnd n m F S A) (h0 : 0 < n) {p2 m2 : Nat} {F2 S2 A2 : List Nat} (hP2 : PA h p2 n m2 F2 S2 A2) (hm2 : m2 ≤ 6) (hb2 : bnd n m2 F2 S2 A2) : Ev mX3_areRightTo 5 0 0 [.ref p, .ref p2] h (pv (.int (nI (bI (rtB n m F S m2 F2 S2)))) h) := by
  obtain ⟨-, -, -, -, lF, lS, lA⟩ := id hP
  refine Ev.of pX3_areRightTo (Nat.le_of_ble_eq_true rfl) ?_
  show G mX3_areRightTo (rmD 5 0 0) none _ 0 0 0 [(0, .ref p), (1, .ref p2)] [] h
  refine g_iconst (v := nI 0) dX3_areRightTo_0 (by decide +kernel) ?_
  refine g_istore_n (ls' := [(2, .int (nI 0)), (0, .ref p), (1, .ref p2)]) dX3_areRightTo_1 (Nat.le_of_ble_eq_true rfl) rfl ?_
  refine g_iconst (v := nI 1) dX3_areRightTo_2 (by decide +kernel) ?_
  refine g_istore_n (ls' := [(3, .int (nI 1)), (2, .int (nI 0)), (0, .ref p), (1, .ref p2)]) dX3_areRightTo_3 (Nat.le_of_ble_eq_true rfl) rfl ?_
  exact lp_right hP hm hn hb h0 hP2 hm2 hb2 ((n - 1) / 2) 0 (by omega)

def drw (z : Int32) : Int32 := z * nI 1664525 + nI 1013904223
def lwb (z : Int32) : Nat := z.toBitVec.toNat % 2 ^ 31
def blw (z : Int32) (m : Nat) : Nat := lwb z / 256 % m
theorem lwb_and (z : Int32) : z &&& nI 2147483647 = nI (lwb z) := pk_and z 31 (by decide)
theorem lwb_lt (z : Int32) : lwb z < 2 ^ 31 := Nat.mod_lt _ (Nat.two_pow_pos 31)

set_option maxRecDepth 100000 in
set_option maxHeartbeats 4000000 in
theorem ev_drawn (z : Int32) (h : List aC) : Ev mX3_drawn 1 0 0 [.int z] h (pv (.int (drw z)) h) := by
  refine Ev.of pX3_drawn (Nat.le_of_ble_eq_true rfl) ?_
  show G mX3_drawn (rmD 1 0 0) none _ 0 0 0 [(0, .int z)] [] h
  refine g_iload_n dX3_drawn_0 0 rfl ?_
  refine g_ldc dX3_drawn_1 wxX3_109 ?_
  refine g_top (show ((1664525) : Int32) = nI 1664525 by decide +kernel) ?_
  refine g_imul dX3_drawn_3 ?_
  refine g_ldc dX3_drawn_4 wxX3_110 ?_
  refine g_top (show ((1013904223) : Int32) = nI 1013904223 by decide +kernel) ?_
  refine g_iadd dX3_drawn_6 ?_
  exact g_iret dX3_drawn_7 rfl ⟨Nat.zero_le _, Nat.zero_le _⟩ (⟨rfl, rfl⟩)

set_option maxRecDepth 100000 in
set_option maxHeartbeats 4000000 in
theorem ev_below (z : Int32) (m : Nat) (hm : 0 < m ∧ m < 2 ^ 30) (h : List aC) : Ev mX3_below 3 0 0 [.int z, .int (nI m)] h (pv (.int (nI (blw z m))) h) := by
  have l1 := lwb_lt z
  refine Ev.of pX3_below (Nat.le_of_ble_eq_true rfl) ?_
  show G mX3_below (rmD 3 0 0) none _ 0 0 0 [(0, .int z), (1, .int (nI m))] [] h
  refine g_iload_n dX3_below_0 0 rfl ?_
  refine g_ldc dX3_below_1 wxX3_111 ?_
  refine g_top (show ((2147483647) : Int32) = nI 2147483647 by decide +kernel) ?_
  refine g_iand dX3_below_3 ?_
  refine g_top (lwb_and z) ?_
  refine g_sipush (v := nI 256) dX3_below_4 (by decide +kernel) ?_
  refine g_idivN dX3_below_7 (by omega) (by omega) (by omega) ?_
  refine g_iload_n dX3_below_8 1 rfl ?_
  refine g_callSNp dX3_below_9 (ev_wrapN ((lwb z) / 256) (m) (by omega) (by omega) (by omega) _) oX8_wrap wsX8_wrap wqX3_46 rfl ⟨(Nat.le_of_ble_eq_true rfl), (Nat.le_of_ble_eq_true rfl)⟩ ⟨Nat.zero_le _, Nat.zero_le _⟩ (Nat.le_of_ble_eq_true rfl) rfl ?_
  exact g_iret dX3_below_12 rfl ⟨Nat.zero_le _, Nat.zero_le _⟩ (⟨rfl, rfl⟩)

def lotGo (m : Nat) (F : List Nat) : Nat → Int32 → Nat → List Nat → Nat × List Nat
  | 0, _, c, S => (c, S)
  | j + 1, z, c, S => if F.getD (blw (drw z) m) 0 ≠ S.getD (blw (drw (drw z)) m) 0 ∧ F.getD (blw (drw (drw z)) m) 0 ≠ S.getD (blw (drw z) m) 0 then lotGo m F j (drw (drw z)) (c + 1) ((S.set (blw (drw z) m) (S.getD (blw (drw (drw z)) m) 0)).set (blw (drw (drw z)) m) (S.getD (blw (drw z) m) 0)) else lotGo m F j (drw (drw z)) c S
theorem lotGo_pos {m : Nat} {F : List Nat} {j : Nat} {z : Int32} {c : Nat} {S : List Nat} (h1 : F.getD (blw (drw z) m) 0 ≠ S.getD (blw (drw (drw z)) m) 0) (h2 : F.getD (blw (drw (drw z)) m) 0 ≠ S.getD (blw (drw z) m) 0) : lotGo m F (j + 1) z c S = lotGo m F j (drw (drw z)) (c + 1) ((S.set (blw (drw z) m) (S.getD (blw (drw (drw z)) m) 0)).set (blw (drw (drw z)) m) (S.getD (blw (drw z) m) 0)) := if_pos ⟨h1, h2⟩
theorem lotGo_neg {m : Nat} {F : List Nat} {j : Nat} {z : Int32} {c : Nat} {S : List Nat} (h : ¬ (F.getD (blw (drw z) m) 0 ≠ S.getD (blw (drw (drw z)) m) 0 ∧ F.getD (blw (drw (drw z)) m) 0 ≠ S.getD (blw (drw z) m) 0)) : lotGo m F (j + 1) z c S = lotGo m F j (drw (drw z)) c S := if_neg h
theorem bnd_set {n m : Nat} {F S A : List Nat} (hb : bnd n m F S A) (lS : S.length = 6) (hm : m ≤ 6) {a b : Nat} (ha : a < m) (hc : b < m) : bnd n m F ((S.set a (S.getD b 0)).set b (S.getD a 0)) A := by
  intro k hk
  refine ⟨(hb k hk).1, ?_, (hb k hk).2.2⟩
  by_cases h1 : b = k
  · subst h1
    rw [getD_set_eq (by rw [List.length_set]; omega)]
    exact (hb a ha).2.1
  · rw [getD_set_ne h1]
    by_cases h2 : a = k
    · subst h2
      rw [getD_set_eq (by omega)]
      exact (hb b hc).2.1
    · rw [getD_set_ne h2]
      exact (hb k hk).2.1

set_option maxRecDepth 100000 in
set_option maxHeartbeats 4000000 in
theorem lp_lots {h0 : List aC} {p n m q : Nat} {F A : List Nat} (hm : 0 < m ∧ m ≤ 6) (hn : n ≤ 13) (hq : q ≤ 50) : ∀ j k (h : List aC) (z : Int32) (c : Nat) (S : List Nat), k + j = q → PA h p n m F S A → bnd n m F S A → Smo p (p + 4) h0 h → G mX3_changeByLots (rmD 4 0 0) none (pq (some (.int (nI (lotGo m F j z c S).1))) (fun h2 => PA h2 p n m F (lotGo m F j z c S).2 A ∧ bnd n m F (lotGo m F j z c S).2 A ∧ Smo p (p + 4) h0 h2)) 0 0 8 [(5, .int (nI k)), (4, .int (nI c)), (3, .int z), (0, .ref p), (1, .int (nI q))] [] h := by
  intro j
  induction j with
  | zero =>
    intro k h z c S hk hP hb hS
    obtain ⟨-, -, -, -, lF, lS, lA⟩ := id hP
    refine g_iload dX3_changeByLots_8 0 rfl ?_
    refine g_iload_n dX3_changeByLots_10 4 rfl ?_
    refine g_icmp_geN 137 dX3_changeByLots_11 (by decide) (by omega) (by omega) (fun c11 => ?_) (fun z => absurd z (by omega))
    refine g_iload dX3_changeByLots_137 1 rfl ?_
    exact g_iret dX3_changeByLots_139 rfl ⟨Nat.zero_le _, Nat.zero_le _⟩ (⟨rfl, hP, hb, hS⟩)
  | succ j ih =>
    intro k h z c S hk hP hb hS
    obtain ⟨-, -, -, -, lF, lS, lA⟩ := id hP
    have ha : blw (drw z) m < m := Nat.mod_lt _ hm.1
    have hc : blw (drw (drw z)) m < m := Nat.mod_lt _ hm.1
    obtain ⟨bF1, bS1, -⟩ := hb _ ha
    obtain ⟨bF2, bS2, -⟩ := hb _ hc
    refine g_iload dX3_changeByLots_8 0 rfl ?_
    refine g_iload_n dX3_changeByLots_10 4 rfl ?_
    refine g_icmp_geN 137 dX3_changeByLots_11 (by decide) (by omega) (by omega) (fun z => absurd z (by omega)) (fun c11 => ?_)
    refine g_iload_n dX3_changeByLots_14 2 rfl ?_
    refine g_callSp dX3_changeByLots_15 (ev_drawn (z) _) oX3_drawn wsX3_drawn wmX3_99 rfl ⟨(Nat.le_of_ble_eq_true rfl), (Nat.le_of_ble_eq_true rfl)⟩ ⟨Nat.zero_le _, Nat.zero_le _⟩ (Nat.le_of_ble_eq_true rfl) rfl ?_
    refine g_istore_n (ls' := [(3, .int (drw (z))), (5, .int (nI k)), (4, .int (nI c)), (0, .ref p), (1, .int (nI q))]) dX3_changeByLots_18 (Nat.le_of_ble_eq_true rfl) rfl ?_
    refine g_iload_n dX3_changeByLots_19 0 rfl ?_
    refine g_aload_n dX3_changeByLots_20 3 rfl ?_
    refine g_getf dX3_changeByLots_21 kX3 wfX3_25 (Nat.le_of_ble_eq_true rfl) (hP.1) rfl ?_
    refine g_callSp dX3_changeByLots_24 (ev_below (drw (z)) (m) (by omega) _) oX3_below wsX3_below wmX3_102 rfl ⟨(Nat.le_of_ble_eq_true rfl), (Nat.le_of_ble_eq_true rfl)⟩ ⟨Nat.zero_le _, Nat.zero_le _⟩ (Nat.le_of_ble_eq_true rfl) rfl ?_
    refine g_istore (ls' := [(6, .int (nI (blw (drw (z)) m))), (3, .int (drw (z))), (5, .int (nI k)), (4, .int (nI c)), (0, .ref p), (1, .int (nI q))]) dX3_changeByLots_27 (Nat.le_of_ble_eq_true rfl) rfl ?_
    refine g_iload_n dX3_changeByLots_29 1 rfl ?_
    refine g_callSp dX3_changeByLots_30 (ev_drawn (drw (z)) _) oX3_drawn wsX3_drawn wmX3_99 rfl ⟨(Nat.le_of_ble_eq_true rfl), (Nat.le_of_ble_eq_true rfl)⟩ ⟨Nat.zero_le _, Nat.zero_le _⟩ (Nat.le_of_ble_eq_true rfl) rfl ?_
    refine g_istore_n (ls' := [(3, .int (drw (drw (z)))), (6, .int (nI (blw (drw (z)) m))), (5, .int (nI k)), (4, .int (nI c)), (0, .ref p), (1, .int (nI q))]) dX3_changeByLots_33 (Nat.le_of_ble_eq_true rfl) rfl ?_
    refine g_iload_n dX3_changeByLots_34 0 rfl ?_
    refine g_aload_n dX3_changeByLots_35 4 rfl ?_
    refine g_getf dX3_changeByLots_36 kX3 wfX3_25 (Nat.le_of_ble_eq_true rfl) (hP.1) rfl ?_
    refine g_callSp dX3_changeByLots_39 (ev_below (drw (drw (z))) (m) (by omega) _) oX3_below wsX3_below wmX3_102 rfl ⟨(Nat.le_of_ble_eq_true rfl), (Nat.le_of_ble_eq_true rfl)⟩ ⟨Nat.zero_le _, Nat.zero_le _⟩ (Nat.le_of_ble_eq_true rfl) rfl ?_
    refine g_istore (ls' := [(7, .int (nI (blw (drw (drw (z))) m))), (3, .int (drw (drw (z)))), (6, .int (nI (blw (drw (z)) m))), (5, .int (nI k)), (4, .int (nI c)), (0, .ref p), (1, .int (nI q))]) dX3_changeByLots_42 (Nat.le_of_ble_eq_true rfl) rfl ?_
    refine g_aload_n dX3_changeByLots_44 5 rfl ?_
    refine g_iload dX3_changeByLots_45 2 rfl ?_
    refine g_callVp dX3_changeByLots_47 (ev_hasN hP (by omega) (blw (drw (z)) m) (by omega)) oX3_has wiX3_has weX3_has wmX3_105 kX3 (hP.1) rfl ⟨(Nat.le_of_ble_eq_true rfl), (Nat.le_of_ble_eq_true rfl)⟩ ⟨Nat.zero_le _, Nat.zero_le _⟩ (Nat.le_of_ble_eq_true rfl) rfl ?_
    refine g_if_eqB 131 dX3_changeByLots_50 (by decide) (fun z => absurd z (by simp; omega)) (fun c50 => ?_)
    refine g_aload_n dX3_changeByLots_53 5 rfl ?_
    refine g_iload dX3_changeByLots_54 0 rfl ?_
    refine g_callVp dX3_changeByLots_56 (ev_hasN hP (by omega) (blw (drw (drw (z))) m) (by omega)) oX3_has wiX3_has weX3_has wmX3_105 kX3 (hP.1) rfl ⟨(Nat.le_of_ble_eq_true rfl), (Nat.le_of_ble_eq_true rfl)⟩ ⟨Nat.zero_le _, Nat.zero_le _⟩ (Nat.le_of_ble_eq_true rfl) rfl ?_
    refine g_if_eqB 131 dX3_changeByLots_59 (by decide) (fun z => absurd z (by simp; omega)) (fun c59 => ?_)
    refine g_aload_n dX3_changeByLots_62 5 rfl ?_
    refine g_getf dX3_changeByLots_63 kX3 wfX3_9 (Nat.le_of_ble_eq_true rfl) (hP.1) rfl ?_
    refine g_iload dX3_changeByLots_66 2 rfl ?_
    refine g_ialN dX3_changeByLots_68 (hP.2.1) (by omega) (by omega) ?_
    refine g_aload_n dX3_changeByLots_69 5 rfl ?_
    refine g_getf dX3_changeByLots_70 kX3 wfX3_15 (Nat.le_of_ble_eq_true rfl) (hP.1) rfl ?_
    refine g_iload dX3_changeByLots_73 0 rfl ?_
    refine g_ialN dX3_changeByLots_75 (hP.2.2.1) (by omega) (by omega) ?_
    refine g_icmp_eqN 131 dX3_changeByLots_76 (by decide) (by omega) (by omega) (fun c76 => ?_) (fun c76 => ?_)
    · refine g_iinc (q := 3) (v := nI (k + 1)) (ls' := [(5, .int (nI (k + 1))), (7, .int (nI (blw (drw (drw (z))) m))), (3, .int (drw (drw (z)))), (6, .int (nI (blw (drw (z)) m))), (4, .int (nI c)), (0, .ref p), (1, .int (nI q))]) dX3_changeByLots_131 rfl (inc1 _) (Nat.le_of_ble_eq_true rfl) rfl ?_
      refine g_goto 8 dX3_changeByLots_134 (by decide) ?_
      refine g_lsub_ (ls2 := [(5, .int (nI (k + 1))), (4, .int (nI c)), (3, .int (drw (drw (z)))), (0, .ref p), (1, .int (nI q))]) [0, 4, 2, 5, 6] rfl ?_
      rw [lotGo_neg (by first | exact fun y => y.1 c76 | exact fun y => y.2 c93)]
      exact ih (k + 1) h (drw (drw z)) c S (by omega) hP hb hS
    · refine g_aload_n dX3_changeByLots_79 5 rfl ?_
      refine g_getf dX3_changeByLots_80 kX3 wfX3_9 (Nat.le_of_ble_eq_true rfl) (hP.1) rfl ?_
      refine g_iload dX3_changeByLots_83 0 rfl ?_
      refine g_ialN dX3_changeByLots_85 (hP.2.1) (by omega) (by omega) ?_
      refine g_aload_n dX3_changeByLots_86 5 rfl ?_
      refine g_getf dX3_changeByLots_87 kX3 wfX3_15 (Nat.le_of_ble_eq_true rfl) (hP.1) rfl ?_
      refine g_iload dX3_changeByLots_90 2 rfl ?_
      refine g_ialN dX3_changeByLots_92 (hP.2.2.1) (by omega) (by omega) ?_
      refine g_icmp_eqN 131 dX3_changeByLots_93 (by decide) (by omega) (by omega) (fun c93 => ?_) (fun c93 => ?_)
      · refine g_iinc (q := 3) (v := nI (k + 1)) (ls' := [(5, .int (nI (k + 1))), (7, .int (nI (blw (drw (drw (z))) m))), (3, .int (drw (drw (z)))), (6, .int (nI (blw (drw (z)) m))), (4, .int (nI c)), (0, .ref p), (1, .int (nI q))]) dX3_changeByLots_131 rfl (inc1 _) (Nat.le_of_ble_eq_true rfl) rfl ?_
        refine g_goto 8 dX3_changeByLots_134 (by decide) ?_
        refine g_lsub_ (ls2 := [(5, .int (nI (k + 1))), (4, .int (nI c)), (3, .int (drw (drw (z)))), (0, .ref p), (1, .int (nI q))]) [0, 4, 2, 5, 6] rfl ?_
        rw [lotGo_neg (by first | exact fun y => y.1 c76 | exact fun y => y.2 c93)]
        exact ih (k + 1) h (drw (drw z)) c S (by omega) hP hb hS
      · refine g_aload_n dX3_changeByLots_96 5 rfl ?_
        refine g_getf dX3_changeByLots_97 kX3 wfX3_15 (Nat.le_of_ble_eq_true rfl) (hP.1) rfl ?_
        refine g_iload dX3_changeByLots_100 2 rfl ?_
        refine g_ialN dX3_changeByLots_102 (hP.2.2.1) (by omega) (by omega) ?_
        refine g_istore (ls' := [(8, .int (nI ((S).getD (blw (drw (z)) m) 0))), (7, .int (nI (blw (drw (drw (z))) m))), (3, .int (drw (drw (z)))), (6, .int (nI (blw (drw (z)) m))), (5, .int (nI k)), (4, .int (nI c)), (0, .ref p), (1, .int (nI q))]) dX3_changeByLots_103 (Nat.le_of_ble_eq_true rfl) rfl ?_
        refine g_aload_n dX3_changeByLots_105 6 rfl ?_
        refine g_getf dX3_changeByLots_106 kX3 wfX3_15 (Nat.le_of_ble_eq_true rfl) (hP.1) rfl ?_
        refine g_iload dX3_changeByLots_109 3 rfl ?_
        refine g_aload_n dX3_changeByLots_111 6 rfl ?_
        refine g_getf dX3_changeByLots_112 kX3 wfX3_15 (Nat.le_of_ble_eq_true rfl) (hP.1) rfl ?_
        refine g_iload dX3_changeByLots_115 1 rfl ?_
        refine g_ialN dX3_changeByLots_117 (hP.2.2.1) (by omega) (by omega) ?_
        refine g_iasN dX3_changeByLots_118 (hP.2.2.1) (by omega) (by omega) (fun h1 e1 => ?_)
        have f1_p_2 : rd h1 (p + 2) = some (.inl (((S).set (blw (drw (z)) m) ((S).getD (blw (drw (drw (z))) m) 0)).map nI)) := by rw [e1]; exact rd_wr_eq (hP.2.2.1)
        have f1_p : rd h1 p = some (.inr (3, [.ref (p + 1), .ref (p + 2), .ref (p + 3), .int (nI n), .int (nI m)])) := by rw [e1, rd_wr_ne (by omega)]; exact hP.1
        have f1_p_1 : rd h1 (p + 1) = some (.inl ((F).map nI)) := by rw [e1, rd_wr_ne (by omega)]; exact hP.2.1
        have f1_p_3 : rd h1 (p + 3) = some (.inl ((A).map nI)) := by rw [e1, rd_wr_ne (by omega)]; exact hP.2.2.2.1
        refine g_aload_n dX3_changeByLots_119 6 rfl ?_
        refine g_getf dX3_changeByLots_120 kX3 wfX3_15 (Nat.le_of_ble_eq_true rfl) (f1_p) rfl ?_
        refine g_iload dX3_changeByLots_123 1 rfl ?_
        refine g_iload dX3_changeByLots_125 0 rfl ?_
        refine g_iasN dX3_changeByLots_127 (f1_p_2) (by simp only [List.length_set]; omega) (by simp only [List.length_set]; omega) (fun h2 e2 => ?_)
        have f2_p_2 : rd h2 (p + 2) = some (.inl ((((S).set (blw (drw (z)) m) ((S).getD (blw (drw (drw (z))) m) 0)).set (blw (drw (drw (z))) m) ((S).getD (blw (drw (z)) m) 0)).map nI)) := by rw [e2]; exact rd_wr_eq (f1_p_2)
        have f2_p : rd h2 p = some (.inr (3, [.ref (p + 1), .ref (p + 2), .ref (p + 3), .int (nI n), .int (nI m)])) := by rw [e2, rd_wr_ne (by omega)]; exact f1_p
        have f2_p_1 : rd h2 (p + 1) = some (.inl ((F).map nI)) := by rw [e2, rd_wr_ne (by omega)]; exact f1_p_1
        have f2_p_3 : rd h2 (p + 3) = some (.inl ((A).map nI)) := by rw [e2, rd_wr_ne (by omega)]; exact f1_p_3
        refine g_iinc (q := 5) (v := nI (c + 1)) (ls' := [(4, .int (nI (c + 1))), (8, .int (nI ((S).getD (blw (drw (z)) m) 0))), (7, .int (nI (blw (drw (drw (z))) m))), (3, .int (drw (drw (z)))), (6, .int (nI (blw (drw (z)) m))), (5, .int (nI k)), (0, .ref p), (1, .int (nI q))]) dX3_changeByLots_128 rfl (inc1 _) (Nat.le_of_ble_eq_true rfl) rfl ?_
        refine g_iinc (q := 5) (v := nI (k + 1)) (ls' := [(5, .int (nI (k + 1))), (4, .int (nI (c + 1))), (8, .int (nI ((S).getD (blw (drw (z)) m) 0))), (7, .int (nI (blw (drw (drw (z))) m))), (3, .int (drw (drw (z)))), (6, .int (nI (blw (drw (z)) m))), (0, .ref p), (1, .int (nI q))]) dX3_changeByLots_131 rfl (inc1 _) (Nat.le_of_ble_eq_true rfl) rfl ?_
        refine g_goto 8 dX3_changeByLots_134 (by decide) ?_
        refine g_lsub_ (ls2 := [(5, .int (nI (k + 1))), (4, .int (nI (c + 1))), (3, .int (drw (drw (z)))), (0, .ref p), (1, .int (nI q))]) [0, 1, 4, 6, 7] rfl ?_
        rw [lotGo_pos c76 c93]
        exact ih (k + 1) h2 (drw (drw z)) (c + 1) _ (by omega) ⟨f2_p, f2_p_1, f2_p_2, f2_p_3, lF, by simp [lS], lA⟩ (bnd_set hb lS hm.2 ha hc) (hS.tr (fun q hq => by rw [e2, rd_wr_ne (by omega), e1, rd_wr_ne (by omega)]))

set_option maxRecDepth 100000 in
set_option maxHeartbeats 4000000 in
theorem ev_lots {h : List aC} {p n m : Nat} {F S A : List Nat} (hP : PA h p n m F S A) (hm : 0 < m ∧ m ≤ 6) (hn : n ≤ 13) (hb : bnd n m F S A) (q : Nat) (hq : q ≤ 50) (z : Int32) : Ev mX3_changeByLots 4 0 0 [.ref p, .int (nI q), .int z] h (pq (some (.int (nI (lotGo m F q z 0 S).1))) (fun h2 => PA h2 p n m F (lotGo m F q z 0 S).2 A ∧ bnd n m F (lotGo m F q z 0 S).2 A ∧ Smo p (p + 4) h h2)) := by
  obtain ⟨-, -, -, -, lF, lS, lA⟩ := id hP
  refine Ev.of pX3_changeByLots (Nat.le_of_ble_eq_true rfl) ?_
  show G mX3_changeByLots (rmD 4 0 0) none _ 0 0 0 [(0, .ref p), (1, .int (nI q)), (2, .int z)] [] h
  refine g_iload_n dX3_changeByLots_0 2 rfl ?_
  refine g_istore_n (ls' := [(3, .int z), (0, .ref p), (1, .int (nI q)), (2, .int z)]) dX3_changeByLots_1 (Nat.le_of_ble_eq_true rfl) rfl ?_
  refine g_iconst (v := nI 0) dX3_changeByLots_2 (by decide +kernel) ?_
  refine g_istore (ls' := [(4, .int (nI 0)), (3, .int z), (0, .ref p), (1, .int (nI q)), (2, .int z)]) dX3_changeByLots_3 (Nat.le_of_ble_eq_true rfl) rfl ?_
  refine g_iconst (v := nI 0) dX3_changeByLots_5 (by decide +kernel) ?_
  refine g_istore (ls' := [(5, .int (nI 0)), (4, .int (nI 0)), (3, .int z), (0, .ref p), (1, .int (nI q)), (2, .int z)]) dX3_changeByLots_6 (Nat.le_of_ble_eq_true rfl) rfl ?_
  refine g_lsub_ (ls2 := [(5, .int (nI 0)), (4, .int (nI 0)), (3, .int z), (0, .ref p), (1, .int (nI q))]) [0, 1, 2, 3, 4] rfl ?_
  exact lp_lots hm hn hq q 0 h z 0 S (by omega) hP hb Smo.rf
