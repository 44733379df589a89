/-- two heaps alike but for the cells lo .. hi-1 -/
def Smo (lo hi : Nat) (h h' : List aC) : Prop := ∀ q, (q < lo ∨ hi ≤ q) → rd h' q = rd h q
theorem Smo.rf {lo hi : Nat} {h : List aC} : Smo lo hi h h := fun _ _ => rfl
theorem Smo.tr {lo hi : Nat} {h h1 h2 : List aC} (a : Smo lo hi h h1) (b : Smo lo hi h1 h2) : Smo lo hi h h2 := fun q hq => (b q hq).trans (a q hq)
theorem Smo.wid {lo hi lo' hi' : Nat} {h h1 : List aC} (a : Smo lo hi h h1) (e1 : lo' ≤ lo) (e2 : hi ≤ hi') : Smo lo' hi' h h1 := fun q hq => a q (by omega)
theorem Smo.wr {lo hi o : Nat} {h : List aC} {e : aC} (h1 : lo ≤ o) (h2 : o < hi) : Smo lo hi h (wr h o e) := fun q hq => rd_wr_ne (by omega)
/-- the cells of a Pairs at p: its arrays lie behind it -/
def PA (h : List aC) (p n m : Nat) (F S A : List Nat) : Prop := rd h p = some (.inr (3, [.ref (p + 1), .ref (p + 2), .ref (p + 3), .int (nI n), .int (nI m)])) ∧ rd h (p + 1) = some (.inl (F.map nI)) ∧ rd h (p + 2) = some (.inl (S.map nI)) ∧ rd h (p + 3) = some (.inl (A.map nI)) ∧ F.length = 6 ∧ S.length = 6 ∧ A.length = 6
theorem PA.mv {h h' : List aC} {p n m lo hi : Nat} {F S A : List Nat} (H : PA h p n m F S A) (s : Smo lo hi h h') (hq : p + 4 ≤ lo ∨ hi ≤ p) : PA h' p n m F S A := ⟨by rw [s p (by omega)]; exact H.1, by rw [s (p + 1) (by omega)]; exact H.2.1, by rw [s (p + 2) (by omega)]; exact H.2.2.1, by rw [s (p + 3) (by omega)]; exact H.2.2.2.1, H.2.2.2.2⟩
theorem pvT {b : Bool} {h : List aC} (e : b = true) : pv (.int (nI (bI b))) h (some (.int (nI 1))) h := ⟨by rw [e]; rfl, rfl⟩
theorem pvF {b : Bool} {h : List aC} (e : b = false) : pv (.int (nI (bI b))) h (some (.int (nI 0))) h := ⟨by rw [e]; rfl, rfl⟩
/-- the numbers of pairs, as bits -/
def nBits (F S : List Nat) : Nat → Nat
  | 0 => 0
  | k + 1 => nBits F S k ||| (2 ^ F.getD k 0 ||| 2 ^ S.getD k 0)
def dBits (n : Nat) (F S : List Nat) : Nat → Nat
  | 0 => 0
  | k + 1 => (dBits n F S k ||| 2 ^ ((F.getD k 0 + n - S.getD k 0) % n)) ||| 2 ^ ((S.getD k 0 + n - F.getD k 0) % n)
def sBits (n : Nat) (F S : List Nat) : Nat → Nat
  | 0 => 0
  | k + 1 => sBits n F S k ||| 2 ^ ((F.getD k 0 + S.getD k 0) % n)
/-- numbers of m pairs are below n -/
def bnd (n m : Nat) (F S A : List Nat) : Prop := ∀ k, k < m → F.getD k 0 < n ∧ S.getD k 0 < n ∧ A.getD k 0 < n
theorem or_lt {a b k : Nat} (ha : a < 2 ^ k) (hb : b < 2 ^ k) : a ||| b < 2 ^ k := Nat.or_lt_two_pow ha hb
theorem pw_lt {a k : Nat} (h : a < k) : 2 ^ a < 2 ^ k := Nat.pow_lt_pow_right (by decide) h

set_option maxRecDepth 100000 in
set_option maxHeartbeats 4000000 in
theorem ev_most {h : List aC} {p n m : Nat} {F S A : List Nat} (hP : PA h p n m F S A) (hn : 0 < n ∧ n < 2 ^ 30) : Ev mX3_most 1 0 0 [.ref p] h (pv (.int (nI ((n - 1) / 2))) h) := by
  obtain ⟨-, -, -, -, lF, lS, lA⟩ := id hP
  refine Ev.of pX3_most (Nat.le_of_ble_eq_true rfl) ?_
  show G mX3_most (rmD 1 0 0) none _ 0 0 0 [(0, .ref p)] [] h
  refine g_aload_n dX3_most_0 0 rfl ?_
  refine g_getf dX3_most_1 kX3 wfX3_21 (Nat.le_of_ble_eq_true rfl) (hP.1) rfl ?_
  refine g_iconst (v := nI 1) dX3_most_4 (by decide +kernel) ?_
  refine g_isubN dX3_most_5 (by omega) ?_
  refine g_iconst (v := nI 2) dX3_most_6 (by decide +kernel) ?_
  refine g_idivN dX3_most_7 (by omega) (by omega) (by omega) ?_
  exact g_iret dX3_most_8 rfl ⟨Nat.zero_le _, Nat.zero_le _⟩ (⟨rfl, rfl⟩)

set_option maxRecDepth 100000 in
set_option maxHeartbeats 4000000 in
theorem ev_has {h : List aC} {p n m : Nat} {F S A : List Nat} (hP : PA h p n m F S A) (hm : m < 2 ^ 30) (j : Int32) : Ev mX3_has 1 0 0 [.ref p, .int j] h (pv (.int (nI (bI (decide (0 ≤ j) && decide (j < nI m))))) h) := by
  obtain ⟨-, -, -, -, lF, lS, lA⟩ := id hP
  refine Ev.of pX3_has (Nat.le_of_ble_eq_true rfl) ?_
  show G mX3_has (rmD 1 0 0) none _ 0 0 0 [(0, .ref p), (1, .int j)] [] h
  refine g_iload_n dX3_has_0 1 rfl ?_
  refine g_if_lt 16 dX3_has_1 (by decide) (fun c1 => ?_) (fun c1 => ?_)
  · refine g_iconst (v := nI 0) dX3_has_16 (by decide +kernel) ?_
    exact g_zret dX3_has_17 rfl (by decide) ⟨Nat.zero_le _, Nat.zero_le _⟩ (pvF (by first | rw [decide_eq_false (Int32.not_le.mpr c1)]; rfl | rw [decide_eq_false (Int32.not_lt.mpr c9), Bool.and_false]))
  · refine g_iload_n dX3_has_4 1 rfl ?_
    refine g_aload_n dX3_has_5 0 rfl ?_
    refine g_getf dX3_has_6 kX3 wfX3_25 (Nat.le_of_ble_eq_true rfl) (hP.1) rfl ?_
    refine g_icmp_ge 16 dX3_has_9 (by decide) (fun c9 => ?_) (fun c9 => ?_)
    · refine g_iconst (v := nI 0) dX3_has_16 (by decide +kernel) ?_
      exact g_zret dX3_has_17 rfl (by decide) ⟨Nat.zero_le _, Nat.zero_le _⟩ (pvF (by first | rw [decide_eq_false (Int32.not_le.mpr c1)]; rfl | rw [decide_eq_false (Int32.not_lt.mpr c9), Bool.and_false]))
    · refine g_iconst (v := nI 1) dX3_has_12 (by decide +kernel) ?_
      refine g_goto 17 dX3_has_13 (by decide) ?_
      exact g_zret dX3_has_17 rfl (by decide) ⟨Nat.zero_le _, Nat.zero_le _⟩ (pvT (by simp only [Bool.and_eq_true, decide_eq_true_eq]; exact ⟨Int32.not_lt.mp c1, Int32.not_le.mp c9⟩))

set_option maxRecDepth 100000 in
set_option maxHeartbeats 4000000 in
theorem ev_hasN {h : List aC} {p n m : Nat} {F S A : List Nat} (hP : PA h p n m F S A) (hm : m < 2 ^ 30) (j : Nat) (hj : j < 2 ^ 30) : Ev mX3_has 1 0 0 [.ref p, .int (nI j)] h (pv (.int (nI (bI (decide (j < m))))) h) := by
  obtain ⟨-, -, -, -, lF, lS, lA⟩ := id hP
  refine Ev.of pX3_has (Nat.le_of_ble_eq_true rfl) ?_
  show G mX3_has (rmD 1 0 0) none _ 0 0 0 [(0, .ref p), (1, .int (nI j))] [] h
  refine g_iload_n dX3_has_0 1 rfl ?_
  refine g_if_ltN 16 dX3_has_1 (by decide) (by omega) ?_
  refine g_iload_n dX3_has_4 1 rfl ?_
  refine g_aload_n dX3_has_5 0 rfl ?_
  refine g_getf dX3_has_6 kX3 wfX3_25 (Nat.le_of_ble_eq_true rfl) (hP.1) rfl ?_
  refine g_icmp_geN 16 dX3_has_9 (by decide) (by omega) (by omega) (fun c9 => ?_) (fun c9 => ?_)
  · refine g_iconst (v := nI 0) dX3_has_16 (by decide +kernel) ?_
    exact g_zret dX3_has_17 rfl (by decide) ⟨Nat.zero_le _, Nat.zero_le _⟩ (pvF (decide_eq_false (by omega)))
  · refine g_iconst (v := nI 1) dX3_has_12 (by decide +kernel) ?_
    refine g_goto 17 dX3_has_13 (by decide) ?_
    exact g_zret dX3_has_17 rfl (by decide) ⟨Nat.zero_le _, Nat.zero_le _⟩ (pvT (decide_eq_true (by omega)))

set_option maxRecDepth 100000 in
set_option maxHeartbeats 4000000 in
theorem ev_numberAt {h : List aC} {p n m : Nat} {F S A : List Nat} (hP : PA h p n m F S A) (j : Nat) (hj : j < 12) : Ev mX3_numberAt 1 0 0 [.ref p, .int (nI j)] h (pv (.int (nI (if j % 2 = 0 then F.getD (j / 2) 0 else S.getD (j / 2) 0))) h) := by
  obtain ⟨-, -, -, -, lF, lS, lA⟩ := id hP
  refine Ev.of pX3_numberAt (Nat.le_of_ble_eq_true rfl) ?_
  show G mX3_numberAt (rmD 1 0 0) none _ 0 0 0 [(0, .ref p), (1, .int (nI j))] [] h
  refine g_iload_n dX3_numberAt_0 1 rfl ?_
  refine g_iconst (v := nI 2) dX3_numberAt_1 (by decide +kernel) ?_
  refine g_iremN dX3_numberAt_2 (by omega) (by omega) (by omega) ?_
  refine g_if_neN 17 dX3_numberAt_3 (by decide) (by omega) (fun c3 => ?_) (fun c3 => ?_)
  · refine g_aload_n dX3_numberAt_17 0 rfl ?_
    refine g_getf dX3_numberAt_18 kX3 wfX3_15 (Nat.le_of_ble_eq_true rfl) (hP.1) rfl ?_
    refine g_iload_n dX3_numberAt_21 1 rfl ?_
    refine g_iconst (v := nI 2) dX3_numberAt_22 (by decide +kernel) ?_
    refine g_idivN dX3_numberAt_23 (by omega) (by omega) (by omega) ?_
    refine g_ialN dX3_numberAt_24 (hP.2.2.1) (by omega) (by omega) ?_
    exact g_iret dX3_numberAt_25 rfl ⟨Nat.zero_le _, Nat.zero_le _⟩ (⟨by first | rw [if_pos (by omega)] | rw [if_neg (by omega)], rfl⟩)
  · refine g_aload_n dX3_numberAt_6 0 rfl ?_
    refine g_getf dX3_numberAt_7 kX3 wfX3_9 (Nat.le_of_ble_eq_true rfl) (hP.1) rfl ?_
    refine g_iload_n dX3_numberAt_10 1 rfl ?_
    refine g_iconst (v := nI 2) dX3_numberAt_11 (by decide +kernel) ?_
    refine g_idivN dX3_numberAt_12 (by omega) (by omega) (by omega) ?_
    refine g_ialN dX3_numberAt_13 (hP.2.1) (by omega) (by omega) ?_
    refine g_goto 25 dX3_numberAt_14 (by decide) ?_
    exact g_iret dX3_numberAt_25 rfl ⟨Nat.zero_le _, Nat.zero_le _⟩ (⟨by first | rw [if_pos (by omega)] | rw [if_neg (by omega)], rfl⟩)

set_option maxRecDepth 100000 in
set_option maxHeartbeats 4000000 in
theorem ev_areWhole {h : List aC} {p n m : Nat} {F S A : List Nat} (hP : PA h p n m F S A) (hm : m < 2 ^ 30) (hn : 0 < n ∧ n < 2 ^ 30) : Ev mX3_areWhole 2 0 0 [.ref p] h (pv (.int (nI (bI (decide (m = (n - 1) / 2))))) h) := by
  obtain ⟨-, -, -, -, lF, lS, lA⟩ := id hP
  refine Ev.of pX3_areWhole (Nat.le_of_ble_eq_true rfl) ?_
  show G mX3_areWhole (rmD 2 0 0) none _ 0 0 0 [(0, .ref p)] [] h
  refine g_aload_n dX3_areWhole_0 0 rfl ?_
  refine g_getf dX3_areWhole_1 kX3 wfX3_25 (Nat.le_of_ble_eq_true rfl) (hP.1) rfl ?_
  refine g_aload_n dX3_areWhole_4 0 rfl ?_
  refine g_callVp dX3_areWhole_5 (ev_most hP (by omega)) oX3_most wiX3_most weX3_most wmX3_38 kX3 (hP.1) rfl ⟨(Nat.le_of_ble_eq_true rfl), (Nat.le_of_ble_eq_true rfl)⟩ ⟨Nat.zero_le _, Nat.zero_le _⟩ (Nat.le_of_ble_eq_true rfl) rfl ?_
  refine g_icmp_neN 15 dX3_areWhole_8 (by decide) (by omega) (by omega) (fun c8 => ?_) (fun c8 => ?_)
  · refine g_iconst (v := nI 0) dX3_areWhole_15 (by decide +kernel) ?_
    exact g_zret dX3_areWhole_16 rfl (by decide) ⟨Nat.zero_le _, Nat.zero_le _⟩ (pvF (decide_eq_false (by omega)))
  · refine g_iconst (v := nI 1) dX3_areWhole_11 (by decide +kernel) ?_
    refine g_goto 16 dX3_areWhole_12 (by decide) ?_
    exact g_zret dX3_areWhole_16 rfl (by decide) ⟨Nat.zero_le _, Nat.zero_le _⟩ (pvT (decide_eq_true (by omega)))

set_option maxRecDepth 100000 in
set_option maxHeartbeats 4000000 in
theorem ev_allBut {h : List aC} {p n m : Nat} {F S A : List Nat} (hP : PA h p n m F S A) (hn : 0 < n ∧ n < 14) : Ev mX3_allButZero 1 0 0 [.ref p] h (pv (.int (nI (2 ^ n - 2))) h) := by
  obtain ⟨-, -, -, -, lF, lS, lA⟩ := id hP
  have h2 := Nat.pow_lt_pow_right (a := 2) (by decide) hn.2
  have h3 : 2 ^ 1 ≤ 2 ^ n := Nat.pow_le_pow_right (by decide) hn.1
  refine Ev.of pX3_allButZero (Nat.le_of_ble_eq_true rfl) ?_
  show G mX3_allButZero (rmD 1 0 0) none _ 0 0 0 [(0, .ref p)] [] h
  refine g_iconst (v := nI 1) dX3_allButZero_0 (by decide +kernel) ?_
  refine g_aload_n dX3_allButZero_1 0 rfl ?_
  refine g_getf dX3_allButZero_2 kX3 wfX3_21 (Nat.le_of_ble_eq_true rfl) (hP.1) rfl ?_
  refine g_ishl1 dX3_allButZero_5 (by first | omega | exact Nat.lt_of_lt_of_le (Nat.mod_lt _ (by omega)) (by omega)) ?_
  refine g_iconst (v := nI 2) dX3_allButZero_6 (by decide +kernel) ?_
  refine g_isubN dX3_allButZero_7 (by omega) ?_
  exact g_iret dX3_allButZero_8 rfl ⟨Nat.zero_le _, Nat.zero_le _⟩ (⟨rfl, rfl⟩)

theorem nBits_lt {n m : Nat} {F S A : List Nat} (hb : bnd n m F S A) (hn : n ≤ 13) : ∀ k, k ≤ m → nBits F S k < 2 ^ 13
  | 0, _ => Nat.two_pow_pos 13
  | k + 1, hk => by
    obtain ⟨a, b, -⟩ := hb k (by omega)
    exact or_lt (nBits_lt hb hn k (by omega)) (or_lt (pw_lt (by omega)) (pw_lt (by omega)))
theorem dBits_lt {n m : Nat} {F S A : List Nat} (hb : bnd n m F S A) (hn : n ≤ 13) : ∀ k, k ≤ m → dBits n F S k < 2 ^ 13
  | 0, _ => Nat.two_pow_pos 13
  | k + 1, hk => by
    obtain ⟨a, b, -⟩ := hb k (by omega)
    have e1 := Nat.mod_lt (F.getD k 0 + n - S.getD k 0) (y := n) (by omega)
    have e2 := Nat.mod_lt (S.getD k 0 + n - F.getD k 0) (y := n) (by omega)
    exact or_lt (or_lt (dBits_lt hb hn k (by omega)) (pw_lt (by omega))) (pw_lt (by omega))
theorem sBits_lt {n m : Nat} {F S A : List Nat} (hb : bnd n m F S A) (hn : n ≤ 13) : ∀ k, k ≤ m → sBits n F S k < 2 ^ 13
  | 0, _ => Nat.two_pow_pos 13
  | k + 1, hk => by
    obtain ⟨a, b, -⟩ := hb k (by omega)
    have e1 := Nat.mod_lt (F.getD k 0 + S.getD k 0) (y := n) (by omega)
    exact or_lt (sBits_lt hb hn k (by omega)) (pw_lt (by omega))

set_option maxRecDepth 100000 in
set_option maxHeartbeats 4000000 in
theorem lp_numberBits {h : List aC} {p n m : Nat} {F S A : List Nat} (hP : PA h p n m F S A) {P : Option Value → List aC → Prop} (hm : m ≤ 6) (hn : n ≤ 13) (hb : bnd n m F S A) (HP : P (some (.int (nI (nBits F S m)))) h) : ∀ j k, k + j = m → G mX3_numberBits (rmD 2 0 0) none P 0 0 4 [(2, .int (nI k)), (1, .int (nI (nBits F S k))), (0, .ref p)] [] h := by
  obtain ⟨-, -, -, -, lF, lS, lA⟩ := id hP
  intro j
  induction j with
  | zero =>
    intro k hk
    obtain rfl : k = m := by omega
    refine g_iload_n dX3_numberBits_4 0 rfl ?_
    refine g_aload_n dX3_numberBits_5 2 rfl ?_
    refine g_getf dX3_numberBits_6 kX3 wfX3_25 (Nat.le_of_ble_eq_true rfl) (hP.1) rfl ?_
    refine g_icmp_geN 38 dX3_numberBits_9 (by decide) (by omega) (by omega) (fun c9 => ?_) (fun z => absurd z (by omega))
    refine g_iload_n dX3_numberBits_38 1 rfl ?_
    exact g_iret dX3_numberBits_39 rfl ⟨Nat.zero_le _, Nat.zero_le _⟩ (HP)
  | succ j ih =>
    intro k hk
    obtain ⟨bF, bS, bA⟩ := hb k (by omega)
    refine g_iload_n dX3_numberBits_4 0 rfl ?_
    refine g_aload_n dX3_numberBits_5 2 rfl ?_
    refine g_getf dX3_numberBits_6 kX3 wfX3_25 (Nat.le_of_ble_eq_true rfl) (hP.1) rfl ?_
    refine g_icmp_geN 38 dX3_numberBits_9 (by decide) (by omega) (by omega) (fun z => absurd z (by omega)) (fun c9 => ?_)
    refine g_iload_n dX3_numberBits_12 1 rfl ?_
    refine g_iconst (v := nI 1) dX3_numberBits_13 (by decide +kernel) ?_
    refine g_aload_n dX3_numberBits_14 2 rfl ?_
    refine g_getf dX3_numberBits_15 kX3 wfX3_9 (Nat.le_of_ble_eq_true rfl) (hP.1) rfl ?_
    refine g_iload_n dX3_numberBits_18 0 rfl ?_
    refine g_ialN dX3_numberBits_19 (hP.2.1) (by omega) (by omega) ?_
    refine g_ishl1 dX3_numberBits_20 (by first | omega | exact Nat.lt_of_lt_of_le (Nat.mod_lt _ (by omega)) (by omega)) ?_
    refine g_iconst (v := nI 1) dX3_numberBits_21 (by decide +kernel) ?_
    refine g_aload_n dX3_numberBits_22 2 rfl ?_
    refine g_getf dX3_numberBits_23 kX3 wfX3_15 (Nat.le_of_ble_eq_true rfl) (hP.1) rfl ?_
    refine g_iload_n dX3_numberBits_26 0 rfl ?_
    refine g_ialN dX3_numberBits_27 (hP.2.2.1) (by omega) (by omega) ?_
    refine g_ishl1 dX3_numberBits_28 (by first | omega | exact Nat.lt_of_lt_of_le (Nat.mod_lt _ (by omega)) (by omega)) ?_
    refine g_iorN dX3_numberBits_29 ?_
    refine g_iorN dX3_numberBits_30 ?_
    refine g_istore_n (ls' := [(1, .int (nI ((nBits F S k) ||| ((2 ^ ((F).getD k 0)) ||| (2 ^ ((S).getD k 0)))))), (2, .int (nI k)), (0, .ref p)]) dX3_numberBits_31 (Nat.le_of_ble_eq_true rfl) rfl ?_
    refine g_iinc (q := 1) (v := nI (k + 1)) (ls' := [(2, .int (nI (k + 1))), (1, .int (nI ((nBits F S k) ||| ((2 ^ ((F).getD k 0)) ||| (2 ^ ((S).getD k 0)))))), (0, .ref p)]) dX3_numberBits_32 rfl (inc1 _) (Nat.le_of_ble_eq_true rfl) rfl ?_
    refine g_goto 4 dX3_numberBits_35 (by decide) ?_
    exact ih (k + 1) (by omega)

set_option maxRecDepth 100000 in
set_option maxHeartbeats 4000000 in
theorem ev_numberBits {h : List aC} {p n m : Nat} {F S A : List Nat} (hP : PA h p n m F S A) (hm : m ≤ 6) (hn : n ≤ 13) (hb : bnd n m F S A) : Ev mX3_numberBits 2 0 0 [.ref p] h (pv (.int (nI (nBits F S m))) h) := by
  obtain ⟨-, -, -, -, lF, lS, lA⟩ := id hP
  refine Ev.of pX3_numberBits (Nat.le_of_ble_eq_true rfl) ?_
  show G mX3_numberBits (rmD 2 0 0) none _ 0 0 0 [(0, .ref p)] [] h
  refine g_iconst (v := nI 0) dX3_numberBits_0 (by decide +kernel) ?_
  refine g_istore_n (ls' := [(1, .int (nI 0)), (0, .ref p)]) dX3_numberBits_1 (Nat.le_of_ble_eq_true rfl) rfl ?_
  refine g_iconst (v := nI 0) dX3_numberBits_2 (by decide +kernel) ?_
  refine g_istore_n (ls' := [(2, .int (nI 0)), (1, .int (nI 0)), (0, .ref p)]) dX3_numberBits_3 (Nat.le_of_ble_eq_true rfl) rfl ?_
  exact lp_numberBits hP hm hn hb ⟨rfl, rfl⟩ m 0 (by omega)

set_option maxRecDepth 100000 in
set_option maxHeartbeats 4000000 in
theorem lp_differenceBits {h : List aC} {p n m : Nat} {F S A : List Nat} (hP : PA h p n m F S A) {P : Option Value → List aC → Prop} (hm : m ≤ 6) (hn : n ≤ 13) (hb : bnd n m F S A) (HP : P (some (.int (nI (dBits n F S m)))) h) : ∀ j k, k + j = m → G mX3_differenceBits (rmD 3 0 0) none P 0 0 4 [(2, .int (nI k)), (1, .int (nI (dBits n F S k))), (0, .ref p)] [] h := by
  obtain ⟨-, -, -, -, lF, lS, lA⟩ := id hP
  intro j
  induction j with
  | zero =>
    intro k hk
    obtain rfl : k = m := by omega
    refine g_iload_n dX3_differenceBits_4 0 rfl ?_
    refine g_aload_n dX3_differenceBits_5 2 rfl ?_
    refine g_getf dX3_differenceBits_6 kX3 wfX3_25 (Nat.le_of_ble_eq_true rfl) (hP.1) rfl ?_
    refine g_icmp_geN 68 dX3_differenceBits_9 (by decide) (by omega) (by omega) (fun c9 => ?_) (fun z => absurd z (by omega))
    refine g_iload_n dX3_differenceBits_68 1 rfl ?_
    exact g_iret dX3_differenceBits_69 rfl ⟨Nat.zero_le _, Nat.zero_le _⟩ (HP)
  | succ j ih =>
    intro k hk
    obtain ⟨bF, bS, bA⟩ := hb k (by omega)
    refine g_iload_n dX3_differenceBits_4 0 rfl ?_
    refine g_aload_n dX3_differenceBits_5 2 rfl ?_
    refine g_getf dX3_differenceBits_6 kX3 wfX3_25 (Nat.le_of_ble_eq_true rfl) (hP.1) rfl ?_
    refine g_icmp_geN 68 dX3_differenceBits_9 (by decide) (by omega) (by omega) (fun z => absurd z (by omega)) (fun c9 => ?_)
    refine g_iload_n dX3_differenceBits_12 1 rfl ?_
    refine g_iconst (v := nI 1) dX3_differenceBits_13 (by decide +kernel) ?_
    refine g_aload_n dX3_differenceBits_14 2 rfl ?_
    refine g_getf dX3_differenceBits_15 kX3 wfX3_9 (Nat.le_of_ble_eq_true rfl) (hP.1) rfl ?_
    refine g_iload_n dX3_differenceBits_18 0 rfl ?_
    refine g_ialN dX3_differenceBits_19 (hP.2.1) (by omega) (by omega) ?_
    refine g_aload_n dX3_differenceBits_20 2 rfl ?_
    refine g_getf dX3_differenceBits_21 kX3 wfX3_15 (Nat.le_of_ble_eq_true rfl) (hP.1) rfl ?_
    refine g_iload_n dX3_differenceBits_24 0 rfl ?_
    refine g_ialN dX3_differenceBits_25 (hP.2.2.1) (by omega) (by omega) ?_
    refine g_isub dX3_differenceBits_26 ?_
    refine g_aload_n dX3_differenceBits_27 2 rfl ?_
    refine g_getf dX3_differenceBits_28 kX3 wfX3_21 (Nat.le_of_ble_eq_true rfl) (hP.1) rfl ?_
    refine g_callSNp dX3_differenceBits_31 (ev_wrapS ((F).getD k 0) ((S).getD k 0) (n) (by omega) (by omega) (by omega) (by omega) _) oX8_wrap wsX8_wrap wqX3_46 rfl ⟨(Nat.le_of_ble_eq_true rfl), (Nat.le_of_ble_eq_true rfl)⟩ ⟨Nat.zero_le _, Nat.zero_le _⟩ (Nat.le_of_ble_eq_true rfl) rfl ?_
    refine g_ishl1 dX3_differenceBits_34 (by first | omega | exact Nat.lt_of_lt_of_le (Nat.mod_lt _ (by omega)) (by omega)) ?_
    refine g_iorN dX3_differenceBits_35 ?_
    refine g_istore_n (ls' := [(1, .int (nI ((dBits n F S k) ||| (2 ^ ((((F).getD k 0) + n - ((S).getD k 0)) % n))))), (2, .int (nI k)), (0, .ref p)]) dX3_differenceBits_36 (Nat.le_of_ble_eq_true rfl) rfl ?_
    refine g_iload_n dX3_differenceBits_37 0 rfl ?_
    refine g_iconst (v := nI 1) dX3_differenceBits_38 (by decide +kernel) ?_
    refine g_aload_n dX3_differenceBits_39 2 rfl ?_
    refine g_getf dX3_differenceBits_40 kX3 wfX3_15 (Nat.le_of_ble_eq_true rfl) (hP.1) rfl ?_
    refine g_iload_n dX3_differenceBits_43 1 rfl ?_
    refine g_ialN dX3_differenceBits_44 (hP.2.2.1) (by omega) (by omega) ?_
    refine g_aload_n dX3_differenceBits_45 2 rfl ?_
    refine g_getf dX3_differenceBits_46 kX3 wfX3_9 (Nat.le_of_ble_eq_true rfl) (hP.1) rfl ?_
    refine g_iload_n dX3_differenceBits_49 1 rfl ?_
    refine g_ialN dX3_differenceBits_50 (hP.2.1) (by omega) (by omega) ?_
    refine g_isub dX3_differenceBits_51 ?_
    refine g_aload_n dX3_differenceBits_52 2 rfl ?_
    refine g_getf dX3_differenceBits_53 kX3 wfX3_21 (Nat.le_of_ble_eq_true rfl) (hP.1) rfl ?_
    refine g_callSNp dX3_differenceBits_56 (ev_wrapS ((S).getD k 0) ((F).getD k 0) (n) (by omega) (by omega) (by omega) (by omega) _) oX8_wrap wsX8_wrap wqX3_46 rfl ⟨(Nat.le_of_ble_eq_true rfl), (Nat.le_of_ble_eq_true rfl)⟩ ⟨Nat.zero_le _, Nat.zero_le _⟩ (Nat.le_of_ble_eq_true rfl) rfl ?_
    refine g_ishl1 dX3_differenceBits_59 (by first | omega | exact Nat.lt_of_lt_of_le (Nat.mod_lt _ (by omega)) (by omega)) ?_
    refine g_iorN dX3_differenceBits_60 ?_
    refine g_istore_n (ls' := [(1, .int (nI (((dBits n F S k) ||| (2 ^ ((((F).getD k 0) + n - ((S).getD k 0)) % n))) ||| (2 ^ ((((S).getD k 0) + n - ((F).getD k 0)) % n))))), (2, .int (nI k)), (0, .ref p)]) dX3_differenceBits_61 (Nat.le_of_ble_eq_true rfl) rfl ?_
    refine g_iinc (q := 1) (v := nI (k + 1)) (ls' := [(2, .int (nI (k + 1))), (1, .int (nI (((dBits n F S k) ||| (2 ^ ((((F).getD k 0) + n - ((S).getD k 0)) % n))) ||| (2 ^ ((((S).getD k 0) + n - ((F).getD k 0)) % n))))), (0, .ref p)]) dX3_differenceBits_62 rfl (inc1 _) (Nat.le_of_ble_eq_true rfl) rfl ?_
    refine g_goto 4 dX3_differenceBits_65 (by decide) ?_
    exact ih (k + 1) (by omega)

set_option maxRecDepth 100000 in
set_option maxHeartbeats 4000000 in
theorem ev_differenceBits {h : List aC} {p n m : Nat} {F S A : List Nat} (hP : PA h p n m F S A) (hm : m ≤ 6) (hn : n ≤ 13) (hb : bnd n m F S A) : Ev mX3_differenceBits 3 0 0 [.ref p] h (pv (.int (nI (dBits n F S m))) h) := by
  obtain ⟨-, -, -, -, lF, lS, lA⟩ := id hP
  refine Ev.of pX3_differenceBits (Nat.le_of_ble_eq_true rfl) ?_
  show G mX3_differenceBits (rmD 3 0 0) none _ 0 0 0 [(0, .ref p)] [] h
  refine g_iconst (v := nI 0) dX3_differenceBits_0 (by decide +kernel) ?_
  refine g_istore_n (ls' := [(1, .int (nI 0)), (0, .ref p)]) dX3_differenceBits_1 (Nat.le_of_ble_eq_true rfl) rfl ?_
  refine g_iconst (v := nI 0) dX3_differenceBits_2 (by decide +kernel) ?_
  refine g_istore_n (ls' := [(2, .int (nI 0)), (1, .int (nI 0)), (0, .ref p)]) dX3_differenceBits_3 (Nat.le_of_ble_eq_true rfl) rfl ?_
  exact lp_differenceBits hP hm hn hb ⟨rfl, rfl⟩ m 0 (by omega)

set_option maxRecDepth 100000 in
set_option maxHeartbeats 4000000 in
theorem lp_sumBits {h : List aC} {p n m : Nat} {F S A : List Nat} (hP : PA h p n m F S A) {P : Option Value → List aC → Prop} (hm : m ≤ 6) (hn : n ≤ 13) (hb : bnd n m F S A) (HP : P (some (.int (nI (sBits n F S m)))) h) : ∀ j k, k + j = m → G mX3_sumBits (rmD 3 0 0) none P 0 0 4 [(2, .int (nI k)), (1, .int (nI (sBits n F S k))), (0, .ref p)] [] h := by
  obtain ⟨-, -, -, -, lF, lS, lA⟩ := id hP
  intro j
  induction j with
  | zero =>
    intro k hk
    obtain rfl : k = m := by omega
    refine g_iload_n dX3_sumBits_4 0 rfl ?_
    refine g_aload_n dX3_sumBits_5 2 rfl ?_
    refine g_getf dX3_sumBits_6 kX3 wfX3_25 (Nat.le_of_ble_eq_true rfl) (hP.1) rfl ?_
    refine g_icmp_geN 43 dX3_sumBits_9 (by decide) (by omega) (by omega) (fun c9 => ?_) (fun z => absurd z (by omega))
    refine g_iload_n dX3_sumBits_43 1 rfl ?_
    exact g_iret dX3_sumBits_44 rfl ⟨Nat.zero_le _, Nat.zero_le _⟩ (HP)
  | succ j ih =>
    intro k hk
    obtain ⟨bF, bS, bA⟩ := hb k (by omega)
    refine g_iload_n dX3_sumBits_4 0 rfl ?_
    refine g_aload_n dX3_sumBits_5 2 rfl ?_
    refine g_getf dX3_sumBits_6 kX3 wfX3_25 (Nat.le_of_ble_eq_true rfl) (hP.1) rfl ?_
    refine g_icmp_geN 43 dX3_sumBits_9 (by decide) (by omega) (by omega) (fun z => absurd z (by omega)) (fun c9 => ?_)
    refine g_iload_n dX3_sumBits_12 1 rfl ?_
    refine g_iconst (v := nI 1) dX3_sumBits_13 (by decide +kernel) ?_
    refine g_aload_n dX3_sumBits_14 2 rfl ?_
    refine g_getf dX3_sumBits_15 kX3 wfX3_9 (Nat.le_of_ble_eq_true rfl) (hP.1) rfl ?_
    refine g_iload_n dX3_sumBits_18 0 rfl ?_
    refine g_ialN dX3_sumBits_19 (hP.2.1) (by omega) (by omega) ?_
    refine g_aload_n dX3_sumBits_20 2 rfl ?_
    refine g_getf dX3_sumBits_21 kX3 wfX3_15 (Nat.le_of_ble_eq_true rfl) (hP.1) rfl ?_
    refine g_iload_n dX3_sumBits_24 0 rfl ?_
    refine g_ialN dX3_sumBits_25 (hP.2.2.1) (by omega) (by omega) ?_
    refine g_iaddN dX3_sumBits_26 ?_
    refine g_aload_n dX3_sumBits_27 2 rfl ?_
    refine g_getf dX3_sumBits_28 kX3 wfX3_21 (Nat.le_of_ble_eq_true rfl) (hP.1) rfl ?_
    refine g_callSNp dX3_sumBits_31 (ev_wrapN (((F).getD k 0) + ((S).getD k 0)) (n) (by omega) (by omega) (by omega) _) oX8_wrap wsX8_wrap wqX3_46 rfl ⟨(Nat.le_of_ble_eq_true rfl), (Nat.le_of_ble_eq_true rfl)⟩ ⟨Nat.zero_le _, Nat.zero_le _⟩ (Nat.le_of_ble_eq_true rfl) rfl ?_
    refine g_ishl1 dX3_sumBits_34 (by first | omega | exact Nat.lt_of_lt_of_le (Nat.mod_lt _ (by omega)) (by omega)) ?_
    refine g_iorN dX3_sumBits_35 ?_
    refine g_istore_n (ls' := [(1, .int (nI ((sBits n F S k) ||| (2 ^ ((((F).getD k 0) + ((S).getD k 0)) % n))))), (2, .int (nI k)), (0, .ref p)]) dX3_sumBits_36 (Nat.le_of_ble_eq_true rfl) rfl ?_
    refine g_iinc (q := 1) (v := nI (k + 1)) (ls' := [(2, .int (nI (k + 1))), (1, .int (nI ((sBits n F S k) ||| (2 ^ ((((F).getD k 0) + ((S).getD k 0)) % n))))), (0, .ref p)]) dX3_sumBits_37 rfl (inc1 _) (Nat.le_of_ble_eq_true rfl) rfl ?_
    refine g_goto 4 dX3_sumBits_40 (by decide) ?_
    exact ih (k + 1) (by omega)

set_option maxRecDepth 100000 in
set_option maxHeartbeats 4000000 in
theorem ev_sumBits {h : List aC} {p n m : Nat} {F S A : List Nat} (hP : PA h p n m F S A) (hm : m ≤ 6) (hn : n ≤ 13) (hb : bnd n m F S A) : Ev mX3_sumBits 3 0 0 [.ref p] h (pv (.int (nI (sBits n F S m))) h) := by
  obtain ⟨-, -, -, -, lF, lS, lA⟩ := id hP
  refine Ev.of pX3_sumBits (Nat.le_of_ble_eq_true rfl) ?_
  show G mX3_sumBits (rmD 3 0 0) none _ 0 0 0 [(0, .ref p)] [] h
  refine g_iconst (v := nI 0) dX3_sumBits_0 (by decide +kernel) ?_
  refine g_istore_n (ls' := [(1, .int (nI 0)), (0, .ref p)]) dX3_sumBits_1 (Nat.le_of_ble_eq_true rfl) rfl ?_
  refine g_iconst (v := nI 0) dX3_sumBits_2 (by decide +kernel) ?_
  refine g_istore_n (ls' := [(2, .int (nI 0)), (1, .int (nI 0)), (0, .ref p)]) dX3_sumBits_3 (Nat.le_of_ble_eq_true rfl) rfl ?_
  exact lp_sumBits hP hm hn hb ⟨rfl, rfl⟩ m 0 (by omega)
