/-- copy s numbers of A from a on to b on in B -/
def cpL (A : List Int32) (a : Nat) (B : List Int32) (b : Nat) : Nat → List Int32
  | 0 => B
  | k + 1 => (cpL A a B b k).set (b + k) (A.getD (a + k) 0)
theorem cpL_len (A : List Int32) (a : Nat) (B : List Int32) (b : Nat) : ∀ k, (cpL A a B b k).length = B.length
  | 0 => rfl
  | k + 1 => List.length_set.trans (cpL_len A a B b k)
theorem cpL_out {A : List Int32} {a : Nat} {B : List Int32} {b i : Nat} : ∀ k, (i < b ∨ b + k ≤ i) → (cpL A a B b k).getD i 0 = B.getD i 0
  | 0, _ => rfl
  | k + 1, h => by
    show ((cpL A a B b k).set (b + k) (A.getD (a + k) 0)).getD i 0 = _
    rw [getD_set_neI (by omega)]
    exact cpL_out k (by omega)
theorem cpL_in {A : List Int32} {a : Nat} {B : List Int32} {b i : Nat} : ∀ k, b + k ≤ B.length → i < k → (cpL A a B b k).getD (b + i) 0 = A.getD (a + i) 0
  | 0, _, h => absurd h (Nat.not_lt_zero i)
  | k + 1, l, h => by
    show ((cpL A a B b k).set (b + k) (A.getD (a + k) 0)).getD (b + i) 0 = _
    by_cases q : i = k
    · subst q; rw [getD_set_eqI (by rw [cpL_len]; omega)]
    · rw [getD_set_neI (by omega)]; exact cpL_in k (by omega) (by omega)

set_option maxRecDepth 100000 in
set_option maxHeartbeats 4000000 in
theorem lp_mlays {h0 : List aC} {p q a b s : Nat} {A B : List Int32} (hp : p ≠ q) (lA : a + s ≤ A.length) (lB : b + s ≤ B.length) (l31 : A.length < 2 ^ 30 ∧ B.length < 2 ^ 30) : ∀ j k (h : List aC), k + j = s → rd h p = some (.inl A) → rd h q = some (.inl (cpL A a B b k)) → Smo q (q + 1) h0 h → G mX9_lays (rmD 1 0 0) none (pq none (fun h2 => rd h2 q = some (.inl (cpL A a B b s)) ∧ Smo q (q + 1) h0 h2)) 0 0 3 [(5, .int (nI k)), (0, .ref p), (1, .int (nI a)), (2, .ref q), (3, .int (nI b)), (4, .int (nI s))] [] h := by
  intro j
  induction j with
  | zero =>
    intro k h hk hA hB hS
    have lc := cpL_len A a B b k
    refine g_iload dX9_lays_3 0 rfl ?_
    refine g_iload dX9_lays_5 5 rfl ?_
    refine g_icmp_geN 28 dX9_lays_7 (by decide) (by omega) (by omega) (fun c7 => ?_) (fun z => absurd z (by omega))
    exact g_vret dX9_lays_28 rfl ⟨Nat.zero_le _, Nat.zero_le _⟩ (⟨rfl, by rw [show s = k by omega]; exact hB, hS⟩)
  | succ j ih =>
    intro k h hk hA hB hS
    have lc := cpL_len A a B b k
    refine g_iload dX9_lays_3 0 rfl ?_
    refine g_iload dX9_lays_5 5 rfl ?_
    refine g_icmp_geN 28 dX9_lays_7 (by decide) (by omega) (by omega) (fun z => absurd z (by omega)) (fun c7 => ?_)
    refine g_aload_n dX9_lays_10 3 rfl ?_
    refine g_iload_n dX9_lays_11 4 rfl ?_
    refine g_iload dX9_lays_12 0 rfl ?_
    refine g_iaddN dX9_lays_14 ?_
    refine g_aload_n dX9_lays_15 1 rfl ?_
    refine g_iload_n dX9_lays_16 2 rfl ?_
    refine g_iload dX9_lays_17 0 rfl ?_
    refine g_iaddN dX9_lays_19 ?_
    refine g_ialI dX9_lays_20 (hA) (by omega) (by omega) ?_
    refine g_iasI dX9_lays_21 (hB) (by rw [lc]; omega) (by omega) (fun h1 e1 => ?_)
    have f1_q : rd h1 q = some (.inl ((cpL A a B b k).set (b + k) ((A).getD (a + k) 0))) := by rw [e1]; exact rd_wr_eq (hB)
    have s1 : Smo q (q + 1) h h1 := by rw [e1]; exact Smo.wr (by omega) (by omega)
    have f1_p : rd h1 p = some (.inl (A)) := by rw [s1 _ (by omega)]; exact hA
    refine g_iinc (q := 0) (v := nI (k + 1)) (ls' := [(5, .int (nI (k + 1))), (0, .ref p), (1, .int (nI a)), (2, .ref q), (3, .int (nI b)), (4, .int (nI s))]) dX9_lays_22 rfl (inc1 _) (Nat.le_of_ble_eq_true rfl) rfl ?_
    refine g_goto 3 dX9_lays_25 (by decide) ?_
    exact ih (k + 1) _ (by omega) f1_p f1_q (hS.tr (fun q hq => by rw [s1 q (by omega)]))

set_option maxRecDepth 100000 in
set_option maxHeartbeats 4000000 in
theorem ev_mlays {h : List aC} {p q a b s : Nat} {A B : List Int32} (hp : p ≠ q) (lA : a + s ≤ A.length) (lB : b + s ≤ B.length) (l31 : A.length < 2 ^ 30 ∧ B.length < 2 ^ 30) (hA : rd h p = some (.inl A)) (hB : rd h q = some (.inl B)) : Ev mX9_lays 1 0 0 [.ref p, .int (nI a), .ref q, .int (nI b), .int (nI s)] h (pq none (fun h2 => rd h2 q = some (.inl (cpL A a B b s)) ∧ Smo q (q + 1) h h2)) := by
  refine Ev.of pX9_lays (Nat.le_of_ble_eq_true rfl) ?_
  show G mX9_lays (rmD 1 0 0) none _ 0 0 0 [(0, .ref p), (1, .int (nI a)), (2, .ref q), (3, .int (nI b)), (4, .int (nI s))] [] h
  refine g_iconst (v := nI 0) dX9_lays_0 (by decide +kernel) ?_
  refine g_istore (ls' := [(5, .int (nI 0)), (0, .ref p), (1, .int (nI a)), (2, .ref q), (3, .int (nI b)), (4, .int (nI s))]) dX9_lays_1 (Nat.le_of_ble_eq_true rfl) rfl ?_
  exact lp_mlays hp lA lB l31 s 0 h (by omega) hA hB Smo.rf

set_option maxRecDepth 100000 in
set_option maxHeartbeats 4000000 in
theorem lp_mlays1 {h0 : List aC} {q a b s : Nat} {B : List Int32} (lA : a + s ≤ B.length) (lB : b + s ≤ B.length) (l31 : B.length < 2 ^ 30) (hab : b ≤ a) : ∀ j k (h : List aC), k + j = s → rd h q = some (.inl (cpL B a B b k)) → Smo q (q + 1) h0 h → G mX9_lays (rmD 1 0 0) none (pq none (fun h2 => rd h2 q = some (.inl (cpL B a B b s)) ∧ Smo q (q + 1) h0 h2)) 0 0 3 [(5, .int (nI k)), (0, .ref q), (1, .int (nI a)), (2, .ref q), (3, .int (nI b)), (4, .int (nI s))] [] h := by
  intro j
  induction j with
  | zero =>
    intro k h hk hB hS
    have lc := cpL_len B a B b k
    refine g_iload dX9_lays_3 0 rfl ?_
    refine g_iload dX9_lays_5 5 rfl ?_
    refine g_icmp_geN 28 dX9_lays_7 (by decide) (by omega) (by omega) (fun c7 => ?_) (fun z => absurd z (by omega))
    exact g_vret dX9_lays_28 rfl ⟨Nat.zero_le _, Nat.zero_le _⟩ (⟨rfl, by rw [show s = k by omega]; exact hB, hS⟩)
  | succ j ih =>
    intro k h hk hB hS
    have lc := cpL_len B a B b k
    refine g_iload dX9_lays_3 0 rfl ?_
    refine g_iload dX9_lays_5 5 rfl ?_
    refine g_icmp_geN 28 dX9_lays_7 (by decide) (by omega) (by omega) (fun z => absurd z (by omega)) (fun c7 => ?_)
    refine g_aload_n dX9_lays_10 3 rfl ?_
    refine g_iload_n dX9_lays_11 4 rfl ?_
    refine g_iload dX9_lays_12 0 rfl ?_
    refine g_iaddN dX9_lays_14 ?_
    refine g_aload_n dX9_lays_15 1 rfl ?_
    refine g_iload_n dX9_lays_16 2 rfl ?_
    refine g_iload dX9_lays_17 0 rfl ?_
    refine g_iaddN dX9_lays_19 ?_
    refine g_ialI dX9_lays_20 (hB) (by omega) (by omega) ?_
    refine g_top (cpL_out k (by omega)) ?_
    refine g_iasI dX9_lays_21 (hB) (by rw [lc]; omega) (by omega) (fun h1 e1 => ?_)
    have f1_q : rd h1 q = some (.inl ((cpL B a B b k).set (b + k) (B.getD (a + k) 0))) := by rw [e1]; exact rd_wr_eq (hB)
    have s1 : Smo q (q + 1) h h1 := by rw [e1]; exact Smo.wr (by omega) (by omega)
    refine g_iinc (q := 0) (v := nI (k + 1)) (ls' := [(5, .int (nI (k + 1))), (0, .ref q), (1, .int (nI a)), (2, .ref q), (3, .int (nI b)), (4, .int (nI s))]) dX9_lays_22 rfl (inc1 _) (Nat.le_of_ble_eq_true rfl) rfl ?_
    refine g_goto 3 dX9_lays_25 (by decide) ?_
    exact ih (k + 1) _ (by omega) f1_q (hS.tr (fun q hq => by rw [s1 q (by omega)]))

set_option maxRecDepth 100000 in
set_option maxHeartbeats 4000000 in
theorem ev_mlays1 {h : List aC} {q a b s : Nat} {B : List Int32} (lA : a + s ≤ B.length) (lB : b + s ≤ B.length) (l31 : B.length < 2 ^ 30) (hab : b ≤ a)  (hB : rd h q = some (.inl B)) : Ev mX9_lays 1 0 0 [.ref q, .int (nI a), .ref q, .int (nI b), .int (nI s)] h (pq none (fun h2 => rd h2 q = some (.inl (cpL B a B b s)) ∧ Smo q (q + 1) h h2)) := by
  refine Ev.of pX9_lays (Nat.le_of_ble_eq_true rfl) ?_
  show G mX9_lays (rmD 1 0 0) none _ 0 0 0 [(0, .ref q), (1, .int (nI a)), (2, .ref q), (3, .int (nI b)), (4, .int (nI s))] [] h
  refine g_iconst (v := nI 0) dX9_lays_0 (by decide +kernel) ?_
  refine g_istore (ls' := [(5, .int (nI 0)), (0, .ref q), (1, .int (nI a)), (2, .ref q), (3, .int (nI b)), (4, .int (nI s))]) dX9_lays_1 (Nat.le_of_ble_eq_true rfl) rfl ?_
  exact lp_mlays1 lA lB l31 hab s 0 h (by omega) hB Smo.rf
