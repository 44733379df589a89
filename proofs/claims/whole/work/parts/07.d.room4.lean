/-- how often a code stands in the first k cells -/
def cnt (C : List Nat) (i k : Nat) : Nat := sumN (fun q => bI (decide (C.getD q 0 = i))) k
theorem cnt_le (C : List Nat) (i k : Nat) : cnt C i k ≤ k := by
  have h := sumN_le (f := fun q => bI (decide (C.getD q 0 = i))) 1 k (fun q _ => bI_le _)
  unfold cnt
  omega
theorem cnt_eq {C : List Nat} {i k : Nat} (h : C.getD k 0 = i) : cnt C i (k + 1) = cnt C i k + 1 := by
  show sumN _ k + bI (decide (C.getD k 0 = i)) = _
  rw [decide_eq_true h]
  rfl
theorem cnt_ne {C : List Nat} {i k : Nat} (h : ¬ C.getD k 0 = i) : cnt C i (k + 1) = cnt C i k := by
  show sumN _ k + bI (decide (C.getD k 0 = i)) = _
  rw [decide_eq_false h]
  rfl
theorem getD_set_eqI {l : List Int32} {i : Nat} {x : Int32} (h : i < l.length) : (l.set i x).getD i 0 = x := by
  rw [List.getD_eq_getElem?_getD, List.getElem?_set_self h]
  rfl
theorem getD_set_neI {l : List Int32} {i j : Nat} {x : Int32} (h : i ≠ j) : (l.set i x).getD j 0 = l.getD j 0 := by
  rw [List.getD_eq_getElem?_getD, List.getD_eq_getElem?_getD, List.getElem?_set_ne h]
def onceN (C : List Nat) (n k : Nat) : Nat := bI (decide (cnt C (k + 1) (n * n) = 1))
theorem isub_2 (a b c : Nat) : nI a - nI b - nI c = nI a - nI (b + c) := by
  rw [← nI_add]
  apply Int32.toBitVec_inj.mp
  show (nI a).toBitVec - (nI b).toBitVec - (nI c).toBitVec = (nI a).toBitVec - ((nI b).toBitVec + (nI c).toBitVec)
  rw [BitVec.sub_sub]

set_option maxRecDepth 100000 in
set_option maxHeartbeats 4000000 in
theorem lp_pf3 {h0 : List aC} {r n : Nat} {C : List Nat} {h : List aC} {T : List Int32} (hR : RA h r n C T) (hS : Smo (r + 2) (r + 3) h0 h) (hn : n ≤ 13) (hC : ∀ i, i < 169 → C.getD i 0 < 196) (hT : ∀ i, i < 196 → T.getD i 0 = nI (cnt C i (n * n))) : ∀ j k , k + j = 195 → G mX4_faultsOfPairs (rmD 2 0 0) none (pq (some (.int (nI (n * (n + 1) / 2) - nI (sumN (onceN C n) 195)))) (fun h2 => ∃ T2, RA h2 r n C T2 ∧ Smo (r + 2) (r + 3) h0 h2)) 0 0 76 [(2, .int (nI (k + 1))), (1, .int (nI (n * (n + 1) / 2) - nI (sumN (onceN C n) k))), (0, .ref r)] [] h := by
  obtain ⟨-, -, -, lC, lT⟩ := id hR
  have zq := sq_le hn
  intro j
  induction j with
  | zero =>
    intro k  hk 
    refine g_iload_n dX4_faultsOfPairs_76 0 rfl ?_
    refine g_aload_n dX4_faultsOfPairs_77 2 rfl ?_
    refine g_getf dX4_faultsOfPairs_78 kX4 wfX4_15 (Nat.le_of_ble_eq_true rfl) (hR.1) rfl ?_
    refine g_alen (v := nI 196) dX4_faultsOfPairs_81 (hR.2.2.1) (by rw [lT]; rfl) ?_
    refine g_icmp_geN 112 dX4_faultsOfPairs_82 (by decide) (by omega) (by omega) (fun c82 => ?_) (fun z => absurd z (by omega))
    refine g_iload_n dX4_faultsOfPairs_112 1 rfl ?_
    exact g_iret dX4_faultsOfPairs_113 rfl ⟨Nat.zero_le _, Nat.zero_le _⟩ (⟨by rw [show k = 195 by omega], T, hR, hS⟩)
  | succ j ih =>
    intro k  hk 
    have z1 := cnt_le C (k + 1) (n * n)
    refine g_iload_n dX4_faultsOfPairs_76 0 rfl ?_
    refine g_aload_n dX4_faultsOfPairs_77 2 rfl ?_
    refine g_getf dX4_faultsOfPairs_78 kX4 wfX4_15 (Nat.le_of_ble_eq_true rfl) (hR.1) rfl ?_
    refine g_alen (v := nI 196) dX4_faultsOfPairs_81 (hR.2.2.1) (by rw [lT]; rfl) ?_
    refine g_icmp_geN 112 dX4_faultsOfPairs_82 (by decide) (by omega) (by omega) (fun z => absurd z (by omega)) (fun c82 => ?_)
    refine g_iload_n dX4_faultsOfPairs_85 1 rfl ?_
    refine g_aload_n dX4_faultsOfPairs_86 2 rfl ?_
    refine g_getf dX4_faultsOfPairs_87 kX4 wfX4_15 (Nat.le_of_ble_eq_true rfl) (hR.1) rfl ?_
    refine g_iload_n dX4_faultsOfPairs_90 0 rfl ?_
    refine g_ialI dX4_faultsOfPairs_91 (hR.2.2.1) (by omega) (by omega) ?_
    refine g_top (hT (k + 1) (by omega)) ?_
    refine g_iconst (v := nI 1) dX4_faultsOfPairs_92 (by decide +kernel) ?_
    refine g_icmp_neN 100 dX4_faultsOfPairs_93 (by decide) (by omega) (by omega) (fun c93 => ?_) (fun c93 => ?_)
    · have hv : bI (decide (cnt C (k + 1) (n * n) = 1)) = 0 := by rw [decide_eq_false c93]; rfl
      refine g_iconst (v := nI 0) dX4_faultsOfPairs_100 (by decide +kernel) ?_
      refine g_top (congrArg nI hv.symm) ?_
      refine g_callSNp dX4_faultsOfPairs_101 (ev_bit (decide (cnt C (k + 1) (n * n) = 1)) _) oX8_bit wsX8_bit wqX4_75 rfl ⟨(Nat.le_of_ble_eq_true rfl), (Nat.le_of_ble_eq_true rfl)⟩ ⟨Nat.zero_le _, Nat.zero_le _⟩ (Nat.le_of_ble_eq_true rfl) rfl ?_
      refine g_isub dX4_faultsOfPairs_104 ?_
      refine g_top (isub_2 _ _ _) ?_
      refine g_istore_n (ls' := [(1, .int (nI (n * (n + 1) / 2) - nI (sumN (onceN C n) k + onceN C n k))), (2, .int (nI (k + 1))), (0, .ref r)]) dX4_faultsOfPairs_105 (Nat.le_of_ble_eq_true rfl) rfl ?_
      refine g_iinc (q := 1) (v := nI (k + 1 + 1)) (ls' := [(2, .int (nI (k + 1 + 1))), (1, .int (nI (n * (n + 1) / 2) - nI (sumN (onceN C n) k + onceN C n k))), (0, .ref r)]) dX4_faultsOfPairs_106 rfl (inc1 _) (Nat.le_of_ble_eq_true rfl) rfl ?_
      refine g_goto 76 dX4_faultsOfPairs_109 (by decide) ?_
      exact ih (k + 1) (by omega)
    · have hv : bI (decide (cnt C (k + 1) (n * n) = 1)) = 1 := by rw [decide_eq_true c93]; rfl
      refine g_iconst (v := nI 1) dX4_faultsOfPairs_96 (by decide +kernel) ?_
      refine g_goto 101 dX4_faultsOfPairs_97 (by decide) ?_
      refine g_top (congrArg nI hv.symm) ?_
      refine g_callSNp dX4_faultsOfPairs_101 (ev_bit (decide (cnt C (k + 1) (n * n) = 1)) _) oX8_bit wsX8_bit wqX4_75 rfl ⟨(Nat.le_of_ble_eq_true rfl), (Nat.le_of_ble_eq_true rfl)⟩ ⟨Nat.zero_le _, Nat.zero_le _⟩ (Nat.le_of_ble_eq_true rfl) rfl ?_
      refine g_isub dX4_faultsOfPairs_104 ?_
      refine g_top (isub_2 _ _ _) ?_
      refine g_istore_n (ls' := [(1, .int (nI (n * (n + 1) / 2) - nI (sumN (onceN C n) k + onceN C n k))), (2, .int (nI (k + 1))), (0, .ref r)]) dX4_faultsOfPairs_105 (Nat.le_of_ble_eq_true rfl) rfl ?_
      refine g_iinc (q := 1) (v := nI (k + 1 + 1)) (ls' := [(2, .int (nI (k + 1 + 1))), (1, .int (nI (n * (n + 1) / 2) - nI (sumN (onceN C n) k + onceN C n k))), (0, .ref r)]) dX4_faultsOfPairs_106 rfl (inc1 _) (Nat.le_of_ble_eq_true rfl) rfl ?_
      refine g_goto 76 dX4_faultsOfPairs_109 (by decide) ?_
      exact ih (k + 1) (by omega)

set_option maxRecDepth 100000 in
set_option maxHeartbeats 4000000 in
theorem lp_pf2 {h0 : List aC} {r n : Nat} {C : List Nat} (hn : n ≤ 13) (hC : ∀ i, i < 169 → C.getD i 0 < 196) : ∀ j k (h : List aC) (T : List Int32), k + j = n * n → RA h r n C T → Smo (r + 2) (r + 3) h0 h → (∀ i, i < 196 → T.getD i 0 = nI (cnt C i k)) → G mX4_faultsOfPairs (rmD 2 0 0) none (pq (some (.int (nI (n * (n + 1) / 2) - nI (sumN (onceN C n) 195)))) (fun h2 => ∃ T2, RA h2 r n C T2 ∧ Smo (r + 2) (r + 3) h0 h2)) 0 0 26 [(1, .int (nI k)), (0, .ref r)] [] h := by
  have zq := sq_le hn
  have zq2 : n * (n + 1) ≤ 13 * 14 := Nat.mul_le_mul hn (by omega)
  intro j
  induction j with
  | zero =>
    intro k h T hk hR hS hT
    obtain ⟨-, -, -, lC, lT⟩ := id hR
    have ek : k = n * n := by omega
    refine g_iload_n dX4_faultsOfPairs_26 0 rfl ?_
    refine g_aload_n dX4_faultsOfPairs_27 1 rfl ?_
    refine g_getf dX4_faultsOfPairs_28 kX4 wfX4_18 (Nat.le_of_ble_eq_true rfl) (hR.1) rfl ?_
    refine g_aload_n dX4_faultsOfPairs_31 1 rfl ?_
    refine g_getf dX4_faultsOfPairs_32 kX4 wfX4_18 (Nat.le_of_ble_eq_true rfl) (hR.1) rfl ?_
    refine g_imulN dX4_faultsOfPairs_35 ?_
    refine g_icmp_geN 60 dX4_faultsOfPairs_36 (by decide) (by omega) (by omega) (fun c36 => ?_) (fun z => absurd z (by omega))
    refine g_aload_n dX4_faultsOfPairs_60 1 rfl ?_
    refine g_getf dX4_faultsOfPairs_61 kX4 wfX4_18 (Nat.le_of_ble_eq_true rfl) (hR.1) rfl ?_
    refine g_aload_n dX4_faultsOfPairs_64 1 rfl ?_
    refine g_getf dX4_faultsOfPairs_65 kX4 wfX4_18 (Nat.le_of_ble_eq_true rfl) (hR.1) rfl ?_
    refine g_iconst (v := nI 1) dX4_faultsOfPairs_68 (by decide +kernel) ?_
    refine g_iaddN dX4_faultsOfPairs_69 ?_
    refine g_imulN dX4_faultsOfPairs_70 ?_
    refine g_iconst (v := nI 2) dX4_faultsOfPairs_71 (by decide +kernel) ?_
    refine g_idivN dX4_faultsOfPairs_72 (by omega) (by omega) (by omega) ?_
    refine g_istore_n (ls' := [(1, .int (nI ((n * (n + 1)) / 2))), (0, .ref r)]) dX4_faultsOfPairs_73 (Nat.le_of_ble_eq_true rfl) rfl ?_
    refine g_iconst (v := nI 1) dX4_faultsOfPairs_74 (by decide +kernel) ?_
    refine g_istore_n (ls' := [(2, .int (nI 1)), (1, .int (nI ((n * (n + 1)) / 2))), (0, .ref r)]) dX4_faultsOfPairs_75 (Nat.le_of_ble_eq_true rfl) rfl ?_
    rw [ek] at hT
    refine g_loc (l2 := [(2, .int (nI (0 + 1))), (1, .int (nI (n * (n + 1) / 2) - nI (sumN (onceN C n) 0))), (0, .ref r)]) ?_ (lp_pf3 hR hS hn hC hT 195 0 (by omega))
    rw [show nI (n * (n + 1) / 2) - nI (sumN (onceN C n) 0) = nI (n * (n + 1) / 2) from pk_sub (Nat.zero_le _)]
  | succ j ih =>
    intro k h T hk hR hS hT
    obtain ⟨-, -, -, lC, lT⟩ := id hR
    have z1 := hC k (by omega)
    refine g_iload_n dX4_faultsOfPairs_26 0 rfl ?_
    refine g_aload_n dX4_faultsOfPairs_27 1 rfl ?_
    refine g_getf dX4_faultsOfPairs_28 kX4 wfX4_18 (Nat.le_of_ble_eq_true rfl) (hR.1) rfl ?_
    refine g_aload_n dX4_faultsOfPairs_31 1 rfl ?_
    refine g_getf dX4_faultsOfPairs_32 kX4 wfX4_18 (Nat.le_of_ble_eq_true rfl) (hR.1) rfl ?_
    refine g_imulN dX4_faultsOfPairs_35 ?_
    refine g_icmp_geN 60 dX4_faultsOfPairs_36 (by decide) (by omega) (by omega) (fun z => absurd z (by omega)) (fun c36 => ?_)
    refine g_aload_n dX4_faultsOfPairs_39 1 rfl ?_
    refine g_getf dX4_faultsOfPairs_40 kX4 wfX4_15 (Nat.le_of_ble_eq_true rfl) (hR.1) rfl ?_
    refine g_aload_n dX4_faultsOfPairs_43 1 rfl ?_
    refine g_getf dX4_faultsOfPairs_44 kX4 wfX4_9 (Nat.le_of_ble_eq_true rfl) (hR.1) rfl ?_
    refine g_iload_n dX4_faultsOfPairs_47 0 rfl ?_
    refine g_ialN dX4_faultsOfPairs_48 (hR.2.1) (by omega) (by omega) ?_
    refine g_dup2 dX4_faultsOfPairs_49 rfl rfl ?_
    refine g_ialI dX4_faultsOfPairs_50 (hR.2.2.1) (by omega) (by omega) ?_
    refine g_iconst (v := nI 1) dX4_faultsOfPairs_51 (by decide +kernel) ?_
    refine g_iadd dX4_faultsOfPairs_52 ?_
    refine g_iasI dX4_faultsOfPairs_53 (hR.2.2.1) (by omega) (by omega) (fun h1 e1 => ?_)
    have f1_r_2 : rd h1 (r + 2) = some (.inl ((T).set ((C).getD k 0) (((T).getD ((C).getD k 0) 0) + (nI 1)))) := by rw [e1]; exact rd_wr_eq (hR.2.2.1)
    have f1_r : rd h1 r = some (.inr (4, [.ref (r + 1), .ref (r + 2), .int (nI n)])) := by rw [e1, rd_wr_ne (by omega)]; exact hR.1
    have f1_r_1 : rd h1 (r + 1) = some (.inl ((C).map nI)) := by rw [e1, rd_wr_ne (by omega)]; exact hR.2.1
    refine g_iinc (q := 0) (v := nI (k + 1)) (ls' := [(1, .int (nI (k + 1))), (0, .ref r)]) dX4_faultsOfPairs_54 rfl (inc1 _) (Nat.le_of_ble_eq_true rfl) rfl ?_
    refine g_goto 26 dX4_faultsOfPairs_57 (by decide) ?_
    exact ih (k + 1) h1 _ (by omega) ⟨f1_r, f1_r_1, f1_r_2, lC, by simp [lT]⟩ (hS.tr (fun q hq => by rw [e1, rd_wr_ne (by omega)])) (fun i hi => by by_cases q : C.getD k 0 = i; (subst q; rw [getD_set_eqI (by omega), cnt_eq rfl, hT _ hi, nI_add]); (rw [getD_set_neI q, cnt_ne q, hT i hi]))

set_option maxRecDepth 100000 in
set_option maxHeartbeats 4000000 in
theorem lp_pf1 {h0 : List aC} {r n : Nat} {C : List Nat} (hn : n ≤ 13) (hC : ∀ i, i < 169 → C.getD i 0 < 196) : ∀ j k (h : List aC) (T : List Int32), k + j = 196 → RA h r n C T → Smo (r + 2) (r + 3) h0 h → (∀ i, i < k → T.getD i 0 = 0) → G mX4_faultsOfPairs (rmD 2 0 0) none (pq (some (.int (nI (n * (n + 1) / 2) - nI (sumN (onceN C n) 195)))) (fun h2 => ∃ T2, RA h2 r n C T2 ∧ Smo (r + 2) (r + 3) h0 h2)) 0 0 2 [(1, .int (nI k)), (0, .ref r)] [] h := by
  intro j
  induction j with
  | zero =>
    intro k h T hk hR hS hT
    obtain ⟨-, -, -, lC, lT⟩ := id hR
    refine g_iload_n dX4_faultsOfPairs_2 0 rfl ?_
    refine g_aload_n dX4_faultsOfPairs_3 1 rfl ?_
    refine g_getf dX4_faultsOfPairs_4 kX4 wfX4_15 (Nat.le_of_ble_eq_true rfl) (hR.1) rfl ?_
    refine g_alen (v := nI 196) dX4_faultsOfPairs_7 (hR.2.2.1) (by rw [lT]; rfl) ?_
    refine g_icmp_geN 24 dX4_faultsOfPairs_8 (by decide) (by omega) (by omega) (fun c8 => ?_) (fun z => absurd z (by omega))
    refine g_iconst (v := nI 0) dX4_faultsOfPairs_24 (by decide +kernel) ?_
    refine g_istore_n (ls' := [(1, .int (nI 0)), (0, .ref r)]) dX4_faultsOfPairs_25 (Nat.le_of_ble_eq_true rfl) rfl ?_
    exact lp_pf2 hn hC (n * n) 0 h T (by omega) hR hS (fun i hi => (hT i (by omega)).trans rfl)
  | succ j ih =>
    intro k h T hk hR hS hT
    obtain ⟨-, -, -, lC, lT⟩ := id hR
    refine g_iload_n dX4_faultsOfPairs_2 0 rfl ?_
    refine g_aload_n dX4_faultsOfPairs_3 1 rfl ?_
    refine g_getf dX4_faultsOfPairs_4 kX4 wfX4_15 (Nat.le_of_ble_eq_true rfl) (hR.1) rfl ?_
    refine g_alen (v := nI 196) dX4_faultsOfPairs_7 (hR.2.2.1) (by rw [lT]; rfl) ?_
    refine g_icmp_geN 24 dX4_faultsOfPairs_8 (by decide) (by omega) (by omega) (fun z => absurd z (by omega)) (fun c8 => ?_)
    refine g_aload_n dX4_faultsOfPairs_11 1 rfl ?_
    refine g_getf dX4_faultsOfPairs_12 kX4 wfX4_15 (Nat.le_of_ble_eq_true rfl) (hR.1) rfl ?_
    refine g_iload_n dX4_faultsOfPairs_15 0 rfl ?_
    refine g_iconst (v := nI 0) dX4_faultsOfPairs_16 (by decide +kernel) ?_
    refine g_iasI dX4_faultsOfPairs_17 (hR.2.2.1) (by omega) (by omega) (fun h1 e1 => ?_)
    have f1_r_2 : rd h1 (r + 2) = some (.inl ((T).set k (nI 0))) := by rw [e1]; exact rd_wr_eq (hR.2.2.1)
    have f1_r : rd h1 r = some (.inr (4, [.ref (r + 1), .ref (r + 2), .int (nI n)])) := by rw [e1, rd_wr_ne (by omega)]; exact hR.1
    have f1_r_1 : rd h1 (r + 1) = some (.inl ((C).map nI)) := by rw [e1, rd_wr_ne (by omega)]; exact hR.2.1
    refine g_iinc (q := 0) (v := nI (k + 1)) (ls' := [(1, .int (nI (k + 1))), (0, .ref r)]) dX4_faultsOfPairs_18 rfl (inc1 _) (Nat.le_of_ble_eq_true rfl) rfl ?_
    refine g_goto 2 dX4_faultsOfPairs_21 (by decide) ?_
    exact ih (k + 1) h1 _ (by omega) ⟨f1_r, f1_r_1, f1_r_2, lC, by simp [lT]⟩ (hS.tr (fun q hq => by rw [e1, rd_wr_ne (by omega)])) (fun i hi => by by_cases q : k = i; (subst q; exact getD_set_eqI (by omega)); (rw [getD_set_neI q]; exact hT i (by omega)))

set_option maxRecDepth 100000 in
set_option maxHeartbeats 4000000 in
theorem ev_pairFaults {h : List aC} {r n : Nat} {C : List Nat} {T : List Int32} (hR : RA h r n C T) (hn : n ≤ 13) (hC : ∀ i, i < 169 → C.getD i 0 < 196) : Ev mX4_faultsOfPairs 2 0 0 [.ref r] h (pq (some (.int (nI (n * (n + 1) / 2) - nI (sumN (onceN C n) 195)))) (fun h2 => ∃ T2, RA h2 r n C T2 ∧ Smo (r + 2) (r + 3) h h2)) := by
  obtain ⟨-, -, -, lC, lT⟩ := id hR
  refine Ev.of pX4_faultsOfPairs (Nat.le_of_ble_eq_true rfl) ?_
  show G mX4_faultsOfPairs (rmD 2 0 0) none _ 0 0 0 [(0, .ref r)] [] h
  refine g_iconst (v := nI 0) dX4_faultsOfPairs_0 (by decide +kernel) ?_
  refine g_istore_n (ls' := [(1, .int (nI 0)), (0, .ref r)]) dX4_faultsOfPairs_1 (Nat.le_of_ble_eq_true rfl) rfl ?_
  exact lp_pf1 hn hC 196 0 h T (by omega) hR Smo.rf (fun i hi => absurd hi (Nat.not_lt_zero i))
