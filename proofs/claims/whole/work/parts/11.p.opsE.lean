set_option maxRecDepth 100000 in
set_option maxHeartbeats 4000000 in
theorem ev_x_lays_n {h : List aC} {σ : Sg} (H : RC h σ) (ok : okSg σ) (l i : Int32) (hz : okL σ l = false) : Ev mX8_lays 5 0 0 [.ref 0, .int l, .int i] h (sp h (oLays σ l i)) := by
  obtain ⟨hO0, hS, ⟨ci, hI, hI2⟩, ⟨cd, hDr⟩, hLt, hL, hH, ⟨⟨sw_, sc_, sgs, sgk, hX⟩, ⟨xn, xm, xF, xS, xA, hXP⟩⟩, ⟨tn, tm, tF, tS, tA, hTh⟩, ⟨pn, pm, pF, pS, pA, hSp⟩, hRf⟩ := id H
  obtain ⟨hO1, F, S, A, K, U, C, T, hP, hf, hT, ht, hR, hC, hl⟩ := id hS
  have hO1 : rd h 1 = some (.inr (6, [.ref 2, .ref 6, .ref 9])) := hO1
  have hP : PA h 2 _ _ F S A := hP
  have hT : TA h 6 _ K U := hT
  have hR : RA h 9 _ C T := hR
  obtain ⟨-, -, -, -, lF, lS, lA⟩ := id hP
  obtain ⟨-, -, -, lK, lU⟩ := id hT
  obtain ⟨-, -, -, lC, lT⟩ := id hR
  obtain ⟨okc, ⟨okl, okw⟩, okn, ⟨okh, oke⟩, oki, okr⟩ := id ok
  obtain ⟨k1, k2, k3, k4, k5, k6, k7, k8, k9⟩ := id okc
  have hbn : bnd σ.1.1 σ.1.2.1 F S A := okc.bnd hf
  rw [show oLays σ l i = _ from if_neg (by rw [hz]; decide)]
  refine Ev.of pX8_lays (Nat.le_of_ble_eq_true rfl) ?_
  show G mX8_lays (rmD 5 0 0) none _ 0 0 0 [(0, .ref 0), (1, .int l), (2, .int i)] [] h
  obtain ⟨nx1, o1⟩ := HR.o hH
  refine g_iconst (v := nI 2) dX8_lays_0 (by decide +kernel) ?_
  refine g_aload_n dX8_lays_1 0 rfl ?_
  refine g_getf dX8_lays_2 kX8 wfX8_10 (Nat.le_of_ble_eq_true rfl) (hO0) rfl ?_
  refine g_getf dX8_lays_5 kX6 wfX8_97 (Nat.le_of_ble_eq_true rfl) (hO1) rfl ?_
  refine g_getf dX8_lays_8 kX3 wfX8_115 (Nat.le_of_ble_eq_true rfl) (hP.1) rfl ?_
  refine g_imulN dX8_lays_11 ?_
  refine g_istore_n (ls' := [(3, .int (nI (2 * σ.1.2.1))), (0, .ref 0), (1, .int l), (2, .int i)]) dX8_lays_12 (Nat.le_of_ble_eq_true rfl) rfl ?_
  refine g_aload_n dX8_lays_13 1 rfl ?_
  refine g_iload_n dX8_lays_14 2 rfl ?_
  refine g_iload_n dX8_lays_15 3 rfl ?_
  refine g_iload_n dX8_lays_16 0 rfl ?_
  refine g_callVq (st1 := [.int ((rfLs σ l).1)]) dX8_lays_17 (ev_refP1 H ok l i _ hz) oX8_refusalOfPlace wiX8_refusalOfPlace weX8_refusalOfPlace wmX8_287 kX8 (hO0) rfl ⟨(Nat.le_of_ble_eq_true rfl), (Nat.le_of_ble_eq_true rfl)⟩ ⟨Nat.zero_le _, Nat.zero_le _⟩ (Nat.le_of_ble_eq_true rfl) rfl rfl (fun h2 q2 => ?_)
  refine g_istore (ls' := [(4, .int ((rfLs σ l).1)), (3, .int (nI (2 * σ.1.2.1))), (0, .ref 0), (1, .int l), (2, .int i)]) dX8_lays_20 (Nat.le_of_ble_eq_true rfl) rfl ?_
  refine g_iload dX8_lays_22 0 rfl ?_
  refine g_if_eq 30 dX8_lays_24 (by decide) (fun z => absurd z (rfLs_no σ l)) (fun c24 => ?_)
  refine g_iload dX8_lays_27 0 rfl ?_
  exact g_iret dX8_lays_29 rfl ⟨Nat.zero_le _, Nat.zero_le _⟩ (⟨rfl, q2⟩)

set_option maxRecDepth 100000 in
set_option maxHeartbeats 4000000 in
theorem ev_x_lays_b {h : List aC} {σ : Sg} (H : RC h σ) (ok : okSg σ) (y : Nat) (hy : y < 3) (h0 : 0 ≤ σ.2.2.1.2.getD y 0) (hz : okL σ (nI y) = true) (i : Int32) (hq : okQ σ (nI y) i (2 * σ.1.2.1) = false) : Ev mX8_lays 5 0 0 [.ref 0, .int (nI y), .int i] h (sp h (oLays σ (nI y) i)) := by
  obtain ⟨hO0, hS, ⟨ci, hI, hI2⟩, ⟨cd, hDr⟩, hLt, hL, hH, ⟨⟨sw_, sc_, sgs, sgk, hX⟩, ⟨xn, xm, xF, xS, xA, hXP⟩⟩, ⟨tn, tm, tF, tS, tA, hTh⟩, ⟨pn, pm, pF, pS, pA, hSp⟩, hRf⟩ := id H
  obtain ⟨hO1, F, S, A, K, U, C, T, hP, hf, hT, ht, hR, hC, hl⟩ := id hS
  have hO1 : rd h 1 = some (.inr (6, [.ref 2, .ref 6, .ref 9])) := hO1
  have hP : PA h 2 _ _ F S A := hP
  have hT : TA h 6 _ K U := hT
  have hR : RA h 9 _ C T := hR
  obtain ⟨-, -, -, -, lF, lS, lA⟩ := id hP
  obtain ⟨-, -, -, lK, lU⟩ := id hT
  obtain ⟨-, -, -, lC, lT⟩ := id hR
  obtain ⟨okc, ⟨okl, okw⟩, okn, ⟨okh, oke⟩, oki, okr⟩ := id ok
  obtain ⟨k1, k2, k3, k4, k5, k6, k7, k8, k9⟩ := id okc
  have hbn : bnd σ.1.1 σ.1.2.1 F S A := okc.bnd hf
  rw [show oLays σ (nI y) i = _ from (if_pos hz).trans (if_neg (by rw [hq]; decide))]
  refine Ev.of pX8_lays (Nat.le_of_ble_eq_true rfl) ?_
  show G mX8_lays (rmD 5 0 0) none _ 0 0 0 [(0, .ref 0), (1, .int (nI y)), (2, .int i)] [] h
  obtain ⟨nx1, o1⟩ := HR.o hH
  refine g_iconst (v := nI 2) dX8_lays_0 (by decide +kernel) ?_
  refine g_aload_n dX8_lays_1 0 rfl ?_
  refine g_getf dX8_lays_2 kX8 wfX8_10 (Nat.le_of_ble_eq_true rfl) (hO0) rfl ?_
  refine g_getf dX8_lays_5 kX6 wfX8_97 (Nat.le_of_ble_eq_true rfl) (hO1) rfl ?_
  refine g_getf dX8_lays_8 kX3 wfX8_115 (Nat.le_of_ble_eq_true rfl) (hP.1) rfl ?_
  refine g_imulN dX8_lays_11 ?_
  refine g_istore_n (ls' := [(3, .int (nI (2 * σ.1.2.1))), (0, .ref 0), (1, .int (nI y)), (2, .int i)]) dX8_lays_12 (Nat.le_of_ble_eq_true rfl) rfl ?_
  refine g_aload_n dX8_lays_13 1 rfl ?_
  refine g_iload_n dX8_lays_14 2 rfl ?_
  refine g_iload_n dX8_lays_15 3 rfl ?_
  refine g_iload_n dX8_lays_16 0 rfl ?_
  refine g_callVp dX8_lays_17 (ev_refP0 H ok y hy h0 i (2 * σ.1.2.1) (by omega)) oX8_refusalOfPlace wiX8_refusalOfPlace weX8_refusalOfPlace wmX8_287 kX8 (hO0) rfl ⟨(Nat.le_of_ble_eq_true rfl), (Nat.le_of_ble_eq_true rfl)⟩ ⟨Nat.zero_le _, Nat.zero_le _⟩ (Nat.le_of_ble_eq_true rfl) rfl ?_
  refine g_top (if_neg (by rw [hq]; decide)) ?_
  refine g_istore (ls' := [(4, .int (-13)), (3, .int (nI (2 * σ.1.2.1))), (0, .ref 0), (1, .int (nI y)), (2, .int i)]) dX8_lays_20 (Nat.le_of_ble_eq_true rfl) rfl ?_
  refine g_iload dX8_lays_22 0 rfl ?_
  refine g_if_eq 30 dX8_lays_24 (by decide) (fun z => absurd z (by decide)) (fun c24 => ?_)
  refine g_iload dX8_lays_27 0 rfl ?_
  exact g_iret dX8_lays_29 rfl ⟨Nat.zero_le _, Nat.zero_le _⟩ (⟨rfl, ⟨hO0, ⟨hO1, _, _, _, _, _, _, _, hP, hf, hT, ht, hR, hC, hl⟩, ⟨_, hI, hI2⟩, ⟨_, hDr⟩, hLt, hL, hH, ⟨⟨_, _, _, _, hX⟩, ⟨_, _, _, _, _, hXP⟩⟩, ⟨_, _, _, _, _, hTh⟩, ⟨_, _, _, _, _, hSp⟩, hRf⟩, Smo.rf⟩)

set_option maxRecDepth 100000 in
set_option maxHeartbeats 4000000 in
theorem ev_x_lays_g {h : List aC} {σ : Sg} (H : RC h σ) (ok : okSg σ) (y : Nat) (hy : y < 3) (h0 : 0 ≤ σ.2.2.1.2.getD y 0) (hz : okL σ (nI y) = true) (j : Nat) (hq : okQ σ (nI y) (nI j) (2 * σ.1.2.1) = true) (q : Nat) (hql : q ≤ 40) (eql : σ.2.2.1.2.getD y 0 = nI q) (hj : j + (2 * σ.1.2.1) ≤ q) : Ev mX8_lays 5 0 0 [.ref 0, .int (nI y), .int (nI j)] h (sp h (oLays σ (nI y) (nI j))) := by
  obtain ⟨hO0, hS, ⟨ci, hI, hI2⟩, ⟨cd, hDr⟩, hLt, hL, hH, ⟨⟨sw_, sc_, sgs, sgk, hX⟩, ⟨xn, xm, xF, xS, xA, hXP⟩⟩, ⟨tn, tm, tF, tS, tA, hTh⟩, ⟨pn, pm, pF, pS, pA, hSp⟩, hRf⟩ := id H
  obtain ⟨hO1, F, S, A, K, U, C, T, hP, hf, hT, ht, hR, hC, hl⟩ := id hS
  have hO1 : rd h 1 = some (.inr (6, [.ref 2, .ref 6, .ref 9])) := hO1
  have hP : PA h 2 _ _ F S A := hP
  have hT : TA h 6 _ K U := hT
  have hR : RA h 9 _ C T := hR
  obtain ⟨-, -, -, -, lF, lS, lA⟩ := id hP
  obtain ⟨-, -, -, lK, lU⟩ := id hT
  obtain ⟨-, -, -, lC, lT⟩ := id hR
  obtain ⟨okc, ⟨okl, okw⟩, okn, ⟨okh, oke⟩, oki, okr⟩ := id ok
  obtain ⟨k1, k2, k3, k4, k5, k6, k7, k8, k9⟩ := id okc
  have hbn : bnd σ.1.1 σ.1.2.1 F S A := okc.bnd hf
  rw [show oLays σ (nI y) (nI j) = _ from (if_pos hz).trans (if_pos hq)]
  rw [cl_ (show y < 2 ^ 31 by omega), cl_ (show j < 2 ^ 31 by omega)]
  refine Ev.of pX8_lays (Nat.le_of_ble_eq_true rfl) ?_
  show G mX8_lays (rmD 5 0 0) none _ 0 0 0 [(0, .ref 0), (1, .int (nI y)), (2, .int (nI j))] [] h
  obtain ⟨nx1, o1⟩ := HR.o hH
  refine g_iconst (v := nI 2) dX8_lays_0 (by decide +kernel) ?_
  refine g_aload_n dX8_lays_1 0 rfl ?_
  refine g_getf dX8_lays_2 kX8 wfX8_10 (Nat.le_of_ble_eq_true rfl) (hO0) rfl ?_
  refine g_getf dX8_lays_5 kX6 wfX8_97 (Nat.le_of_ble_eq_true rfl) (hO1) rfl ?_
  refine g_getf dX8_lays_8 kX3 wfX8_115 (Nat.le_of_ble_eq_true rfl) (hP.1) rfl ?_
  refine g_imulN dX8_lays_11 ?_
  refine g_istore_n (ls' := [(3, .int (nI (2 * σ.1.2.1))), (0, .ref 0), (1, .int (nI y)), (2, .int (nI j))]) dX8_lays_12 (Nat.le_of_ble_eq_true rfl) rfl ?_
  refine g_aload_n dX8_lays_13 1 rfl ?_
  refine g_iload_n dX8_lays_14 2 rfl ?_
  refine g_iload_n dX8_lays_15 3 rfl ?_
  refine g_iload_n dX8_lays_16 0 rfl ?_
  refine g_callVp dX8_lays_17 (ev_refP0 H ok y hy h0 (nI j) (2 * σ.1.2.1) (by omega)) oX8_refusalOfPlace wiX8_refusalOfPlace weX8_refusalOfPlace wmX8_287 kX8 (hO0) rfl ⟨(Nat.le_of_ble_eq_true rfl), (Nat.le_of_ble_eq_true rfl)⟩ ⟨Nat.zero_le _, Nat.zero_le _⟩ (Nat.le_of_ble_eq_true rfl) rfl ?_
  refine g_top (if_pos hq) ?_
  refine g_istore (ls' := [(4, .int (nI 0)), (3, .int (nI (2 * σ.1.2.1))), (0, .ref 0), (1, .int (nI y)), (2, .int (nI j))]) dX8_lays_20 (Nat.le_of_ble_eq_true rfl) rfl ?_
  refine g_iload dX8_lays_22 0 rfl ?_
  refine g_if_eqN 30 dX8_lays_24 (by decide) (by omega) (fun c24 => ?_) (fun z => absurd z (by omega))
  refine g_iconst (v := nI 0) dX8_lays_30 (by decide +kernel) ?_
  refine g_istore (ls' := [(5, .int (nI 0)), (4, .int (nI 0)), (3, .int (nI (2 * σ.1.2.1))), (0, .ref 0), (1, .int (nI y)), (2, .int (nI j))]) dX8_lays_31 (Nat.le_of_ble_eq_true rfl) rfl ?_
  exact lp_lays ok hy hj hql (2 * σ.1.2.1) 0 h (by omega) (by rw [show layF (σ.2.2.1.1 y) j σ.1.2.2.1 0 = σ.2.2.1.1 y from rfl, upI_self]; exact H) Smo.rf

set_option maxRecDepth 100000 in
set_option maxHeartbeats 4000000 in
theorem ev_x_lays_z {h : List aC} {σ : Sg} (H : RC h σ) (ok : okSg σ) (y : Nat) (hy : y < 3) (h0 : 0 ≤ σ.2.2.1.2.getD y 0) (hz : okL σ (nI y) = true) (i : Int32) (hm : σ.1.2.1 = 0) (hq : okQ σ (nI y) i (2 * σ.1.2.1) = true) : Ev mX8_lays 5 0 0 [.ref 0, .int (nI y), .int i] h (sp h (oLays σ (nI y) i)) := by
  obtain ⟨hO0, hS, ⟨ci, hI, hI2⟩, ⟨cd, hDr⟩, hLt, hL, hH, ⟨⟨sw_, sc_, sgs, sgk, hX⟩, ⟨xn, xm, xF, xS, xA, hXP⟩⟩, ⟨tn, tm, tF, tS, tA, hTh⟩, ⟨pn, pm, pF, pS, pA, hSp⟩, hRf⟩ := id H
  obtain ⟨hO1, F, S, A, K, U, C, T, hP, hf, hT, ht, hR, hC, hl⟩ := id hS
  have hO1 : rd h 1 = some (.inr (6, [.ref 2, .ref 6, .ref 9])) := hO1
  have hP : PA h 2 _ _ F S A := hP
  have hT : TA h 6 _ K U := hT
  have hR : RA h 9 _ C T := hR
  obtain ⟨-, -, -, -, lF, lS, lA⟩ := id hP
  obtain ⟨-, -, -, lK, lU⟩ := id hT
  obtain ⟨-, -, -, lC, lT⟩ := id hR
  obtain ⟨okc, ⟨okl, okw⟩, okn, ⟨okh, oke⟩, oki, okr⟩ := id ok
  obtain ⟨k1, k2, k3, k4, k5, k6, k7, k8, k9⟩ := id okc
  have hbn : bnd σ.1.1 σ.1.2.1 F S A := okc.bnd hf
  rw [show oLays σ (nI y) i = _ from (if_pos hz).trans (if_pos hq)]
  rw [cl_ (show y < 2 ^ 31 by omega)]
  refine Ev.of pX8_lays (Nat.le_of_ble_eq_true rfl) ?_
  show G mX8_lays (rmD 5 0 0) none _ 0 0 0 [(0, .ref 0), (1, .int (nI y)), (2, .int i)] [] h
  obtain ⟨nx1, o1⟩ := HR.o hH
  refine g_iconst (v := nI 2) dX8_lays_0 (by decide +kernel) ?_
  refine g_aload_n dX8_lays_1 0 rfl ?_
  refine g_getf dX8_lays_2 kX8 wfX8_10 (Nat.le_of_ble_eq_true rfl) (hO0) rfl ?_
  refine g_getf dX8_lays_5 kX6 wfX8_97 (Nat.le_of_ble_eq_true rfl) (hO1) rfl ?_
  refine g_getf dX8_lays_8 kX3 wfX8_115 (Nat.le_of_ble_eq_true rfl) (hP.1) rfl ?_
  refine g_imulN dX8_lays_11 ?_
  refine g_istore_n (ls' := [(3, .int (nI (2 * σ.1.2.1))), (0, .ref 0), (1, .int (nI y)), (2, .int i)]) dX8_lays_12 (Nat.le_of_ble_eq_true rfl) rfl ?_
  refine g_aload_n dX8_lays_13 1 rfl ?_
  refine g_iload_n dX8_lays_14 2 rfl ?_
  refine g_iload_n dX8_lays_15 3 rfl ?_
  refine g_iload_n dX8_lays_16 0 rfl ?_
  refine g_callVp dX8_lays_17 (ev_refP0 H ok y hy h0 i (2 * σ.1.2.1) (by omega)) oX8_refusalOfPlace wiX8_refusalOfPlace weX8_refusalOfPlace wmX8_287 kX8 (hO0) rfl ⟨(Nat.le_of_ble_eq_true rfl), (Nat.le_of_ble_eq_true rfl)⟩ ⟨Nat.zero_le _, Nat.zero_le _⟩ (Nat.le_of_ble_eq_true rfl) rfl ?_
  refine g_top (if_pos hq) ?_
  refine g_istore (ls' := [(4, .int (nI 0)), (3, .int (nI (2 * σ.1.2.1))), (0, .ref 0), (1, .int (nI y)), (2, .int i)]) dX8_lays_20 (Nat.le_of_ble_eq_true rfl) rfl ?_
  refine g_iload dX8_lays_22 0 rfl ?_
  refine g_if_eqN 30 dX8_lays_24 (by decide) (by omega) (fun c24 => ?_) (fun z => absurd z (by omega))
  refine g_iconst (v := nI 0) dX8_lays_30 (by decide +kernel) ?_
  refine g_istore (ls' := [(5, .int (nI 0)), (4, .int (nI 0)), (3, .int (nI (2 * σ.1.2.1))), (0, .ref 0), (1, .int (nI y)), (2, .int i)]) dX8_lays_31 (Nat.le_of_ble_eq_true rfl) rfl ?_
  refine g_iload dX8_lays_33 0 rfl ?_
  refine g_iload_n dX8_lays_35 2 rfl ?_
  refine g_icmp_geN 71 dX8_lays_36 (by decide) (by omega) (by omega) (fun c36 => ?_) (fun z => absurd z (by omega))
  refine g_iload_n dX8_lays_71 2 rfl ?_
  exact g_iret dX8_lays_72 rfl ⟨Nat.zero_le _, Nat.zero_le _⟩ (⟨rfl, by rw [hm, show layF (σ.2.2.1.1 y) i.toNatClampNeg σ.1.2.2.1 (2 * 0) = σ.2.2.1.1 y from rfl, upI_self]; exact ⟨H, Smo.rf⟩⟩)

theorem ev_x_lays {h : List aC} {σ : Sg} (H : RC h σ) (ok : okSg σ) (l i : Int32) : Ev mX8_lays 5 0 0 [.ref 0, .int l, .int i] h (sp h (oLays σ l i)) := by
  cases hz : okL σ l with
  | false => exact ev_x_lays_n H ok l i  hz
  | true =>
    obtain ⟨y, hy, rfl, h0⟩ := okL_in hz
    cases hq : okQ σ (nI y) i (2 * σ.1.2.1) with
    | false => exact ev_x_lays_b H ok y hy h0 hz i  hq
    | true =>
      by_cases hm : σ.1.2.1 = 0
      · exact ev_x_lays_z H ok y hy h0 hz i hm hq
      obtain ⟨q, hql, eql⟩ := okL_q ok hy h0
      have hm6 : σ.1.2.1 ≤ 6 := by have := ok.1.2.2.2.1; have := ok.1.2.1; omega
      obtain ⟨j, rfl, hj⟩ := okQ_1 (by omega) eql hql (by omega) hq
      exact ev_x_lays_g H ok y hy h0 hz j  hq q hql eql hj

theorem otB_ext {m : Nat} {F S F2 S2 : List Nat} {L : List Int32} (h : ∀ i, i < m → F.getD i 0 = F2.getD i 0 ∧ S.getD i 0 = S2.getD i 0) (i : Nat) : otB m F S L i = otB m F2 S2 L i := by
  unfold otB
  congr 1
  apply propext
  by_cases q : i / 2 < m
  · unfold nAt; rw [(h _ q).1, (h _ q).2]
  · constructor
    · intro _ z; exact q z.1
    · intro _ z; exact q z.1
def okSb (n : Nat) (L : List Int32) (k : Nat) : Bool := decide (¬ L.getD (2 * k) 0 < nI 1 ∧ ¬ nI n ≤ L.getD (2 * k) 0 ∧ ¬ L.getD (2 * k + 1) 0 < nI 1 ∧ ¬ nI n ≤ L.getD (2 * k + 1) 0 ∧ L.getD (2 * k) 0 ≠ L.getD (2 * k + 1) 0)
def szD (n q : Nat) (L : List Int32) : Bool := decide ((∀ k, k < q → okSb n L k = true) ∧ isSt n q (lX L) (lY L) = true)
theorem szD_iff {n q : Nat} {L : List Int32} : szD n q L = true ↔ szB n q L := by
  unfold szD szB
  rw [decide_eq_true_eq]
  constructor
  · rintro ⟨a, b⟩; exact ⟨fun k hk => by have z := a k hk; unfold okSb at z; have y := of_decide_eq_true z; exact y, b⟩
  · rintro ⟨a, b⟩; exact ⟨fun k hk => by unfold okSb; have y := a k hk; unfold okS at y; exact decide_eq_true y, b⟩
def szV (q : Nat) (L : List Int32) : Int32 := if (1 ≤ q ∧ q ≤ 6) ∧ szD (2 * q + 1) q L = true then nI (2 ^ (q - 1)) else nI 0
theorem ev_sz {h : List aC} {LR : Nat → List Int32} {LN : List Int32} (hL : LA h LR LN) {n0 m0 : Nat} {F S A : List Nat} (hP : PA h 89 n0 m0 F S A) (y q : Nat) (hy : y < 3) (hN : LN.getD y 0 = nI (2 * q)) (hq : q ≤ 20) : Ev mX2_sizesOfStarter 5 0 0 [.ref 36, .int (nI y), .ref 89] h (pq (some (.int (szV q (LR y)))) (fun h2 => PQ h2 89 ∧ Smo 89 93 h h2)) := by
  by_cases c : 1 ≤ q ∧ q ≤ 6
  · refine (ev_sizes hL hP (by omega) y q hy hN c).mono ?_
    rintro w h2 ⟨r, rfl, hz, ⟨n1, m1, F1, S1, A1, q1⟩, q2⟩
    refine ⟨?_, ⟨n1, m1, F1, S1, A1, q1⟩, q2⟩
    have e : (2 * q + 1 - 3) / 2 = q - 1 := by omega
    unfold szV
    rcases hz with ⟨z1, z2⟩ | ⟨z1, z2⟩
    · rw [if_pos ⟨c, szD_iff.mpr z1⟩, z2, e]
    · rw [if_neg (fun z => z1 (szD_iff.mp z.2)), z2]
  · refine (ev_sizes0 hL hP (by omega) y q hy hN (by omega)).mono ?_
    rintro w h2 ⟨rfl, rfl⟩
    refine ⟨?_, ⟨_, _, _, _, _, hP⟩, Smo.rf⟩
    unfold szV
    rw [if_neg (fun z => c z.1)]
def oSizes (σ : Sg) (l : Int32) : Int32 × Sg := if okL σ l = true then (if (σ.2.2.1.2.getD l.toNatClampNeg 0).toNatClampNeg % 2 = 0 then (szV ((σ.2.2.1.2.getD l.toNatClampNeg 0).toNatClampNeg / 2) (σ.2.2.1.1 l.toNatClampNeg), σ) else rfS σ (-3)) else rfLs σ l
def filR (n : Nat) (rm : Nat → Nat → Nat) : Nat := sumN (fun q => bI (decide (rm (q / n) (q % n) ≠ 0))) (n * n)
theorem fil_eq {n : Nat} {C : List Nat} {rm : Nat → Nat → Nat} (H : cR n C rm) : sumN (fun i => bI (decide (C.getD i 0 ≠ 0))) (n * n) = filR n rm := sumN_ext _ fun i hi => by rw [H.at hi]
def cntV (σ : Sg) (x : Int32) : Int32 := if x = nI 0 then nI σ.1.1 else if x = nI 1 then nI σ.1.2.1 else if x = nI 2 then nI σ.1.2.2.2.1 else if x = nI 3 then nI (filR σ.1.1 σ.1.2.2.2.2.2) else if x = nI 4 then nI σ.2.1.1 else if x = nI 5 then nI σ.2.2.2.1.length else -9
def oCount (σ : Sg) (x : Int32) : Int32 × Sg := (if ¬ x < nI 11 ∧ ¬ nI 16 < x then σ.2.2.2.2.2.getD (x.toNatClampNeg - 10) 0 else cntV σ x, σ)

set_option maxRecDepth 100000 in
set_option maxHeartbeats 4000000 in
theorem ev_x_judge_n {h : List aC} {σ : Sg} (H : RC h σ) (ok : okSg σ) (l : Int32) (hz : okL σ l = false) : Ev mX8_judge 3 0 0 [.ref 0, .int l] h (sp h (oJudge σ l)) := by
  obtain ⟨hO0, hS, ⟨ci, hI, hI2⟩, ⟨cd, hDr⟩, hLt, hL, hH, ⟨⟨sw_, sc_, sgs, sgk, hX⟩, ⟨xn, xm, xF, xS, xA, hXP⟩⟩, ⟨tn, tm, tF, tS, tA, hTh⟩, ⟨pn, pm, pF, pS, pA, hSp⟩, hRf⟩ := id H
  obtain ⟨hO1, F, S, A, K, U, C, T, hP, hf, hT, ht, hR, hC, hl⟩ := id hS
  have hO1 : rd h 1 = some (.inr (6, [.ref 2, .ref 6, .ref 9])) := hO1
  have hP : PA h 2 _ _ F S A := hP
  have hT : TA h 6 _ K U := hT
  have hR : RA h 9 _ C T := hR
  obtain ⟨-, -, -, -, lF, lS, lA⟩ := id hP
  obtain ⟨-, -, -, lK, lU⟩ := id hT
  obtain ⟨-, -, -, lC, lT⟩ := id hR
  obtain ⟨okc, ⟨okl, okw⟩, okn, ⟨okh, oke⟩, oki, okr⟩ := id ok
  obtain ⟨k1, k2, k3, k4, k5, k6, k7, k8, k9⟩ := id okc
  have hbn : bnd σ.1.1 σ.1.2.1 F S A := okc.bnd hf
  rw [show oJudge σ l = _ from if_neg (by rw [hz]; decide)]
  refine Ev.of pX8_judge (Nat.le_of_ble_eq_true rfl) ?_
  show G mX8_judge (rmD 3 0 0) none _ 0 0 0 [(0, .ref 0), (1, .int l)] [] h
  obtain ⟨nx1, o1⟩ := HR.o hH
  refine g_aload_n dX8_judge_0 0 rfl ?_
  refine g_iload_n dX8_judge_1 1 rfl ?_
  refine g_callVq (st1 := [.int ((rfLs σ l).1)]) dX8_judge_2 (ev_refL1 H ok l hz) oX8_refusalOfList wiX8_refusalOfList weX8_refusalOfList wmX8_300 kX8 (hO0) rfl ⟨(Nat.le_of_ble_eq_true rfl), (Nat.le_of_ble_eq_true rfl)⟩ ⟨Nat.zero_le _, Nat.zero_le _⟩ (Nat.le_of_ble_eq_true rfl) rfl rfl (fun h2 q2 => ?_)
  refine g_istore_n (ls' := [(2, .int ((rfLs σ l).1)), (0, .ref 0), (1, .int l)]) dX8_judge_5 (Nat.le_of_ble_eq_true rfl) rfl ?_
  refine g_iload_n dX8_judge_6 0 rfl ?_
  refine g_if_eq 14 dX8_judge_7 (by decide) (fun z => absurd z (rfLs_no σ l)) (fun c7 => ?_)
  refine g_iload_n dX8_judge_10 0 rfl ?_
  refine g_goto 29 dX8_judge_11 (by decide) ?_
  exact g_iret dX8_judge_29 rfl ⟨Nat.zero_le _, Nat.zero_le _⟩ (⟨rfl, q2⟩)

set_option maxRecDepth 100000 in
set_option maxHeartbeats 4000000 in
theorem ev_x_judge_g {h : List aC} {σ : Sg} (H : RC h σ) (ok : okSg σ) (y : Nat) (hy : y < 3) (h0 : 0 ≤ σ.2.2.1.2.getD y 0) (hz : okL σ (nI y) = true) (q : Nat) (hql : q ≤ 40) (eql : σ.2.2.1.2.getD y 0 = nI q) : Ev mX8_judge 3 0 0 [.ref 0, .int (nI y)] h (sp h (oJudge σ (nI y))) := by
  obtain ⟨hO0, hS, ⟨ci, hI, hI2⟩, ⟨cd, hDr⟩, hLt, hL, hH, ⟨⟨sw_, sc_, sgs, sgk, hX⟩, ⟨xn, xm, xF, xS, xA, hXP⟩⟩, ⟨tn, tm, tF, tS, tA, hTh⟩, ⟨pn, pm, pF, pS, pA, hSp⟩, hRf⟩ := id H
  obtain ⟨hO1, F, S, A, K, U, C, T, hP, hf, hT, ht, hR, hC, hl⟩ := id hS
  have hO1 : rd h 1 = some (.inr (6, [.ref 2, .ref 6, .ref 9])) := hO1
  have hP : PA h 2 _ _ F S A := hP
  have hT : TA h 6 _ K U := hT
  have hR : RA h 9 _ C T := hR
  obtain ⟨-, -, -, -, lF, lS, lA⟩ := id hP
  obtain ⟨-, -, -, lK, lU⟩ := id hT
  obtain ⟨-, -, -, lC, lT⟩ := id hR
  obtain ⟨okc, ⟨okl, okw⟩, okn, ⟨okh, oke⟩, oki, okr⟩ := id ok
  obtain ⟨k1, k2, k3, k4, k5, k6, k7, k8, k9⟩ := id okc
  have hbn : bnd σ.1.1 σ.1.2.1 F S A := okc.bnd hf
  rw [show oJudge σ (nI y) = _ from if_pos hz, cl_ (show y < 2 ^ 31 by omega), eql, cl_ (show q < 2 ^ 31 by omega)]
  refine Ev.of pX8_judge (Nat.le_of_ble_eq_true rfl) ?_
  show G mX8_judge (rmD 3 0 0) none _ 0 0 0 [(0, .ref 0), (1, .int (nI y))] [] h
  obtain ⟨nx1, o1⟩ := HR.o hH
  refine g_aload_n dX8_judge_0 0 rfl ?_
  refine g_iload_n dX8_judge_1 1 rfl ?_
  refine g_callVp dX8_judge_2 (ev_refL0 H ok y hy h0) oX8_refusalOfList wiX8_refusalOfList weX8_refusalOfList wmX8_300 kX8 (hO0) rfl ⟨(Nat.le_of_ble_eq_true rfl), (Nat.le_of_ble_eq_true rfl)⟩ ⟨Nat.zero_le _, Nat.zero_le _⟩ (Nat.le_of_ble_eq_true rfl) rfl ?_
  refine g_istore_n (ls' := [(2, .int (nI 0)), (0, .ref 0), (1, .int (nI y))]) dX8_judge_5 (Nat.le_of_ble_eq_true rfl) rfl ?_
  refine g_iload_n dX8_judge_6 0 rfl ?_
  refine g_if_eqN 14 dX8_judge_7 (by decide) (by omega) (fun c7 => ?_) (fun z => absurd z (by omega))
  refine g_aload_n dX8_judge_14 1 rfl ?_
  refine g_getf dX8_judge_15 kX8 wfX8_36 (Nat.le_of_ble_eq_true rfl) (hO0) rfl ?_
  refine g_iload_n dX8_judge_18 2 rfl ?_
  refine g_aload_n dX8_judge_19 1 rfl ?_
  refine g_getf dX8_judge_20 kX8 wfX8_10 (Nat.le_of_ble_eq_true rfl) (hO0) rfl ?_
  refine g_getf dX8_judge_23 kX6 wfX8_97 (Nat.le_of_ble_eq_true rfl) (hO1) rfl ?_
  refine g_callVp dX8_judge_26 (ev_otherwise hL hP (by omega) y q hy hql eql) oX2_firstOtherwise wiX2_firstOtherwise weX2_firstOtherwise wmX8_303 kX2 (hL.1) rfl ⟨(Nat.le_of_ble_eq_true rfl), (Nat.le_of_ble_eq_true rfl)⟩ ⟨Nat.zero_le _, Nat.zero_le _⟩ (Nat.le_of_ble_eq_true rfl) rfl ?_
  refine g_top (congrArg oI (sc1_ext (m := q) (fun i _ => otB_ext (lFS hf (by omega)) i) q 0 (by omega))) ?_
  exact g_iret dX8_judge_29 rfl ⟨Nat.zero_le _, Nat.zero_le _⟩ (⟨rfl, ⟨hO0, ⟨hO1, _, _, _, _, _, _, _, hP, hf, hT, ht, hR, hC, hl⟩, ⟨_, hI, hI2⟩, ⟨_, hDr⟩, hLt, hL, hH, ⟨⟨_, _, _, _, hX⟩, ⟨_, _, _, _, _, hXP⟩⟩, ⟨_, _, _, _, _, hTh⟩, ⟨_, _, _, _, _, hSp⟩, hRf⟩, Smo.rf⟩)

theorem ev_x_judge {h : List aC} {σ : Sg} (H : RC h σ) (ok : okSg σ) (l : Int32) : Ev mX8_judge 3 0 0 [.ref 0, .int l] h (sp h (oJudge σ l)) := by
  cases hz : okL σ l with
  | false => exact ev_x_judge_n H ok l hz
  | true =>
    obtain ⟨y, hy, rfl, h0⟩ := okL_in hz
    obtain ⟨q, hql, eql⟩ := okL_q ok hy h0
    exact ev_x_judge_g H ok y hy h0 hz q hql eql

set_option maxRecDepth 100000 in
set_option maxHeartbeats 4000000 in
theorem ev_x_sizes_n {h : List aC} {σ : Sg} (H : RC h σ) (ok : okSg σ) (l : Int32) (hz : okL σ l = false) : Ev mX8_sizes 6 0 0 [.ref 0, .int l] h (sp h (oSizes σ l)) := by
  obtain ⟨hO0, hS, ⟨ci, hI, hI2⟩, ⟨cd, hDr⟩, hLt, hL, hH, ⟨⟨sw_, sc_, sgs, sgk, hX⟩, ⟨xn, xm, xF, xS, xA, hXP⟩⟩, ⟨tn, tm, tF, tS, tA, hTh⟩, ⟨pn, pm, pF, pS, pA, hSp⟩, hRf⟩ := id H
  obtain ⟨hO1, F, S, A, K, U, C, T, hP, hf, hT, ht, hR, hC, hl⟩ := id hS
  have hO1 : rd h 1 = some (.inr (6, [.ref 2, .ref 6, .ref 9])) := hO1
  have hP : PA h 2 _ _ F S A := hP
  have hT : TA h 6 _ K U := hT
  have hR : RA h 9 _ C T := hR
  obtain ⟨-, -, -, -, lF, lS, lA⟩ := id hP
  obtain ⟨-, -, -, lK, lU⟩ := id hT
  obtain ⟨-, -, -, lC, lT⟩ := id hR
  obtain ⟨okc, ⟨okl, okw⟩, okn, ⟨okh, oke⟩, oki, okr⟩ := id ok
  obtain ⟨k1, k2, k3, k4, k5, k6, k7, k8, k9⟩ := id okc
  have hbn : bnd σ.1.1 σ.1.2.1 F S A := okc.bnd hf
  rw [show oSizes σ l = _ from if_neg (by rw [hz]; decide)]
  refine Ev.of pX8_sizes (Nat.le_of_ble_eq_true rfl) ?_
  show G mX8_sizes (rmD 6 0 0) none _ 0 0 0 [(0, .ref 0), (1, .int l)] [] h
  obtain ⟨nx1, o1⟩ := HR.o hH
  refine g_aload_n dX8_sizes_0 0 rfl ?_
  refine g_iload_n dX8_sizes_1 1 rfl ?_
  refine g_callVq (st1 := [.int ((rfLs σ l).1)]) dX8_sizes_2 (ev_refL1 H ok l hz) oX8_refusalOfList wiX8_refusalOfList weX8_refusalOfList wmX8_300 kX8 (hO0) rfl ⟨(Nat.le_of_ble_eq_true rfl), (Nat.le_of_ble_eq_true rfl)⟩ ⟨Nat.zero_le _, Nat.zero_le _⟩ (Nat.le_of_ble_eq_true rfl) rfl rfl (fun h2 q2 => ?_)
  refine g_istore_n (ls' := [(2, .int ((rfLs σ l).1)), (0, .ref 0), (1, .int l)]) dX8_sizes_5 (Nat.le_of_ble_eq_true rfl) rfl ?_
  refine g_iload_n dX8_sizes_6 0 rfl ?_
  refine g_if_eq 12 dX8_sizes_7 (by decide) (fun z => absurd z (rfLs_no σ l)) (fun c7 => ?_)
  refine g_iload_n dX8_sizes_10 0 rfl ?_
  exact g_iret dX8_sizes_11 rfl ⟨Nat.zero_le _, Nat.zero_le _⟩ (⟨rfl, q2⟩)

set_option maxRecDepth 100000 in
set_option maxHeartbeats 4000000 in
theorem ev_x_sizes_g {h : List aC} {σ : Sg} (H : RC h σ) (ok : okSg σ) (y : Nat) (hy : y < 3) (h0 : 0 ≤ σ.2.2.1.2.getD y 0) (hz : okL σ (nI y) = true) (q : Nat) (hql : q ≤ 40) (eql : σ.2.2.1.2.getD y 0 = nI q) : Ev mX8_sizes 6 0 0 [.ref 0, .int (nI y)] h (sp h (oSizes σ (nI y))) := by
  obtain ⟨hO0, hS, ⟨ci, hI, hI2⟩, ⟨cd, hDr⟩, hLt, hL, hH, ⟨⟨sw_, sc_, sgs, sgk, hX⟩, ⟨xn, xm, xF, xS, xA, hXP⟩⟩, ⟨tn, tm, tF, tS, tA, hTh⟩, ⟨pn, pm, pF, pS, pA, hSp⟩, hRf⟩ := id H
  obtain ⟨hO1, F, S, A, K, U, C, T, hP, hf, hT, ht, hR, hC, hl⟩ := id hS
  have hO1 : rd h 1 = some (.inr (6, [.ref 2, .ref 6, .ref 9])) := hO1
  have hP : PA h 2 _ _ F S A := hP
  have hT : TA h 6 _ K U := hT
  have hR : RA h 9 _ C T := hR
  obtain ⟨-, -, -, -, lF, lS, lA⟩ := id hP
  obtain ⟨-, -, -, lK, lU⟩ := id hT
  obtain ⟨-, -, -, lC, lT⟩ := id hR
  obtain ⟨okc, ⟨okl, okw⟩, okn, ⟨okh, oke⟩, oki, okr⟩ := id ok
  obtain ⟨k1, k2, k3, k4, k5, k6, k7, k8, k9⟩ := id okc
  have hbn : bnd σ.1.1 σ.1.2.1 F S A := okc.bnd hf
  rw [show oSizes σ (nI y) = _ from if_pos hz, cl_ (show y < 2 ^ 31 by omega), eql, cl_ (show q < 2 ^ 31 by omega)]
  have lLN := hL.2.2.2.2
  refine Ev.of pX8_sizes (Nat.le_of_ble_eq_true rfl) ?_
  show G mX8_sizes (rmD 6 0 0) none _ 0 0 0 [(0, .ref 0), (1, .int (nI y))] [] h
  obtain ⟨nx1, o1⟩ := HR.o hH
  refine g_aload_n dX8_sizes_0 0 rfl ?_
  refine g_iload_n dX8_sizes_1 1 rfl ?_
  refine g_callVp dX8_sizes_2 (ev_refL0 H ok y hy h0) oX8_refusalOfList wiX8_refusalOfList weX8_refusalOfList wmX8_300 kX8 (hO0) rfl ⟨(Nat.le_of_ble_eq_true rfl), (Nat.le_of_ble_eq_true rfl)⟩ ⟨Nat.zero_le _, Nat.zero_le _⟩ (Nat.le_of_ble_eq_true rfl) rfl ?_
  refine g_istore_n (ls' := [(2, .int (nI 0)), (0, .ref 0), (1, .int (nI y))]) dX8_sizes_5 (Nat.le_of_ble_eq_true rfl) rfl ?_
  refine g_iload_n dX8_sizes_6 0 rfl ?_
  refine g_if_eqN 12 dX8_sizes_7 (by decide) (by omega) (fun c7 => ?_) (fun z => absurd z (by omega))
  refine g_aload_n dX8_sizes_12 1 rfl ?_
  refine g_getf dX8_sizes_13 kX8 wfX8_36 (Nat.le_of_ble_eq_true rfl) (hO0) rfl ?_
  refine g_getf dX8_sizes_16 kX2 wfX8_307 (Nat.le_of_ble_eq_true rfl) (hL.1) rfl ?_
  refine g_iload_n dX8_sizes_19 2 rfl ?_
  refine g_ialI dX8_sizes_20 (hL.2.2.2.1) (by have := hL.2.2.2.2; omega) (by omega) ?_
  refine g_top (eql) ?_
  refine g_iconst (v := nI 2) dX8_sizes_21 (by decide +kernel) ?_
  refine g_iremN dX8_sizes_22 (by omega) (by omega) (by omega) ?_
  refine g_if_eqN 33 dX8_sizes_23 (by decide) (by omega) (fun c23 => ?_) (fun c23 => ?_)
  · rw [if_pos (show q % 2 = 0 by omega)]
    refine g_aload_n dX8_sizes_33 1 rfl ?_
    refine g_getf dX8_sizes_34 kX8 wfX8_36 (Nat.le_of_ble_eq_true rfl) (hO0) rfl ?_
    refine g_iload_n dX8_sizes_37 2 rfl ?_
    refine g_aload_n dX8_sizes_38 1 rfl ?_
    refine g_getf dX8_sizes_39 kX8 wfX8_57 (Nat.le_of_ble_eq_true rfl) (hO0) rfl ?_
    refine g_callVq (st1 := [.int (szV (q / 2) (σ.2.2.1.1 y))]) dX8_sizes_42 (ev_sz hL hTh y (q / 2) hy (by rw [eql]; congr 1; omega) (by omega)) oX2_sizesOfStarter wiX2_sizesOfStarter weX2_sizesOfStarter wmX8_310 kX2 (hL.1) rfl ⟨(Nat.le_of_ble_eq_true rfl), (Nat.le_of_ble_eq_true rfl)⟩ ⟨Nat.zero_le _, Nat.zero_le _⟩ (Nat.le_of_ble_eq_true rfl) rfl rfl (fun h2 q2 => ?_)
    obtain ⟨⟨yn, ym, yF, yS, yA, q2a⟩, q2s⟩ := q2
    have b2_2 := hP.mv q2s (by omega)
    have b2_6 := hT.mv q2s (by omega)
    have b2_9 := hR.mv q2s (by omega)
    have b2_12 := hI.mv q2s (by omega)
    have b2_23 := hDr.mv q2s (by omega)
    have b2_42 := hH.mv q2s (by omega)
    obtain ⟨nx3, o3⟩ := HR.o b2_42
    have b2_34 := hLt.mv q2s (by omega)
    have b2_36 := hL.mv q2s (by omega)
    have b2_84 := hX.mv q2s (by omega)
    have b2_85 := hXP.mv q2s (by omega)
    have b2_93 := hSp.mv q2s (by omega)
    have f2_0 : rd h2 0 = some (.inr (8, [.ref 1, .ref 12, .ref 23, .int (nI (bI σ.2.2.2.2.1.isSome)), .ref 34, .ref 36, .ref 42, .ref 84, .ref 89, .ref 93, .ref 97])) := by rw [q2s _ (by omega)]; exact hO0
    have f2_1 : rd h2 1 = some (.inr (6, [.ref 2, .ref 6, .ref 9])) := by rw [q2s _ (by omega)]; exact hO1
    have f2_97 : rd h2 97 = some (.inl (σ.2.2.2.2.2)) := by rw [q2s _ (by omega)]; exact hRf
    exact g_iret dX8_sizes_45 rfl ⟨Nat.zero_le _, Nat.zero_le _⟩ (⟨rfl, ⟨f2_0, ⟨f2_1, _, _, _, _, _, _, _, b2_2, hf, b2_6, ht, b2_9, hC, hl⟩, ⟨_, b2_12, hI2⟩, ⟨_, b2_23⟩, b2_34, b2_36, b2_42, ⟨⟨_, _, _, _, b2_84⟩, ⟨_, _, _, _, _, b2_85⟩⟩, ⟨_, _, _, _, _, q2a⟩, ⟨_, _, _, _, _, b2_93⟩, f2_97⟩, (fun q hq => by rw [q2s q (by omega)])⟩)
  · refine g_aload_n dX8_sizes_26 1 rfl ?_
    refine g_bipush (v := (-3)) dX8_sizes_27 (by decide +kernel) ?_
    rw [if_neg (show ¬ q % 2 = 0 by omega)]
    refine g_callVq (st1 := [.int (-nI 3)]) dX8_sizes_29 (ev_refuse H ok 3 (by unfold noN; omega)) oX8_refuse wiX8_refuse weX8_refuse wmX8_68 kX8 (hO0) rfl ⟨(Nat.le_of_ble_eq_true rfl), (Nat.le_of_ble_eq_true rfl)⟩ ⟨Nat.zero_le _, Nat.zero_le _⟩ (Nat.le_of_ble_eq_true rfl) rfl rfl (fun h4 q4 => ?_)
    exact g_iret dX8_sizes_32 rfl ⟨Nat.zero_le _, Nat.zero_le _⟩ (⟨rfl, q4⟩)

theorem ev_x_sizes {h : List aC} {σ : Sg} (H : RC h σ) (ok : okSg σ) (l : Int32) : Ev mX8_sizes 6 0 0 [.ref 0, .int l] h (sp h (oSizes σ l)) := by
  cases hz : okL σ l with
  | false => exact ev_x_sizes_n H ok l hz
  | true =>
    obtain ⟨y, hy, rfl, h0⟩ := okL_in hz
    obtain ⟨q, hql, eql⟩ := okL_q ok hy h0
    exact ev_x_sizes_g H ok y hy h0 hz q hql eql

set_option maxRecDepth 100000 in
set_option maxHeartbeats 4000000 in
theorem ev_x_count_r {h : List aC} {σ : Sg} (H : RC h σ) (ok : okSg σ) (x1 : Nat) (hx : 11 ≤ x1 ∧ x1 ≤ 16) : Ev mX8_count 4 0 0 [.ref 0, .int (nI x1)] h (sp h (oCount σ (nI x1))) := by
  obtain ⟨hO0, hS, ⟨ci, hI, hI2⟩, ⟨cd, hDr⟩, hLt, hL, hH, ⟨⟨sw_, sc_, sgs, sgk, hX⟩, ⟨xn, xm, xF, xS, xA, hXP⟩⟩, ⟨tn, tm, tF, tS, tA, hTh⟩, ⟨pn, pm, pF, pS, pA, hSp⟩, hRf⟩ := id H
  obtain ⟨hO1, F, S, A, K, U, C, T, hP, hf, hT, ht, hR, hC, hl⟩ := id hS
  have hO1 : rd h 1 = some (.inr (6, [.ref 2, .ref 6, .ref 9])) := hO1
  have hP : PA h 2 _ _ F S A := hP
  have hT : TA h 6 _ K U := hT
  have hR : RA h 9 _ C T := hR
  obtain ⟨-, -, -, -, lF, lS, lA⟩ := id hP
  obtain ⟨-, -, -, lK, lU⟩ := id hT
  obtain ⟨-, -, -, lC, lT⟩ := id hR
  obtain ⟨okc, ⟨okl, okw⟩, okn, ⟨okh, oke⟩, oki, okr⟩ := id ok
  obtain ⟨k1, k2, k3, k4, k5, k6, k7, k8, k9⟩ := id okc
  have hbn : bnd σ.1.1 σ.1.2.1 F S A := okc.bnd hf
  rw [show oCount σ (nI x1) = (σ.2.2.2.2.2.getD (x1 - 10) 0, σ) from by unfold oCount; rw [if_pos ⟨by rw [nI_ltI (by omega) (by omega)]; omega, by rw [nI_ltI (by omega) (by omega)]; omega⟩, nI_clamp (by omega)]]
  refine Ev.of pX8_count (Nat.le_of_ble_eq_true rfl) ?_
  show G mX8_count (rmD 4 0 0) none _ 0 0 0 [(0, .ref 0), (1, .int (nI x1))] [] h
  obtain ⟨nx1, o1⟩ := HR.o hH
  refine g_iload_n dX8_count_0 1 rfl ?_
  refine g_bipush (v := nI 11) dX8_count_1 (by decide +kernel) ?_
  refine g_icmp_ltN 22 dX8_count_3 (by decide) (by omega) (by omega) (fun z => absurd z (by omega)) (fun c3 => ?_)
  refine g_iload_n dX8_count_6 1 rfl ?_
  refine g_bipush (v := nI 16) dX8_count_7 (by decide +kernel) ?_
  refine g_icmp_gtN 22 dX8_count_9 (by decide) (by omega) (by omega) (fun z => absurd z (by omega)) (fun c9 => ?_)
  refine g_aload_n dX8_count_12 0 rfl ?_
  refine g_getf dX8_count_13 kX8 wfX8_64 (Nat.le_of_ble_eq_true rfl) (hO0) rfl ?_
  refine g_iload_n dX8_count_16 1 rfl ?_
  refine g_bipush (v := nI 10) dX8_count_17 (by decide +kernel) ?_
  refine g_isubN dX8_count_19 (by omega) ?_
  refine g_ialI dX8_count_20 (hRf) (by omega) (by omega) ?_
  exact g_iret dX8_count_21 rfl ⟨Nat.zero_le _, Nat.zero_le _⟩ (⟨rfl, ⟨hO0, ⟨hO1, _, _, _, _, _, _, _, hP, hf, hT, ht, hR, hC, hl⟩, ⟨_, hI, hI2⟩, ⟨_, hDr⟩, hLt, hL, hH, ⟨⟨_, _, _, _, hX⟩, ⟨_, _, _, _, _, hXP⟩⟩, ⟨_, _, _, _, _, hTh⟩, ⟨_, _, _, _, _, hSp⟩, hRf⟩, Smo.rf⟩)

set_option maxRecDepth 100000 in
set_option maxHeartbeats 4000000 in
theorem ev_x_count_0 {h : List aC} {σ : Sg} (H : RC h σ) (ok : okSg σ) : Ev mX8_count 4 0 0 [.ref 0, .int (nI 0)] h (sp h (oCount σ (nI 0))) := by
  obtain ⟨hO0, hS, ⟨ci, hI, hI2⟩, ⟨cd, hDr⟩, hLt, hL, hH, ⟨⟨sw_, sc_, sgs, sgk, hX⟩, ⟨xn, xm, xF, xS, xA, hXP⟩⟩, ⟨tn, tm, tF, tS, tA, hTh⟩, ⟨pn, pm, pF, pS, pA, hSp⟩, hRf⟩ := id H
  obtain ⟨hO1, F, S, A, K, U, C, T, hP, hf, hT, ht, hR, hC, hl⟩ := id hS
  have hO1 : rd h 1 = some (.inr (6, [.ref 2, .ref 6, .ref 9])) := hO1
  have hP : PA h 2 _ _ F S A := hP
  have hT : TA h 6 _ K U := hT
  have hR : RA h 9 _ C T := hR
  obtain ⟨-, -, -, -, lF, lS, lA⟩ := id hP
  obtain ⟨-, -, -, lK, lU⟩ := id hT
  obtain ⟨-, -, -, lC, lT⟩ := id hR
  obtain ⟨okc, ⟨okl, okw⟩, okn, ⟨okh, oke⟩, oki, okr⟩ := id ok
  obtain ⟨k1, k2, k3, k4, k5, k6, k7, k8, k9⟩ := id okc
  have hbn : bnd σ.1.1 σ.1.2.1 F S A := okc.bnd hf
  rw [show oCount σ (nI 0) = (nI σ.1.1, σ) from by unfold oCount cntV; rw [if_neg (by decide), if_pos rfl]]
  refine Ev.of pX8_count (Nat.le_of_ble_eq_true rfl) ?_
  show G mX8_count (rmD 4 0 0) none _ 0 0 0 [(0, .ref 0), (1, .int (nI 0))] [] h
  obtain ⟨nx1, o1⟩ := HR.o hH
  refine g_iload_n dX8_count_0 1 rfl ?_
  refine g_bipush (v := nI 11) dX8_count_1 (by decide +kernel) ?_
  refine g_icmp_ltN 22 dX8_count_3 (by decide) (by omega) (by omega) (fun c3 => ?_) (fun z => absurd z (by omega))
  refine g_iload_n dX8_count_22 1 rfl ?_
  refine g_tableIn 60 dX8_count_23 (by decide +kernel) (by decide +kernel) (off := 37) (by decide +kernel) (by decide) ?_
  refine g_aload_n dX8_count_60 0 rfl ?_
  refine g_getf dX8_count_61 kX8 wfX8_10 (Nat.le_of_ble_eq_true rfl) (hO0) rfl ?_
  refine g_getf dX8_count_64 kX6 wfX8_97 (Nat.le_of_ble_eq_true rfl) (hO1) rfl ?_
  refine g_getf dX8_count_67 kX3 wfX8_100 (Nat.le_of_ble_eq_true rfl) (hP.1) rfl ?_
  exact g_iret dX8_count_70 rfl ⟨Nat.zero_le _, Nat.zero_le _⟩ (⟨rfl, ⟨hO0, ⟨hO1, _, _, _, _, _, _, _, hP, hf, hT, ht, hR, hC, hl⟩, ⟨_, hI, hI2⟩, ⟨_, hDr⟩, hLt, hL, hH, ⟨⟨_, _, _, _, hX⟩, ⟨_, _, _, _, _, hXP⟩⟩, ⟨_, _, _, _, _, hTh⟩, ⟨_, _, _, _, _, hSp⟩, hRf⟩, Smo.rf⟩)

set_option maxRecDepth 100000 in
set_option maxHeartbeats 4000000 in
theorem ev_x_count_1 {h : List aC} {σ : Sg} (H : RC h σ) (ok : okSg σ) : Ev mX8_count 4 0 0 [.ref 0, .int (nI 1)] h (sp h (oCount σ (nI 1))) := by
  obtain ⟨hO0, hS, ⟨ci, hI, hI2⟩, ⟨cd, hDr⟩, hLt, hL, hH, ⟨⟨sw_, sc_, sgs, sgk, hX⟩, ⟨xn, xm, xF, xS, xA, hXP⟩⟩, ⟨tn, tm, tF, tS, tA, hTh⟩, ⟨pn, pm, pF, pS, pA, hSp⟩, hRf⟩ := id H
  obtain ⟨hO1, F, S, A, K, U, C, T, hP, hf, hT, ht, hR, hC, hl⟩ := id hS
  have hO1 : rd h 1 = some (.inr (6, [.ref 2, .ref 6, .ref 9])) := hO1
  have hP : PA h 2 _ _ F S A := hP
  have hT : TA h 6 _ K U := hT
  have hR : RA h 9 _ C T := hR
  obtain ⟨-, -, -, -, lF, lS, lA⟩ := id hP
  obtain ⟨-, -, -, lK, lU⟩ := id hT
  obtain ⟨-, -, -, lC, lT⟩ := id hR
  obtain ⟨okc, ⟨okl, okw⟩, okn, ⟨okh, oke⟩, oki, okr⟩ := id ok
  obtain ⟨k1, k2, k3, k4, k5, k6, k7, k8, k9⟩ := id okc
  have hbn : bnd σ.1.1 σ.1.2.1 F S A := okc.bnd hf
  rw [show oCount σ (nI 1) = (nI σ.1.2.1, σ) from by unfold oCount cntV; rw [if_neg (by decide), if_neg (by decide), if_pos rfl]]
  refine Ev.of pX8_count (Nat.le_of_ble_eq_true rfl) ?_
  show G mX8_count (rmD 4 0 0) none _ 0 0 0 [(0, .ref 0), (1, .int (nI 1))] [] h
  obtain ⟨nx1, o1⟩ := HR.o hH
  refine g_iload_n dX8_count_0 1 rfl ?_
  refine g_bipush (v := nI 11) dX8_count_1 (by decide +kernel) ?_
  refine g_icmp_ltN 22 dX8_count_3 (by decide) (by omega) (by omega) (fun c3 => ?_) (fun z => absurd z (by omega))
  refine g_iload_n dX8_count_22 1 rfl ?_
  refine g_tableIn 71 dX8_count_23 (by decide +kernel) (by decide +kernel) (off := 48) (by decide +kernel) (by decide) ?_
  refine g_aload_n dX8_count_71 0 rfl ?_
  refine g_getf dX8_count_72 kX8 wfX8_10 (Nat.le_of_ble_eq_true rfl) (hO0) rfl ?_
  refine g_getf dX8_count_75 kX6 wfX8_97 (Nat.le_of_ble_eq_true rfl) (hO1) rfl ?_
  refine g_getf dX8_count_78 kX3 wfX8_115 (Nat.le_of_ble_eq_true rfl) (hP.1) rfl ?_
  exact g_iret dX8_count_81 rfl ⟨Nat.zero_le _, Nat.zero_le _⟩ (⟨rfl, ⟨hO0, ⟨hO1, _, _, _, _, _, _, _, hP, hf, hT, ht, hR, hC, hl⟩, ⟨_, hI, hI2⟩, ⟨_, hDr⟩, hLt, hL, hH, ⟨⟨_, _, _, _, hX⟩, ⟨_, _, _, _, _, hXP⟩⟩, ⟨_, _, _, _, _, hTh⟩, ⟨_, _, _, _, _, hSp⟩, hRf⟩, Smo.rf⟩)

set_option maxRecDepth 100000 in
set_option maxHeartbeats 4000000 in
theorem ev_x_count_2 {h : List aC} {σ : Sg} (H : RC h σ) (ok : okSg σ) : Ev mX8_count 4 0 0 [.ref 0, .int (nI 2)] h (sp h (oCount σ (nI 2))) := by
  obtain ⟨hO0, hS, ⟨ci, hI, hI2⟩, ⟨cd, hDr⟩, hLt, hL, hH, ⟨⟨sw_, sc_, sgs, sgk, hX⟩, ⟨xn, xm, xF, xS, xA, hXP⟩⟩, ⟨tn, tm, tF, tS, tA, hTh⟩, ⟨pn, pm, pF, pS, pA, hSp⟩, hRf⟩ := id H
  obtain ⟨hO1, F, S, A, K, U, C, T, hP, hf, hT, ht, hR, hC, hl⟩ := id hS
  have hO1 : rd h 1 = some (.inr (6, [.ref 2, .ref 6, .ref 9])) := hO1
  have hP : PA h 2 _ _ F S A := hP
  have hT : TA h 6 _ K U := hT
  have hR : RA h 9 _ C T := hR
  obtain ⟨-, -, -, -, lF, lS, lA⟩ := id hP
  obtain ⟨-, -, -, lK, lU⟩ := id hT
  obtain ⟨-, -, -, lC, lT⟩ := id hR
  obtain ⟨okc, ⟨okl, okw⟩, okn, ⟨okh, oke⟩, oki, okr⟩ := id ok
  obtain ⟨k1, k2, k3, k4, k5, k6, k7, k8, k9⟩ := id okc
  have hbn : bnd σ.1.1 σ.1.2.1 F S A := okc.bnd hf
  rw [show oCount σ (nI 2) = (nI σ.1.2.2.2.1, σ) from by unfold oCount cntV; rw [if_neg (by decide), if_neg (by decide), if_neg (by decide), if_pos rfl]]
  refine Ev.of pX8_count (Nat.le_of_ble_eq_true rfl) ?_
  show G mX8_count (rmD 4 0 0) none _ 0 0 0 [(0, .ref 0), (1, .int (nI 2))] [] h
  obtain ⟨nx1, o1⟩ := HR.o hH
  refine g_iload_n dX8_count_0 1 rfl ?_
  refine g_bipush (v := nI 11) dX8_count_1 (by decide +kernel) ?_
  refine g_icmp_ltN 22 dX8_count_3 (by decide) (by omega) (by omega) (fun c3 => ?_) (fun z => absurd z (by omega))
  refine g_iload_n dX8_count_22 1 rfl ?_
  refine g_tableIn 82 dX8_count_23 (by decide +kernel) (by decide +kernel) (off := 59) (by decide +kernel) (by decide) ?_
  refine g_aload_n dX8_count_82 0 rfl ?_
  refine g_getf dX8_count_83 kX8 wfX8_10 (Nat.le_of_ble_eq_true rfl) (hO0) rfl ?_
  refine g_getf dX8_count_86 kX6 wfX8_269 (Nat.le_of_ble_eq_true rfl) (hO1) rfl ?_
  refine g_getf dX8_count_89 kX7 wfX8_276 (Nat.le_of_ble_eq_true rfl) (hT.1) rfl ?_
  exact g_iret dX8_count_92 rfl ⟨Nat.zero_le _, Nat.zero_le _⟩ (⟨rfl, ⟨hO0, ⟨hO1, _, _, _, _, _, _, _, hP, hf, hT, ht, hR, hC, hl⟩, ⟨_, hI, hI2⟩, ⟨_, hDr⟩, hLt, hL, hH, ⟨⟨_, _, _, _, hX⟩, ⟨_, _, _, _, _, hXP⟩⟩, ⟨_, _, _, _, _, hTh⟩, ⟨_, _, _, _, _, hSp⟩, hRf⟩, Smo.rf⟩)

set_option maxRecDepth 100000 in
set_option maxHeartbeats 4000000 in
theorem ev_x_count_3 {h : List aC} {σ : Sg} (H : RC h σ) (ok : okSg σ) : Ev mX8_count 4 0 0 [.ref 0, .int (nI 3)] h (sp h (oCount σ (nI 3))) := by
  obtain ⟨hO0, hS, ⟨ci, hI, hI2⟩, ⟨cd, hDr⟩, hLt, hL, hH, ⟨⟨sw_, sc_, sgs, sgk, hX⟩, ⟨xn, xm, xF, xS, xA, hXP⟩⟩, ⟨tn, tm, tF, tS, tA, hTh⟩, ⟨pn, pm, pF, pS, pA, hSp⟩, hRf⟩ := id H
  obtain ⟨hO1, F, S, A, K, U, C, T, hP, hf, hT, ht, hR, hC, hl⟩ := id hS
  have hO1 : rd h 1 = some (.inr (6, [.ref 2, .ref 6, .ref 9])) := hO1
  have hP : PA h 2 _ _ F S A := hP
  have hT : TA h 6 _ K U := hT
  have hR : RA h 9 _ C T := hR
  obtain ⟨-, -, -, -, lF, lS, lA⟩ := id hP
  obtain ⟨-, -, -, lK, lU⟩ := id hT
  obtain ⟨-, -, -, lC, lT⟩ := id hR
  obtain ⟨okc, ⟨okl, okw⟩, okn, ⟨okh, oke⟩, oki, okr⟩ := id ok
  obtain ⟨k1, k2, k3, k4, k5, k6, k7, k8, k9⟩ := id okc
  have hbn : bnd σ.1.1 σ.1.2.1 F S A := okc.bnd hf
  rw [show oCount σ (nI 3) = (nI (filR σ.1.1 σ.1.2.2.2.2.2), σ) from by unfold oCount cntV; rw [if_neg (by decide), if_neg (by decide), if_neg (by decide), if_neg (by decide), if_pos rfl]]
  refine Ev.of pX8_count (Nat.le_of_ble_eq_true rfl) ?_
  show G mX8_count (rmD 4 0 0) none _ 0 0 0 [(0, .ref 0), (1, .int (nI 3))] [] h
  obtain ⟨nx1, o1⟩ := HR.o hH
  refine g_iload_n dX8_count_0 1 rfl ?_
  refine g_bipush (v := nI 11) dX8_count_1 (by decide +kernel) ?_
  refine g_icmp_ltN 22 dX8_count_3 (by decide) (by omega) (by omega) (fun c3 => ?_) (fun z => absurd z (by omega))
  refine g_iload_n dX8_count_22 1 rfl ?_
  refine g_tableIn 93 dX8_count_23 (by decide +kernel) (by decide +kernel) (off := 70) (by decide +kernel) (by decide) ?_
  refine g_aload_n dX8_count_93 0 rfl ?_
  refine g_getf dX8_count_94 kX8 wfX8_10 (Nat.le_of_ble_eq_true rfl) (hO0) rfl ?_
  refine g_getf dX8_count_97 kX6 wfX8_173 (Nat.le_of_ble_eq_true rfl) (hO1) rfl ?_
  refine g_callVp dX8_count_100 (ev_filled hR k2 hl) oX4_filled wiX4_filled weX4_filled wmX8_317 kX4 (hR.1) rfl ⟨(Nat.le_of_ble_eq_true rfl), (Nat.le_of_ble_eq_true rfl)⟩ ⟨Nat.zero_le _, Nat.zero_le _⟩ (Nat.le_of_ble_eq_true rfl) rfl ?_
  refine g_top (congrArg nI (fil_eq hC)) ?_
  exact g_iret dX8_count_103 rfl ⟨Nat.zero_le _, Nat.zero_le _⟩ (⟨rfl, ⟨hO0, ⟨hO1, _, _, _, _, _, _, _, hP, hf, hT, ht, hR, hC, hl⟩, ⟨_, hI, hI2⟩, ⟨_, hDr⟩, hLt, hL, hH, ⟨⟨_, _, _, _, hX⟩, ⟨_, _, _, _, _, hXP⟩⟩, ⟨_, _, _, _, _, hTh⟩, ⟨_, _, _, _, _, hSp⟩, hRf⟩, Smo.rf⟩)

set_option maxRecDepth 100000 in
set_option maxHeartbeats 4000000 in
theorem ev_x_count_4 {h : List aC} {σ : Sg} (H : RC h σ) (ok : okSg σ) : Ev mX8_count 4 0 0 [.ref 0, .int (nI 4)] h (sp h (oCount σ (nI 4))) := by
  obtain ⟨hO0, hS, ⟨ci, hI, hI2⟩, ⟨cd, hDr⟩, hLt, hL, hH, ⟨⟨sw_, sc_, sgs, sgk, hX⟩, ⟨xn, xm, xF, xS, xA, hXP⟩⟩, ⟨tn, tm, tF, tS, tA, hTh⟩, ⟨pn, pm, pF, pS, pA, hSp⟩, hRf⟩ := id H
  obtain ⟨hO1, F, S, A, K, U, C, T, hP, hf, hT, ht, hR, hC, hl⟩ := id hS
  have hO1 : rd h 1 = some (.inr (6, [.ref 2, .ref 6, .ref 9])) := hO1
  have hP : PA h 2 _ _ F S A := hP
  have hT : TA h 6 _ K U := hT
  have hR : RA h 9 _ C T := hR
  obtain ⟨-, -, -, -, lF, lS, lA⟩ := id hP
  obtain ⟨-, -, -, lK, lU⟩ := id hT
  obtain ⟨-, -, -, lC, lT⟩ := id hR
  obtain ⟨okc, ⟨okl, okw⟩, okn, ⟨okh, oke⟩, oki, okr⟩ := id ok
  obtain ⟨k1, k2, k3, k4, k5, k6, k7, k8, k9⟩ := id okc
  have hbn : bnd σ.1.1 σ.1.2.1 F S A := okc.bnd hf
  rw [show oCount σ (nI 4) = (nI σ.2.1.1, σ) from by unfold oCount cntV; rw [if_neg (by decide), if_neg (by decide), if_neg (by decide), if_neg (by decide), if_neg (by decide), if_pos rfl]]
  refine Ev.of pX8_count (Nat.le_of_ble_eq_true rfl) ?_
  show G mX8_count (rmD 4 0 0) none _ 0 0 0 [(0, .ref 0), (1, .int (nI 4))] [] h
  obtain ⟨nx1, o1⟩ := HR.o hH
  refine g_iload_n dX8_count_0 1 rfl ?_
  refine g_bipush (v := nI 11) dX8_count_1 (by decide +kernel) ?_
  refine g_icmp_ltN 22 dX8_count_3 (by decide) (by omega) (by omega) (fun c3 => ?_) (fun z => absurd z (by omega))
  refine g_iload_n dX8_count_22 1 rfl ?_
  refine g_tableIn 104 dX8_count_23 (by decide +kernel) (by decide +kernel) (off := 81) (by decide +kernel) (by decide) ?_
  refine g_aload_n dX8_count_104 0 rfl ?_
  refine g_getf dX8_count_105 kX8 wfX8_29 (Nat.le_of_ble_eq_true rfl) (hO0) rfl ?_
  refine g_getf dX8_count_108 kX1 wfX8_72 (Nat.le_of_ble_eq_true rfl) (hLt.1) rfl ?_
  exact g_iret dX8_count_111 rfl ⟨Nat.zero_le _, Nat.zero_le _⟩ (⟨rfl, ⟨hO0, ⟨hO1, _, _, _, _, _, _, _, hP, hf, hT, ht, hR, hC, hl⟩, ⟨_, hI, hI2⟩, ⟨_, hDr⟩, hLt, hL, hH, ⟨⟨_, _, _, _, hX⟩, ⟨_, _, _, _, _, hXP⟩⟩, ⟨_, _, _, _, _, hTh⟩, ⟨_, _, _, _, _, hSp⟩, hRf⟩, Smo.rf⟩)

set_option maxRecDepth 100000 in
set_option maxHeartbeats 4000000 in
theorem ev_x_count_5 {h : List aC} {σ : Sg} (H : RC h σ) (ok : okSg σ) : Ev mX8_count 4 0 0 [.ref 0, .int (nI 5)] h (sp h (oCount σ (nI 5))) := by
  obtain ⟨hO0, hS, ⟨ci, hI, hI2⟩, ⟨cd, hDr⟩, hLt, hL, hH, ⟨⟨sw_, sc_, sgs, sgk, hX⟩, ⟨xn, xm, xF, xS, xA, hXP⟩⟩, ⟨tn, tm, tF, tS, tA, hTh⟩, ⟨pn, pm, pF, pS, pA, hSp⟩, hRf⟩ := id H
  obtain ⟨hO1, F, S, A, K, U, C, T, hP, hf, hT, ht, hR, hC, hl⟩ := id hS
  have hO1 : rd h 1 = some (.inr (6, [.ref 2, .ref 6, .ref 9])) := hO1
  have hP : PA h 2 _ _ F S A := hP
  have hT : TA h 6 _ K U := hT
  have hR : RA h 9 _ C T := hR
  obtain ⟨-, -, -, -, lF, lS, lA⟩ := id hP
  obtain ⟨-, -, -, lK, lU⟩ := id hT
  obtain ⟨-, -, -, lC, lT⟩ := id hR
  obtain ⟨okc, ⟨okl, okw⟩, okn, ⟨okh, oke⟩, oki, okr⟩ := id ok
  obtain ⟨k1, k2, k3, k4, k5, k6, k7, k8, k9⟩ := id okc
  have hbn : bnd σ.1.1 σ.1.2.1 F S A := okc.bnd hf
  rw [show oCount σ (nI 5) = (nI σ.2.2.2.1.length, σ) from by unfold oCount cntV; rw [if_neg (by decide), if_neg (by decide), if_neg (by decide), if_neg (by decide), if_neg (by decide), if_neg (by decide), if_pos rfl]]
  refine Ev.of pX8_count (Nat.le_of_ble_eq_true rfl) ?_
  show G mX8_count (rmD 4 0 0) none _ 0 0 0 [(0, .ref 0), (1, .int (nI 5))] [] h
  obtain ⟨nx1, o1⟩ := HR.o hH
  refine g_iload_n dX8_count_0 1 rfl ?_
  refine g_bipush (v := nI 11) dX8_count_1 (by decide +kernel) ?_
  refine g_icmp_ltN 22 dX8_count_3 (by decide) (by omega) (by omega) (fun c3 => ?_) (fun z => absurd z (by omega))
  refine g_iload_n dX8_count_22 1 rfl ?_
  refine g_tableIn 112 dX8_count_23 (by decide +kernel) (by decide +kernel) (off := 89) (by decide +kernel) (by decide) ?_
  refine g_aload_n dX8_count_112 0 rfl ?_
  refine g_getf dX8_count_113 kX8 wfX8_43 (Nat.le_of_ble_eq_true rfl) (hO0) rfl ?_
  refine g_getf dX8_count_116 kX0 wfX8_313 (Nat.le_of_ble_eq_true rfl) (o1) rfl ?_
  exact g_iret dX8_count_119 rfl ⟨Nat.zero_le _, Nat.zero_le _⟩ (⟨rfl, ⟨hO0, ⟨hO1, _, _, _, _, _, _, _, hP, hf, hT, ht, hR, hC, hl⟩, ⟨_, hI, hI2⟩, ⟨_, hDr⟩, hLt, hL, hH, ⟨⟨_, _, _, _, hX⟩, ⟨_, _, _, _, _, hXP⟩⟩, ⟨_, _, _, _, _, hTh⟩, ⟨_, _, _, _, _, hSp⟩, hRf⟩, Smo.rf⟩)

set_option maxRecDepth 100000 in
set_option maxHeartbeats 4000000 in
theorem ev_x_count_o {h : List aC} {σ : Sg} (H : RC h σ) (ok : okSg σ) (x : Int32) (h1 : ¬ (¬ x < nI 11 ∧ ¬ nI 16 < x)) (h2 : x.toInt < 0 ∨ 5 < x.toInt) : Ev mX8_count 4 0 0 [.ref 0, .int x] h (sp h (oCount σ x)) := by
  obtain ⟨hO0, hS, ⟨ci, hI, hI2⟩, ⟨cd, hDr⟩, hLt, hL, hH, ⟨⟨sw_, sc_, sgs, sgk, hX⟩, ⟨xn, xm, xF, xS, xA, hXP⟩⟩, ⟨tn, tm, tF, tS, tA, hTh⟩, ⟨pn, pm, pF, pS, pA, hSp⟩, hRf⟩ := id H
  obtain ⟨hO1, F, S, A, K, U, C, T, hP, hf, hT, ht, hR, hC, hl⟩ := id hS
  have hO1 : rd h 1 = some (.inr (6, [.ref 2, .ref 6, .ref 9])) := hO1
  have hP : PA h 2 _ _ F S A := hP
  have hT : TA h 6 _ K U := hT
  have hR : RA h 9 _ C T := hR
  obtain ⟨-, -, -, -, lF, lS, lA⟩ := id hP
  obtain ⟨-, -, -, lK, lU⟩ := id hT
  obtain ⟨-, -, -, lC, lT⟩ := id hR
  obtain ⟨okc, ⟨okl, okw⟩, okn, ⟨okh, oke⟩, oki, okr⟩ := id ok
  obtain ⟨k1, k2, k3, k4, k5, k6, k7, k8, k9⟩ := id okc
  have hbn : bnd σ.1.1 σ.1.2.1 F S A := okc.bnd hf
  have nk : ∀ k, k < 6 → ¬ x = nI k := fun k hk e => by rw [e, nI_toInt (by omega)] at h2; omega
  rw [show oCount σ x = (-9, σ) from by unfold oCount cntV; rw [if_neg h1, if_neg (nk 0 (by omega)), if_neg (nk 1 (by omega)), if_neg (nk 2 (by omega)), if_neg (nk 3 (by omega)), if_neg (nk 4 (by omega)), if_neg (nk 5 (by omega))]]
  refine Ev.of pX8_count (Nat.le_of_ble_eq_true rfl) ?_
  show G mX8_count (rmD 4 0 0) none _ 0 0 0 [(0, .ref 0), (1, .int x)] [] h
  obtain ⟨nx1, o1⟩ := HR.o hH
  refine g_iload_n dX8_count_0 1 rfl ?_
  refine g_bipush (v := nI 11) dX8_count_1 (by decide +kernel) ?_
  refine g_icmp_lt 22 dX8_count_3 (by decide) (fun c3 => ?_) (fun c3 => ?_)
  · refine g_iload_n dX8_count_22 1 rfl ?_
    refine g_tableOut 120 dX8_count_23 h2 (by decide) ?_
    refine g_bipush (v := (-9)) dX8_count_120 (by decide +kernel) ?_
    exact g_iret dX8_count_122 rfl ⟨Nat.zero_le _, Nat.zero_le _⟩ (⟨rfl, ⟨hO0, ⟨hO1, _, _, _, _, _, _, _, hP, hf, hT, ht, hR, hC, hl⟩, ⟨_, hI, hI2⟩, ⟨_, hDr⟩, hLt, hL, hH, ⟨⟨_, _, _, _, hX⟩, ⟨_, _, _, _, _, hXP⟩⟩, ⟨_, _, _, _, _, hTh⟩, ⟨_, _, _, _, _, hSp⟩, hRf⟩, Smo.rf⟩)
  · refine g_iload_n dX8_count_6 1 rfl ?_
    refine g_bipush (v := nI 16) dX8_count_7 (by decide +kernel) ?_
    refine g_icmp_gt 22 dX8_count_9 (by decide) (fun c9 => ?_) (fun c9 => ?_)
    · refine g_iload_n dX8_count_22 1 rfl ?_
      refine g_tableOut 120 dX8_count_23 h2 (by decide) ?_
      refine g_bipush (v := (-9)) dX8_count_120 (by decide +kernel) ?_
      exact g_iret dX8_count_122 rfl ⟨Nat.zero_le _, Nat.zero_le _⟩ (⟨rfl, ⟨hO0, ⟨hO1, _, _, _, _, _, _, _, hP, hf, hT, ht, hR, hC, hl⟩, ⟨_, hI, hI2⟩, ⟨_, hDr⟩, hLt, hL, hH, ⟨⟨_, _, _, _, hX⟩, ⟨_, _, _, _, _, hXP⟩⟩, ⟨_, _, _, _, _, hTh⟩, ⟨_, _, _, _, _, hSp⟩, hRf⟩, Smo.rf⟩)
    · exact absurd ⟨c3, c9⟩ h1

theorem ev_x_count {h : List aC} {σ : Sg} (H : RC h σ) (ok : okSg σ) (x : Int32) : Ev mX8_count 4 0 0 [.ref 0, .int x] h (sp h (oCount σ x)) := by
  by_cases h1 : ¬ x < nI 11 ∧ ¬ nI 16 < x
  · obtain ⟨x1, hx1, rfl⟩ := nn_of (Int32.le_trans (show (0 : Int32) ≤ nI 11 by decide) (Int32.not_lt.mp h1.1))
    rw [nI_ltI hx1 (by omega), nI_ltI (by omega) hx1] at h1
    exact ev_x_count_r H ok x1 (by omega)
  · by_cases h2 : x.toInt < 0 ∨ 5 < x.toInt
    · exact ev_x_count_o H ok x h1 h2
    · have hx : 0 ≤ x := by rw [Int32.le_iff_toInt_le]; show (0 : Int) ≤ _; omega
      obtain ⟨x1, hx1, rfl⟩ := nn_of hx
      rw [nI_toInt hx1] at h2
      have : x1 = 0 ∨ x1 = 1 ∨ x1 = 2 ∨ x1 = 3 ∨ x1 = 4 ∨ x1 = 5 := by omega
      rcases this with e | e | e | e | e | e <;> subst e
      · exact ev_x_count_0 H ok
      · exact ev_x_count_1 H ok
      · exact ev_x_count_2 H ok
      · exact ev_x_count_3 H ok
      · exact ev_x_count_4 H ok
      · exact ev_x_count_5 H ok
