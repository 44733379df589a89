theorem okQ_1 {σ : Sg} {y q : Nat} {i : Int32} (hy : y < 2 ^ 31) (e : σ.2.2.1.2.getD y 0 = nI q) (hq : q ≤ 40) {k : Nat} (hk : 1 ≤ k ∧ k ≤ 40) (h : okQ σ (nI y) i k = true) : ∃ j, i = nI j ∧ j + k ≤ q := by
  have z := of_decide_eq_true h
  rw [nI_clamp hy, e] at z
  rcases z with z | ⟨z1, z2⟩
  · omega
  · obtain ⟨j, hj, rfl⟩ := nn_of (Int32.not_lt.mp z1)
    refine ⟨j, rfl, ?_⟩
    by_cases q2 : k ≤ q
    · rw [pk_sub q2, nI_ltI (by omega) hj] at z2
      omega
    · exfalso
      have z3 := Int32.not_lt.mp z2
      have : nI q - nI k < 0 := by
        have w : ∀ a, a < 41 → ∀ b, b < 41 → a < b → nI a - nI b < 0 := by decide +kernel
        exact w q (by omega) k (by omega) (by omega)
      exact absurd (Int32.lt_of_le_of_lt z3 this) (nI_pos hj)

set_option maxRecDepth 100000 in
set_option maxHeartbeats 4000000 in
theorem ev_x_put_n {h : List aC} {σ : Sg} (H : RC h σ) (ok : okSg σ) (l i : Int32) (v : Int32) (hz : okL σ l = false) : Ev mX8_put 4 0 0 [.ref 0, .int l, .int i, .int v] h (sp h (oPut σ l i v)) := by
  obtain ⟨hO0, hS, ⟨ci, hI, hI2⟩, ⟨cd, hDr⟩, hLt, hL, hH, ⟨⟨sw_, sc_, sgs, sgk, hX⟩, ⟨xn, xm, xF, xS, xA, hXP⟩⟩, ⟨tn, tm, tF, tS, tA, hTh⟩, ⟨pn, pm, pF, pS, pA, hSp⟩, hRf⟩ := id H
  obtain ⟨hO1, F, S, A, K, U, C, T, hP, hf, hT, ht, hR, hC, hl⟩ := id hS
  have hO1 : rd h 1 = some (.inr (6, [.ref 2, .ref 6, .ref 9])) := hO1
  have hP : PA h 2 _ _ F S A := hP
  have hT : TA h 6 _ K U := hT
  have hR : RA h 9 _ C T := hR
  obtain ⟨-, -, -, -, lF, lS, lA⟩ := id hP
  obtain ⟨-, -, -, lK, lU⟩ := id hT
  obtain ⟨-, -, -, lC, lT⟩ := id hR
  obtain ⟨okc, ⟨okl, okw⟩, okn, ⟨okh, oke⟩, oki, okr⟩ := id ok
  obtain ⟨k1, k2, k3, k4, k5, k6, k7, k8, k9⟩ := id okc
  have hbn : bnd σ.1.1 σ.1.2.1 F S A := okc.bnd hf
  rw [show oPut σ l i v = _ from if_neg (by rw [hz]; decide)]
  refine Ev.of pX8_put (Nat.le_of_ble_eq_true rfl) ?_
  show G mX8_put (rmD 4 0 0) none _ 0 0 0 [(0, .ref 0), (1, .int l), (2, .int i), (3, .int v)] [] h
  obtain ⟨nx1, o1⟩ := HR.o hH
  refine g_aload_n dX8_put_0 0 rfl ?_
  refine g_iload_n dX8_put_1 1 rfl ?_
  refine g_iload_n dX8_put_2 2 rfl ?_
  refine g_iconst (v := nI 1) dX8_put_3 (by decide +kernel) ?_
  refine g_callVq (st1 := [.int ((rfLs σ l).1)]) dX8_put_4 (ev_refP1 H ok l i _ hz) oX8_refusalOfPlace wiX8_refusalOfPlace weX8_refusalOfPlace wmX8_287 kX8 (hO0) rfl ⟨(Nat.le_of_ble_eq_true rfl), (Nat.le_of_ble_eq_true rfl)⟩ ⟨Nat.zero_le _, Nat.zero_le _⟩ (Nat.le_of_ble_eq_true rfl) rfl rfl (fun h2 q2 => ?_)
  refine g_istore (ls' := [(4, .int ((rfLs σ l).1)), (0, .ref 0), (1, .int l), (2, .int i), (3, .int v)]) dX8_put_7 (Nat.le_of_ble_eq_true rfl) rfl ?_
  refine g_iload dX8_put_9 0 rfl ?_
  refine g_if_eq 17 dX8_put_11 (by decide) (fun z => absurd z (rfLs_no σ l)) (fun c11 => ?_)
  refine g_iload dX8_put_14 0 rfl ?_
  exact g_iret dX8_put_16 rfl ⟨Nat.zero_le _, Nat.zero_le _⟩ (⟨rfl, q2⟩)

set_option maxRecDepth 100000 in
set_option maxHeartbeats 4000000 in
theorem ev_x_put_b {h : List aC} {σ : Sg} (H : RC h σ) (ok : okSg σ) (y : Nat) (hy : y < 3) (h0 : 0 ≤ σ.2.2.1.2.getD y 0) (hz : okL σ (nI y) = true) (i : Int32) (v : Int32) (hq : okQ σ (nI y) i (1) = false) : Ev mX8_put 4 0 0 [.ref 0, .int (nI y), .int i, .int v] h (sp h (oPut σ (nI y) i v)) := by
  obtain ⟨hO0, hS, ⟨ci, hI, hI2⟩, ⟨cd, hDr⟩, hLt, hL, hH, ⟨⟨sw_, sc_, sgs, sgk, hX⟩, ⟨xn, xm, xF, xS, xA, hXP⟩⟩, ⟨tn, tm, tF, tS, tA, hTh⟩, ⟨pn, pm, pF, pS, pA, hSp⟩, hRf⟩ := id H
  obtain ⟨hO1, F, S, A, K, U, C, T, hP, hf, hT, ht, hR, hC, hl⟩ := id hS
  have hO1 : rd h 1 = some (.inr (6, [.ref 2, .ref 6, .ref 9])) := hO1
  have hP : PA h 2 _ _ F S A := hP
  have hT : TA h 6 _ K U := hT
  have hR : RA h 9 _ C T := hR
  obtain ⟨-, -, -, -, lF, lS, lA⟩ := id hP
  obtain ⟨-, -, -, lK, lU⟩ := id hT
  obtain ⟨-, -, -, lC, lT⟩ := id hR
  obtain ⟨okc, ⟨okl, okw⟩, okn, ⟨okh, oke⟩, oki, okr⟩ := id ok
  obtain ⟨k1, k2, k3, k4, k5, k6, k7, k8, k9⟩ := id okc
  have hbn : bnd σ.1.1 σ.1.2.1 F S A := okc.bnd hf
  rw [show oPut σ (nI y) i v = _ from (if_pos hz).trans (if_neg (by rw [hq]; decide))]
  refine Ev.of pX8_put (Nat.le_of_ble_eq_true rfl) ?_
  show G mX8_put (rmD 4 0 0) none _ 0 0 0 [(0, .ref 0), (1, .int (nI y)), (2, .int i), (3, .int v)] [] h
  obtain ⟨nx1, o1⟩ := HR.o hH
  refine g_aload_n dX8_put_0 0 rfl ?_
  refine g_iload_n dX8_put_1 1 rfl ?_
  refine g_iload_n dX8_put_2 2 rfl ?_
  refine g_iconst (v := nI 1) dX8_put_3 (by decide +kernel) ?_
  refine g_callVp dX8_put_4 (ev_refP0 H ok y hy h0 i (1) (by omega)) oX8_refusalOfPlace wiX8_refusalOfPlace weX8_refusalOfPlace wmX8_287 kX8 (hO0) rfl ⟨(Nat.le_of_ble_eq_true rfl), (Nat.le_of_ble_eq_true rfl)⟩ ⟨Nat.zero_le _, Nat.zero_le _⟩ (Nat.le_of_ble_eq_true rfl) rfl ?_
  refine g_top (if_neg (by rw [hq]; decide)) ?_
  refine g_istore (ls' := [(4, .int (-13)), (0, .ref 0), (1, .int (nI y)), (2, .int i), (3, .int v)]) dX8_put_7 (Nat.le_of_ble_eq_true rfl) rfl ?_
  refine g_iload dX8_put_9 0 rfl ?_
  refine g_if_eq 17 dX8_put_11 (by decide) (fun z => absurd z (by decide)) (fun c11 => ?_)
  refine g_iload dX8_put_14 0 rfl ?_
  exact g_iret dX8_put_16 rfl ⟨Nat.zero_le _, Nat.zero_le _⟩ (⟨rfl, ⟨hO0, ⟨hO1, _, _, _, _, _, _, _, hP, hf, hT, ht, hR, hC, hl⟩, ⟨_, hI, hI2⟩, ⟨_, hDr⟩, hLt, hL, hH, ⟨⟨_, _, _, _, hX⟩, ⟨_, _, _, _, _, hXP⟩⟩, ⟨_, _, _, _, _, hTh⟩, ⟨_, _, _, _, _, hSp⟩, hRf⟩, Smo.rf⟩)

set_option maxRecDepth 100000 in
set_option maxHeartbeats 4000000 in
theorem ev_x_put_g {h : List aC} {σ : Sg} (H : RC h σ) (ok : okSg σ) (y : Nat) (hy : y < 3) (h0 : 0 ≤ σ.2.2.1.2.getD y 0) (hz : okL σ (nI y) = true) (j : Nat) (v : Int32) (hq : okQ σ (nI y) (nI j) (1) = true) (q : Nat) (hql : q ≤ 40) (eql : σ.2.2.1.2.getD y 0 = nI q) (hj : j + (1) ≤ q) : Ev mX8_put 4 0 0 [.ref 0, .int (nI y), .int (nI j), .int v] h (sp h (oPut σ (nI y) (nI j) v)) := by
  obtain ⟨hO0, hS, ⟨ci, hI, hI2⟩, ⟨cd, hDr⟩, hLt, hL, hH, ⟨⟨sw_, sc_, sgs, sgk, hX⟩, ⟨xn, xm, xF, xS, xA, hXP⟩⟩, ⟨tn, tm, tF, tS, tA, hTh⟩, ⟨pn, pm, pF, pS, pA, hSp⟩, hRf⟩ := id H
  obtain ⟨hO1, F, S, A, K, U, C, T, hP, hf, hT, ht, hR, hC, hl⟩ := id hS
  have hO1 : rd h 1 = some (.inr (6, [.ref 2, .ref 6, .ref 9])) := hO1
  have hP : PA h 2 _ _ F S A := hP
  have hT : TA h 6 _ K U := hT
  have hR : RA h 9 _ C T := hR
  obtain ⟨-, -, -, -, lF, lS, lA⟩ := id hP
  obtain ⟨-, -, -, lK, lU⟩ := id hT
  obtain ⟨-, -, -, lC, lT⟩ := id hR
  obtain ⟨okc, ⟨okl, okw⟩, okn, ⟨okh, oke⟩, oki, okr⟩ := id ok
  obtain ⟨k1, k2, k3, k4, k5, k6, k7, k8, k9⟩ := id okc
  have hbn : bnd σ.1.1 σ.1.2.1 F S A := okc.bnd hf
  rw [show oPut σ (nI y) (nI j) v = _ from (if_pos hz).trans (if_pos hq)]
  rw [cl_ (show y < 2 ^ 31 by omega), cl_ (show j < 2 ^ 31 by omega)]
  have lR40 := (hL.2.2.1 y hy).2
  refine Ev.of pX8_put (Nat.le_of_ble_eq_true rfl) ?_
  show G mX8_put (rmD 4 0 0) none _ 0 0 0 [(0, .ref 0), (1, .int (nI y)), (2, .int (nI j)), (3, .int v)] [] h
  obtain ⟨nx1, o1⟩ := HR.o hH
  refine g_aload_n dX8_put_0 0 rfl ?_
  refine g_iload_n dX8_put_1 1 rfl ?_
  refine g_iload_n dX8_put_2 2 rfl ?_
  refine g_iconst (v := nI 1) dX8_put_3 (by decide +kernel) ?_
  refine g_callVp dX8_put_4 (ev_refP0 H ok y hy h0 (nI j) (1) (by omega)) oX8_refusalOfPlace wiX8_refusalOfPlace weX8_refusalOfPlace wmX8_287 kX8 (hO0) rfl ⟨(Nat.le_of_ble_eq_true rfl), (Nat.le_of_ble_eq_true rfl)⟩ ⟨Nat.zero_le _, Nat.zero_le _⟩ (Nat.le_of_ble_eq_true rfl) rfl ?_
  refine g_top (if_pos hq) ?_
  refine g_istore (ls' := [(4, .int (nI 0)), (0, .ref 0), (1, .int (nI y)), (2, .int (nI j)), (3, .int v)]) dX8_put_7 (Nat.le_of_ble_eq_true rfl) rfl ?_
  refine g_iload dX8_put_9 0 rfl ?_
  refine g_if_eqN 17 dX8_put_11 (by decide) (by omega) (fun c11 => ?_) (fun z => absurd z (by omega))
  refine g_aload_n dX8_put_17 1 rfl ?_
  refine g_getf dX8_put_18 kX8 wfX8_36 (Nat.le_of_ble_eq_true rfl) (hO0) rfl ?_
  refine g_getf dX8_put_21 kX2 wfX8_291 (Nat.le_of_ble_eq_true rfl) (hL.1) rfl ?_
  refine g_iload_n dX8_put_24 2 rfl ?_
  refine g_aalN dX8_put_25 (hL.2.1) (by simp; omega) (by simp) (rows3 hy) ?_
  refine g_iload_n dX8_put_26 3 rfl ?_
  refine g_iload_n dX8_put_27 4 rfl ?_
  refine g_iasI dX8_put_28 ((hL.2.2.1 y hy).1) (by omega) (by omega) (fun h2 e2 => ?_)
  have f2_38_y : rd h2 (38 + y) = some (.inl ((σ.2.2.1.1 y).set j v)) := by rw [e2]; exact rd_wr_eq ((hL.2.2.1 y hy).1)
  have s2 : Smo (38 + y) ((38 + y) + 1) h h2 := by rw [e2]; exact Smo.wr (by omega) (by omega)
  have b2_2 := hP.mv s2 (by omega)
  have b2_6 := hT.mv s2 (by omega)
  have b2_9 := hR.mv s2 (by omega)
  have b2_12 := hI.mv s2 (by omega)
  have b2_23 := hDr.mv s2 (by omega)
  have b2_42 := hH.mv s2 (by omega)
  obtain ⟨nx3, o3⟩ := HR.o b2_42
  have b2_34 := hLt.mv s2 (by omega)
  have b2_84 := hX.mv s2 (by omega)
  have b2_85 := hXP.mv s2 (by omega)
  have b2_89 := hTh.mv s2 (by omega)
  have b2_93 := hSp.mv s2 (by omega)
  have f2_0 : rd h2 0 = some (.inr (8, [.ref 1, .ref 12, .ref 23, .int (nI (bI σ.2.2.2.2.1.isSome)), .ref 34, .ref 36, .ref 42, .ref 84, .ref 89, .ref 93, .ref 97])) := by rw [s2 _ (by omega)]; exact hO0
  have f2_1 : rd h2 1 = some (.inr (6, [.ref 2, .ref 6, .ref 9])) := by rw [s2 _ (by omega)]; exact hO1
  have f2_36 : rd h2 36 = some (.inr (2, [.ref 37, .ref 41])) := by rw [s2 _ (by omega)]; exact hL.1
  have f2_37 : rd h2 37 = some (.inr (100, (List.range 3).map (fun i => Value.ref (38 + i)))) := by rw [s2 _ (by omega)]; exact hL.2.1
  have f2_41 : rd h2 41 = some (.inl (σ.2.2.1.2)) := by rw [s2 _ (by omega)]; exact hL.2.2.2.1
  have f2_97 : rd h2 97 = some (.inl (σ.2.2.2.2.2)) := by rw [s2 _ (by omega)]; exact hRf
  have HL : LA h2 (upI σ.2.2.1.1 y ((σ.2.2.1.1 y).set j v)) σ.2.2.1.2 := ⟨f2_36, f2_37, fun q hq => by by_cases e : q = y; (subst e; rw [upI_eq]; exact ⟨f2_38_y, (List.length_set).trans lR40⟩); (rw [upI_ne e]; exact ⟨(by rw [s2 _ (by omega)]; exact (hL.2.2.1 q hq).1), (hL.2.2.1 q hq).2⟩), f2_41, hL.2.2.2.2⟩
  refine g_iconst (v := nI 1) dX8_put_29 (by decide +kernel) ?_
  exact g_iret dX8_put_30 rfl ⟨Nat.zero_le _, Nat.zero_le _⟩ (⟨rfl, ⟨f2_0, ⟨f2_1, _, _, _, _, _, _, _, b2_2, hf, b2_6, ht, b2_9, hC, hl⟩, ⟨_, b2_12, hI2⟩, ⟨_, b2_23⟩, b2_34, HL, b2_42, ⟨⟨_, _, _, _, b2_84⟩, ⟨_, _, _, _, _, b2_85⟩⟩, ⟨_, _, _, _, _, b2_89⟩, ⟨_, _, _, _, _, b2_93⟩, f2_97⟩, (fun q hq => by rw [s2 q (by omega)])⟩)

theorem ev_x_put {h : List aC} {σ : Sg} (H : RC h σ) (ok : okSg σ) (l i : Int32) (v : Int32) : Ev mX8_put 4 0 0 [.ref 0, .int l, .int i, .int v] h (sp h (oPut σ l i v)) := by
  cases hz : okL σ l with
  | false => exact ev_x_put_n H ok l i v hz
  | true =>
    obtain ⟨y, hy, rfl, h0⟩ := okL_in hz
    cases hq : okQ σ (nI y) i (1) with
    | false => exact ev_x_put_b H ok y hy h0 hz i v hq
    | true =>
      obtain ⟨q, hql, eql⟩ := okL_q ok hy h0
      obtain ⟨j, rfl, hj⟩ := okQ_1 (by omega) eql hql (by omega) hq
      exact ev_x_put_g H ok y hy h0 hz j v hq q hql eql hj

set_option maxRecDepth 100000 in
set_option maxHeartbeats 4000000 in
theorem ev_x_look_n {h : List aC} {σ : Sg} (H : RC h σ) (ok : okSg σ) (l i : Int32) (hz : okL σ l = false) : Ev mX8_look 4 0 0 [.ref 0, .int l, .int i] h (spL h (oLook σ l i)) := by
  obtain ⟨hO0, hS, ⟨ci, hI, hI2⟩, ⟨cd, hDr⟩, hLt, hL, hH, ⟨⟨sw_, sc_, sgs, sgk, hX⟩, ⟨xn, xm, xF, xS, xA, hXP⟩⟩, ⟨tn, tm, tF, tS, tA, hTh⟩, ⟨pn, pm, pF, pS, pA, hSp⟩, hRf⟩ := id H
  obtain ⟨hO1, F, S, A, K, U, C, T, hP, hf, hT, ht, hR, hC, hl⟩ := id hS
  have hO1 : rd h 1 = some (.inr (6, [.ref 2, .ref 6, .ref 9])) := hO1
  have hP : PA h 2 _ _ F S A := hP
  have hT : TA h 6 _ K U := hT
  have hR : RA h 9 _ C T := hR
  obtain ⟨-, -, -, -, lF, lS, lA⟩ := id hP
  obtain ⟨-, -, -, lK, lU⟩ := id hT
  obtain ⟨-, -, -, lC, lT⟩ := id hR
  obtain ⟨okc, ⟨okl, okw⟩, okn, ⟨okh, oke⟩, oki, okr⟩ := id ok
  obtain ⟨k1, k2, k3, k4, k5, k6, k7, k8, k9⟩ := id okc
  have hbn : bnd σ.1.1 σ.1.2.1 F S A := okc.bnd hf
  rw [show oLook σ l i = _ from if_neg (by rw [hz]; decide)]
  refine Ev.of pX8_look (Nat.le_of_ble_eq_true rfl) ?_
  show G mX8_look (rmD 4 0 0) none _ 0 0 0 [(0, .ref 0), (1, .int l), (2, .int i)] [] h
  obtain ⟨nx1, o1⟩ := HR.o hH
  refine g_aload_n dX8_look_0 0 rfl ?_
  refine g_iload_n dX8_look_1 1 rfl ?_
  refine g_iload_n dX8_look_2 2 rfl ?_
  refine g_iconst (v := nI 1) dX8_look_3 (by decide +kernel) ?_
  refine g_callVq (st1 := [.int ((rfLs σ l).1)]) dX8_look_4 (ev_refP1 H ok l i _ hz) oX8_refusalOfPlace wiX8_refusalOfPlace weX8_refusalOfPlace wmX8_287 kX8 (hO0) rfl ⟨(Nat.le_of_ble_eq_true rfl), (Nat.le_of_ble_eq_true rfl)⟩ ⟨Nat.zero_le _, Nat.zero_le _⟩ (Nat.le_of_ble_eq_true rfl) rfl rfl (fun h2 q2 => ?_)
  refine g_istore_n (ls' := [(3, .int ((rfLs σ l).1)), (0, .ref 0), (1, .int l), (2, .int i)]) dX8_look_7 (Nat.le_of_ble_eq_true rfl) rfl ?_
  refine g_iload_n dX8_look_8 0 rfl ?_
  refine g_if_eq 21 dX8_look_9 (by decide) (fun z => absurd z (rfLs_no σ l)) (fun c9 => ?_)
  refine g_ldc2 dX8_look_12 wlX8_295 ?_
  refine g_iload_n dX8_look_15 0 rfl ?_
  refine g_i2l dX8_look_16 rfl ?_
  refine g_lsub dX8_look_17 ?_
  refine g_goto 33 dX8_look_18 (by decide) ?_
  exact g_lret dX8_look_33 rfl ⟨Nat.zero_le _, Nat.zero_le _⟩ (⟨rfl, q2⟩)

set_option maxRecDepth 100000 in
set_option maxHeartbeats 4000000 in
theorem ev_x_look_b {h : List aC} {σ : Sg} (H : RC h σ) (ok : okSg σ) (y : Nat) (hy : y < 3) (h0 : 0 ≤ σ.2.2.1.2.getD y 0) (hz : okL σ (nI y) = true) (i : Int32) (hq : okQ σ (nI y) i (1) = false) : Ev mX8_look 4 0 0 [.ref 0, .int (nI y), .int i] h (spL h (oLook σ (nI y) i)) := by
  obtain ⟨hO0, hS, ⟨ci, hI, hI2⟩, ⟨cd, hDr⟩, hLt, hL, hH, ⟨⟨sw_, sc_, sgs, sgk, hX⟩, ⟨xn, xm, xF, xS, xA, hXP⟩⟩, ⟨tn, tm, tF, tS, tA, hTh⟩, ⟨pn, pm, pF, pS, pA, hSp⟩, hRf⟩ := id H
  obtain ⟨hO1, F, S, A, K, U, C, T, hP, hf, hT, ht, hR, hC, hl⟩ := id hS
  have hO1 : rd h 1 = some (.inr (6, [.ref 2, .ref 6, .ref 9])) := hO1
  have hP : PA h 2 _ _ F S A := hP
  have hT : TA h 6 _ K U := hT
  have hR : RA h 9 _ C T := hR
  obtain ⟨-, -, -, -, lF, lS, lA⟩ := id hP
  obtain ⟨-, -, -, lK, lU⟩ := id hT
  obtain ⟨-, -, -, lC, lT⟩ := id hR
  obtain ⟨okc, ⟨okl, okw⟩, okn, ⟨okh, oke⟩, oki, okr⟩ := id ok
  obtain ⟨k1, k2, k3, k4, k5, k6, k7, k8, k9⟩ := id okc
  have hbn : bnd σ.1.1 σ.1.2.1 F S A := okc.bnd hf
  rw [show oLook σ (nI y) i = _ from if_pos hz, if_neg (by rw [hq]; decide)]
  refine Ev.of pX8_look (Nat.le_of_ble_eq_true rfl) ?_
  show G mX8_look (rmD 4 0 0) none _ 0 0 0 [(0, .ref 0), (1, .int (nI y)), (2, .int i)] [] h
  obtain ⟨nx1, o1⟩ := HR.o hH
  refine g_aload_n dX8_look_0 0 rfl ?_
  refine g_iload_n dX8_look_1 1 rfl ?_
  refine g_iload_n dX8_look_2 2 rfl ?_
  refine g_iconst (v := nI 1) dX8_look_3 (by decide +kernel) ?_
  refine g_callVp dX8_look_4 (ev_refP0 H ok y hy h0 i (1) (by omega)) oX8_refusalOfPlace wiX8_refusalOfPlace weX8_refusalOfPlace wmX8_287 kX8 (hO0) rfl ⟨(Nat.le_of_ble_eq_true rfl), (Nat.le_of_ble_eq_true rfl)⟩ ⟨Nat.zero_le _, Nat.zero_le _⟩ (Nat.le_of_ble_eq_true rfl) rfl ?_
  refine g_top (if_neg (by rw [hq]; decide)) ?_
  refine g_istore_n (ls' := [(3, .int (-13)), (0, .ref 0), (1, .int (nI y)), (2, .int i)]) dX8_look_7 (Nat.le_of_ble_eq_true rfl) rfl ?_
  refine g_iload_n dX8_look_8 0 rfl ?_
  refine g_if_eq 21 dX8_look_9 (by decide) (fun z => absurd z (by decide)) (fun c9 => ?_)
  refine g_ldc2 dX8_look_12 wlX8_295 ?_
  refine g_iload_n dX8_look_15 0 rfl ?_
  refine g_i2l dX8_look_16 rfl ?_
  refine g_lsub dX8_look_17 ?_
  refine g_goto 33 dX8_look_18 (by decide) ?_
  exact g_lret dX8_look_33 rfl ⟨Nat.zero_le _, Nat.zero_le _⟩ (⟨rfl, ⟨hO0, ⟨hO1, _, _, _, _, _, _, _, hP, hf, hT, ht, hR, hC, hl⟩, ⟨_, hI, hI2⟩, ⟨_, hDr⟩, hLt, hL, hH, ⟨⟨_, _, _, _, hX⟩, ⟨_, _, _, _, _, hXP⟩⟩, ⟨_, _, _, _, _, hTh⟩, ⟨_, _, _, _, _, hSp⟩, hRf⟩, Smo.rf⟩)

set_option maxRecDepth 100000 in
set_option maxHeartbeats 4000000 in
theorem ev_x_look_g {h : List aC} {σ : Sg} (H : RC h σ) (ok : okSg σ) (y : Nat) (hy : y < 3) (h0 : 0 ≤ σ.2.2.1.2.getD y 0) (hz : okL σ (nI y) = true) (j : Nat) (hq : okQ σ (nI y) (nI j) (1) = true) (q : Nat) (hql : q ≤ 40) (eql : σ.2.2.1.2.getD y 0 = nI q) (hj : j + (1) ≤ q) : Ev mX8_look 4 0 0 [.ref 0, .int (nI y), .int (nI j)] h (spL h (oLook σ (nI y) (nI j))) := by
  obtain ⟨hO0, hS, ⟨ci, hI, hI2⟩, ⟨cd, hDr⟩, hLt, hL, hH, ⟨⟨sw_, sc_, sgs, sgk, hX⟩, ⟨xn, xm, xF, xS, xA, hXP⟩⟩, ⟨tn, tm, tF, tS, tA, hTh⟩, ⟨pn, pm, pF, pS, pA, hSp⟩, hRf⟩ := id H
  obtain ⟨hO1, F, S, A, K, U, C, T, hP, hf, hT, ht, hR, hC, hl⟩ := id hS
  have hO1 : rd h 1 = some (.inr (6, [.ref 2, .ref 6, .ref 9])) := hO1
  have hP : PA h 2 _ _ F S A := hP
  have hT : TA h 6 _ K U := hT
  have hR : RA h 9 _ C T := hR
  obtain ⟨-, -, -, -, lF, lS, lA⟩ := id hP
  obtain ⟨-, -, -, lK, lU⟩ := id hT
  obtain ⟨-, -, -, lC, lT⟩ := id hR
  obtain ⟨okc, ⟨okl, okw⟩, okn, ⟨okh, oke⟩, oki, okr⟩ := id ok
  obtain ⟨k1, k2, k3, k4, k5, k6, k7, k8, k9⟩ := id okc
  have hbn : bnd σ.1.1 σ.1.2.1 F S A := okc.bnd hf
  rw [show oLook σ (nI y) (nI j) = _ from if_pos hz, if_pos hq]
  rw [cl_ (show y < 2 ^ 31 by omega), cl_ (show j < 2 ^ 31 by omega)]
  have lR40 := (hL.2.2.1 y hy).2
  refine Ev.of pX8_look (Nat.le_of_ble_eq_true rfl) ?_
  show G mX8_look (rmD 4 0 0) none _ 0 0 0 [(0, .ref 0), (1, .int (nI y)), (2, .int (nI j))] [] h
  obtain ⟨nx1, o1⟩ := HR.o hH
  refine g_aload_n dX8_look_0 0 rfl ?_
  refine g_iload_n dX8_look_1 1 rfl ?_
  refine g_iload_n dX8_look_2 2 rfl ?_
  refine g_iconst (v := nI 1) dX8_look_3 (by decide +kernel) ?_
  refine g_callVp dX8_look_4 (ev_refP0 H ok y hy h0 (nI j) (1) (by omega)) oX8_refusalOfPlace wiX8_refusalOfPlace weX8_refusalOfPlace wmX8_287 kX8 (hO0) rfl ⟨(Nat.le_of_ble_eq_true rfl), (Nat.le_of_ble_eq_true rfl)⟩ ⟨Nat.zero_le _, Nat.zero_le _⟩ (Nat.le_of_ble_eq_true rfl) rfl ?_
  refine g_top (if_pos hq) ?_
  refine g_istore_n (ls' := [(3, .int (nI 0)), (0, .ref 0), (1, .int (nI y)), (2, .int (nI j))]) dX8_look_7 (Nat.le_of_ble_eq_true rfl) rfl ?_
  refine g_iload_n dX8_look_8 0 rfl ?_
  refine g_if_eqN 21 dX8_look_9 (by decide) (by omega) (fun c9 => ?_) (fun z => absurd z (by omega))
  refine g_aload_n dX8_look_21 1 rfl ?_
  refine g_getf dX8_look_22 kX8 wfX8_36 (Nat.le_of_ble_eq_true rfl) (hO0) rfl ?_
  refine g_getf dX8_look_25 kX2 wfX8_291 (Nat.le_of_ble_eq_true rfl) (hL.1) rfl ?_
  refine g_iload_n dX8_look_28 2 rfl ?_
  refine g_aalN dX8_look_29 (hL.2.1) (by simp; omega) (by simp) (rows3 hy) ?_
  refine g_iload_n dX8_look_30 3 rfl ?_
  refine g_ialI dX8_look_31 ((hL.2.2.1 y hy).1) (by omega) (by omega) ?_
  refine g_i2l dX8_look_32 rfl ?_
  exact g_lret dX8_look_33 rfl ⟨Nat.zero_le _, Nat.zero_le _⟩ (⟨rfl, ⟨hO0, ⟨hO1, _, _, _, _, _, _, _, hP, hf, hT, ht, hR, hC, hl⟩, ⟨_, hI, hI2⟩, ⟨_, hDr⟩, hLt, hL, hH, ⟨⟨_, _, _, _, hX⟩, ⟨_, _, _, _, _, hXP⟩⟩, ⟨_, _, _, _, _, hTh⟩, ⟨_, _, _, _, _, hSp⟩, hRf⟩, Smo.rf⟩)

theorem ev_x_look {h : List aC} {σ : Sg} (H : RC h σ) (ok : okSg σ) (l i : Int32) : Ev mX8_look 4 0 0 [.ref 0, .int l, .int i] h (spL h (oLook σ l i)) := by
  cases hz : okL σ l with
  | false => exact ev_x_look_n H ok l i  hz
  | true =>
    obtain ⟨y, hy, rfl, h0⟩ := okL_in hz
    cases hq : okQ σ (nI y) i (1) with
    | false => exact ev_x_look_b H ok y hy h0 hz i  hq
    | true =>
      obtain ⟨q, hql, eql⟩ := okL_q ok hy h0
      obtain ⟨j, rfl, hj⟩ := okQ_1 (by omega) eql hql (by omega) hq
      exact ev_x_look_g H ok y hy h0 hz j  hq q hql eql hj

theorem RC.la {h : List aC} {σ : Sg} (H : RC h σ) : RC h (lnG σ σ.2.2.1.1 σ.2.2.1.2) := H
theorem nA_eq {F S A : List Nat} {m : Nat} {f : Nat → Pr} (hf : ∀ i, i < m → fOf F S A i = f i) {k : Nat} (hk : k < 2 * m) : (if k % 2 = 0 then F.getD (k / 2) 0 else S.getD (k / 2) 0) = nAf f k := by
  have e := hf (k / 2) (by omega)
  unfold nAf
  rw [← e]
  rfl

set_option maxRecDepth 100000 in
set_option maxHeartbeats 4000000 in
theorem lp_lays {h0 : List aC} {σ : Sg} (ok : okSg σ) {y u ql : Nat} (hy : y < 3) (hj : u + 2 * σ.1.2.1 ≤ ql) (hql : ql ≤ 40) : ∀ j k (h : List aC), k + j = 2 * σ.1.2.1 → RC h (lnG σ (upI σ.2.2.1.1 y (layF (σ.2.2.1.1 y) u σ.1.2.2.1 k)) σ.2.2.1.2) → Smo 0 98 h0 h → G mX8_lays (rmD 5 0 0) none (sp h0 (nI (2 * σ.1.2.1), lnG σ (upI σ.2.2.1.1 y (layF (σ.2.2.1.1 y) u σ.1.2.2.1 (2 * σ.1.2.1))) σ.2.2.1.2)) 0 0 33 [(5, .int (nI k)), (4, .int (nI 0)), (3, .int (nI (2 * σ.1.2.1))), (0, .ref 0), (1, .int (nI y)), (2, .int (nI u))] [] h := by
  intro j
  induction j with
  | zero =>
    intro k h hk H hS0
    have H : O0 h σ.2.2.2.2.1 ∧ StA h 1 σ.1 ∧ ImA h σ.2.2.2.2.1 ∧ (∃ c3, StA h 23 c3) ∧ LtA h σ.2.1.1 σ.2.1.2 ∧ LA h (upI σ.2.2.1.1 y (layF (σ.2.2.1.1 y) u σ.1.2.2.1 k)) σ.2.2.1.2 ∧ HR h σ.1.1 σ.1.2.1 σ.1.2.2.2.2.2 σ.2.2.2.1 ∧ XQ h ∧ PQ h 89 ∧ PQ h 93 ∧ rd h 97 = some (.inl σ.2.2.2.2.2) := H
    obtain ⟨hO0, hS, ⟨ci, hI, hI2⟩, ⟨cd, hDr⟩, hLt, hL, hH, ⟨⟨sw_, sc_, sgs, sgk, hX⟩, ⟨xn, xm, xF, xS, xA, hXP⟩⟩, ⟨tn, tm, tF, tS, tA, hTh⟩, ⟨pn, pm, pF, pS, pA, hSp⟩, hRf⟩ := id H
    obtain ⟨hO1, F, S, A, K, U, C, T, hP, hf, hT, ht, hR, hC, hl⟩ := id hS
    have hO1 : rd h 1 = some (.inr (6, [.ref 2, .ref 6, .ref 9])) := hO1
    have hP : PA h 2 _ _ F S A := hP
    have hT : TA h 6 _ K U := hT
    have hR : RA h 9 _ C T := hR
    obtain ⟨-, -, -, -, lF, lS, lA⟩ := id hP
    obtain ⟨-, -, -, lK, lU⟩ := id hT
    obtain ⟨-, -, -, lC, lT⟩ := id hR
    obtain ⟨okc, ⟨okl, okw⟩, okn, ⟨okh, oke⟩, oki, okr⟩ := id ok
    obtain ⟨k1, k2, k3, k4, k5, k6, k7, k8, k9⟩ := id okc
    have hbn : bnd σ.1.1 σ.1.2.1 F S A := okc.bnd hf
    have lR40 := (hL.2.2.1 y hy).2
    obtain ⟨nx1, o1⟩ := HR.o hH
    refine g_iload dX8_lays_33 0 rfl ?_
    refine g_iload_n dX8_lays_35 2 rfl ?_
    refine g_icmp_geN 71 dX8_lays_36 (by decide) (by omega) (by omega) (fun c36 => ?_) (fun z => absurd z (by omega))
    refine g_iload_n dX8_lays_71 2 rfl ?_
    exact g_iret dX8_lays_72 rfl ⟨Nat.zero_le _, Nat.zero_le _⟩ (⟨rfl, (by rw [show 2 * σ.1.2.1 = k by omega]; exact H), hS0⟩)
  | succ j ih =>
    intro k h hk H hS0
    have H : O0 h σ.2.2.2.2.1 ∧ StA h 1 σ.1 ∧ ImA h σ.2.2.2.2.1 ∧ (∃ c3, StA h 23 c3) ∧ LtA h σ.2.1.1 σ.2.1.2 ∧ LA h (upI σ.2.2.1.1 y (layF (σ.2.2.1.1 y) u σ.1.2.2.1 k)) σ.2.2.1.2 ∧ HR h σ.1.1 σ.1.2.1 σ.1.2.2.2.2.2 σ.2.2.2.1 ∧ XQ h ∧ PQ h 89 ∧ PQ h 93 ∧ rd h 97 = some (.inl σ.2.2.2.2.2) := H
    obtain ⟨hO0, hS, ⟨ci, hI, hI2⟩, ⟨cd, hDr⟩, hLt, hL, hH, ⟨⟨sw_, sc_, sgs, sgk, hX⟩, ⟨xn, xm, xF, xS, xA, hXP⟩⟩, ⟨tn, tm, tF, tS, tA, hTh⟩, ⟨pn, pm, pF, pS, pA, hSp⟩, hRf⟩ := id H
    obtain ⟨hO1, F, S, A, K, U, C, T, hP, hf, hT, ht, hR, hC, hl⟩ := id hS
    have hO1 : rd h 1 = some (.inr (6, [.ref 2, .ref 6, .ref 9])) := hO1
    have hP : PA h 2 _ _ F S A := hP
    have hT : TA h 6 _ K U := hT
    have hR : RA h 9 _ C T := hR
    obtain ⟨-, -, -, -, lF, lS, lA⟩ := id hP
    obtain ⟨-, -, -, lK, lU⟩ := id hT
    obtain ⟨-, -, -, lC, lT⟩ := id hR
    obtain ⟨okc, ⟨okl, okw⟩, okn, ⟨okh, oke⟩, oki, okr⟩ := id ok
    obtain ⟨k1, k2, k3, k4, k5, k6, k7, k8, k9⟩ := id okc
    have hbn : bnd σ.1.1 σ.1.2.1 F S A := okc.bnd hf
    have lR40 := (hL.2.2.1 y hy).2
    obtain ⟨nx1, o1⟩ := HR.o hH
    refine g_iload dX8_lays_33 0 rfl ?_
    refine g_iload_n dX8_lays_35 2 rfl ?_
    refine g_icmp_geN 71 dX8_lays_36 (by decide) (by omega) (by omega) (fun z => absurd z (by omega)) (fun c36 => ?_)
    refine g_aload_n dX8_lays_39 3 rfl ?_
    refine g_getf dX8_lays_40 kX8 wfX8_36 (Nat.le_of_ble_eq_true rfl) (hO0) rfl ?_
    refine g_getf dX8_lays_43 kX2 wfX8_291 (Nat.le_of_ble_eq_true rfl) (hL.1) rfl ?_
    refine g_iload_n dX8_lays_46 4 rfl ?_
    refine g_aalN dX8_lays_47 (hL.2.1) (by simp; omega) (by simp) (rows3 hy) ?_
    refine g_iload_n dX8_lays_48 5 rfl ?_
    refine g_iload dX8_lays_49 0 rfl ?_
    refine g_iaddN dX8_lays_51 ?_
    refine g_aload_n dX8_lays_52 3 rfl ?_
    refine g_getf dX8_lays_53 kX8 wfX8_10 (Nat.le_of_ble_eq_true rfl) (hO0) rfl ?_
    refine g_getf dX8_lays_56 kX6 wfX8_97 (Nat.le_of_ble_eq_true rfl) (hO1) rfl ?_
    refine g_iload dX8_lays_59 0 rfl ?_
    refine g_callVp dX8_lays_61 (ev_numberAt hP k (by omega)) oX3_numberAt wiX3_numberAt weX3_numberAt wmX8_297 kX3 (hP.1) rfl ⟨(Nat.le_of_ble_eq_true rfl), (Nat.le_of_ble_eq_true rfl)⟩ ⟨Nat.zero_le _, Nat.zero_le _⟩ (Nat.le_of_ble_eq_true rfl) rfl ?_
    refine g_top (congrArg nI (nA_eq hf (by omega))) ?_
    refine g_iasI dX8_lays_64 ((hL.2.2.1 y hy).1) (by rw [lR40]; omega) (by omega) (fun h2 e2 => ?_)
    have f2_38_y : rd h2 (38 + y) = some (.inl (((upI σ.2.2.1.1 y (layF (σ.2.2.1.1 y) u σ.1.2.2.1 k)) y).set (u + k) (nI (nAf σ.1.2.2.1 k)))) := by rw [e2]; exact rd_wr_eq ((hL.2.2.1 y hy).1)
    have s2 : Smo (38 + y) ((38 + y) + 1) h h2 := by rw [e2]; exact Smo.wr (by omega) (by omega)
    have b2_2 := hP.mv s2 (by omega)
    have b2_6 := hT.mv s2 (by omega)
    have b2_9 := hR.mv s2 (by omega)
    have b2_12 := hI.mv s2 (by omega)
    have b2_23 := hDr.mv s2 (by omega)
    have b2_42 := hH.mv s2 (by omega)
    obtain ⟨nx3, o3⟩ := HR.o b2_42
    have b2_34 := hLt.mv s2 (by omega)
    have b2_84 := hX.mv s2 (by omega)
    have b2_85 := hXP.mv s2 (by omega)
    have b2_89 := hTh.mv s2 (by omega)
    have b2_93 := hSp.mv s2 (by omega)
    have f2_0 : rd h2 0 = some (.inr (8, [.ref 1, .ref 12, .ref 23, .int (nI (bI σ.2.2.2.2.1.isSome)), .ref 34, .ref 36, .ref 42, .ref 84, .ref 89, .ref 93, .ref 97])) := by rw [s2 _ (by omega)]; exact hO0
    have f2_1 : rd h2 1 = some (.inr (6, [.ref 2, .ref 6, .ref 9])) := by rw [s2 _ (by omega)]; exact hO1
    have f2_36 : rd h2 36 = some (.inr (2, [.ref 37, .ref 41])) := by rw [s2 _ (by omega)]; exact hL.1
    have f2_37 : rd h2 37 = some (.inr (100, (List.range 3).map (fun i => Value.ref (38 + i)))) := by rw [s2 _ (by omega)]; exact hL.2.1
    have f2_41 : rd h2 41 = some (.inl (σ.2.2.1.2)) := by rw [s2 _ (by omega)]; exact hL.2.2.2.1
    have f2_97 : rd h2 97 = some (.inl (σ.2.2.2.2.2)) := by rw [s2 _ (by omega)]; exact hRf
    have HL : LA h2 (upI σ.2.2.1.1 y (layF (σ.2.2.1.1 y) u σ.1.2.2.1 (k + 1))) σ.2.2.1.2 := ⟨f2_36, f2_37, fun q hq => by by_cases e : q = y; (subst e; rw [upI_eq]; exact ⟨by rw [show layF (σ.2.2.1.1 q) u σ.1.2.2.1 (k + 1) = ((upI σ.2.2.1.1 q (layF (σ.2.2.1.1 q) u σ.1.2.2.1 k)) q).set (u + k) (nI (nAf σ.1.2.2.1 k)) from by rw [upI_eq]; rfl]; exact f2_38_y, (layF_len _ _ _ _).trans (by rw [upI_eq, layF_len] at lR40; exact lR40)⟩); (have z := hL.2.2.1 q hq; rw [upI_ne e] at z; rw [upI_ne e]; exact ⟨(by rw [s2 _ (by omega)]; exact z.1), z.2⟩), f2_41, hL.2.2.2.2⟩
    refine g_iinc (q := 0) (v := nI (k + 1)) (ls' := [(5, .int (nI (k + 1))), (4, .int (nI 0)), (3, .int (nI (2 * σ.1.2.1))), (0, .ref 0), (1, .int (nI y)), (2, .int (nI u))]) dX8_lays_65 rfl (inc1 _) (Nat.le_of_ble_eq_true rfl) rfl ?_
    refine g_goto 33 dX8_lays_68 (by decide) ?_
    exact ih (k + 1) h2 (by omega) ⟨f2_0, ⟨f2_1, _, _, _, _, _, _, _, b2_2, hf, b2_6, ht, b2_9, hC, hl⟩, ⟨_, b2_12, hI2⟩, ⟨_, b2_23⟩, b2_34, HL, b2_42, ⟨⟨_, _, _, _, b2_84⟩, ⟨_, _, _, _, _, b2_85⟩⟩, ⟨_, _, _, _, _, b2_89⟩, ⟨_, _, _, _, _, b2_93⟩, f2_97⟩ (hS0.tr (fun q hq => by rw [s2 q (by omega)]))
