set_option maxRecDepth 100000 in
set_option maxHeartbeats 4000000 in
theorem seek_s {n m : Nat} {w : Int32} {A : List Nat} (hn : 3 ≤ n ∧ n ≤ 13) (hm : m ≤ 6) (hA : ∀ k, k < m → A.getD k 0 < n) {d : Nat} (ih0 : seekP n m w A d) : seekP n m w A (d + 1) := by
  intro h acc c gs gk F S nums difs hl hX hP hM hV hB hD hnd hle
  have hx := lfA_in n (show 1 ≤ n by omega) acc
  refine Ev.of pX5_seekStarters (Nat.le_of_ble_eq_true rfl) ?_
  show G mX5_seekStarters (rmD (6 + (d + 1)) 0 0) none _ 0 0 0 [(0, .ref 84), (1, .int (nI acc.length)), (2, .int (nI nums)), (3, .int (nI difs))] [] h
  refine g_aload_n dX5_seekStarters_0 0 rfl ?_
  refine g_getf dX5_seekStarters_1 kX5 wfX5_10 (Nat.le_of_ble_eq_true rfl) (hX) rfl ?_
  refine g_astore (ls' := [(4, .ref 85), (0, .ref 84), (1, .int (nI acc.length)), (2, .int (nI nums)), (3, .int (nI difs))]) dX5_seekStarters_4 (Nat.le_of_ble_eq_true rfl) rfl ?_
  refine g_aload dX5_seekStarters_6 0 rfl ?_
  refine g_getf dX5_seekStarters_8 kX3 wfX5_60 (Nat.le_of_ble_eq_true rfl) (hP.1) rfl ?_
  refine g_istore (ls' := [(5, .int (nI n)), (4, .ref 85), (0, .ref 84), (1, .int (nI acc.length)), (2, .int (nI nums)), (3, .int (nI difs))]) dX5_seekStarters_11 (Nat.le_of_ble_eq_true rfl) rfl ?_
  refine g_iload_n dX5_seekStarters_13 3 rfl ?_
  refine g_aload dX5_seekStarters_14 1 rfl ?_
  refine g_getf dX5_seekStarters_16 kX3 wfX5_63 (Nat.le_of_ble_eq_true rfl) (hP.1) rfl ?_
  refine g_icmp_ltN 27 dX5_seekStarters_19 (by decide) (by omega) (by omega) (fun c19 => ?_) (fun z => absurd z (by omega))
  refine g_iload_n dX5_seekStarters_27 4 rfl ?_
  refine g_iload dX5_seekStarters_28 0 rfl ?_
  refine g_callSp dX5_seekStarters_30 (ev_leastFree hn.2 hB.1 h) oX5_leastFree wsX5_leastFree wmX5_69 rfl ⟨Nat.le_trans (Nat.le_of_ble_eq_true rfl : _ ≤ 6) (by show 6 ≤ 6 + (d + 1); omega), Nat.le_trans (Nat.le_of_ble_eq_true rfl : _ ≤ 41 * 6) (by show 41 * 6 ≤ 41 * (6 + (d + 1)); omega)⟩ ⟨Nat.zero_le _, Nat.zero_le _⟩ (Nat.le_of_ble_eq_true rfl) rfl ?_
  refine g_top (congrArg nI (lfB_A hB (by omega) hn.2)) ?_
  refine g_istore (ls' := [(6, .int (nI (lfA n acc))), (5, .int (nI n)), (4, .ref 85), (0, .ref 84), (1, .int (nI acc.length)), (2, .int (nI nums)), (3, .int (nI difs))]) dX5_seekStarters_33 (Nat.le_of_ble_eq_true rfl) rfl ?_
  refine g_iload dX5_seekStarters_35 0 rfl ?_
  refine g_iconst (v := nI 1) dX5_seekStarters_37 (by decide +kernel) ?_
  refine g_iaddN dX5_seekStarters_38 ?_
  refine g_istore (ls' := [(7, .int (nI ((lfA n acc) + 1))), (6, .int (nI (lfA n acc))), (5, .int (nI n)), (4, .ref 85), (0, .ref 84), (1, .int (nI acc.length)), (2, .int (nI nums)), (3, .int (nI difs))]) dX5_seekStarters_39 (Nat.le_of_ble_eq_true rfl) rfl ?_
  exact lp_seek hn hm hA ih0 hl hV hB hD hnd hx (B := max n (lfA n acc + 1)) (by omega) hle (n - (lfA n acc + 1)) (lfA n acc + 1) h c gs gk F S [] (by omega) (Nat.le_refl _) hX hP hM (fun i _ => ⟨rfl, rfl⟩) rfl (Pst_nil hnd) (fun _ => ⟨rfl, rfl⟩) Smo.rf

theorem seek_all {n m : Nat} {w : Int32} {A : List Nat} (hn : 3 ≤ n ∧ n ≤ 13) (hm : m ≤ 6) (hA : ∀ k, k < m → A.getD k 0 < n) : ∀ d, seekP n m w A d
  | 0 => seek_0 hn hm hA
  | d + 1 => seek_s hn hm hA (seek_all hn hm hA d)
theorem nmC_0 : nmC 1 [] := by
  refine ⟨by decide, fun i hi => ?_⟩
  rw [show (1 : Nat) = 2 ^ 0 from rfl, Nat.testBit_two_pow]
  show decide (0 = i) = (decide (i = 0) || false)
  rw [Bool.or_false]
  exact decide_eq_decide.mpr ⟨fun z => z.symm, fun z => z.symm⟩
theorem dfC_0 (n : Nat) : dfC n 0 [] := ⟨by decide, fun i _ => Nat.zero_testBit i⟩
theorem E_small {n d : Nat} (hn : n ≤ 13) (hd : d ≤ 6) (acc : List Pp) : 0 + (E n d acc).length ≤ 2 ^ 30 := by
  have h1 := E_len hn d acc
  have h2 : 13 ^ d ≤ 13 ^ 6 := Nat.pow_le_pow_right (by decide) hd
  have h3 : 13 ^ 6 ≤ 2 ^ 30 := by decide
  omega
theorem bkA_lt {n : Nat} (h0 : 0 < n) {A : List Nat} (l : A.length = 6) : ∀ k, k < (n - 1) / 2 → (n - 1) / 2 ≤ 6 → (bkA A ((n - 1) / 2)).getD k 0 < n := fun k hk h6 => by rw [bkA_at l _ h6 k hk]; exact h0

set_option maxRecDepth 100000 in
set_option maxHeartbeats 4000000 in
theorem ev_goStarters {h : List aC} {w0 : Int32} {c gs gk n0 m0 : Nat} {F S A : List Nat} (hX : XA h w0 c gs gk) (hP : PA h 85 n0 m0 F S A) (n : Nat) (hn : 3 ≤ n ∧ n ≤ 13) (w : Int32) : Ev mX5_goThroughStarters 13 0 0 [.ref 84, .int (nI n), .int w] h (pq none (fun h2 => ∃ c1 g1 k1 F1 S1 A1, XA h2 w c1 g1 k1 ∧ PA h2 85 n ((n - 1) / 2) F1 S1 A1 ∧ Pst (limOf w) (E n ((n - 1) / 2) []) 0 c1 (mtS F1 S1) ∧ (limOf w = none → g1 = cnB (sgB n) (E n ((n - 1) / 2) []) ∧ k1 = cnB (skB n) (E n ((n - 1) / 2) [])) ∧ Smo 84 89 h h2)) := by
  obtain ⟨-, -, -, -, lF, lS, lA⟩ := id hP
  refine Ev.of pX5_goThroughStarters (Nat.le_of_ble_eq_true rfl) ?_
  show G mX5_goThroughStarters (rmD 13 0 0) none _ 0 0 0 [(0, .ref 84), (1, .int (nI n)), (2, .int w)] [] h
  refine g_aload_n dX5_goThroughStarters_0 0 rfl ?_
  refine g_iload_n dX5_goThroughStarters_1 2 rfl ?_
  refine g_callVq (st1 := []) dX5_goThroughStarters_2 (ev_begin hX (w)) oX5_begin wiX5_begin weX5_begin wmX5_29 kX5 (hX) rfl ⟨(Nat.le_of_ble_eq_true rfl), (Nat.le_of_ble_eq_true rfl)⟩ ⟨Nat.zero_le _, Nat.zero_le _⟩ (Nat.le_of_ble_eq_true rfl) rfl rfl (fun h1 q1 => ?_)
  obtain ⟨q1a, q1s⟩ := q1
  have b1_85 := hP.mv q1s (by omega)
  refine g_aload_n dX5_goThroughStarters_5 0 rfl ?_
  refine g_getf dX5_goThroughStarters_6 kX5 wfX5_10 (Nat.le_of_ble_eq_true rfl) (q1a) rfl ?_
  refine g_iload_n dX5_goThroughStarters_9 1 rfl ?_
  refine g_callVq (st1 := []) dX5_goThroughStarters_10 (ev_becomeBook b1_85 (n) (by omega)) oX3_becomeBook wiX3_becomeBook weX3_becomeBook wmX5_33 kX3 (b1_85.1) rfl ⟨(Nat.le_of_ble_eq_true rfl), (Nat.le_of_ble_eq_true rfl)⟩ ⟨Nat.zero_le _, Nat.zero_le _⟩ (Nat.le_of_ble_eq_true rfl) rfl rfl (fun h2 q2 => ?_)
  obtain ⟨q2a, q2s⟩ := q2
  have b2_84 := q1a.mv q2s (by omega)
  refine g_aload_n dX5_goThroughStarters_13 0 rfl ?_
  refine g_iconst (v := nI 0) dX5_goThroughStarters_14 (by decide +kernel) ?_
  refine g_iconst (v := nI 1) dX5_goThroughStarters_15 (by decide +kernel) ?_
  refine g_iconst (v := nI 0) dX5_goThroughStarters_16 (by decide +kernel) ?_
  refine g_callSq (st1 := []) dX5_goThroughStarters_17 ((seek_all hn (by omega) (fun k hk => bkA_lt (by omega) lA k hk (by omega)) ((n - 1) / 2) h2 [] 0 0 0 _ _ 1 0 (by show 0 + (n - 1) / 2 = _; omega) b2_84 q2a (fun k hk => absurd hk (Nat.not_lt_zero k)) (fun q hq => absurd hq List.not_mem_nil) nmC_0 (dfC_0 n) (fun i _ => Nat.zero_le i) (E_small hn.2 (by omega) [])).asS 0 rfl) oX5_seekStarters wsX5_seekStarters wmX5_36 rfl ⟨by show 6 + (n - 1) / 2 + 1 ≤ 13; omega, by show 8 + (10 + 11) + 41 * (6 + (n - 1) / 2) ≤ 41 * 13; omega⟩ ⟨Nat.zero_le _, Nat.zero_le _⟩ (Nat.le_of_ble_eq_true rfl) rfl rfl (fun h3 q3 => ?_)
  obtain ⟨c1, g1, k1, F1, S1, r1, r2, r3, r4, r5, r6⟩ := q3
  exact g_vret dX5_goThroughStarters_20 rfl ⟨Nat.zero_le _, Nat.zero_le _⟩ (⟨rfl, c1, g1, k1, F1, S1, _, r1, r2, r4, fun z => by have y := r5 z; rw [Nat.zero_add, Nat.zero_add] at y; exact y, Smo.tr (fun q hq => by rw [q2s q (by omega), q1s q (by omega)]) r6⟩)
