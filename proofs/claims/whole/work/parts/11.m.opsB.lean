theorem gcd_dec {b k : Nat} (h : k + 1 ≤ b) : nI (b - k) + Int32.ofInt (-1) = nI (b - (k + 1)) := by
  rw [show b - k = (b - (k + 1)) + 1 by omega]; exact dec1 _
theorem gcd_step {a b d : Nat} (h : Nat.gcd a b ≤ d) (h2 : ¬ (a % d = 0 ∧ b % d = 0)) : Nat.gcd a b ≤ d - 1 := by
  have : Nat.gcd a b ≠ d := fun e => h2 ⟨by rw [← e]; exact Nat.mod_eq_zero_of_dvd (Nat.gcd_dvd_left a b), by rw [← e]; exact Nat.mod_eq_zero_of_dvd (Nat.gcd_dvd_right a b)⟩
  omega
theorem gcd_hit {a b d : Nat} (h : Nat.gcd a b ≤ d) (h1 : a % d = 0) (h2 : b % d = 0) (hb : 0 < b) : Nat.gcd a b = d := by
  have x : d ∣ Nat.gcd a b := Nat.dvd_gcd (Nat.dvd_of_mod_eq_zero h1) (Nat.dvd_of_mod_eq_zero h2)
  have y := Nat.le_of_dvd (Nat.gcd_pos_of_pos_right a hb) x
  omega

set_option maxRecDepth 100000 in
set_option maxHeartbeats 4000000 in
theorem lp_gcd {a b : Nat} {h : List aC} (ha : a < 2 ^ 31) (hb : b < 2 ^ 31) (hb1 : 1 ≤ b) : ∀ j k , k + j = b - 1 → Nat.gcd a b ≤ b - k → G mX8_greatestCommon (rmD 1 0 0) none (pv (.int (nI (Nat.gcd a b))) h) 0 0 2 [(2, .int (nI (b - k))), (0, .int (nI a)), (1, .int (nI b))] [] h := by
  intro j
  induction j with
  | zero =>
    intro k  hk hg
    refine g_iload_n dX8_greatestCommon_2 0 rfl ?_
    refine g_iconst (v := nI 1) dX8_greatestCommon_3 (by decide +kernel) ?_
    refine g_icmp_leN 27 dX8_greatestCommon_4 (by decide) (by omega) (by omega) (fun c4 => ?_) (fun z => absurd z (by omega))
    refine g_iconst (v := nI 1) dX8_greatestCommon_27 (by decide +kernel) ?_
    exact g_iret dX8_greatestCommon_28 rfl ⟨Nat.zero_le _, Nat.zero_le _⟩ (⟨by rw [show Nat.gcd a b = 1 from by have := Nat.gcd_pos_of_pos_right a (show 0 < b by omega); omega], rfl⟩)
  | succ j ih =>
    intro k  hk hg
    refine g_iload_n dX8_greatestCommon_2 0 rfl ?_
    refine g_iconst (v := nI 1) dX8_greatestCommon_3 (by decide +kernel) ?_
    refine g_icmp_leN 27 dX8_greatestCommon_4 (by decide) (by omega) (by omega) (fun z => absurd z (by omega)) (fun c4 => ?_)
    refine g_iload_n dX8_greatestCommon_7 1 rfl ?_
    refine g_iload_n dX8_greatestCommon_8 0 rfl ?_
    refine g_iremN dX8_greatestCommon_9 (by omega) (by omega) (by omega) ?_
    refine g_if_neN 21 dX8_greatestCommon_10 (by decide) (Nat.lt_of_le_of_lt (Nat.mod_le _ _) (by omega)) (fun c10 => ?_) (fun c10 => ?_)
    · refine g_iinc (q := 0) (v := nI (b - (k + 1))) (ls' := [(2, .int (nI (b - (k + 1)))), (0, .int (nI a)), (1, .int (nI b))]) dX8_greatestCommon_21 rfl (gcd_dec (by omega)) (Nat.le_of_ble_eq_true rfl) rfl ?_
      refine g_goto 2 dX8_greatestCommon_24 (by decide) ?_
      exact ih (k + 1) (by omega) (by have := gcd_step hg (by intro z; first | exact Nat.ne_of_gt c10 z.1 | exact Nat.ne_of_gt c16 z.2); omega)
    · refine g_iload_n dX8_greatestCommon_13 2 rfl ?_
      refine g_iload_n dX8_greatestCommon_14 0 rfl ?_
      refine g_iremN dX8_greatestCommon_15 (by omega) (by omega) (by omega) ?_
      refine g_if_neN 21 dX8_greatestCommon_16 (by decide) (Nat.lt_of_le_of_lt (Nat.mod_le _ _) (by omega)) (fun c16 => ?_) (fun c16 => ?_)
      · refine g_iinc (q := 0) (v := nI (b - (k + 1))) (ls' := [(2, .int (nI (b - (k + 1)))), (0, .int (nI a)), (1, .int (nI b))]) dX8_greatestCommon_21 rfl (gcd_dec (by omega)) (Nat.le_of_ble_eq_true rfl) rfl ?_
        refine g_goto 2 dX8_greatestCommon_24 (by decide) ?_
        exact ih (k + 1) (by omega) (by have := gcd_step hg (by intro z; first | exact Nat.ne_of_gt c10 z.1 | exact Nat.ne_of_gt c16 z.2); omega)
      · refine g_iload_n dX8_greatestCommon_19 0 rfl ?_
        exact g_iret dX8_greatestCommon_20 rfl ⟨Nat.zero_le _, Nat.zero_le _⟩ (⟨by rw [gcd_hit hg c10 c16 (by omega)], rfl⟩)

set_option maxRecDepth 100000 in
set_option maxHeartbeats 4000000 in
theorem ev_gcd (a b : Nat) (h : List aC) (ha : a < 2 ^ 31) (hb : b < 2 ^ 31) (hb1 : 1 ≤ b) : Ev mX8_greatestCommon 1 0 0 [.int (nI a), .int (nI b)] h (pv (.int (nI (Nat.gcd a b))) h) := by
  refine Ev.of pX8_greatestCommon (Nat.le_of_ble_eq_true rfl) ?_
  show G mX8_greatestCommon (rmD 1 0 0) none _ 0 0 0 [(0, .int (nI a)), (1, .int (nI b))] [] h
  refine g_iload_n dX8_greatestCommon_0 1 rfl ?_
  refine g_istore_n (ls' := [(2, .int (nI b)), (0, .int (nI a)), (1, .int (nI b))]) dX8_greatestCommon_1 (Nat.le_of_ble_eq_true rfl) rfl ?_
  exact lp_gcd ha hb hb1 (b - 1) 0 (by omega) (Nat.gcd_le_right a (by omega))

theorem stL_pos {n : Nat} (h3 : 3 ≤ n) (h11 : n ≤ 11) (ho : n % 2 = 1) : 0 < (stL n).length := by
  have z : ∀ i, i < 5 → 0 < (stL (2 * i + 3)).length := by decide +kernel
  have y := z ((n - 3) / 2) (by omega)
  rw [show 2 * ((n - 3) / 2) + 3 = n by omega] at y
  exact y
def rfL (σ : Sg) (k : Nat) : Int64 × Sg := (4000000000000000000 - (-nI k).toInt64, rfG σ k)
def oOdds (σ : Sg) (y : Int32) : Int64 × Sg := if y < 0 ∨ ¬ y ≤ nI 1 then rfL σ 2 else if σ.1.1 ≤ 11 then (lN ((if y.toNatClampNeg = 0 then cnB (sgB σ.1.1) (stL σ.1.1) else (stL σ.1.1).length) / Nat.gcd (cnB (sgB σ.1.1) (stL σ.1.1)) (stL σ.1.1).length), σ) else rfL σ 3

set_option maxRecDepth 100000 in
set_option maxHeartbeats 4000000 in
theorem ev_refuseLong {h : List aC} {σ : Sg} (H : RC h σ) (ok : okSg σ) (k : Nat) (hk : noN k) : Ev mX8_refuseLong 2 0 0 [.ref 0, .int (-nI k)] h (spL h (rfL σ k)) := by
  obtain ⟨hO0, hS, ⟨ci, hI, hI2⟩, ⟨cd, hDr⟩, hLt, hL, hH, ⟨⟨sw_, sc_, sgs, sgk, hX⟩, ⟨xn, xm, xF, xS, xA, hXP⟩⟩, ⟨tn, tm, tF, tS, tA, hTh⟩, ⟨pn, pm, pF, pS, pA, hSp⟩, hRf⟩ := id H
  obtain ⟨hO1, F, S, A, K, U, C, T, hP, hf, hT, ht, hR, hC, hl⟩ := id hS
  have hO1 : rd h 1 = some (.inr (6, [.ref 2, .ref 6, .ref 9])) := hO1
  have hP : PA h 2 _ _ F S A := hP
  have hT : TA h 6 _ K U := hT
  have hR : RA h 9 _ C T := hR
  obtain ⟨-, -, -, -, lF, lS, lA⟩ := id hP
  obtain ⟨-, -, -, lK, lU⟩ := id hT
  obtain ⟨-, -, -, lC, lT⟩ := id hR
  obtain ⟨okc, ⟨okl, okw⟩, okn, ⟨okh, oke⟩, oki, okr⟩ := id ok
  obtain ⟨k1, k2, k3, k4, k5, k6, k7, k8, k9⟩ := id okc
  have hbn : bnd σ.1.1 σ.1.2.1 F S A := okc.bnd hf
  have zr := ev_refuse H ok k hk
  unfold rfS at zr
  rw [(noN_neg hk).2] at zr
  refine Ev.of pX8_refuseLong (Nat.le_of_ble_eq_true rfl) ?_
  show G mX8_refuseLong (rmD 2 0 0) none _ 0 0 0 [(0, .ref 0), (1, .int (-nI k))] [] h
  obtain ⟨nx1, o1⟩ := HR.o hH
  refine g_ldc2 dX8_refuseLong_0 wlX8_295 ?_
  refine g_aload_n dX8_refuseLong_3 0 rfl ?_
  refine g_iload_n dX8_refuseLong_4 1 rfl ?_
  refine g_callVq (st1 := [.int (-nI k), .long ((4000000000000000000))]) dX8_refuseLong_5 (zr) oX8_refuse wiX8_refuse weX8_refuse wmX8_68 kX8 (hO0) rfl ⟨(Nat.le_of_ble_eq_true rfl), (Nat.le_of_ble_eq_true rfl)⟩ ⟨Nat.zero_le _, Nat.zero_le _⟩ (Nat.le_of_ble_eq_true rfl) rfl rfl (fun h2 q2 => ?_)
  refine g_i2l dX8_refuseLong_8 rfl ?_
  refine g_lsub dX8_refuseLong_9 ?_
  exact g_lret dX8_refuseLong_10 rfl ⟨Nat.zero_le _, Nat.zero_le _⟩ (⟨rfl, q2⟩)

set_option maxRecDepth 100000 in
set_option maxHeartbeats 4000000 in
theorem ev_x_odds {h : List aC} {σ : Sg} (H : RC h σ) (ok : okSg σ) (y : Int32) : Ev mX8_odds 14 0 0 [.ref 0, .int y] h (spL h (oOdds σ y)) := by
  obtain ⟨hO0, hS, ⟨ci, hI, hI2⟩, ⟨cd, hDr⟩, hLt, hL, hH, ⟨⟨sw_, sc_, sgs, sgk, hX⟩, ⟨xn, xm, xF, xS, xA, hXP⟩⟩, ⟨tn, tm, tF, tS, tA, hTh⟩, ⟨pn, pm, pF, pS, pA, hSp⟩, hRf⟩ := id H
  obtain ⟨hO1, F, S, A, K, U, C, T, hP, hf, hT, ht, hR, hC, hl⟩ := id hS
  have hO1 : rd h 1 = some (.inr (6, [.ref 2, .ref 6, .ref 9])) := hO1
  have hP : PA h 2 _ _ F S A := hP
  have hT : TA h 6 _ K U := hT
  have hR : RA h 9 _ C T := hR
  obtain ⟨-, -, -, -, lF, lS, lA⟩ := id hP
  obtain ⟨-, -, -, lK, lU⟩ := id hT
  obtain ⟨-, -, -, lC, lT⟩ := id hR
  obtain ⟨okc, ⟨okl, okw⟩, okn, ⟨okh, oke⟩, oki, okr⟩ := id ok
  obtain ⟨k1, k2, k3, k4, k5, k6, k7, k8, k9⟩ := id okc
  have hbn : bnd σ.1.1 σ.1.2.1 F S A := okc.bnd hf
  refine Ev.of pX8_odds (Nat.le_of_ble_eq_true rfl) ?_
  show G mX8_odds (rmD 14 0 0) none _ 0 0 0 [(0, .ref 0), (1, .int y)] [] h
  obtain ⟨nx1, o1⟩ := HR.o hH
  refine g_iload_n dX8_odds_0 1 rfl ?_
  refine g_if_lt 9 dX8_odds_1 (by decide) (fun c1 => ?_) (fun c1 => ?_)
  · refine g_aload_n dX8_odds_9 0 rfl ?_
    refine g_bipush (v := (-2)) dX8_odds_10 (by decide +kernel) ?_
    rw [show oOdds σ y = rfL σ 2 from if_pos (by first | exact Or.inl c1 | exact Or.inr c6)]
    refine g_callVq (st1 := [.long (4000000000000000000 - (-nI 2).toInt64)]) dX8_odds_12 (ev_refuseLong H ok 2 (by unfold noN; omega)) oX8_refuseLong wiX8_refuseLong weX8_refuseLong wmX8_243 kX8 (hO0) rfl ⟨(Nat.le_of_ble_eq_true rfl), (Nat.le_of_ble_eq_true rfl)⟩ ⟨Nat.zero_le _, Nat.zero_le _⟩ (Nat.le_of_ble_eq_true rfl) rfl rfl (fun h2 q2 => ?_)
    exact g_lret dX8_odds_15 rfl ⟨Nat.zero_le _, Nat.zero_le _⟩ (⟨rfl, q2⟩)
  · refine g_iload_n dX8_odds_4 1 rfl ?_
    refine g_iconst (v := nI 1) dX8_odds_5 (by decide +kernel) ?_
    refine g_icmp_le 16 dX8_odds_6 (by decide) (fun c6 => ?_) (fun c6 => ?_)
    · rw [show oOdds σ y = _ from if_neg (fun z => by rcases z with z | z; exact c1 z; exact z c6)]
      refine g_aload_n dX8_odds_16 0 rfl ?_
      refine g_getf dX8_odds_17 kX8 wfX8_10 (Nat.le_of_ble_eq_true rfl) (hO0) rfl ?_
      refine g_getf dX8_odds_20 kX6 wfX8_97 (Nat.le_of_ble_eq_true rfl) (hO1) rfl ?_
      refine g_getf dX8_odds_23 kX3 wfX8_100 (Nat.le_of_ble_eq_true rfl) (hP.1) rfl ?_
      refine g_bipush (v := nI 11) dX8_odds_26 (by decide +kernel) ?_
      refine g_icmp_leN 38 dX8_odds_28 (by decide) (by omega) (by omega) (fun c28 => ?_) (fun c28 => ?_)
      · rw [if_pos (show σ.1.1 ≤ 11 by omega)]
        obtain ⟨y1, hy1, rfl⟩ := nn_of (Int32.not_lt.mp c1)
        rw [cl_ hy1]
        refine g_aload_n dX8_odds_38 0 rfl ?_
        refine g_getf dX8_odds_39 kX8 wfX8_50 (Nat.le_of_ble_eq_true rfl) (hO0) rfl ?_
        refine g_aload_n dX8_odds_42 0 rfl ?_
        refine g_getf dX8_odds_43 kX8 wfX8_10 (Nat.le_of_ble_eq_true rfl) (hO0) rfl ?_
        refine g_getf dX8_odds_46 kX6 wfX8_97 (Nat.le_of_ble_eq_true rfl) (hO1) rfl ?_
        refine g_getf dX8_odds_49 kX3 wfX8_100 (Nat.le_of_ble_eq_true rfl) (hP.1) rfl ?_
        refine g_iconst (v := (-1)) dX8_odds_52 (by decide +kernel) ?_
        refine g_callVq (st1 := []) dX8_odds_53 (ev_goStarters hX hXP σ.1.1 (by omega) (-1)) oX5_goThroughStarters wiX5_goThroughStarters weX5_goThroughStarters wmX8_228 kX5 (hX) rfl ⟨(Nat.le_of_ble_eq_true rfl), (Nat.le_of_ble_eq_true rfl)⟩ ⟨Nat.zero_le _, Nat.zero_le _⟩ (Nat.le_of_ble_eq_true rfl) rfl rfl (fun h3 q3 => ?_)
        obtain ⟨c1, gg, gk, F1, S1, A1, q3x, q3p, qP, qg, q3s⟩ := q3
        rw [show E σ.1.1 ((σ.1.1 - 1) / 2) [] = stL σ.1.1 from rfl] at qP qg
        have b3_2 := hP.mv q3s (by omega)
        have b3_6 := hT.mv q3s (by omega)
        have b3_9 := hR.mv q3s (by omega)
        have b3_12 := hI.mv q3s (by omega)
        have b3_23 := hDr.mv q3s (by omega)
        have b3_42 := hH.mv q3s (by omega)
        obtain ⟨nx4, o4⟩ := HR.o b3_42
        have b3_34 := hLt.mv q3s (by omega)
        have b3_36 := hL.mv q3s (by omega)
        have b3_89 := hTh.mv q3s (by omega)
        have b3_93 := hSp.mv q3s (by omega)
        have f3_0 : rd h3 0 = some (.inr (8, [.ref 1, .ref 12, .ref 23, .int (nI (bI σ.2.2.2.2.1.isSome)), .ref 34, .ref 36, .ref 42, .ref 84, .ref 89, .ref 93, .ref 97])) := by rw [q3s _ (by omega)]; exact hO0
        have f3_1 : rd h3 1 = some (.inr (6, [.ref 2, .ref 6, .ref 9])) := by rw [q3s _ (by omega)]; exact hO1
        have f3_97 : rd h3 97 = some (.inl (σ.2.2.2.2.2)) := by rw [q3s _ (by omega)]; exact hRf
        have ll := stL_len (n := σ.1.1) k2
        obtain ⟨-, -, -, -, l1F, l1S, l1A⟩ := id q3p
        obtain ⟨g1, g2⟩ := qg (by decide)
        have e1 := Pst_n qP (by decide)
        have g3 := cnB_le (sgB σ.1.1) (stL σ.1.1)
        have g4 := stL_pos k1 (by omega) k3
        rw [← g1, ← e1] at g3
        rw [← e1] at ll g4
        rw [← g1, ← e1]
        have g5 := Nat.gcd_pos_of_pos_right gg g4
        have g6 := Nat.gcd_le_right gg g4
        refine g_iconst (v := nI 1) dX8_odds_56 (by decide +kernel) ?_
        refine g_aload_n dX8_odds_57 0 rfl ?_
        refine g_getf dX8_odds_58 kX8 wfX8_50 (Nat.le_of_ble_eq_true rfl) (f3_0) rfl ?_
        refine g_getf dX8_odds_61 kX5 wfX8_147 (Nat.le_of_ble_eq_true rfl) (q3x) rfl ?_
        refine g_callSp dX8_odds_64 (ev_max (1) (c1) (by omega) (by omega) _) oJ9_max_7cf53 wsJ9_max_7cf53 wmX8_247 rfl ⟨(Nat.le_of_ble_eq_true rfl), (Nat.le_of_ble_eq_true rfl)⟩ ⟨Nat.zero_le _, Nat.zero_le _⟩ (Nat.le_of_ble_eq_true rfl) rfl ?_
        refine g_top (show nI (max (1) (c1)) = nI c1 from congrArg nI (Nat.max_eq_right (by omega))) ?_
        refine g_istore_n (ls' := [(2, .int (nI c1)), (0, .ref 0), (1, .int (nI y1))]) dX8_odds_67 (Nat.le_of_ble_eq_true rfl) rfl ?_
        refine g_iconst (v := nI 1) dX8_odds_68 (by decide +kernel) ?_
        refine g_aload_n dX8_odds_69 1 rfl ?_
        refine g_getf dX8_odds_70 kX8 wfX8_50 (Nat.le_of_ble_eq_true rfl) (f3_0) rfl ?_
        refine g_getf dX8_odds_73 kX5 wfX8_237 (Nat.le_of_ble_eq_true rfl) (q3x) rfl ?_
        refine g_iload_n dX8_odds_76 0 rfl ?_
        refine g_callSp dX8_odds_77 (ev_gcd gg c1 _ (by omega) (by omega) (by omega)) oX8_greatestCommon wsX8_greatestCommon wmX8_252 rfl ⟨(Nat.le_of_ble_eq_true rfl), (Nat.le_of_ble_eq_true rfl)⟩ ⟨Nat.zero_le _, Nat.zero_le _⟩ (Nat.le_of_ble_eq_true rfl) rfl ?_
        refine g_callSp dX8_odds_80 (ev_max (1) (Nat.gcd gg c1) (by omega) (by omega) _) oJ9_max_7cf53 wsJ9_max_7cf53 wmX8_247 rfl ⟨(Nat.le_of_ble_eq_true rfl), (Nat.le_of_ble_eq_true rfl)⟩ ⟨Nat.zero_le _, Nat.zero_le _⟩ (Nat.le_of_ble_eq_true rfl) rfl ?_
        refine g_top (show nI (max (1) (Nat.gcd gg c1)) = nI (Nat.gcd gg c1) from congrArg nI (Nat.max_eq_right (by omega))) ?_
        refine g_istore_n (ls' := [(3, .int (nI (Nat.gcd gg c1))), (2, .int (nI c1)), (0, .ref 0), (1, .int (nI y1))]) dX8_odds_83 (Nat.le_of_ble_eq_true rfl) rfl ?_
        refine g_iload_n dX8_odds_84 3 rfl ?_
        refine g_if_neN 98 dX8_odds_85 (by decide) hy1 (fun c85 => ?_) (fun c85 => ?_)
        · refine g_iload_n dX8_odds_98 1 rfl ?_
          refine g_iload_n dX8_odds_99 0 rfl ?_
          refine g_idivN dX8_odds_100 (by omega) (by omega) (by omega) ?_
          refine g_i2l (v := lN (c1 / (Nat.gcd gg c1))) dX8_odds_101 (nI_l (Nat.lt_of_le_of_lt (Nat.div_le_self _ _) (by omega))) ?_
          exact g_lret dX8_odds_102 rfl ⟨Nat.zero_le _, Nat.zero_le _⟩ (⟨by rw [if_neg (by omega)], ⟨f3_0, ⟨f3_1, _, _, _, _, _, _, _, b3_2, hf, b3_6, ht, b3_9, hC, hl⟩, ⟨_, b3_12, hI2⟩, ⟨_, b3_23⟩, b3_34, b3_36, b3_42, ⟨⟨_, _, _, _, q3x⟩, ⟨_, _, _, _, _, q3p⟩⟩, ⟨_, _, _, _, _, b3_89⟩, ⟨_, _, _, _, _, b3_93⟩, f3_97⟩, (fun q hq => by rw [q3s q (by omega)])⟩)
        · refine g_aload_n dX8_odds_88 2 rfl ?_
          refine g_getf dX8_odds_89 kX8 wfX8_50 (Nat.le_of_ble_eq_true rfl) (f3_0) rfl ?_
          refine g_getf dX8_odds_92 kX5 wfX8_237 (Nat.le_of_ble_eq_true rfl) (q3x) rfl ?_
          refine g_goto 99 dX8_odds_95 (by decide) ?_
          refine g_iload_n dX8_odds_99 0 rfl ?_
          refine g_idivN dX8_odds_100 (by omega) (by omega) (by omega) ?_
          refine g_i2l (v := lN (gg / (Nat.gcd gg c1))) dX8_odds_101 (nI_l (Nat.lt_of_le_of_lt (Nat.div_le_self _ _) (by omega))) ?_
          exact g_lret dX8_odds_102 rfl ⟨Nat.zero_le _, Nat.zero_le _⟩ (⟨by rw [if_pos c85], ⟨f3_0, ⟨f3_1, _, _, _, _, _, _, _, b3_2, hf, b3_6, ht, b3_9, hC, hl⟩, ⟨_, b3_12, hI2⟩, ⟨_, b3_23⟩, b3_34, b3_36, b3_42, ⟨⟨_, _, _, _, q3x⟩, ⟨_, _, _, _, _, q3p⟩⟩, ⟨_, _, _, _, _, b3_89⟩, ⟨_, _, _, _, _, b3_93⟩, f3_97⟩, (fun q hq => by rw [q3s q (by omega)])⟩)
      · refine g_aload_n dX8_odds_31 0 rfl ?_
        refine g_bipush (v := (-3)) dX8_odds_32 (by decide +kernel) ?_
        rw [if_neg (show ¬ σ.1.1 ≤ 11 by omega)]
        refine g_callVq (st1 := [.long (4000000000000000000 - (-nI 3).toInt64)]) dX8_odds_34 (ev_refuseLong H ok 3 (by unfold noN; omega)) oX8_refuseLong wiX8_refuseLong weX8_refuseLong wmX8_243 kX8 (hO0) rfl ⟨(Nat.le_of_ble_eq_true rfl), (Nat.le_of_ble_eq_true rfl)⟩ ⟨Nat.zero_le _, Nat.zero_le _⟩ (Nat.le_of_ble_eq_true rfl) rfl rfl (fun h5 q5 => ?_)
        exact g_lret dX8_odds_37 rfl ⟨Nat.zero_le _, Nat.zero_le _⟩ (⟨rfl, q5⟩)
    · refine g_aload_n dX8_odds_9 0 rfl ?_
      refine g_bipush (v := (-2)) dX8_odds_10 (by decide +kernel) ?_
      rw [show oOdds σ y = rfL σ 2 from if_pos (by first | exact Or.inl c1 | exact Or.inr c6)]
      refine g_callVq (st1 := [.long (4000000000000000000 - (-nI 2).toInt64)]) dX8_odds_12 (ev_refuseLong H ok 2 (by unfold noN; omega)) oX8_refuseLong wiX8_refuseLong weX8_refuseLong wmX8_243 kX8 (hO0) rfl ⟨(Nat.le_of_ble_eq_true rfl), (Nat.le_of_ble_eq_true rfl)⟩ ⟨Nat.zero_le _, Nat.zero_le _⟩ (Nat.le_of_ble_eq_true rfl) rfl rfl (fun h6 q6 => ?_)
      exact g_lret dX8_odds_15 rfl ⟨Nat.zero_le _, Nat.zero_le _⟩ (⟨rfl, q6⟩)
