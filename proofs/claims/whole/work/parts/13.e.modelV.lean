theorem lN_t64 {a : Nat} (h : a < 2 ^ 31) : (lN a).toInt = a := Int64.toInt_ofNat_of_lt (by omega)
theorem lN_div {a b : Nat} (ha : a < 2 ^ 31) (hb : b < 2 ^ 31) : lN a / lN b = lN (a / b) := by
  have l : a / b ≤ a := Nat.div_le_self _ _
  apply Int64.toInt_inj.mp
  rw [Int64.toInt_div, lN_t64 ha, lN_t64 hb, lN_t64 (by omega), ← Int.ofNat_tdiv]
  generalize a / b = t at l ⊢
  exact Int.bmod_eq_of_le (by omega) (by omega)
theorem lN_rem {a b : Nat} (ha : a < 2 ^ 31) (hb : b < 2 ^ 31) : lN a - lN a / lN b * lN b = lN (a % b) := by
  have l : a / b ≤ a := Nat.div_le_self _ _
  have e := Nat.div_add_mod a b
  have l2 : a % b ≤ a := Nat.mod_le _ _
  have e2 : (a / b) * b = b * (a / b) := Nat.mul_comm _ _
  rw [lN_div ha hb]
  apply Int64.toInt_inj.mp
  rw [Int64.toInt_sub, Int64.toInt_mul, lN_t64 ha, lN_t64 hb, lN_t64 (by omega), lN_t64 (by omega), ← Int.natCast_mul, e2, Int.bmod_eq_of_le (n := ((b * (a / b) : Nat) : Int)) (by omega) (by omega)]
  rw [show ((a : Int) - ((b * (a / b) : Nat) : Int)) = ((a % b : Nat) : Int) by omega]
  exact Int.bmod_eq_of_le (by omega) (by omega)
theorem lN_ne {b : Nat} (hb : b < 2 ^ 31) (h : 0 < b) : ¬ lN b = 0 := fun e => by
  have z := congrArg Int64.toInt e
  rw [lN_t64 hb] at z
  have z : (b : Int) = 0 := z
  omega
theorem lcmp0 {b : Nat} (hb : b < 2 ^ 31) : lg_cmp (lN b) (lN 0) = nI (bI (decide (b ≠ 0))) := by
  unfold lg_cmp
  have e0 : (lN 0).toInt = 0 := lN_t64 (by omega)
  by_cases q : b = 0
  · subst q
    rw [if_neg (fun z => by rw [gt_iff_lt, Int64.lt_iff_toInt_lt] at z; omega), if_pos rfl]; rfl
  · rw [if_pos (show lN b > lN 0 by rw [gt_iff_lt, Int64.lt_iff_toInt_lt, e0, lN_t64 hb]; omega), decide_eq_true q]; rfl
theorem gcd_r (a b : Nat) : Nat.gcd b (a % b) = Nat.gcd a b := by rw [Nat.gcd_comm a b, Nat.gcd_rec b a, Nat.gcd_comm]

set_option maxRecDepth 100000 in
set_option maxHeartbeats 4000000 in
theorem lp_lowest {h : List aC} {a0 b0 p : Nat} (ha : a0 < 2 ^ 31) (hb : b0 < 2 ^ 31) (hp : p < 2 ^ 31) (h0 : 0 < b0) : ∀ j y x, y ≤ j → x < 2 ^ 31 → y < 2 ^ 31 → Nat.gcd x y = Nat.gcd a0 b0 → G mX9_lowest (rmD 1 0 0) none (pv (.long (lN ((if p = 0 then a0 else b0) / Nat.gcd a0 b0))) h) 0 0 6 [(7, .long (lN y)), (5, .long (lN x)), (0, .long (lN a0)), (2, .long (lN b0)), (4, .int (nI p))] [] h := by
  have gp := Nat.gcd_pos_of_pos_right a0 h0
  intro j
  induction j with
  | zero =>
    intro y x hy hx hy2 hg
    have gl : Nat.gcd a0 b0 < 2 ^ 31 := Nat.lt_of_le_of_lt (Nat.gcd_le_right a0 h0) hb
    have hy : y ≤ 0 := hy
    have y0 : y = 0 := by omega
    refine g_lload dX9_lowest_6 0 rfl ?_
    refine g_lconst (v := lN 0) dX9_lowest_8 rfl ?_
    refine g_lcmp (v := nI (bI (decide (y ≠ 0)))) dX9_lowest_9 (lcmp0 hy2) ?_
    refine g_if_eqB 31 dX9_lowest_10 (by decide) (fun c10 => ?_) (fun z => absurd z (by rw [y0]; decide))
    have yz : y = 0 := Decidable.byContradiction (of_decide_eq_false c10)
    have xg : x = Nat.gcd a0 b0 := by rw [← hg, yz, Nat.gcd_zero_right]
    refine g_iload dX9_lowest_31 4 rfl ?_
    refine g_if_neN 40 dX9_lowest_33 (by decide) (by omega) (fun c33 => ?_) (fun c33 => ?_)
    · refine g_lload_n dX9_lowest_40 3 rfl ?_
      refine g_lload dX9_lowest_41 1 rfl ?_
      refine g_ldiv dX9_lowest_43 (lN_ne hx (by omega)) ?_
      exact g_lret dX9_lowest_44 rfl ⟨Nat.zero_le _, Nat.zero_le _⟩ (⟨by rw [xg, lN_div (by omega) gl, if_neg (by omega)], rfl⟩)
    · refine g_lload_n dX9_lowest_36 2 rfl ?_
      refine g_goto 41 dX9_lowest_37 (by decide) ?_
      refine g_lload dX9_lowest_41 1 rfl ?_
      refine g_ldiv dX9_lowest_43 (lN_ne hx (by omega)) ?_
      exact g_lret dX9_lowest_44 rfl ⟨Nat.zero_le _, Nat.zero_le _⟩ (⟨by rw [xg, lN_div (by omega) gl, if_pos c33], rfl⟩)
  | succ j ih =>
    intro y x hy hx hy2 hg
    have gl : Nat.gcd a0 b0 < 2 ^ 31 := Nat.lt_of_le_of_lt (Nat.gcd_le_right a0 h0) hb
    refine g_lload dX9_lowest_6 0 rfl ?_
    refine g_lconst (v := lN 0) dX9_lowest_8 rfl ?_
    refine g_lcmp (v := nI (bI (decide (y ≠ 0)))) dX9_lowest_9 (lcmp0 hy2) ?_
    refine g_if_eqB 31 dX9_lowest_10 (by decide) (fun c10 => ?_) (fun c10 => ?_)
    · have yz : y = 0 := Decidable.byContradiction (of_decide_eq_false c10)
      have xg : x = Nat.gcd a0 b0 := by rw [← hg, yz, Nat.gcd_zero_right]
      refine g_iload dX9_lowest_31 4 rfl ?_
      refine g_if_neN 40 dX9_lowest_33 (by decide) (by omega) (fun c33 => ?_) (fun c33 => ?_)
      · refine g_lload_n dX9_lowest_40 3 rfl ?_
        refine g_lload dX9_lowest_41 1 rfl ?_
        refine g_ldiv dX9_lowest_43 (lN_ne hx (by omega)) ?_
        exact g_lret dX9_lowest_44 rfl ⟨Nat.zero_le _, Nat.zero_le _⟩ (⟨by rw [xg, lN_div (by omega) gl, if_neg (by omega)], rfl⟩)
      · refine g_lload_n dX9_lowest_36 2 rfl ?_
        refine g_goto 41 dX9_lowest_37 (by decide) ?_
        refine g_lload dX9_lowest_41 1 rfl ?_
        refine g_ldiv dX9_lowest_43 (lN_ne hx (by omega)) ?_
        exact g_lret dX9_lowest_44 rfl ⟨Nat.zero_le _, Nat.zero_le _⟩ (⟨by rw [xg, lN_div (by omega) gl, if_pos c33], rfl⟩)
    · refine g_lload dX9_lowest_13 1 rfl ?_
      refine g_lload dX9_lowest_15 0 rfl ?_
      have yp : 0 < y := by have := of_decide_eq_true c10; omega
      have ml := Nat.mod_lt x yp
      refine g_lrem dX9_lowest_17 (lN_ne hy2 yp) ?_
      refine g_topl (lN_rem hx hy2) ?_
      refine g_lstore (ls' := [(9, .long (lN (x % y))), (7, .long (lN y)), (5, .long (lN x)), (0, .long (lN a0)), (2, .long (lN b0)), (4, .int (nI p))]) dX9_lowest_18 (Nat.le_of_ble_eq_true rfl) rfl ?_
      refine g_lload dX9_lowest_20 1 rfl ?_
      refine g_lstore (ls' := [(5, .long (lN y)), (9, .long (lN (x % y))), (7, .long (lN y)), (0, .long (lN a0)), (2, .long (lN b0)), (4, .int (nI p))]) dX9_lowest_22 (Nat.le_of_ble_eq_true rfl) rfl ?_
      refine g_lload dX9_lowest_24 1 rfl ?_
      refine g_lstore (ls' := [(7, .long (lN (x % y))), (5, .long (lN y)), (9, .long (lN (x % y))), (0, .long (lN a0)), (2, .long (lN b0)), (4, .int (nI p))]) dX9_lowest_26 (Nat.le_of_ble_eq_true rfl) rfl ?_
      refine g_goto 6 dX9_lowest_28 (by decide) ?_
      refine g_lsub_ (ls2 := [(7, .long (lN (x % y))), (5, .long (lN y)), (0, .long (lN a0)), (2, .long (lN b0)), (4, .int (nI p))]) [0, 1, 3, 4, 5] rfl ?_
      exact ih (x % y) y (by omega) hy2 (by omega) (by rw [gcd_r, hg])

set_option maxRecDepth 100000 in
set_option maxHeartbeats 4000000 in
theorem ev_lowest {h : List aC} (a0 b0 p : Nat) (ha : a0 < 2 ^ 31) (hb : b0 < 2 ^ 31) (hp : p < 2 ^ 31) (h0 : 0 < b0) : Ev mX9_lowest 1 0 0 [.long (lN a0), .long (lN b0), .int (nI p)] h (pv (.long (lN ((if p = 0 then a0 else b0) / Nat.gcd a0 b0))) h) := by
  refine Ev.of pX9_lowest (Nat.le_of_ble_eq_true rfl) ?_
  show G mX9_lowest (rmD 1 0 0) none _ 0 0 0 [(0, .long (lN a0)), (2, .long (lN b0)), (4, .int (nI p))] [] h
  refine g_lload_n dX9_lowest_0 0 rfl ?_
  refine g_lstore (ls' := [(5, .long (lN a0)), (0, .long (lN a0)), (2, .long (lN b0)), (4, .int (nI p))]) dX9_lowest_1 (Nat.le_of_ble_eq_true rfl) rfl ?_
  refine g_lload_n dX9_lowest_3 2 rfl ?_
  refine g_lstore (ls' := [(7, .long (lN b0)), (5, .long (lN a0)), (0, .long (lN a0)), (2, .long (lN b0)), (4, .int (nI p))]) dX9_lowest_4 (Nat.le_of_ble_eq_true rfl) rfl ?_
  exact lp_lowest ha hb hp h0 b0 b0 a0 (Nat.le_refl _) ha hb rfl

theorem m1_eq {x : Int32} (h1 : -1 ≤ x) (h2 : x < 0) : x = -1 := by
  rw [Int32.le_iff_toInt_le, show (-1 : Int32).toInt = -1 by decide] at h1
  rw [Int32.lt_iff_toInt_lt, show (0 : Int32).toInt = 0 by decide] at h2
  exact Int32.toInt_inj.mp (by rw [show (-1 : Int32).toInt = -1 by decide]; omega)
theorem m1_ne {x : Int32} (h : ¬ x < 0) : ¬ x = -1 := fun e => h (by rw [e]; decide)

set_option maxRecDepth 100000 in
set_option maxHeartbeats 4000000 in
theorem ev_y_starters {h : List aC} {σ : Sg} (H : RM h σ) (ok : okSg σ) (x k : Int32) : Ev mX9_starters 13 0 0 [.ref 98, .int x, .int k] h (spM h (oStarters σ x k)) := by
  obtain ⟨fo, as_, sm, sk, z, iN, iM, iT, P, Ro, U, rf, WM, WP, WR, Tr, Ke, Co, Th, Be, Le, AP, AR, AU, Sz, It, IP, IR, IU, mO, mP, mRo, mU, mrf, mWM, mWP, mWR, mTr, mKe, mCo, mTh, mBe, mLe, mAP, mAR, mAU, mSz, mIt, mIP, mIR, mIU, vP, vR, vU, vF, vH, vL, vS, vI, vG⟩ := id H
  have mO : rd h 98 = some (.inr (9, [.int (nI σ.1.1), .int (nI σ.1.2.1), .ref 99, .ref 100, .ref 101, .int (nI σ.1.2.2.2.1), .ref 102, .int (nI ((σ.2.2.2.1).length)), .ref 103, .ref 104, .ref 105, .int fo, .int as_, .int sm, .int sk, .ref 106, .ref 107, .ref 108, .int z, .ref 109, .ref 110, .ref 111, .int (nI σ.2.1.1), .ref 112, .ref 113, .ref 114, .ref 115, .ref 116, .int (nI (bI σ.2.2.2.2.1.isSome)), .int iN, .int iM, .int iT, .ref 117, .ref 118, .ref 119])) := mO
  obtain ⟨mP, lP⟩ := mP
  obtain ⟨mRo, lRo⟩ := mRo
  obtain ⟨mU, lU⟩ := mU
  obtain ⟨mrf, lrf⟩ := mrf
  obtain ⟨mWM, lWM⟩ := mWM
  obtain ⟨mWP, lWP⟩ := mWP
  obtain ⟨mWR, lWR⟩ := mWR
  obtain ⟨mTr, lTr⟩ := mTr
  obtain ⟨mKe, lKe⟩ := mKe
  obtain ⟨mCo, lCo⟩ := mCo
  obtain ⟨mTh, lTh⟩ := mTh
  obtain ⟨mBe, lBe⟩ := mBe
  obtain ⟨mLe, lLe⟩ := mLe
  obtain ⟨mAP, lAP⟩ := mAP
  obtain ⟨mAR, lAR⟩ := mAR
  obtain ⟨mAU, lAU⟩ := mAU
  obtain ⟨mSz, lSz⟩ := mSz
  obtain ⟨mIt, lIt⟩ := mIt
  obtain ⟨mIP, lIP⟩ := mIP
  obtain ⟨mIR, lIR⟩ := mIR
  obtain ⟨mIU, lIU⟩ := mIU
  obtain ⟨okc, ⟨okl, okw⟩, okn, ⟨okh, oke⟩, oki, okr⟩ := id ok
  obtain ⟨k1, k2, k3, k4, k5, k6, k7, k8, k9⟩ := id okc
  refine Ev.of pX9_starters (Nat.le_of_ble_eq_true rfl) ?_
  show G mX9_starters (rmD 13 0 0) none _ 0 0 0 [(0, .ref 98), (1, .int x), (2, .int k)] [] h
  refine g_iload_n dX9_starters_0 1 rfl ?_
  refine g_iconst (v := (-1)) dX9_starters_1 (by decide +kernel) ?_
  refine g_icmp_ge 12 dX9_starters_2 (by decide) (fun c2 => ?_) (fun c2 => ?_)
  · rw [show oStarters σ x k = _ from if_pos c2]
    refine g_aload_n dX9_starters_12 0 rfl ?_
    refine g_getf dX9_starters_13 kX9 wfX9_7 (Nat.le_of_ble_eq_true rfl) (mO) rfl ?_
    refine g_bipush (v := nI 11) dX9_starters_16 (by decide +kernel) ?_
    refine g_icmp_leN 28 dX9_starters_18 (by decide) (by omega) (by omega) (fun c18 => ?_) (fun c18 => ?_)
    · rw [if_pos (show σ.1.1 ≤ 11 by omega)]
      have sl := stL_len (n := σ.1.1) (by omega)
      refine g_iload_n dX9_starters_28 1 rfl ?_
      refine g_if_lt 54 dX9_starters_29 (by decide) (fun c29 => ?_) (fun c29 => ?_)
      · rw [if_neg (show ¬ (¬ x < 0 ∧ (k < 0 ∨ ¬ k < nI ((σ.1.1 - 1) / 2))) from fun z => z.1 c29)]
        have hx : x = -1 := m1_eq c2 c29
        refine g_aload_n dX9_starters_54 0 rfl ?_
        refine g_iload_n dX9_starters_55 1 rfl ?_
        refine g_callVq (st1 := []) dX9_starters_56 (ev_findsS (show MO h _ _ _ _ _ _ _ _ _ _ _ _ _ _ from mO) k1 (by omega) k3 mTr lTr mKe lKe x) oX9_findsStarters wiX9_findsStarters weX9_findsStarters wmX9_179 kX9 (mO) rfl ⟨(Nat.le_of_ble_eq_true rfl), (Nat.le_of_ble_eq_true rfl)⟩ ⟨Nat.zero_le _, Nat.zero_le _⟩ (Nat.le_of_ble_eq_true rfl) rfl rfl (fun h1 q1 => ?_)
        obtain ⟨Tz, Kz, oz, tz, ltz, yz, lyz, kpz, sz⟩ := q1
        have f1_99 : rd h1 99 = some (.inl (P)) := by rw [sz _ (by omega)]; exact mP
        have f1_100 : rd h1 100 = some (.inl (Ro)) := by rw [sz _ (by omega)]; exact mRo
        have f1_101 : rd h1 101 = some (.inl (U)) := by rw [sz _ (by omega)]; exact mU
        have f1_102 : rd h1 102 = some (.inl (rf)) := by rw [sz _ (by omega)]; exact mrf
        have f1_103 : rd h1 103 = some (.inl (WM)) := by rw [sz _ (by omega)]; exact mWM
        have f1_104 : rd h1 104 = some (.inl (WP)) := by rw [sz _ (by omega)]; exact mWP
        have f1_105 : rd h1 105 = some (.inl (WR)) := by rw [sz _ (by omega)]; exact mWR
        have f1_108 : rd h1 108 = some (.inl (Co)) := by rw [sz _ (by omega)]; exact mCo
        have f1_109 : rd h1 109 = some (.inl (Th)) := by rw [sz _ (by omega)]; exact mTh
        have f1_110 : rd h1 110 = some (.inl (Be)) := by rw [sz _ (by omega)]; exact mBe
        have f1_111 : rd h1 111 = some (.inl (Le)) := by rw [sz _ (by omega)]; exact mLe
        have f1_112 : rd h1 112 = some (.inl (AP)) := by rw [sz _ (by omega)]; exact mAP
        have f1_113 : rd h1 113 = some (.inl (AR)) := by rw [sz _ (by omega)]; exact mAR
        have f1_114 : rd h1 114 = some (.inl (AU)) := by rw [sz _ (by omega)]; exact mAU
        have f1_115 : rd h1 115 = some (.inl (Sz)) := by rw [sz _ (by omega)]; exact mSz
        have f1_116 : rd h1 116 = some (.inl (It)) := by rw [sz _ (by omega)]; exact mIt
        have f1_117 : rd h1 117 = some (.inl (IP)) := by rw [sz _ (by omega)]; exact mIP
        have f1_118 : rd h1 118 = some (.inl (IR)) := by rw [sz _ (by omega)]; exact mIR
        have f1_119 : rd h1 119 = some (.inl (IU)) := by rw [sz _ (by omega)]; exact mIU
        refine g_iload_n dX9_starters_59 1 rfl ?_
        refine g_iconst (v := (-1)) dX9_starters_60 (by decide +kernel) ?_
        refine g_icmp_ne 71 dX9_starters_61 (by decide) (fun z => absurd z (not_not_intro hx)) (fun c61 => ?_)
        refine g_aload_n dX9_starters_64 0 rfl ?_
        refine g_getf dX9_starters_65 kX9 wfX9_161 (Nat.le_of_ble_eq_true rfl) (oz) rfl ?_
        refine g_goto 90 dX9_starters_68 (by decide) ?_
        exact g_iret dX9_starters_90 rfl ⟨Nat.zero_le _, Nat.zero_le _⟩ (⟨by rw [if_pos c29], ⟨_, _, _, _, _, _, _, _, _, _, _, _, _, _, _, _, _, _, _, _, _, _, _, _, _, _, _, _, _, oz, ⟨f1_99, lP⟩, ⟨f1_100, lRo⟩, ⟨f1_101, lU⟩, ⟨f1_102, lrf⟩, ⟨f1_103, lWM⟩, ⟨f1_104, lWP⟩, ⟨f1_105, lWR⟩, ⟨tz, ltz⟩, ⟨yz, lyz⟩, ⟨f1_108, lCo⟩, ⟨f1_109, lTh⟩, ⟨f1_110, lBe⟩, ⟨f1_111, lLe⟩, ⟨f1_112, lAP⟩, ⟨f1_113, lAR⟩, ⟨f1_114, lAU⟩, ⟨f1_115, lSz⟩, ⟨f1_116, lIt⟩, ⟨f1_117, lIP⟩, ⟨f1_118, lIR⟩, ⟨f1_119, lIU⟩, vP, vR, vU, vF, vH, vL, vS, vI, vG⟩, (fun q hq => by rw [sz q (by omega)])⟩)
      · refine g_iload_n dX9_starters_32 2 rfl ?_
        refine g_i2l dX9_starters_33 rfl ?_
        refine g_lconst (v := lN 0) dX9_starters_34 rfl ?_
        refine g_aload_n dX9_starters_35 0 rfl ?_
        refine g_callVp dX9_starters_36 (ev_half H ok) oX9_half wiX9_half weX9_half wmX9_113 kX9 (mO) rfl ⟨(Nat.le_of_ble_eq_true rfl), (Nat.le_of_ble_eq_true rfl)⟩ ⟨Nat.zero_le _, Nat.zero_le _⟩ (Nat.le_of_ble_eq_true rfl) rfl ?_
        refine g_iconst (v := nI 1) dX9_starters_39 (by decide +kernel) ?_
        refine g_isubN dX9_starters_40 (by omega) ?_
        refine g_i2l (v := lN (((σ.1.1 - 1) / 2) - 1)) dX9_starters_41 (nI_l (by omega)) ?_
        refine g_callSp dX9_starters_42 (ev_inN k 0 ((σ.1.1 - 1) / 2 - 1) (by decide) (by omega) _) oX9_in wsX9_in wmX9_98 rfl ⟨(Nat.le_of_ble_eq_true rfl), (Nat.le_of_ble_eq_true rfl)⟩ ⟨Nat.zero_le _, Nat.zero_le _⟩ (Nat.le_of_ble_eq_true rfl) rfl ?_
        refine g_top (show nI (bI (decide (nI 0 ≤ k ∧ k ≤ nI ((σ.1.1 - 1) / 2 - 1)))) = nI (bI (decide (0 ≤ k ∧ k < nI ((σ.1.1 - 1) / 2)))) from congrArg (fun z => nI (bI z)) (isN_eq (by omega) (by omega))) ?_
        refine g_if_neB 54 dX9_starters_45 (by decide) (fun c45 => ?_) (fun c45 => ?_)
        · rw [if_neg (show ¬ (¬ x < 0 ∧ (k < 0 ∨ ¬ k < nI ((σ.1.1 - 1) / 2))) from fun z => kn_t c45 z.2)]
          refine g_aload_n dX9_starters_54 0 rfl ?_
          refine g_iload_n dX9_starters_55 1 rfl ?_
          refine g_callVq (st1 := []) dX9_starters_56 (ev_findsS (show MO h _ _ _ _ _ _ _ _ _ _ _ _ _ _ from mO) k1 (by omega) k3 mTr lTr mKe lKe x) oX9_findsStarters wiX9_findsStarters weX9_findsStarters wmX9_179 kX9 (mO) rfl ⟨(Nat.le_of_ble_eq_true rfl), (Nat.le_of_ble_eq_true rfl)⟩ ⟨Nat.zero_le _, Nat.zero_le _⟩ (Nat.le_of_ble_eq_true rfl) rfl rfl (fun h2 q2 => ?_)
          obtain ⟨Tz, Kz, oz, tz, ltz, yz, lyz, kpz, sz⟩ := q2
          have f2_99 : rd h2 99 = some (.inl (P)) := by rw [sz _ (by omega)]; exact mP
          have f2_100 : rd h2 100 = some (.inl (Ro)) := by rw [sz _ (by omega)]; exact mRo
          have f2_101 : rd h2 101 = some (.inl (U)) := by rw [sz _ (by omega)]; exact mU
          have f2_102 : rd h2 102 = some (.inl (rf)) := by rw [sz _ (by omega)]; exact mrf
          have f2_103 : rd h2 103 = some (.inl (WM)) := by rw [sz _ (by omega)]; exact mWM
          have f2_104 : rd h2 104 = some (.inl (WP)) := by rw [sz _ (by omega)]; exact mWP
          have f2_105 : rd h2 105 = some (.inl (WR)) := by rw [sz _ (by omega)]; exact mWR
          have f2_108 : rd h2 108 = some (.inl (Co)) := by rw [sz _ (by omega)]; exact mCo
          have f2_109 : rd h2 109 = some (.inl (Th)) := by rw [sz _ (by omega)]; exact mTh
          have f2_110 : rd h2 110 = some (.inl (Be)) := by rw [sz _ (by omega)]; exact mBe
          have f2_111 : rd h2 111 = some (.inl (Le)) := by rw [sz _ (by omega)]; exact mLe
          have f2_112 : rd h2 112 = some (.inl (AP)) := by rw [sz _ (by omega)]; exact mAP
          have f2_113 : rd h2 113 = some (.inl (AR)) := by rw [sz _ (by omega)]; exact mAR
          have f2_114 : rd h2 114 = some (.inl (AU)) := by rw [sz _ (by omega)]; exact mAU
          have f2_115 : rd h2 115 = some (.inl (Sz)) := by rw [sz _ (by omega)]; exact mSz
          have f2_116 : rd h2 116 = some (.inl (It)) := by rw [sz _ (by omega)]; exact mIt
          have f2_117 : rd h2 117 = some (.inl (IP)) := by rw [sz _ (by omega)]; exact mIP
          have f2_118 : rd h2 118 = some (.inl (IR)) := by rw [sz _ (by omega)]; exact mIR
          have f2_119 : rd h2 119 = some (.inl (IU)) := by rw [sz _ (by omega)]; exact mIU
          refine g_iload_n dX9_starters_59 1 rfl ?_
          refine g_iconst (v := (-1)) dX9_starters_60 (by decide +kernel) ?_
          refine g_icmp_ne 71 dX9_starters_61 (by decide) (fun c61 => ?_) (fun z => absurd z (m1_ne c29))
          have n2 := of_decide_eq_true c45
          obtain ⟨x1, hx1, rfl⟩ := nn_of (Int32.not_lt.mp c29)
          obtain ⟨y1, hy1, rfl⟩ := nn_of n2.1
          rw [if_neg c29, cl_ hx1, cl_ hy1]
          have b2 := nn_lt hy1 (by omega) n2.2
          refine g_iload_n dX9_starters_71 1 rfl ?_
          refine g_aload_n dX9_starters_72 0 rfl ?_
          refine g_getf dX9_starters_73 kX9 wfX9_161 (Nat.le_of_ble_eq_true rfl) (oz) rfl ?_
          refine g_icmp_geN 88 dX9_starters_76 (by decide) (by omega) (by omega) (fun c76 => ?_) (fun c76 => ?_)
          · refine g_bipush (v := (-9)) dX9_starters_88 (by decide +kernel) ?_
            exact g_iret dX9_starters_90 rfl ⟨Nat.zero_le _, Nat.zero_le _⟩ (⟨by rw [if_neg (show ¬ x1 < (stL σ.1.1).length by omega)], ⟨_, _, _, _, _, _, _, _, _, _, _, _, _, _, _, _, _, _, _, _, _, _, _, _, _, _, _, _, _, oz, ⟨f2_99, lP⟩, ⟨f2_100, lRo⟩, ⟨f2_101, lU⟩, ⟨f2_102, lrf⟩, ⟨f2_103, lWM⟩, ⟨f2_104, lWP⟩, ⟨f2_105, lWR⟩, ⟨tz, ltz⟩, ⟨yz, lyz⟩, ⟨f2_108, lCo⟩, ⟨f2_109, lTh⟩, ⟨f2_110, lBe⟩, ⟨f2_111, lLe⟩, ⟨f2_112, lAP⟩, ⟨f2_113, lAR⟩, ⟨f2_114, lAU⟩, ⟨f2_115, lSz⟩, ⟨f2_116, lIt⟩, ⟨f2_117, lIP⟩, ⟨f2_118, lIR⟩, ⟨f2_119, lIU⟩, vP, vR, vU, vF, vH, vL, vS, vI, vG⟩, (fun q hq => by rw [sz q (by omega)])⟩)
          · refine g_aload_n dX9_starters_79 0 rfl ?_
            refine g_getf dX9_starters_80 kX9 wfX9_38 (Nat.le_of_ble_eq_true rfl) (oz) rfl ?_
            refine g_iload_n dX9_starters_83 2 rfl ?_
            refine g_ialI dX9_starters_84 (yz) (by omega) (by omega) ?_
            refine g_top (show (Kz).getD y1 0 = nI ((((stL σ.1.1).getD x1 []).getD y1 (0, 0)).2) from kpz x1 rfl (by omega) y1 b2) ?_
            refine g_goto 90 dX9_starters_85 (by decide) ?_
            exact g_iret dX9_starters_90 rfl ⟨Nat.zero_le _, Nat.zero_le _⟩ (⟨by rw [if_pos (show x1 < (stL σ.1.1).length by omega)], ⟨_, _, _, _, _, _, _, _, _, _, _, _, _, _, _, _, _, _, _, _, _, _, _, _, _, _, _, _, _, oz, ⟨f2_99, lP⟩, ⟨f2_100, lRo⟩, ⟨f2_101, lU⟩, ⟨f2_102, lrf⟩, ⟨f2_103, lWM⟩, ⟨f2_104, lWP⟩, ⟨f2_105, lWR⟩, ⟨tz, ltz⟩, ⟨yz, lyz⟩, ⟨f2_108, lCo⟩, ⟨f2_109, lTh⟩, ⟨f2_110, lBe⟩, ⟨f2_111, lLe⟩, ⟨f2_112, lAP⟩, ⟨f2_113, lAR⟩, ⟨f2_114, lAU⟩, ⟨f2_115, lSz⟩, ⟨f2_116, lIt⟩, ⟨f2_117, lIP⟩, ⟨f2_118, lIR⟩, ⟨f2_119, lIU⟩, vP, vR, vU, vF, vH, vL, vS, vI, vG⟩, (fun q hq => by rw [sz q (by omega)])⟩)
        · refine g_aload_n dX9_starters_48 0 rfl ?_
          refine g_iconst (v := (-1)) dX9_starters_49 (by decide +kernel) ?_
          rw [if_pos (show ¬ x < 0 ∧ (k < 0 ∨ ¬ k < nI ((σ.1.1 - 1) / 2)) from ⟨c29, kn_f c45⟩)]
          refine g_callVq (st1 := [.int (-nI 1)]) dX9_starters_50 (ev_refused H ok 1 (by unfold noN; omega)) oX9_refused wiX9_refused weX9_refused wmX9_90 kX9 (mO) rfl ⟨(Nat.le_of_ble_eq_true rfl), (Nat.le_of_ble_eq_true rfl)⟩ ⟨Nat.zero_le _, Nat.zero_le _⟩ (Nat.le_of_ble_eq_true rfl) rfl rfl (fun h3 q3 => ?_)
          exact g_iret dX9_starters_53 rfl ⟨Nat.zero_le _, Nat.zero_le _⟩ (⟨rfl, q3⟩)
    · refine g_aload_n dX9_starters_21 0 rfl ?_
      refine g_bipush (v := (-3)) dX9_starters_22 (by decide +kernel) ?_
      rw [if_neg (show ¬ σ.1.1 ≤ 11 by omega)]
      refine g_callVq (st1 := [.int (-nI 3)]) dX9_starters_24 (ev_refused H ok 3 (by unfold noN; omega)) oX9_refused wiX9_refused weX9_refused wmX9_90 kX9 (mO) rfl ⟨(Nat.le_of_ble_eq_true rfl), (Nat.le_of_ble_eq_true rfl)⟩ ⟨Nat.zero_le _, Nat.zero_le _⟩ (Nat.le_of_ble_eq_true rfl) rfl rfl (fun h4 q4 => ?_)
      exact g_iret dX9_starters_27 rfl ⟨Nat.zero_le _, Nat.zero_le _⟩ (⟨rfl, q4⟩)
  · refine g_aload_n dX9_starters_5 0 rfl ?_
    refine g_bipush (v := (-4)) dX9_starters_6 (by decide +kernel) ?_
    rw [show oStarters σ x k = rfS σ (-4) from if_neg c2]
    refine g_callVq (st1 := [.int (-nI 4)]) dX9_starters_8 (ev_refused H ok 4 (by unfold noN; omega)) oX9_refused wiX9_refused weX9_refused wmX9_90 kX9 (mO) rfl ⟨(Nat.le_of_ble_eq_true rfl), (Nat.le_of_ble_eq_true rfl)⟩ ⟨Nat.zero_le _, Nat.zero_le _⟩ (Nat.le_of_ble_eq_true rfl) rfl rfl (fun h5 q5 => ?_)
    exact g_iret dX9_starters_11 rfl ⟨Nat.zero_le _, Nat.zero_le _⟩ (⟨rfl, q5⟩)

set_option maxRecDepth 100000 in
set_option maxHeartbeats 4000000 in
theorem ev_y_strong {h : List aC} {σ : Sg} (H : RM h σ) (ok : okSg σ) (y : Int32) : Ev mX9_strong 13 0 0 [.ref 98, .int y] h (spM h (oStrong σ y)) := by
  obtain ⟨fo, as_, sm, sk, z, iN, iM, iT, P, Ro, U, rf, WM, WP, WR, Tr, Ke, Co, Th, Be, Le, AP, AR, AU, Sz, It, IP, IR, IU, mO, mP, mRo, mU, mrf, mWM, mWP, mWR, mTr, mKe, mCo, mTh, mBe, mLe, mAP, mAR, mAU, mSz, mIt, mIP, mIR, mIU, vP, vR, vU, vF, vH, vL, vS, vI, vG⟩ := id H
  have mO : rd h 98 = some (.inr (9, [.int (nI σ.1.1), .int (nI σ.1.2.1), .ref 99, .ref 100, .ref 101, .int (nI σ.1.2.2.2.1), .ref 102, .int (nI ((σ.2.2.2.1).length)), .ref 103, .ref 104, .ref 105, .int fo, .int as_, .int sm, .int sk, .ref 106, .ref 107, .ref 108, .int z, .ref 109, .ref 110, .ref 111, .int (nI σ.2.1.1), .ref 112, .ref 113, .ref 114, .ref 115, .ref 116, .int (nI (bI σ.2.2.2.2.1.isSome)), .int iN, .int iM, .int iT, .ref 117, .ref 118, .ref 119])) := mO
  obtain ⟨mP, lP⟩ := mP
  obtain ⟨mRo, lRo⟩ := mRo
  obtain ⟨mU, lU⟩ := mU
  obtain ⟨mrf, lrf⟩ := mrf
  obtain ⟨mWM, lWM⟩ := mWM
  obtain ⟨mWP, lWP⟩ := mWP
  obtain ⟨mWR, lWR⟩ := mWR
  obtain ⟨mTr, lTr⟩ := mTr
  obtain ⟨mKe, lKe⟩ := mKe
  obtain ⟨mCo, lCo⟩ := mCo
  obtain ⟨mTh, lTh⟩ := mTh
  obtain ⟨mBe, lBe⟩ := mBe
  obtain ⟨mLe, lLe⟩ := mLe
  obtain ⟨mAP, lAP⟩ := mAP
  obtain ⟨mAR, lAR⟩ := mAR
  obtain ⟨mAU, lAU⟩ := mAU
  obtain ⟨mSz, lSz⟩ := mSz
  obtain ⟨mIt, lIt⟩ := mIt
  obtain ⟨mIP, lIP⟩ := mIP
  obtain ⟨mIR, lIR⟩ := mIR
  obtain ⟨mIU, lIU⟩ := mIU
  obtain ⟨okc, ⟨okl, okw⟩, okn, ⟨okh, oke⟩, oki, okr⟩ := id ok
  obtain ⟨k1, k2, k3, k4, k5, k6, k7, k8, k9⟩ := id okc
  refine Ev.of pX9_strong (Nat.le_of_ble_eq_true rfl) ?_
  show G mX9_strong (rmD 13 0 0) none _ 0 0 0 [(0, .ref 98), (1, .int y)] [] h
  refine g_iload_n dX9_strong_0 1 rfl ?_
  refine g_i2l dX9_strong_1 rfl ?_
  refine g_lconst (v := lN 0) dX9_strong_2 rfl ?_
  refine g_lconst (v := lN 1) dX9_strong_3 rfl ?_
  refine g_callSp dX9_strong_4 (ev_inN (y) (0) (1) (by omega) (by omega) _) oX9_in wsX9_in wmX9_98 rfl ⟨(Nat.le_of_ble_eq_true rfl), (Nat.le_of_ble_eq_true rfl)⟩ ⟨Nat.zero_le _, Nat.zero_le _⟩ (Nat.le_of_ble_eq_true rfl) rfl ?_
  refine g_if_neB 17 dX9_strong_7 (by decide) (fun c7 => ?_) (fun c7 => ?_)
  · rw [show oStrong σ y = _ from if_neg (in4_t c7)]
    have n2 := of_decide_eq_true c7
    refine g_aload_n dX9_strong_17 0 rfl ?_
    refine g_getf dX9_strong_18 kX9 wfX9_7 (Nat.le_of_ble_eq_true rfl) (mO) rfl ?_
    refine g_bipush (v := nI 11) dX9_strong_21 (by decide +kernel) ?_
    refine g_icmp_leN 33 dX9_strong_23 (by decide) (by omega) (by omega) (fun c23 => ?_) (fun c23 => ?_)
    · rw [if_pos (show σ.1.1 ≤ 11 by omega)]
      obtain ⟨y1, hy1, rfl⟩ := nn_of n2.1
      rw [cl_ hy1]
      refine g_aload_n dX9_strong_33 0 rfl ?_
      refine g_iconst (v := (-1)) dX9_strong_34 (by decide +kernel) ?_
      refine g_callVq (st1 := []) dX9_strong_35 (ev_findsS (show MO h _ _ _ _ _ _ _ _ _ _ _ _ _ _ from mO) k1 (by omega) k3 mTr lTr mKe lKe (-1)) oX9_findsStarters wiX9_findsStarters weX9_findsStarters wmX9_179 kX9 (mO) rfl ⟨(Nat.le_of_ble_eq_true rfl), (Nat.le_of_ble_eq_true rfl)⟩ ⟨Nat.zero_le _, Nat.zero_le _⟩ (Nat.le_of_ble_eq_true rfl) rfl rfl (fun h1 q1 => ?_)
      obtain ⟨Tz, Kz, oz, tz, ltz, yz, lyz, kpz, sz⟩ := q1
      have f1_99 : rd h1 99 = some (.inl (P)) := by rw [sz _ (by omega)]; exact mP
      have f1_100 : rd h1 100 = some (.inl (Ro)) := by rw [sz _ (by omega)]; exact mRo
      have f1_101 : rd h1 101 = some (.inl (U)) := by rw [sz _ (by omega)]; exact mU
      have f1_102 : rd h1 102 = some (.inl (rf)) := by rw [sz _ (by omega)]; exact mrf
      have f1_103 : rd h1 103 = some (.inl (WM)) := by rw [sz _ (by omega)]; exact mWM
      have f1_104 : rd h1 104 = some (.inl (WP)) := by rw [sz _ (by omega)]; exact mWP
      have f1_105 : rd h1 105 = some (.inl (WR)) := by rw [sz _ (by omega)]; exact mWR
      have f1_108 : rd h1 108 = some (.inl (Co)) := by rw [sz _ (by omega)]; exact mCo
      have f1_109 : rd h1 109 = some (.inl (Th)) := by rw [sz _ (by omega)]; exact mTh
      have f1_110 : rd h1 110 = some (.inl (Be)) := by rw [sz _ (by omega)]; exact mBe
      have f1_111 : rd h1 111 = some (.inl (Le)) := by rw [sz _ (by omega)]; exact mLe
      have f1_112 : rd h1 112 = some (.inl (AP)) := by rw [sz _ (by omega)]; exact mAP
      have f1_113 : rd h1 113 = some (.inl (AR)) := by rw [sz _ (by omega)]; exact mAR
      have f1_114 : rd h1 114 = some (.inl (AU)) := by rw [sz _ (by omega)]; exact mAU
      have f1_115 : rd h1 115 = some (.inl (Sz)) := by rw [sz _ (by omega)]; exact mSz
      have f1_116 : rd h1 116 = some (.inl (It)) := by rw [sz _ (by omega)]; exact mIt
      have f1_117 : rd h1 117 = some (.inl (IP)) := by rw [sz _ (by omega)]; exact mIP
      have f1_118 : rd h1 118 = some (.inl (IR)) := by rw [sz _ (by omega)]; exact mIR
      have f1_119 : rd h1 119 = some (.inl (IU)) := by rw [sz _ (by omega)]; exact mIU
      refine g_iload_n dX9_strong_38 1 rfl ?_
      refine g_if_neN 49 dX9_strong_39 (by decide) (by omega) (fun c39 => ?_) (fun c39 => ?_)
      · refine g_aload_n dX9_strong_49 0 rfl ?_
        refine g_getf dX9_strong_50 kX9 wfX9_170 (Nat.le_of_ble_eq_true rfl) (oz) rfl ?_
        exact g_iret dX9_strong_53 rfl ⟨Nat.zero_le _, Nat.zero_le _⟩ (⟨by rw [if_neg (by omega)], ⟨_, _, _, _, _, _, _, _, _, _, _, _, _, _, _, _, _, _, _, _, _, _, _, _, _, _, _, _, _, oz, ⟨f1_99, lP⟩, ⟨f1_100, lRo⟩, ⟨f1_101, lU⟩, ⟨f1_102, lrf⟩, ⟨f1_103, lWM⟩, ⟨f1_104, lWP⟩, ⟨f1_105, lWR⟩, ⟨tz, ltz⟩, ⟨yz, lyz⟩, ⟨f1_108, lCo⟩, ⟨f1_109, lTh⟩, ⟨f1_110, lBe⟩, ⟨f1_111, lLe⟩, ⟨f1_112, lAP⟩, ⟨f1_113, lAR⟩, ⟨f1_114, lAU⟩, ⟨f1_115, lSz⟩, ⟨f1_116, lIt⟩, ⟨f1_117, lIP⟩, ⟨f1_118, lIR⟩, ⟨f1_119, lIU⟩, vP, vR, vU, vF, vH, vL, vS, vI, vG⟩, (fun q hq => by rw [sz q (by omega)])⟩)
      · refine g_aload_n dX9_strong_42 0 rfl ?_
        refine g_getf dX9_strong_43 kX9 wfX9_167 (Nat.le_of_ble_eq_true rfl) (oz) rfl ?_
        refine g_goto 53 dX9_strong_46 (by decide) ?_
        exact g_iret dX9_strong_53 rfl ⟨Nat.zero_le _, Nat.zero_le _⟩ (⟨by rw [if_pos c39], ⟨_, _, _, _, _, _, _, _, _, _, _, _, _, _, _, _, _, _, _, _, _, _, _, _, _, _, _, _, _, oz, ⟨f1_99, lP⟩, ⟨f1_100, lRo⟩, ⟨f1_101, lU⟩, ⟨f1_102, lrf⟩, ⟨f1_103, lWM⟩, ⟨f1_104, lWP⟩, ⟨f1_105, lWR⟩, ⟨tz, ltz⟩, ⟨yz, lyz⟩, ⟨f1_108, lCo⟩, ⟨f1_109, lTh⟩, ⟨f1_110, lBe⟩, ⟨f1_111, lLe⟩, ⟨f1_112, lAP⟩, ⟨f1_113, lAR⟩, ⟨f1_114, lAU⟩, ⟨f1_115, lSz⟩, ⟨f1_116, lIt⟩, ⟨f1_117, lIP⟩, ⟨f1_118, lIR⟩, ⟨f1_119, lIU⟩, vP, vR, vU, vF, vH, vL, vS, vI, vG⟩, (fun q hq => by rw [sz q (by omega)])⟩)
    · refine g_aload_n dX9_strong_26 0 rfl ?_
      refine g_bipush (v := (-3)) dX9_strong_27 (by decide +kernel) ?_
      rw [if_neg (show ¬ σ.1.1 ≤ 11 by omega)]
      refine g_callVq (st1 := [.int (-nI 3)]) dX9_strong_29 (ev_refused H ok 3 (by unfold noN; omega)) oX9_refused wiX9_refused weX9_refused wmX9_90 kX9 (mO) rfl ⟨(Nat.le_of_ble_eq_true rfl), (Nat.le_of_ble_eq_true rfl)⟩ ⟨Nat.zero_le _, Nat.zero_le _⟩ (Nat.le_of_ble_eq_true rfl) rfl rfl (fun h2 q2 => ?_)
      exact g_iret dX9_strong_32 rfl ⟨Nat.zero_le _, Nat.zero_le _⟩ (⟨rfl, q2⟩)
  · refine g_aload_n dX9_strong_10 0 rfl ?_
    refine g_bipush (v := (-2)) dX9_strong_11 (by decide +kernel) ?_
    rw [show oStrong σ y = rfS σ (-2) from if_pos (in4_f c7)]
    refine g_callVq (st1 := [.int (-nI 2)]) dX9_strong_13 (ev_refused H ok 2 (by unfold noN; omega)) oX9_refused wiX9_refused weX9_refused wmX9_90 kX9 (mO) rfl ⟨(Nat.le_of_ble_eq_true rfl), (Nat.le_of_ble_eq_true rfl)⟩ ⟨Nat.zero_le _, Nat.zero_le _⟩ (Nat.le_of_ble_eq_true rfl) rfl rfl (fun h3 q3 => ?_)
    exact g_iret dX9_strong_16 rfl ⟨Nat.zero_le _, Nat.zero_le _⟩ (⟨rfl, q3⟩)

set_option maxRecDepth 100000 in
set_option maxHeartbeats 4000000 in
theorem ev_y_odds {h : List aC} {σ : Sg} (H : RM h σ) (ok : okSg σ) (y : Int32) : Ev mX9_odds 13 0 0 [.ref 98, .int y] h (spML h (oOdds σ y)) := by
  obtain ⟨fo, as_, sm, sk, z, iN, iM, iT, P, Ro, U, rf, WM, WP, WR, Tr, Ke, Co, Th, Be, Le, AP, AR, AU, Sz, It, IP, IR, IU, mO, mP, mRo, mU, mrf, mWM, mWP, mWR, mTr, mKe, mCo, mTh, mBe, mLe, mAP, mAR, mAU, mSz, mIt, mIP, mIR, mIU, vP, vR, vU, vF, vH, vL, vS, vI, vG⟩ := id H
  have mO : rd h 98 = some (.inr (9, [.int (nI σ.1.1), .int (nI σ.1.2.1), .ref 99, .ref 100, .ref 101, .int (nI σ.1.2.2.2.1), .ref 102, .int (nI ((σ.2.2.2.1).length)), .ref 103, .ref 104, .ref 105, .int fo, .int as_, .int sm, .int sk, .ref 106, .ref 107, .ref 108, .int z, .ref 109, .ref 110, .ref 111, .int (nI σ.2.1.1), .ref 112, .ref 113, .ref 114, .ref 115, .ref 116, .int (nI (bI σ.2.2.2.2.1.isSome)), .int iN, .int iM, .int iT, .ref 117, .ref 118, .ref 119])) := mO
  obtain ⟨mP, lP⟩ := mP
  obtain ⟨mRo, lRo⟩ := mRo
  obtain ⟨mU, lU⟩ := mU
  obtain ⟨mrf, lrf⟩ := mrf
  obtain ⟨mWM, lWM⟩ := mWM
  obtain ⟨mWP, lWP⟩ := mWP
  obtain ⟨mWR, lWR⟩ := mWR
  obtain ⟨mTr, lTr⟩ := mTr
  obtain ⟨mKe, lKe⟩ := mKe
  obtain ⟨mCo, lCo⟩ := mCo
  obtain ⟨mTh, lTh⟩ := mTh
  obtain ⟨mBe, lBe⟩ := mBe
  obtain ⟨mLe, lLe⟩ := mLe
  obtain ⟨mAP, lAP⟩ := mAP
  obtain ⟨mAR, lAR⟩ := mAR
  obtain ⟨mAU, lAU⟩ := mAU
  obtain ⟨mSz, lSz⟩ := mSz
  obtain ⟨mIt, lIt⟩ := mIt
  obtain ⟨mIP, lIP⟩ := mIP
  obtain ⟨mIR, lIR⟩ := mIR
  obtain ⟨mIU, lIU⟩ := mIU
  obtain ⟨okc, ⟨okl, okw⟩, okn, ⟨okh, oke⟩, oki, okr⟩ := id ok
  obtain ⟨k1, k2, k3, k4, k5, k6, k7, k8, k9⟩ := id okc
  refine Ev.of pX9_odds (Nat.le_of_ble_eq_true rfl) ?_
  show G mX9_odds (rmD 13 0 0) none _ 0 0 0 [(0, .ref 98), (1, .int y)] [] h
  refine g_iload_n dX9_odds_0 1 rfl ?_
  refine g_i2l dX9_odds_1 rfl ?_
  refine g_lconst (v := lN 0) dX9_odds_2 rfl ?_
  refine g_lconst (v := lN 1) dX9_odds_3 rfl ?_
  refine g_callSp dX9_odds_4 (ev_inN (y) (0) (1) (by omega) (by omega) _) oX9_in wsX9_in wmX9_98 rfl ⟨(Nat.le_of_ble_eq_true rfl), (Nat.le_of_ble_eq_true rfl)⟩ ⟨Nat.zero_le _, Nat.zero_le _⟩ (Nat.le_of_ble_eq_true rfl) rfl ?_
  refine g_if_neB 22 dX9_odds_7 (by decide) (fun c7 => ?_) (fun c7 => ?_)
  · rw [show oOdds σ y = _ from if_neg (in4_t c7)]
    have n2 := of_decide_eq_true c7
    refine g_aload_n dX9_odds_22 0 rfl ?_
    refine g_getf dX9_odds_23 kX9 wfX9_7 (Nat.le_of_ble_eq_true rfl) (mO) rfl ?_
    refine g_bipush (v := nI 11) dX9_odds_26 (by decide +kernel) ?_
    refine g_icmp_leN 43 dX9_odds_28 (by decide) (by omega) (by omega) (fun c28 => ?_) (fun c28 => ?_)
    · rw [if_pos (show σ.1.1 ≤ 11 by omega)]
      obtain ⟨y1, hy1, rfl⟩ := nn_of n2.1
      rw [cl_ hy1]
      have sl := stL_len (n := σ.1.1) (by omega)
      have g3 := cnB_le (sgB σ.1.1) (stL σ.1.1)
      have g4 := stL_pos k1 (by omega) k3
      refine g_aload_n dX9_odds_43 0 rfl ?_
      refine g_iconst (v := (-1)) dX9_odds_44 (by decide +kernel) ?_
      refine g_callVq (st1 := []) dX9_odds_45 (ev_findsS (show MO h _ _ _ _ _ _ _ _ _ _ _ _ _ _ from mO) k1 (by omega) k3 mTr lTr mKe lKe (-1)) oX9_findsStarters wiX9_findsStarters weX9_findsStarters wmX9_179 kX9 (mO) rfl ⟨(Nat.le_of_ble_eq_true rfl), (Nat.le_of_ble_eq_true rfl)⟩ ⟨Nat.zero_le _, Nat.zero_le _⟩ (Nat.le_of_ble_eq_true rfl) rfl rfl (fun h1 q1 => ?_)
      obtain ⟨Tz, Kz, oz, tz, ltz, yz, lyz, kpz, sz⟩ := q1
      have f1_99 : rd h1 99 = some (.inl (P)) := by rw [sz _ (by omega)]; exact mP
      have f1_100 : rd h1 100 = some (.inl (Ro)) := by rw [sz _ (by omega)]; exact mRo
      have f1_101 : rd h1 101 = some (.inl (U)) := by rw [sz _ (by omega)]; exact mU
      have f1_102 : rd h1 102 = some (.inl (rf)) := by rw [sz _ (by omega)]; exact mrf
      have f1_103 : rd h1 103 = some (.inl (WM)) := by rw [sz _ (by omega)]; exact mWM
      have f1_104 : rd h1 104 = some (.inl (WP)) := by rw [sz _ (by omega)]; exact mWP
      have f1_105 : rd h1 105 = some (.inl (WR)) := by rw [sz _ (by omega)]; exact mWR
      have f1_108 : rd h1 108 = some (.inl (Co)) := by rw [sz _ (by omega)]; exact mCo
      have f1_109 : rd h1 109 = some (.inl (Th)) := by rw [sz _ (by omega)]; exact mTh
      have f1_110 : rd h1 110 = some (.inl (Be)) := by rw [sz _ (by omega)]; exact mBe
      have f1_111 : rd h1 111 = some (.inl (Le)) := by rw [sz _ (by omega)]; exact mLe
      have f1_112 : rd h1 112 = some (.inl (AP)) := by rw [sz _ (by omega)]; exact mAP
      have f1_113 : rd h1 113 = some (.inl (AR)) := by rw [sz _ (by omega)]; exact mAR
      have f1_114 : rd h1 114 = some (.inl (AU)) := by rw [sz _ (by omega)]; exact mAU
      have f1_115 : rd h1 115 = some (.inl (Sz)) := by rw [sz _ (by omega)]; exact mSz
      have f1_116 : rd h1 116 = some (.inl (It)) := by rw [sz _ (by omega)]; exact mIt
      have f1_117 : rd h1 117 = some (.inl (IP)) := by rw [sz _ (by omega)]; exact mIP
      have f1_118 : rd h1 118 = some (.inl (IR)) := by rw [sz _ (by omega)]; exact mIR
      have f1_119 : rd h1 119 = some (.inl (IU)) := by rw [sz _ (by omega)]; exact mIU
      refine g_aload_n dX9_odds_48 0 rfl ?_
      refine g_getf dX9_odds_49 kX9 wfX9_161 (Nat.le_of_ble_eq_true rfl) (oz) rfl ?_
      refine g_if_neN 60 dX9_odds_52 (by decide) (by omega) (fun c52 => ?_) (fun z => absurd z (by omega))
      refine g_aload_n dX9_odds_60 0 rfl ?_
      refine g_getf dX9_odds_61 kX9 wfX9_167 (Nat.le_of_ble_eq_true rfl) (oz) rfl ?_
      refine g_i2l (v := lN (cnB (sgB σ.1.1) (stL σ.1.1))) dX9_odds_64 (nI_l (by omega)) ?_
      refine g_aload_n dX9_odds_65 0 rfl ?_
      refine g_getf dX9_odds_66 kX9 wfX9_161 (Nat.le_of_ble_eq_true rfl) (oz) rfl ?_
      refine g_i2l (v := lN ((stL σ.1.1).length)) dX9_odds_69 (nI_l (by omega)) ?_
      refine g_iload_n dX9_odds_70 1 rfl ?_
      refine g_callSp dX9_odds_71 (ev_lowest (cnB (sgB σ.1.1) (stL σ.1.1)) (stL σ.1.1).length y1 (by omega) (by omega) hy1 g4) oX9_lowest wsX9_lowest wmX9_187 rfl ⟨(Nat.le_of_ble_eq_true rfl), (Nat.le_of_ble_eq_true rfl)⟩ ⟨Nat.zero_le _, Nat.zero_le _⟩ (Nat.le_of_ble_eq_true rfl) rfl ?_
      exact g_lret dX9_odds_74 rfl ⟨Nat.zero_le _, Nat.zero_le _⟩ (⟨rfl, ⟨_, _, _, _, _, _, _, _, _, _, _, _, _, _, _, _, _, _, _, _, _, _, _, _, _, _, _, _, _, oz, ⟨f1_99, lP⟩, ⟨f1_100, lRo⟩, ⟨f1_101, lU⟩, ⟨f1_102, lrf⟩, ⟨f1_103, lWM⟩, ⟨f1_104, lWP⟩, ⟨f1_105, lWR⟩, ⟨tz, ltz⟩, ⟨yz, lyz⟩, ⟨f1_108, lCo⟩, ⟨f1_109, lTh⟩, ⟨f1_110, lBe⟩, ⟨f1_111, lLe⟩, ⟨f1_112, lAP⟩, ⟨f1_113, lAR⟩, ⟨f1_114, lAU⟩, ⟨f1_115, lSz⟩, ⟨f1_116, lIt⟩, ⟨f1_117, lIP⟩, ⟨f1_118, lIR⟩, ⟨f1_119, lIU⟩, vP, vR, vU, vF, vH, vL, vS, vI, vG⟩, (fun q hq => by rw [sz q (by omega)])⟩)
    · refine g_ldc2 dX9_odds_31 wlX9_185 ?_
      refine g_aload_n dX9_odds_34 0 rfl ?_
      refine g_bipush (v := (-3)) dX9_odds_35 (by decide +kernel) ?_
      rw [show (if σ.1.1 ≤ 11 then _ else rfL σ 3) = (4000000000000000000 - Int32.toInt64 (-nI 3), (rfS σ (-3)).2) from if_neg (show ¬ σ.1.1 ≤ 11 by omega)]
      refine g_callVq (st1 := [.int (-nI 3), .long ((4000000000000000000))]) dX9_odds_37 (ev_refused H ok 3 (by unfold noN; omega)) oX9_refused wiX9_refused weX9_refused wmX9_90 kX9 (mO) rfl ⟨(Nat.le_of_ble_eq_true rfl), (Nat.le_of_ble_eq_true rfl)⟩ ⟨Nat.zero_le _, Nat.zero_le _⟩ (Nat.le_of_ble_eq_true rfl) rfl rfl (fun h2 q2 => ?_)
      refine g_i2l dX9_odds_40 rfl ?_
      refine g_lsub dX9_odds_41 ?_
      exact g_lret dX9_odds_42 rfl ⟨Nat.zero_le _, Nat.zero_le _⟩ (⟨rfl, q2⟩)
  · refine g_ldc2 dX9_odds_10 wlX9_185 ?_
    refine g_aload_n dX9_odds_13 0 rfl ?_
    refine g_bipush (v := (-2)) dX9_odds_14 (by decide +kernel) ?_
    rw [show oOdds σ y = (4000000000000000000 - Int32.toInt64 (-nI 2), (rfS σ (-2)).2) from if_pos (in4_f c7)]
    refine g_callVq (st1 := [.int (-nI 2), .long ((4000000000000000000))]) dX9_odds_16 (ev_refused H ok 2 (by unfold noN; omega)) oX9_refused wiX9_refused weX9_refused wmX9_90 kX9 (mO) rfl ⟨(Nat.le_of_ble_eq_true rfl), (Nat.le_of_ble_eq_true rfl)⟩ ⟨Nat.zero_le _, Nat.zero_le _⟩ (Nat.le_of_ble_eq_true rfl) rfl rfl (fun h3 q3 => ?_)
    refine g_i2l dX9_odds_19 rfl ?_
    refine g_lsub dX9_odds_20 ?_
    exact g_lret dX9_odds_21 rfl ⟨Nat.zero_le _, Nat.zero_le _⟩ (⟨rfl, q3⟩)
