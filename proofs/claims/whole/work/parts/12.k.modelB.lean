theorem in4_t {y : Int32} {b : Nat} (h : decide (nI 0 ≤ y ∧ y ≤ nI b) = true) : ¬ (y < 0 ∨ ¬ y ≤ nI b) := fun z => by
  have q := of_decide_eq_true h
  rcases z with z | z
  · exact absurd z (Int32.not_lt.mpr q.1)
  · exact z q.2
theorem in4_f {y : Int32} {b : Nat} (h : decide (nI 0 ≤ y ∧ y ≤ nI b) = false) : y < 0 ∨ ¬ y ≤ nI b := by
  have q := of_decide_eq_false h
  by_cases z : y < 0
  · exact Or.inl z
  · exact Or.inr fun w => q ⟨Int32.not_lt.mp z, w⟩
theorem pRw {P : List Int32} {m n : Nat} {f : Nat → Pr} (h : pR P 0 m f) {k w : Nat} (hk : k < m) (hw : w < 3) : P.getD (3 * k + w) 0 = nI (toldN n (f k) w) := by
  have e : w = 0 ∨ w = 1 ∨ w = 2 := by omega
  rcases e with e | e | e <;> subst e
  · exact pR0 h hk
  · exact pR1 h hk
  · exact pR2 h hk
theorem told3 (n : Nat) (p : Pr) : toldN n p 3 = (p.1 + p.2.1) % n := rfl
theorem told4 (n : Nat) (p : Pr) : toldN n p 4 = min ((p.1 + n - p.2.1) % n) (n - (p.1 + n - p.2.1) % n) := rfl

set_option maxRecDepth 100000 in
set_option maxHeartbeats 4000000 in
theorem ev_y_of {h : List aC} {σ : Sg} (H : RM h σ) (ok : okSg σ) (x y : Int32) : Ev mX9_of 3 0 0 [.ref 98, .int x, .int y] h (spM h (oOf σ x y)) := by
  obtain ⟨fo, as_, sm, sk, z, iN, iM, iT, P, Ro, U, rf, WM, WP, WR, Tr, Ke, Co, Th, Be, Le, AP, AR, AU, Sz, It, IP, IR, IU, mO, mP, mRo, mU, mrf, mWM, mWP, mWR, mTr, mKe, mCo, mTh, mBe, mLe, mAP, mAR, mAU, mSz, mIt, mIP, mIR, mIU, vP, vR, vU, vF, vH, vL, vS, vI, vG⟩ := id H
  have mO : rd h 98 = some (.inr (9, [.int (nI σ.1.1), .int (nI σ.1.2.1), .ref 99, .ref 100, .ref 101, .int (nI σ.1.2.2.2.1), .ref 102, .int (nI ((σ.2.2.2.1).length)), .ref 103, .ref 104, .ref 105, .int fo, .int as_, .int sm, .int sk, .ref 106, .ref 107, .ref 108, .int z, .ref 109, .ref 110, .ref 111, .int (nI σ.2.1.1), .ref 112, .ref 113, .ref 114, .ref 115, .ref 116, .int (nI (bI σ.2.2.2.2.1.isSome)), .int iN, .int iM, .int iT, .ref 117, .ref 118, .ref 119])) := mO
  obtain ⟨mP, lP⟩ := mP
  obtain ⟨mRo, lRo⟩ := mRo
  obtain ⟨mU, lU⟩ := mU
  obtain ⟨mrf, lrf⟩ := mrf
  obtain ⟨mWM, lWM⟩ := mWM
  obtain ⟨mWP, lWP⟩ := mWP
  obtain ⟨mWR, lWR⟩ := mWR
  obtain ⟨mTr, lTr⟩ := mTr
  obtain ⟨mKe, lKe⟩ := mKe
  obtain ⟨mCo, lCo⟩ := mCo
  obtain ⟨mTh, lTh⟩ := mTh
  obtain ⟨mBe, lBe⟩ := mBe
  obtain ⟨mLe, lLe⟩ := mLe
  obtain ⟨mAP, lAP⟩ := mAP
  obtain ⟨mAR, lAR⟩ := mAR
  obtain ⟨mAU, lAU⟩ := mAU
  obtain ⟨mSz, lSz⟩ := mSz
  obtain ⟨mIt, lIt⟩ := mIt
  obtain ⟨mIP, lIP⟩ := mIP
  obtain ⟨mIR, lIR⟩ := mIR
  obtain ⟨mIU, lIU⟩ := mIU
  obtain ⟨okc, ⟨okl, okw⟩, okn, ⟨okh, oke⟩, oki, okr⟩ := id ok
  obtain ⟨k1, k2, k3, k4, k5, k6, k7, k8, k9⟩ := id okc
  refine Ev.of pX9_of (Nat.le_of_ble_eq_true rfl) ?_
  show G mX9_of (rmD 3 0 0) none _ 0 0 0 [(0, .ref 98), (1, .int x), (2, .int y)] [] h
  refine g_aload_n dX9_of_0 0 rfl ?_
  refine g_iload_n dX9_of_1 1 rfl ?_
  refine g_callVp dX9_of_2 (ev_isPair H ok x) oX9_isPair wiX9_isPair weX9_isPair wmX9_121 kX9 (mO) rfl ⟨(Nat.le_of_ble_eq_true rfl), (Nat.le_of_ble_eq_true rfl)⟩ ⟨Nat.zero_le _, Nat.zero_le _⟩ (Nat.le_of_ble_eq_true rfl) rfl ?_
  refine g_if_neB 14 dX9_of_5 (by decide) (fun c5 => ?_) (fun c5 => ?_)
  · have n1 := of_decide_eq_true c5
    rw [show oOf σ x y = _ from if_pos n1]
    refine g_iload_n dX9_of_14 2 rfl ?_
    refine g_i2l dX9_of_15 rfl ?_
    refine g_lconst (v := lN 0) dX9_of_16 rfl ?_
    refine g_ldc2 dX9_of_17 wlX9_127 ?_
    refine g_callSp dX9_of_20 (ev_inN (y) (0) (4) (by omega) (by omega) _) oX9_in wsX9_in wmX9_98 rfl ⟨(Nat.le_of_ble_eq_true rfl), (Nat.le_of_ble_eq_true rfl)⟩ ⟨Nat.zero_le _, Nat.zero_le _⟩ (Nat.le_of_ble_eq_true rfl) rfl ?_
    refine g_if_neB 33 dX9_of_23 (by decide) (fun c23 => ?_) (fun c23 => ?_)
    · rw [if_neg (in4_t c23)]
      have n2 := of_decide_eq_true c23
      clear c5 c23
      obtain ⟨x1, hx1, rfl⟩ := nn_of n1.1
      obtain ⟨y1, hy1, rfl⟩ := nn_of n2.1
      rw [cl_ hx1, cl_ hy1]
      have b1 := nn_lt hx1 (by omega) n1.2
      have b2 : y1 ≤ 4 := (nI_leI hy1 (by omega)).mp n2.2
      obtain ⟨j1, j2, j3, j4, j5, j6⟩ := id (k5 x1 b1)
      refine g_aload_n dX9_of_33 0 rfl ?_
      refine g_aload_n dX9_of_34 0 rfl ?_
      refine g_getf dX9_of_35 kX9 wfX9_13 (Nat.le_of_ble_eq_true rfl) (mO) rfl ?_
      refine g_iconst (v := nI 3) dX9_of_38 (by decide +kernel) ?_
      refine g_iload_n dX9_of_39 1 rfl ?_
      refine g_imulN dX9_of_40 ?_
      refine g_ialI dX9_of_41 (mP) (by omega) (by omega) ?_
      refine g_top (pR0 vP b1) ?_
      refine g_aload_n dX9_of_42 0 rfl ?_
      refine g_getf dX9_of_43 kX9 wfX9_13 (Nat.le_of_ble_eq_true rfl) (mO) rfl ?_
      refine g_iconst (v := nI 3) dX9_of_46 (by decide +kernel) ?_
      refine g_iload_n dX9_of_47 1 rfl ?_
      refine g_imulN dX9_of_48 ?_
      refine g_iconst (v := nI 1) dX9_of_49 (by decide +kernel) ?_
      refine g_iaddN dX9_of_50 ?_
      refine g_ialI dX9_of_51 (mP) (by omega) (by omega) ?_
      refine g_top (pR1 vP b1) ?_
      refine g_isub dX9_of_52 ?_
      refine g_callVp dX9_of_53 (ev_whole H ok ((σ.1.2.2.1 x1).1) ((σ.1.2.2.1 x1).2.1) j2 j4) oX9_whole wiX9_whole weX9_whole wmX9_129 kX9 (mO) rfl ⟨(Nat.le_of_ble_eq_true rfl), (Nat.le_of_ble_eq_true rfl)⟩ ⟨Nat.zero_le _, Nat.zero_le _⟩ (Nat.le_of_ble_eq_true rfl) rfl ?_
      have jm : ((σ.1.2.2.1 x1).1 + σ.1.1 - (σ.1.2.2.1 x1).2.1) % σ.1.1 < σ.1.1 := Nat.mod_lt _ (by omega)
      refine g_istore_n (ls' := [(3, .int (nI (((σ.1.2.2.1 x1).1 + σ.1.1 - (σ.1.2.2.1 x1).2.1) % σ.1.1))), (0, .ref 98), (1, .int (nI x1)), (2, .int (nI y1))]) dX9_of_56 (Nat.le_of_ble_eq_true rfl) rfl ?_
      refine g_iload_n dX9_of_57 3 rfl ?_
      refine g_iconst (v := nI 3) dX9_of_58 (by decide +kernel) ?_
      refine g_icmp_geN 75 dX9_of_59 (by decide) (by omega) (by omega) (fun c59 => ?_) (fun c59 => ?_)
      · refine g_iload_n dX9_of_75 3 rfl ?_
        refine g_iconst (v := nI 3) dX9_of_76 (by decide +kernel) ?_
        refine g_icmp_neN 88 dX9_of_77 (by decide) (by omega) (by omega) (fun c77 => ?_) (fun c77 => ?_)
        · refine g_iload_n dX9_of_88 0 rfl ?_
          refine g_aload_n dX9_of_89 1 rfl ?_
          refine g_getf dX9_of_90 kX9 wfX9_7 (Nat.le_of_ble_eq_true rfl) (mO) rfl ?_
          refine g_iload_n dX9_of_93 0 rfl ?_
          refine g_isubN dX9_of_94 (by omega) ?_
          refine g_callSp dX9_of_95 (ev_min (((σ.1.2.2.1 x1).1 + σ.1.1 - (σ.1.2.2.1 x1).2.1) % σ.1.1) (σ.1.1 - (((σ.1.2.2.1 x1).1 + σ.1.1 - (σ.1.2.2.1 x1).2.1) % σ.1.1)) (by omega) (by omega) _) oJ9_min_7cf53 wsJ9_min_7cf53 wmX9_135 rfl ⟨(Nat.le_of_ble_eq_true rfl), (Nat.le_of_ble_eq_true rfl)⟩ ⟨Nat.zero_le _, Nat.zero_le _⟩ (Nat.le_of_ble_eq_true rfl) rfl ?_
          exact g_iret dX9_of_98 rfl ⟨Nat.zero_le _, Nat.zero_le _⟩ (⟨by rw [show y1 = 4 by omega, told4], ⟨_, _, _, _, _, _, _, _, _, _, _, _, _, _, _, _, _, _, _, _, _, _, _, _, _, _, _, _, _, mO, ⟨mP, lP⟩, ⟨mRo, lRo⟩, ⟨mU, lU⟩, ⟨mrf, lrf⟩, ⟨mWM, lWM⟩, ⟨mWP, lWP⟩, ⟨mWR, lWR⟩, ⟨mTr, lTr⟩, ⟨mKe, lKe⟩, ⟨mCo, lCo⟩, ⟨mTh, lTh⟩, ⟨mBe, lBe⟩, ⟨mLe, lLe⟩, ⟨mAP, lAP⟩, ⟨mAR, lAR⟩, ⟨mAU, lAU⟩, ⟨mSz, lSz⟩, ⟨mIt, lIt⟩, ⟨mIP, lIP⟩, ⟨mIR, lIR⟩, ⟨mIU, lIU⟩, vP, vR, vU, vF, vH, vL, vS, vI, vG⟩, Smo.rf⟩)
        · refine g_aload_n dX9_of_80 1 rfl ?_
          refine g_iload_n dX9_of_81 2 rfl ?_
          refine g_callVp dX9_of_82 (ev_sumOf H ok x1 b1) oX9_sumOf wiX9_sumOf weX9_sumOf wmX9_132 kX9 (mO) rfl ⟨(Nat.le_of_ble_eq_true rfl), (Nat.le_of_ble_eq_true rfl)⟩ ⟨Nat.zero_le _, Nat.zero_le _⟩ (Nat.le_of_ble_eq_true rfl) rfl ?_
          refine g_goto 98 dX9_of_85 (by decide) ?_
          exact g_iret dX9_of_98 rfl ⟨Nat.zero_le _, Nat.zero_le _⟩ (⟨by rw [c77, told3], ⟨_, _, _, _, _, _, _, _, _, _, _, _, _, _, _, _, _, _, _, _, _, _, _, _, _, _, _, _, _, mO, ⟨mP, lP⟩, ⟨mRo, lRo⟩, ⟨mU, lU⟩, ⟨mrf, lrf⟩, ⟨mWM, lWM⟩, ⟨mWP, lWP⟩, ⟨mWR, lWR⟩, ⟨mTr, lTr⟩, ⟨mKe, lKe⟩, ⟨mCo, lCo⟩, ⟨mTh, lTh⟩, ⟨mBe, lBe⟩, ⟨mLe, lLe⟩, ⟨mAP, lAP⟩, ⟨mAR, lAR⟩, ⟨mAU, lAU⟩, ⟨mSz, lSz⟩, ⟨mIt, lIt⟩, ⟨mIP, lIP⟩, ⟨mIR, lIR⟩, ⟨mIU, lIU⟩, vP, vR, vU, vF, vH, vL, vS, vI, vG⟩, Smo.rf⟩)
      · refine g_aload_n dX9_of_62 1 rfl ?_
        refine g_getf dX9_of_63 kX9 wfX9_13 (Nat.le_of_ble_eq_true rfl) (mO) rfl ?_
        refine g_iconst (v := nI 3) dX9_of_66 (by decide +kernel) ?_
        refine g_iload_n dX9_of_67 2 rfl ?_
        refine g_imulN dX9_of_68 ?_
        refine g_iload_n dX9_of_69 3 rfl ?_
        refine g_iaddN dX9_of_70 ?_
        refine g_ialI dX9_of_71 (mP) (by omega) (by omega) ?_
        refine g_top (pRw (n := σ.1.1) vP b1 (by omega)) ?_
        refine g_goto 98 dX9_of_72 (by decide) ?_
        exact g_iret dX9_of_98 rfl ⟨Nat.zero_le _, Nat.zero_le _⟩ (⟨rfl, ⟨_, _, _, _, _, _, _, _, _, _, _, _, _, _, _, _, _, _, _, _, _, _, _, _, _, _, _, _, _, mO, ⟨mP, lP⟩, ⟨mRo, lRo⟩, ⟨mU, lU⟩, ⟨mrf, lrf⟩, ⟨mWM, lWM⟩, ⟨mWP, lWP⟩, ⟨mWR, lWR⟩, ⟨mTr, lTr⟩, ⟨mKe, lKe⟩, ⟨mCo, lCo⟩, ⟨mTh, lTh⟩, ⟨mBe, lBe⟩, ⟨mLe, lLe⟩, ⟨mAP, lAP⟩, ⟨mAR, lAR⟩, ⟨mAU, lAU⟩, ⟨mSz, lSz⟩, ⟨mIt, lIt⟩, ⟨mIP, lIP⟩, ⟨mIR, lIR⟩, ⟨mIU, lIU⟩, vP, vR, vU, vF, vH, vL, vS, vI, vG⟩, Smo.rf⟩)
    · refine g_aload_n dX9_of_26 0 rfl ?_
      refine g_bipush (v := (-2)) dX9_of_27 (by decide +kernel) ?_
      rw [if_pos (in4_f c23)]
      refine g_callVq (st1 := [.int (-nI 2)]) dX9_of_29 (ev_refused H ok 2 (by unfold noN; omega)) oX9_refused wiX9_refused weX9_refused wmX9_90 kX9 (mO) rfl ⟨(Nat.le_of_ble_eq_true rfl), (Nat.le_of_ble_eq_true rfl)⟩ ⟨Nat.zero_le _, Nat.zero_le _⟩ (Nat.le_of_ble_eq_true rfl) rfl rfl (fun h1 q1 => ?_)
      exact g_iret dX9_of_32 rfl ⟨Nat.zero_le _, Nat.zero_le _⟩ (⟨rfl, q1⟩)
  · refine g_aload_n dX9_of_8 0 rfl ?_
    refine g_iconst (v := (-1)) dX9_of_9 (by decide +kernel) ?_
    rw [show oOf σ x y = rfS σ (-1) from if_neg (of_decide_eq_false c5)]
    refine g_callVq (st1 := [.int (-nI 1)]) dX9_of_10 (ev_refused H ok 1 (by unfold noN; omega)) oX9_refused wiX9_refused weX9_refused wmX9_90 kX9 (mO) rfl ⟨(Nat.le_of_ble_eq_true rfl), (Nat.le_of_ble_eq_true rfl)⟩ ⟨Nat.zero_le _, Nat.zero_le _⟩ (Nat.le_of_ble_eq_true rfl) rfl rfl (fun h2 q2 => ?_)
    exact g_iret dX9_of_13 rfl ⟨Nat.zero_le _, Nat.zero_le _⟩ (⟨rfl, q2⟩)
