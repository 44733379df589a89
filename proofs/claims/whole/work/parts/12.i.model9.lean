set_option maxRecDepth 100000 in
set_option maxHeartbeats 4000000 in
theorem ev_y_adder {h : List aC} {σ : Sg} (H : RM h σ) (ok : okSg σ) (x y : Int32) : Ev mX9_adder 3 0 0 [.ref 98, .int x, .int y] h (spM h (oAdder σ x y)) := by
  obtain ⟨fo, as_, sm, sk, z, iN, iM, iT, P, Ro, U, rf, WM, WP, WR, Tr, Ke, Co, Th, Be, Le, AP, AR, AU, Sz, It, IP, IR, IU, mO, mP, mRo, mU, mrf, mWM, mWP, mWR, mTr, mKe, mCo, mTh, mBe, mLe, mAP, mAR, mAU, mSz, mIt, mIP, mIR, mIU, vP, vR, vU, vF, vH, vL, vS, vI, vG⟩ := id H
  have mO : rd h 98 = some (.inr (9, [.int (nI σ.1.1), .int (nI σ.1.2.1), .ref 99, .ref 100, .ref 101, .int (nI σ.1.2.2.2.1), .ref 102, .int (nI ((σ.2.2.2.1).length)), .ref 103, .ref 104, .ref 105, .int fo, .int as_, .int sm, .int sk, .ref 106, .ref 107, .ref 108, .int z, .ref 109, .ref 110, .ref 111, .int (nI σ.2.1.1), .ref 112, .ref 113, .ref 114, .ref 115, .ref 116, .int (nI (bI σ.2.2.2.2.1.isSome)), .int iN, .int iM, .int iT, .ref 117, .ref 118, .ref 119])) := mO
  obtain ⟨mP, lP⟩ := mP
  obtain ⟨mRo, lRo⟩ := mRo
  obtain ⟨mU, lU⟩ := mU
  obtain ⟨mrf, lrf⟩ := mrf
  obtain ⟨mWM, lWM⟩ := mWM
  obtain ⟨mWP, lWP⟩ := mWP
  obtain ⟨mWR, lWR⟩ := mWR
  obtain ⟨mTr, lTr⟩ := mTr
  obtain ⟨mKe, lKe⟩ := mKe
  obtain ⟨mCo, lCo⟩ := mCo
  obtain ⟨mTh, lTh⟩ := mTh
  obtain ⟨mBe, lBe⟩ := mBe
  obtain ⟨mLe, lLe⟩ := mLe
  obtain ⟨mAP, lAP⟩ := mAP
  obtain ⟨mAR, lAR⟩ := mAR
  obtain ⟨mAU, lAU⟩ := mAU
  obtain ⟨mSz, lSz⟩ := mSz
  obtain ⟨mIt, lIt⟩ := mIt
  obtain ⟨mIP, lIP⟩ := mIP
  obtain ⟨mIR, lIR⟩ := mIR
  obtain ⟨mIU, lIU⟩ := mIU
  obtain ⟨okc, ⟨okl, okw⟩, okn, ⟨okh, oke⟩, oki, okr⟩ := id ok
  obtain ⟨k1, k2, k3, k4, k5, k6, k7, k8, k9⟩ := id okc
  refine Ev.of pX9_adder (Nat.le_of_ble_eq_true rfl) ?_
  show G mX9_adder (rmD 3 0 0) none _ 0 0 0 [(0, .ref 98), (1, .int x), (2, .int y)] [] h
  refine g_aload_n dX9_adder_0 0 rfl ?_
  refine g_iload_n dX9_adder_1 1 rfl ?_
  refine g_callVp dX9_adder_2 (ev_isPair H ok x) oX9_isPair wiX9_isPair weX9_isPair wmX9_121 kX9 (mO) rfl ⟨(Nat.le_of_ble_eq_true rfl), (Nat.le_of_ble_eq_true rfl)⟩ ⟨Nat.zero_le _, Nat.zero_le _⟩ (Nat.le_of_ble_eq_true rfl) rfl ?_
  refine g_if_neB 14 dX9_adder_5 (by decide) (fun c5 => ?_) (fun c5 => ?_)
  · have n1 := of_decide_eq_true c5
    refine g_iload_n dX9_adder_14 2 rfl ?_
    refine g_i2l dX9_adder_15 rfl ?_
    refine g_lconst (v := lN 0) dX9_adder_16 rfl ?_
    refine g_aload_n dX9_adder_17 0 rfl ?_
    refine g_getf dX9_adder_18 kX9 wfX9_7 (Nat.le_of_ble_eq_true rfl) (mO) rfl ?_
    refine g_iconst (v := nI 1) dX9_adder_21 (by decide +kernel) ?_
    refine g_isubN dX9_adder_22 (by omega) ?_
    refine g_i2l (v := lN (σ.1.1 - 1)) dX9_adder_23 (nI_l (by omega)) ?_
    refine g_callSp dX9_adder_24 (ev_inN y 0 (σ.1.1 - 1) (by decide) (by omega) _) oX9_in wsX9_in wmX9_98 rfl ⟨(Nat.le_of_ble_eq_true rfl), (Nat.le_of_ble_eq_true rfl)⟩ ⟨Nat.zero_le _, Nat.zero_le _⟩ (Nat.le_of_ble_eq_true rfl) rfl ?_
    refine g_if_neB 46 dX9_adder_27 (by decide) (fun c27 => ?_) (fun c27 => ?_)
    · have nb : 0 ≤ y ∧ y < nI σ.1.1 := by have z := isN_eq (x := y) (show 0 < σ.1.1 by omega) k2; rw [c27] at z; exact of_decide_eq_true z.symm
      have er : rAdder σ.1.1 σ.1.2.1 x y = 0 := (if_neg (not_not_intro n1)).trans ((if_neg (Int32.not_lt.mpr nb.1)).trans (if_neg (Int32.not_le.mpr nb.2)))
      rw [show oAdder σ x y = (nI (σ.1.2.2.1 x.toNatClampNeg).2.2, ((σ.1.1, σ.1.2.1, upF σ.1.2.2.1 x.toNatClampNeg ((σ.1.2.2.1 x.toNatClampNeg).1, (σ.1.2.2.1 x.toNatClampNeg).2.1, y.toNatClampNeg), σ.1.2.2.2), σ.2.1, σ.2.2.1, (σ.1.2.2.1, σ.1.2.2.2.2.2) :: σ.2.2.2.1.take 11, σ.2.2.2.2)) from if_pos er]
      clear c5 c27 er
      obtain ⟨x1, hx1, rfl⟩ := nn_of n1.1
      obtain ⟨y1, hy1, rfl⟩ := nn_of nb.1
      rw [cl_ hx1, cl_ hy1]
      have b1 := nn_lt hx1 (by omega) n1.2
      refine g_aload_n dX9_adder_46 0 rfl ?_
      refine g_callVq (st1 := []) dX9_adder_47 (ev_remembers H ok) oX9_remembers wiX9_remembers weX9_remembers wmX9_124 kX9 (mO) rfl ⟨(Nat.le_of_ble_eq_true rfl), (Nat.le_of_ble_eq_true rfl)⟩ ⟨Nat.zero_le _, Nat.zero_le _⟩ (Nat.le_of_ble_eq_true rfl) rfl rfl (fun h1 q1 => ?_)
      have hS0 := q1.2
      obtain ⟨fo, as_, sm, sk, z, iN, iM, iT, P, Ro, U, rf, WM, WP, WR, Tr, Ke, Co, Th, Be, Le, AP, AR, AU, Sz, It, IP, IR, IU, mO, mP, mRo, mU, mrf, mWM, mWP, mWR, mTr, mKe, mCo, mTh, mBe, mLe, mAP, mAR, mAU, mSz, mIt, mIP, mIR, mIU, vP, vR, vU, vF, vH, vL, vS, vI, vG⟩ := q1.1
      have mO : rd h1 98 = some (.inr (9, [.int (nI σ.1.1), .int (nI σ.1.2.1), .ref 99, .ref 100, .ref 101, .int (nI σ.1.2.2.2.1), .ref 102, .int (nI (((σ.1.2.2.1, σ.1.2.2.2.2.2) :: σ.2.2.2.1.take 11).length)), .ref 103, .ref 104, .ref 105, .int fo, .int as_, .int sm, .int sk, .ref 106, .ref 107, .ref 108, .int z, .ref 109, .ref 110, .ref 111, .int (nI σ.2.1.1), .ref 112, .ref 113, .ref 114, .ref 115, .ref 116, .int (nI (bI σ.2.2.2.2.1.isSome)), .int iN, .int iM, .int iT, .ref 117, .ref 118, .ref 119])) := mO
      obtain ⟨mP, lP⟩ := mP
      obtain ⟨mRo, lRo⟩ := mRo
      obtain ⟨mU, lU⟩ := mU
      obtain ⟨mrf, lrf⟩ := mrf
      obtain ⟨mWM, lWM⟩ := mWM
      obtain ⟨mWP, lWP⟩ := mWP
      obtain ⟨mWR, lWR⟩ := mWR
      obtain ⟨mTr, lTr⟩ := mTr
      obtain ⟨mKe, lKe⟩ := mKe
      obtain ⟨mCo, lCo⟩ := mCo
      obtain ⟨mTh, lTh⟩ := mTh
      obtain ⟨mBe, lBe⟩ := mBe
      obtain ⟨mLe, lLe⟩ := mLe
      obtain ⟨mAP, lAP⟩ := mAP
      obtain ⟨mAR, lAR⟩ := mAR
      obtain ⟨mAU, lAU⟩ := mAU
      obtain ⟨mSz, lSz⟩ := mSz
      obtain ⟨mIt, lIt⟩ := mIt
      obtain ⟨mIP, lIP⟩ := mIP
      obtain ⟨mIR, lIR⟩ := mIR
      obtain ⟨mIU, lIU⟩ := mIU
      have vP : pR P 0 σ.1.2.1 σ.1.2.2.1 := vP
      have vR : rR Ro 0 σ.1.2.2.2.2.2 := vR
      have vU : tR U σ.1.2.2.2.1 σ.1.2.2.2.2.1 := vU
      refine g_aload_n dX9_adder_50 0 rfl ?_
      refine g_getf dX9_adder_51 kX9 wfX9_13 (Nat.le_of_ble_eq_true rfl) (mO) rfl ?_
      refine g_iconst (v := nI 3) dX9_adder_54 (by decide +kernel) ?_
      refine g_iload_n dX9_adder_55 1 rfl ?_
      refine g_imulN dX9_adder_56 ?_
      refine g_iconst (v := nI 2) dX9_adder_57 (by decide +kernel) ?_
      refine g_iaddN dX9_adder_58 ?_
      refine g_ialI dX9_adder_59 (mP) (by omega) (by omega) ?_
      refine g_top (pR2 vP b1) ?_
      refine g_istore_n (ls' := [(3, .int (nI ((σ.1.2.2.1 x1).2.2))), (0, .ref 98), (1, .int (nI x1)), (2, .int (nI y1))]) dX9_adder_60 (Nat.le_of_ble_eq_true rfl) rfl ?_
      refine g_aload_n dX9_adder_61 1 rfl ?_
      refine g_getf dX9_adder_62 kX9 wfX9_13 (Nat.le_of_ble_eq_true rfl) (mO) rfl ?_
      refine g_iconst (v := nI 3) dX9_adder_65 (by decide +kernel) ?_
      refine g_iload_n dX9_adder_66 2 rfl ?_
      refine g_imulN dX9_adder_67 ?_
      refine g_iconst (v := nI 2) dX9_adder_68 (by decide +kernel) ?_
      refine g_iaddN dX9_adder_69 ?_
      refine g_iload_n dX9_adder_70 3 rfl ?_
      refine g_iasI dX9_adder_71 (mP) (by omega) (by omega) (fun h2 e2 => ?_)
      have f2_99 : rd h2 99 = some (.inl ((P).set ((3 * x1) + 2) (nI y1))) := by rw [e2]; exact rd_wr_eq (mP)
      have lf2_99 : ((P).set ((3 * x1) + 2) (nI y1)).length = _ := List.length_set.trans lP
      have s2 : Smo 99 (99 + 1) h1 h2 := by rw [e2]; exact Smo.wr (by omega) (by omega)
      have f2_98 : rd h2 98 = some (.inr (9, [.int (nI σ.1.1), .int (nI σ.1.2.1), .ref 99, .ref 100, .ref 101, .int (nI σ.1.2.2.2.1), .ref 102, .int (nI (((σ.1.2.2.1, σ.1.2.2.2.2.2) :: σ.2.2.2.1.take 11).length)), .ref 103, .ref 104, .ref 105, .int fo, .int as_, .int sm, .int sk, .ref 106, .ref 107, .ref 108, .int z, .ref 109, .ref 110, .ref 111, .int (nI σ.2.1.1), .ref 112, .ref 113, .ref 114, .ref 115, .ref 116, .int (nI (bI σ.2.2.2.2.1.isSome)), .int iN, .int iM, .int iT, .ref 117, .ref 118, .ref 119])) := by rw [s2 _ (by omega)]; exact mO
      have f2_100 : rd h2 100 = some (.inl (Ro)) := by rw [s2 _ (by omega)]; exact mRo
      have f2_101 : rd h2 101 = some (.inl (U)) := by rw [s2 _ (by omega)]; exact mU
      have f2_102 : rd h2 102 = some (.inl (rf)) := by rw [s2 _ (by omega)]; exact mrf
      have f2_103 : rd h2 103 = some (.inl (WM)) := by rw [s2 _ (by omega)]; exact mWM
      have f2_104 : rd h2 104 = some (.inl (WP)) := by rw [s2 _ (by omega)]; exact mWP
      have f2_105 : rd h2 105 = some (.inl (WR)) := by rw [s2 _ (by omega)]; exact mWR
      have f2_106 : rd h2 106 = some (.inl (Tr)) := by rw [s2 _ (by omega)]; exact mTr
      have f2_107 : rd h2 107 = some (.inl (Ke)) := by rw [s2 _ (by omega)]; exact mKe
      have f2_108 : rd h2 108 = some (.inl (Co)) := by rw [s2 _ (by omega)]; exact mCo
      have f2_109 : rd h2 109 = some (.inl (Th)) := by rw [s2 _ (by omega)]; exact mTh
      have f2_110 : rd h2 110 = some (.inl (Be)) := by rw [s2 _ (by omega)]; exact mBe
      have f2_111 : rd h2 111 = some (.inl (Le)) := by rw [s2 _ (by omega)]; exact mLe
      have f2_112 : rd h2 112 = some (.inl (AP)) := by rw [s2 _ (by omega)]; exact mAP
      have f2_113 : rd h2 113 = some (.inl (AR)) := by rw [s2 _ (by omega)]; exact mAR
      have f2_114 : rd h2 114 = some (.inl (AU)) := by rw [s2 _ (by omega)]; exact mAU
      have f2_115 : rd h2 115 = some (.inl (Sz)) := by rw [s2 _ (by omega)]; exact mSz
      have f2_116 : rd h2 116 = some (.inl (It)) := by rw [s2 _ (by omega)]; exact mIt
      have f2_117 : rd h2 117 = some (.inl (IP)) := by rw [s2 _ (by omega)]; exact mIP
      have f2_118 : rd h2 118 = some (.inl (IR)) := by rw [s2 _ (by omega)]; exact mIR
      have f2_119 : rd h2 119 = some (.inl (IU)) := by rw [s2 _ (by omega)]; exact mIU
      refine g_iload_n dX9_adder_72 0 rfl ?_
      exact g_iret dX9_adder_73 rfl ⟨Nat.zero_le _, Nat.zero_le _⟩ (⟨rfl, ⟨_, _, _, _, _, _, _, _, _, _, _, _, _, _, _, _, _, _, _, _, _, _, _, _, _, _, _, _, _, f2_98, ⟨f2_99, lf2_99⟩, ⟨f2_100, lRo⟩, ⟨f2_101, lU⟩, ⟨f2_102, lrf⟩, ⟨f2_103, lWM⟩, ⟨f2_104, lWP⟩, ⟨f2_105, lWR⟩, ⟨f2_106, lTr⟩, ⟨f2_107, lKe⟩, ⟨f2_108, lCo⟩, ⟨f2_109, lTh⟩, ⟨f2_110, lBe⟩, ⟨f2_111, lLe⟩, ⟨f2_112, lAP⟩, ⟨f2_113, lAR⟩, ⟨f2_114, lAU⟩, ⟨f2_115, lSz⟩, ⟨f2_116, lIt⟩, ⟨f2_117, lIP⟩, ⟨f2_118, lIR⟩, ⟨f2_119, lIU⟩, (pR_setA vP b1 (by omega) y1), vR, vU, vF, vH, vL, vS, vI, vG⟩, (fun q hq => by rw [s2 q (by omega), hS0 q (by omega)])⟩)
    · refine g_aload_n dX9_adder_30 0 rfl ?_
      refine g_iload_n dX9_adder_31 2 rfl ?_
      refine g_if_ge 40 dX9_adder_32 (by decide) (fun c32 => ?_) (fun c32 => ?_)
      · refine g_bipush (v := (-6)) dX9_adder_40 (by decide +kernel) ?_
        have nb : ¬ (0 ≤ y ∧ y < nI σ.1.1) := by have z := isN_eq (x := y) (show 0 < σ.1.1 by omega) k2; rw [c27] at z; exact of_decide_eq_false z.symm
        have er : rAdder σ.1.1 σ.1.2.1 x y = -6 := (if_neg (not_not_intro n1)).trans ((if_neg (Int32.not_lt.mpr c32)).trans (if_pos (Int32.not_lt.mp fun z => nb ⟨c32, z⟩)))
        rw [show oAdder σ x y = rfS σ (rAdder σ.1.1 σ.1.2.1 x y) from if_neg (by rw [er]; decide), er]
        refine g_callVq (st1 := [.int (-nI 6)]) dX9_adder_42 (ev_refused H ok 6 (by unfold noN; omega)) oX9_refused wiX9_refused weX9_refused wmX9_90 kX9 (mO) rfl ⟨(Nat.le_of_ble_eq_true rfl), (Nat.le_of_ble_eq_true rfl)⟩ ⟨Nat.zero_le _, Nat.zero_le _⟩ (Nat.le_of_ble_eq_true rfl) rfl rfl (fun h3 q3 => ?_)
        exact g_iret dX9_adder_45 rfl ⟨Nat.zero_le _, Nat.zero_le _⟩ (⟨rfl, q3⟩)
      · refine g_bipush (v := (-4)) dX9_adder_35 (by decide +kernel) ?_
        refine g_goto 42 dX9_adder_37 (by decide) ?_
        have nb : ¬ (0 ≤ y ∧ y < nI σ.1.1) := by have z := isN_eq (x := y) (show 0 < σ.1.1 by omega) k2; rw [c27] at z; exact of_decide_eq_false z.symm
        have er : rAdder σ.1.1 σ.1.2.1 x y = -4 := (if_neg (not_not_intro n1)).trans (if_pos (Int32.not_le.mp c32))
        rw [show oAdder σ x y = rfS σ (rAdder σ.1.1 σ.1.2.1 x y) from if_neg (by rw [er]; decide), er]
        refine g_callVq (st1 := [.int (-nI 4)]) dX9_adder_42 (ev_refused H ok 4 (by unfold noN; omega)) oX9_refused wiX9_refused weX9_refused wmX9_90 kX9 (mO) rfl ⟨(Nat.le_of_ble_eq_true rfl), (Nat.le_of_ble_eq_true rfl)⟩ ⟨Nat.zero_le _, Nat.zero_le _⟩ (Nat.le_of_ble_eq_true rfl) rfl rfl (fun h4 q4 => ?_)
        exact g_iret dX9_adder_45 rfl ⟨Nat.zero_le _, Nat.zero_le _⟩ (⟨rfl, q4⟩)
  · refine g_aload_n dX9_adder_8 0 rfl ?_
    refine g_iconst (v := (-1)) dX9_adder_9 (by decide +kernel) ?_
    have er : rAdder σ.1.1 σ.1.2.1 x y = -1 := if_pos (of_decide_eq_false c5)
    rw [show oAdder σ x y = rfS σ (rAdder σ.1.1 σ.1.2.1 x y) from if_neg (by rw [er]; decide), er]
    refine g_callVq (st1 := [.int (-nI 1)]) dX9_adder_10 (ev_refused H ok 1 (by unfold noN; omega)) oX9_refused wiX9_refused weX9_refused wmX9_90 kX9 (mO) rfl ⟨(Nat.le_of_ble_eq_true rfl), (Nat.le_of_ble_eq_true rfl)⟩ ⟨Nat.zero_le _, Nat.zero_le _⟩ (Nat.le_of_ble_eq_true rfl) rfl rfl (fun h5 q5 => ?_)
    exact g_iret dX9_adder_13 rfl ⟨Nat.zero_le _, Nat.zero_le _⟩ (⟨rfl, q5⟩)
