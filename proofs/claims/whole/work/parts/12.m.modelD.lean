set_option maxRecDepth 100000 in
set_option maxHeartbeats 4000000 in
theorem ev_y_count_0 {h : List aC} {σ : Sg} (H : RM h σ) (ok : okSg σ) : Ev mX9_count 2 0 0 [.ref 98, .int (nI 0)] h (spM h (oCount σ (nI 0))) := by
  obtain ⟨fo, as_, sm, sk, z, iN, iM, iT, P, Ro, U, rf, WM, WP, WR, Tr, Ke, Co, Th, Be, Le, AP, AR, AU, Sz, It, IP, IR, IU, mO, mP, mRo, mU, mrf, mWM, mWP, mWR, mTr, mKe, mCo, mTh, mBe, mLe, mAP, mAR, mAU, mSz, mIt, mIP, mIR, mIU, vP, vR, vU, vF, vH, vL, vS, vI, vG⟩ := id H
  have mO : rd h 98 = some (.inr (9, [.int (nI σ.1.1), .int (nI σ.1.2.1), .ref 99, .ref 100, .ref 101, .int (nI σ.1.2.2.2.1), .ref 102, .int (nI ((σ.2.2.2.1).length)), .ref 103, .ref 104, .ref 105, .int fo, .int as_, .int sm, .int sk, .ref 106, .ref 107, .ref 108, .int z, .ref 109, .ref 110, .ref 111, .int (nI σ.2.1.1), .ref 112, .ref 113, .ref 114, .ref 115, .ref 116, .int (nI (bI σ.2.2.2.2.1.isSome)), .int iN, .int iM, .int iT, .ref 117, .ref 118, .ref 119])) := mO
  obtain ⟨mP, lP⟩ := mP
  obtain ⟨mRo, lRo⟩ := mRo
  obtain ⟨mU, lU⟩ := mU
  obtain ⟨mrf, lrf⟩ := mrf
  obtain ⟨mWM, lWM⟩ := mWM
  obtain ⟨mWP, lWP⟩ := mWP
  obtain ⟨mWR, lWR⟩ := mWR
  obtain ⟨mTr, lTr⟩ := mTr
  obtain ⟨mKe, lKe⟩ := mKe
  obtain ⟨mCo, lCo⟩ := mCo
  obtain ⟨mTh, lTh⟩ := mTh
  obtain ⟨mBe, lBe⟩ := mBe
  obtain ⟨mLe, lLe⟩ := mLe
  obtain ⟨mAP, lAP⟩ := mAP
  obtain ⟨mAR, lAR⟩ := mAR
  obtain ⟨mAU, lAU⟩ := mAU
  obtain ⟨mSz, lSz⟩ := mSz
  obtain ⟨mIt, lIt⟩ := mIt
  obtain ⟨mIP, lIP⟩ := mIP
  obtain ⟨mIR, lIR⟩ := mIR
  obtain ⟨mIU, lIU⟩ := mIU
  obtain ⟨okc, ⟨okl, okw⟩, okn, ⟨okh, oke⟩, oki, okr⟩ := id ok
  obtain ⟨k1, k2, k3, k4, k5, k6, k7, k8, k9⟩ := id okc
  rw [show oCount σ (nI 0) = (nI σ.1.1, σ) from by unfold oCount cntV; rw [if_neg (by decide), if_pos rfl]]
  refine Ev.of pX9_count (Nat.le_of_ble_eq_true rfl) ?_
  show G mX9_count (rmD 2 0 0) none _ 0 0 0 [(0, .ref 98), (1, .int (nI 0))] [] h
  refine g_iload_n dX9_count_0 1 rfl ?_
  refine g_tableIn 40 dX9_count_1 (by decide +kernel) (by decide +kernel) (off := 39) (by decide +kernel) (by decide) ?_
  refine g_aload_n dX9_count_40 0 rfl ?_
  refine g_getf dX9_count_41 kX9 wfX9_7 (Nat.le_of_ble_eq_true rfl) (mO) rfl ?_
  exact g_iret dX9_count_44 rfl ⟨Nat.zero_le _, Nat.zero_le _⟩ (⟨rfl, ⟨_, _, _, _, _, _, _, _, _, _, _, _, _, _, _, _, _, _, _, _, _, _, _, _, _, _, _, _, _, mO, ⟨mP, lP⟩, ⟨mRo, lRo⟩, ⟨mU, lU⟩, ⟨mrf, lrf⟩, ⟨mWM, lWM⟩, ⟨mWP, lWP⟩, ⟨mWR, lWR⟩, ⟨mTr, lTr⟩, ⟨mKe, lKe⟩, ⟨mCo, lCo⟩, ⟨mTh, lTh⟩, ⟨mBe, lBe⟩, ⟨mLe, lLe⟩, ⟨mAP, lAP⟩, ⟨mAR, lAR⟩, ⟨mAU, lAU⟩, ⟨mSz, lSz⟩, ⟨mIt, lIt⟩, ⟨mIP, lIP⟩, ⟨mIR, lIR⟩, ⟨mIU, lIU⟩, vP, vR, vU, vF, vH, vL, vS, vI, vG⟩, Smo.rf⟩)

set_option maxRecDepth 100000 in
set_option maxHeartbeats 4000000 in
theorem ev_y_count_1 {h : List aC} {σ : Sg} (H : RM h σ) (ok : okSg σ) : Ev mX9_count 2 0 0 [.ref 98, .int (nI 1)] h (spM h (oCount σ (nI 1))) := by
  obtain ⟨fo, as_, sm, sk, z, iN, iM, iT, P, Ro, U, rf, WM, WP, WR, Tr, Ke, Co, Th, Be, Le, AP, AR, AU, Sz, It, IP, IR, IU, mO, mP, mRo, mU, mrf, mWM, mWP, mWR, mTr, mKe, mCo, mTh, mBe, mLe, mAP, mAR, mAU, mSz, mIt, mIP, mIR, mIU, vP, vR, vU, vF, vH, vL, vS, vI, vG⟩ := id H
  have mO : rd h 98 = some (.inr (9, [.int (nI σ.1.1), .int (nI σ.1.2.1), .ref 99, .ref 100, .ref 101, .int (nI σ.1.2.2.2.1), .ref 102, .int (nI ((σ.2.2.2.1).length)), .ref 103, .ref 104, .ref 105, .int fo, .int as_, .int sm, .int sk, .ref 106, .ref 107, .ref 108, .int z, .ref 109, .ref 110, .ref 111, .int (nI σ.2.1.1), .ref 112, .ref 113, .ref 114, .ref 115, .ref 116, .int (nI (bI σ.2.2.2.2.1.isSome)), .int iN, .int iM, .int iT, .ref 117, .ref 118, .ref 119])) := mO
  obtain ⟨mP, lP⟩ := mP
  obtain ⟨mRo, lRo⟩ := mRo
  obtain ⟨mU, lU⟩ := mU
  obtain ⟨mrf, lrf⟩ := mrf
  obtain ⟨mWM, lWM⟩ := mWM
  obtain ⟨mWP, lWP⟩ := mWP
  obtain ⟨mWR, lWR⟩ := mWR
  obtain ⟨mTr, lTr⟩ := mTr
  obtain ⟨mKe, lKe⟩ := mKe
  obtain ⟨mCo, lCo⟩ := mCo
  obtain ⟨mTh, lTh⟩ := mTh
  obtain ⟨mBe, lBe⟩ := mBe
  obtain ⟨mLe, lLe⟩ := mLe
  obtain ⟨mAP, lAP⟩ := mAP
  obtain ⟨mAR, lAR⟩ := mAR
  obtain ⟨mAU, lAU⟩ := mAU
  obtain ⟨mSz, lSz⟩ := mSz
  obtain ⟨mIt, lIt⟩ := mIt
  obtain ⟨mIP, lIP⟩ := mIP
  obtain ⟨mIR, lIR⟩ := mIR
  obtain ⟨mIU, lIU⟩ := mIU
  obtain ⟨okc, ⟨okl, okw⟩, okn, ⟨okh, oke⟩, oki, okr⟩ := id ok
  obtain ⟨k1, k2, k3, k4, k5, k6, k7, k8, k9⟩ := id okc
  rw [show oCount σ (nI 1) = (nI σ.1.2.1, σ) from by unfold oCount cntV; rw [if_neg (by decide), if_neg (by decide), if_pos rfl]]
  refine Ev.of pX9_count (Nat.le_of_ble_eq_true rfl) ?_
  show G mX9_count (rmD 2 0 0) none _ 0 0 0 [(0, .ref 98), (1, .int (nI 1))] [] h
  refine g_iload_n dX9_count_0 1 rfl ?_
  refine g_tableIn 45 dX9_count_1 (by decide +kernel) (by decide +kernel) (off := 44) (by decide +kernel) (by decide) ?_
  refine g_aload_n dX9_count_45 0 rfl ?_
  refine g_getf dX9_count_46 kX9 wfX9_87 (Nat.le_of_ble_eq_true rfl) (mO) rfl ?_
  exact g_iret dX9_count_49 rfl ⟨Nat.zero_le _, Nat.zero_le _⟩ (⟨rfl, ⟨_, _, _, _, _, _, _, _, _, _, _, _, _, _, _, _, _, _, _, _, _, _, _, _, _, _, _, _, _, mO, ⟨mP, lP⟩, ⟨mRo, lRo⟩, ⟨mU, lU⟩, ⟨mrf, lrf⟩, ⟨mWM, lWM⟩, ⟨mWP, lWP⟩, ⟨mWR, lWR⟩, ⟨mTr, lTr⟩, ⟨mKe, lKe⟩, ⟨mCo, lCo⟩, ⟨mTh, lTh⟩, ⟨mBe, lBe⟩, ⟨mLe, lLe⟩, ⟨mAP, lAP⟩, ⟨mAR, lAR⟩, ⟨mAU, lAU⟩, ⟨mSz, lSz⟩, ⟨mIt, lIt⟩, ⟨mIP, lIP⟩, ⟨mIR, lIR⟩, ⟨mIU, lIU⟩, vP, vR, vU, vF, vH, vL, vS, vI, vG⟩, Smo.rf⟩)

set_option maxRecDepth 100000 in
set_option maxHeartbeats 4000000 in
theorem ev_y_count_2 {h : List aC} {σ : Sg} (H : RM h σ) (ok : okSg σ) : Ev mX9_count 2 0 0 [.ref 98, .int (nI 2)] h (spM h (oCount σ (nI 2))) := by
  obtain ⟨fo, as_, sm, sk, z, iN, iM, iT, P, Ro, U, rf, WM, WP, WR, Tr, Ke, Co, Th, Be, Le, AP, AR, AU, Sz, It, IP, IR, IU, mO, mP, mRo, mU, mrf, mWM, mWP, mWR, mTr, mKe, mCo, mTh, mBe, mLe, mAP, mAR, mAU, mSz, mIt, mIP, mIR, mIU, vP, vR, vU, vF, vH, vL, vS, vI, vG⟩ := id H
  have mO : rd h 98 = some (.inr (9, [.int (nI σ.1.1), .int (nI σ.1.2.1), .ref 99, .ref 100, .ref 101, .int (nI σ.1.2.2.2.1), .ref 102, .int (nI ((σ.2.2.2.1).length)), .ref 103, .ref 104, .ref 105, .int fo, .int as_, .int sm, .int sk, .ref 106, .ref 107, .ref 108, .int z, .ref 109, .ref 110, .ref 111, .int (nI σ.2.1.1), .ref 112, .ref 113, .ref 114, .ref 115, .ref 116, .int (nI (bI σ.2.2.2.2.1.isSome)), .int iN, .int iM, .int iT, .ref 117, .ref 118, .ref 119])) := mO
  obtain ⟨mP, lP⟩ := mP
  obtain ⟨mRo, lRo⟩ := mRo
  obtain ⟨mU, lU⟩ := mU
  obtain ⟨mrf, lrf⟩ := mrf
  obtain ⟨mWM, lWM⟩ := mWM
  obtain ⟨mWP, lWP⟩ := mWP
  obtain ⟨mWR, lWR⟩ := mWR
  obtain ⟨mTr, lTr⟩ := mTr
  obtain ⟨mKe, lKe⟩ := mKe
  obtain ⟨mCo, lCo⟩ := mCo
  obtain ⟨mTh, lTh⟩ := mTh
  obtain ⟨mBe, lBe⟩ := mBe
  obtain ⟨mLe, lLe⟩ := mLe
  obtain ⟨mAP, lAP⟩ := mAP
  obtain ⟨mAR, lAR⟩ := mAR
  obtain ⟨mAU, lAU⟩ := mAU
  obtain ⟨mSz, lSz⟩ := mSz
  obtain ⟨mIt, lIt⟩ := mIt
  obtain ⟨mIP, lIP⟩ := mIP
  obtain ⟨mIR, lIR⟩ := mIR
  obtain ⟨mIU, lIU⟩ := mIU
  obtain ⟨okc, ⟨okl, okw⟩, okn, ⟨okh, oke⟩, oki, okr⟩ := id ok
  obtain ⟨k1, k2, k3, k4, k5, k6, k7, k8, k9⟩ := id okc
  rw [show oCount σ (nI 2) = (nI σ.1.2.2.2.1, σ) from by unfold oCount cntV; rw [if_neg (by decide), if_neg (by decide), if_neg (by decide), if_pos rfl]]
  refine Ev.of pX9_count (Nat.le_of_ble_eq_true rfl) ?_
  show G mX9_count (rmD 2 0 0) none _ 0 0 0 [(0, .ref 98), (1, .int (nI 2))] [] h
  refine g_iload_n dX9_count_0 1 rfl ?_
  refine g_tableIn 50 dX9_count_1 (by decide +kernel) (by decide +kernel) (off := 49) (by decide +kernel) (by decide) ?_
  refine g_aload_n dX9_count_50 0 rfl ?_
  refine g_getf dX9_count_51 kX9 wfX9_102 (Nat.le_of_ble_eq_true rfl) (mO) rfl ?_
  exact g_iret dX9_count_54 rfl ⟨Nat.zero_le _, Nat.zero_le _⟩ (⟨rfl, ⟨_, _, _, _, _, _, _, _, _, _, _, _, _, _, _, _, _, _, _, _, _, _, _, _, _, _, _, _, _, mO, ⟨mP, lP⟩, ⟨mRo, lRo⟩, ⟨mU, lU⟩, ⟨mrf, lrf⟩, ⟨mWM, lWM⟩, ⟨mWP, lWP⟩, ⟨mWR, lWR⟩, ⟨mTr, lTr⟩, ⟨mKe, lKe⟩, ⟨mCo, lCo⟩, ⟨mTh, lTh⟩, ⟨mBe, lBe⟩, ⟨mLe, lLe⟩, ⟨mAP, lAP⟩, ⟨mAR, lAR⟩, ⟨mAU, lAU⟩, ⟨mSz, lSz⟩, ⟨mIt, lIt⟩, ⟨mIP, lIP⟩, ⟨mIR, lIR⟩, ⟨mIU, lIU⟩, vP, vR, vU, vF, vH, vL, vS, vI, vG⟩, Smo.rf⟩)

set_option maxRecDepth 100000 in
set_option maxHeartbeats 4000000 in
theorem ev_y_count_3 {h : List aC} {σ : Sg} (H : RM h σ) (ok : okSg σ) : Ev mX9_count 2 0 0 [.ref 98, .int (nI 3)] h (spM h (oCount σ (nI 3))) := by
  obtain ⟨fo, as_, sm, sk, z, iN, iM, iT, P, Ro, U, rf, WM, WP, WR, Tr, Ke, Co, Th, Be, Le, AP, AR, AU, Sz, It, IP, IR, IU, mO, mP, mRo, mU, mrf, mWM, mWP, mWR, mTr, mKe, mCo, mTh, mBe, mLe, mAP, mAR, mAU, mSz, mIt, mIP, mIR, mIU, vP, vR, vU, vF, vH, vL, vS, vI, vG⟩ := id H
  have mO : rd h 98 = some (.inr (9, [.int (nI σ.1.1), .int (nI σ.1.2.1), .ref 99, .ref 100, .ref 101, .int (nI σ.1.2.2.2.1), .ref 102, .int (nI ((σ.2.2.2.1).length)), .ref 103, .ref 104, .ref 105, .int fo, .int as_, .int sm, .int sk, .ref 106, .ref 107, .ref 108, .int z, .ref 109, .ref 110, .ref 111, .int (nI σ.2.1.1), .ref 112, .ref 113, .ref 114, .ref 115, .ref 116, .int (nI (bI σ.2.2.2.2.1.isSome)), .int iN, .int iM, .int iT, .ref 117, .ref 118, .ref 119])) := mO
  obtain ⟨mP, lP⟩ := mP
  obtain ⟨mRo, lRo⟩ := mRo
  obtain ⟨mU, lU⟩ := mU
  obtain ⟨mrf, lrf⟩ := mrf
  obtain ⟨mWM, lWM⟩ := mWM
  obtain ⟨mWP, lWP⟩ := mWP
  obtain ⟨mWR, lWR⟩ := mWR
  obtain ⟨mTr, lTr⟩ := mTr
  obtain ⟨mKe, lKe⟩ := mKe
  obtain ⟨mCo, lCo⟩ := mCo
  obtain ⟨mTh, lTh⟩ := mTh
  obtain ⟨mBe, lBe⟩ := mBe
  obtain ⟨mLe, lLe⟩ := mLe
  obtain ⟨mAP, lAP⟩ := mAP
  obtain ⟨mAR, lAR⟩ := mAR
  obtain ⟨mAU, lAU⟩ := mAU
  obtain ⟨mSz, lSz⟩ := mSz
  obtain ⟨mIt, lIt⟩ := mIt
  obtain ⟨mIP, lIP⟩ := mIP
  obtain ⟨mIR, lIR⟩ := mIR
  obtain ⟨mIU, lIU⟩ := mIU
  obtain ⟨okc, ⟨okl, okw⟩, okn, ⟨okh, oke⟩, oki, okr⟩ := id ok
  obtain ⟨k1, k2, k3, k4, k5, k6, k7, k8, k9⟩ := id okc
  rw [show oCount σ (nI 3) = (nI (filR σ.1.1 σ.1.2.2.2.2.2), σ) from by unfold oCount cntV; rw [if_neg (by decide), if_neg (by decide), if_neg (by decide), if_neg (by decide), if_pos rfl]]
  refine Ev.of pX9_count (Nat.le_of_ble_eq_true rfl) ?_
  show G mX9_count (rmD 2 0 0) none _ 0 0 0 [(0, .ref 98), (1, .int (nI 3))] [] h
  refine g_iload_n dX9_count_0 1 rfl ?_
  refine g_tableIn 55 dX9_count_1 (by decide +kernel) (by decide +kernel) (off := 54) (by decide +kernel) (by decide) ?_
  refine g_aload_n dX9_count_55 0 rfl ?_
  refine g_callVp dX9_count_56 (ev_mfilled (show MO h _ _ _ _ _ _ _ _ _ _ _ _ _ _ from mO) mRo lRo) oX9_filled wiX9_filled weX9_filled wmX9_277 kX9 (mO) rfl ⟨(Nat.le_of_ble_eq_true rfl), (Nat.le_of_ble_eq_true rfl)⟩ ⟨Nat.zero_le _, Nat.zero_le _⟩ (Nat.le_of_ble_eq_true rfl) rfl ?_
  refine g_top (congrArg nI (fil_link (by omega) k2 vR k8 k9)) ?_
  exact g_iret dX9_count_59 rfl ⟨Nat.zero_le _, Nat.zero_le _⟩ (⟨rfl, ⟨_, _, _, _, _, _, _, _, _, _, _, _, _, _, _, _, _, _, _, _, _, _, _, _, _, _, _, _, _, mO, ⟨mP, lP⟩, ⟨mRo, lRo⟩, ⟨mU, lU⟩, ⟨mrf, lrf⟩, ⟨mWM, lWM⟩, ⟨mWP, lWP⟩, ⟨mWR, lWR⟩, ⟨mTr, lTr⟩, ⟨mKe, lKe⟩, ⟨mCo, lCo⟩, ⟨mTh, lTh⟩, ⟨mBe, lBe⟩, ⟨mLe, lLe⟩, ⟨mAP, lAP⟩, ⟨mAR, lAR⟩, ⟨mAU, lAU⟩, ⟨mSz, lSz⟩, ⟨mIt, lIt⟩, ⟨mIP, lIP⟩, ⟨mIR, lIR⟩, ⟨mIU, lIU⟩, vP, vR, vU, vF, vH, vL, vS, vI, vG⟩, Smo.rf⟩)

set_option maxRecDepth 100000 in
set_option maxHeartbeats 4000000 in
theorem ev_y_count_4 {h : List aC} {σ : Sg} (H : RM h σ) (ok : okSg σ) : Ev mX9_count 2 0 0 [.ref 98, .int (nI 4)] h (spM h (oCount σ (nI 4))) := by
  obtain ⟨fo, as_, sm, sk, z, iN, iM, iT, P, Ro, U, rf, WM, WP, WR, Tr, Ke, Co, Th, Be, Le, AP, AR, AU, Sz, It, IP, IR, IU, mO, mP, mRo, mU, mrf, mWM, mWP, mWR, mTr, mKe, mCo, mTh, mBe, mLe, mAP, mAR, mAU, mSz, mIt, mIP, mIR, mIU, vP, vR, vU, vF, vH, vL, vS, vI, vG⟩ := id H
  have mO : rd h 98 = some (.inr (9, [.int (nI σ.1.1), .int (nI σ.1.2.1), .ref 99, .ref 100, .ref 101, .int (nI σ.1.2.2.2.1), .ref 102, .int (nI ((σ.2.2.2.1).length)), .ref 103, .ref 104, .ref 105, .int fo, .int as_, .int sm, .int sk, .ref 106, .ref 107, .ref 108, .int z, .ref 109, .ref 110, .ref 111, .int (nI σ.2.1.1), .ref 112, .ref 113, .ref 114, .ref 115, .ref 116, .int (nI (bI σ.2.2.2.2.1.isSome)), .int iN, .int iM, .int iT, .ref 117, .ref 118, .ref 119])) := mO
  obtain ⟨mP, lP⟩ := mP
  obtain ⟨mRo, lRo⟩ := mRo
  obtain ⟨mU, lU⟩ := mU
  obtain ⟨mrf, lrf⟩ := mrf
  obtain ⟨mWM, lWM⟩ := mWM
  obtain ⟨mWP, lWP⟩ := mWP
  obtain ⟨mWR, lWR⟩ := mWR
  obtain ⟨mTr, lTr⟩ := mTr
  obtain ⟨mKe, lKe⟩ := mKe
  obtain ⟨mCo, lCo⟩ := mCo
  obtain ⟨mTh, lTh⟩ := mTh
  obtain ⟨mBe, lBe⟩ := mBe
  obtain ⟨mLe, lLe⟩ := mLe
  obtain ⟨mAP, lAP⟩ := mAP
  obtain ⟨mAR, lAR⟩ := mAR
  obtain ⟨mAU, lAU⟩ := mAU
  obtain ⟨mSz, lSz⟩ := mSz
  obtain ⟨mIt, lIt⟩ := mIt
  obtain ⟨mIP, lIP⟩ := mIP
  obtain ⟨mIR, lIR⟩ := mIR
  obtain ⟨mIU, lIU⟩ := mIU
  obtain ⟨okc, ⟨okl, okw⟩, okn, ⟨okh, oke⟩, oki, okr⟩ := id ok
  obtain ⟨k1, k2, k3, k4, k5, k6, k7, k8, k9⟩ := id okc
  rw [show oCount σ (nI 4) = (nI σ.2.1.1, σ) from by unfold oCount cntV; rw [if_neg (by decide), if_neg (by decide), if_neg (by decide), if_neg (by decide), if_neg (by decide), if_pos rfl]]
  refine Ev.of pX9_count (Nat.le_of_ble_eq_true rfl) ?_
  show G mX9_count (rmD 2 0 0) none _ 0 0 0 [(0, .ref 98), (1, .int (nI 4))] [] h
  refine g_iload_n dX9_count_0 1 rfl ?_
  refine g_tableIn 60 dX9_count_1 (by decide +kernel) (by decide +kernel) (off := 59) (by decide +kernel) (by decide) ?_
  refine g_aload_n dX9_count_60 0 rfl ?_
  refine g_getf dX9_count_61 kX9 wfX9_238 (Nat.le_of_ble_eq_true rfl) (mO) rfl ?_
  exact g_iret dX9_count_64 rfl ⟨Nat.zero_le _, Nat.zero_le _⟩ (⟨rfl, ⟨_, _, _, _, _, _, _, _, _, _, _, _, _, _, _, _, _, _, _, _, _, _, _, _, _, _, _, _, _, mO, ⟨mP, lP⟩, ⟨mRo, lRo⟩, ⟨mU, lU⟩, ⟨mrf, lrf⟩, ⟨mWM, lWM⟩, ⟨mWP, lWP⟩, ⟨mWR, lWR⟩, ⟨mTr, lTr⟩, ⟨mKe, lKe⟩, ⟨mCo, lCo⟩, ⟨mTh, lTh⟩, ⟨mBe, lBe⟩, ⟨mLe, lLe⟩, ⟨mAP, lAP⟩, ⟨mAR, lAR⟩, ⟨mAU, lAU⟩, ⟨mSz, lSz⟩, ⟨mIt, lIt⟩, ⟨mIP, lIP⟩, ⟨mIR, lIR⟩, ⟨mIU, lIU⟩, vP, vR, vU, vF, vH, vL, vS, vI, vG⟩, Smo.rf⟩)

set_option maxRecDepth 100000 in
set_option maxHeartbeats 4000000 in
theorem ev_y_count_5 {h : List aC} {σ : Sg} (H : RM h σ) (ok : okSg σ) : Ev mX9_count 2 0 0 [.ref 98, .int (nI 5)] h (spM h (oCount σ (nI 5))) := by
  obtain ⟨fo, as_, sm, sk, z, iN, iM, iT, P, Ro, U, rf, WM, WP, WR, Tr, Ke, Co, Th, Be, Le, AP, AR, AU, Sz, It, IP, IR, IU, mO, mP, mRo, mU, mrf, mWM, mWP, mWR, mTr, mKe, mCo, mTh, mBe, mLe, mAP, mAR, mAU, mSz, mIt, mIP, mIR, mIU, vP, vR, vU, vF, vH, vL, vS, vI, vG⟩ := id H
  have mO : rd h 98 = some (.inr (9, [.int (nI σ.1.1), .int (nI σ.1.2.1), .ref 99, .ref 100, .ref 101, .int (nI σ.1.2.2.2.1), .ref 102, .int (nI ((σ.2.2.2.1).length)), .ref 103, .ref 104, .ref 105, .int fo, .int as_, .int sm, .int sk, .ref 106, .ref 107, .ref 108, .int z, .ref 109, .ref 110, .ref 111, .int (nI σ.2.1.1), .ref 112, .ref 113, .ref 114, .ref 115, .ref 116, .int (nI (bI σ.2.2.2.2.1.isSome)), .int iN, .int iM, .int iT, .ref 117, .ref 118, .ref 119])) := mO
  obtain ⟨mP, lP⟩ := mP
  obtain ⟨mRo, lRo⟩ := mRo
  obtain ⟨mU, lU⟩ := mU
  obtain ⟨mrf, lrf⟩ := mrf
  obtain ⟨mWM, lWM⟩ := mWM
  obtain ⟨mWP, lWP⟩ := mWP
  obtain ⟨mWR, lWR⟩ := mWR
  obtain ⟨mTr, lTr⟩ := mTr
  obtain ⟨mKe, lKe⟩ := mKe
  obtain ⟨mCo, lCo⟩ := mCo
  obtain ⟨mTh, lTh⟩ := mTh
  obtain ⟨mBe, lBe⟩ := mBe
  obtain ⟨mLe, lLe⟩ := mLe
  obtain ⟨mAP, lAP⟩ := mAP
  obtain ⟨mAR, lAR⟩ := mAR
  obtain ⟨mAU, lAU⟩ := mAU
  obtain ⟨mSz, lSz⟩ := mSz
  obtain ⟨mIt, lIt⟩ := mIt
  obtain ⟨mIP, lIP⟩ := mIP
  obtain ⟨mIR, lIR⟩ := mIR
  obtain ⟨mIU, lIU⟩ := mIU
  obtain ⟨okc, ⟨okl, okw⟩, okn, ⟨okh, oke⟩, oki, okr⟩ := id ok
  obtain ⟨k1, k2, k3, k4, k5, k6, k7, k8, k9⟩ := id okc
  rw [show oCount σ (nI 5) = (nI σ.2.2.2.1.length, σ) from by unfold oCount cntV; rw [if_neg (by decide), if_neg (by decide), if_neg (by decide), if_neg (by decide), if_neg (by decide), if_neg (by decide), if_pos rfl]]
  refine Ev.of pX9_count (Nat.le_of_ble_eq_true rfl) ?_
  show G mX9_count (rmD 2 0 0) none _ 0 0 0 [(0, .ref 98), (1, .int (nI 5))] [] h
  refine g_iload_n dX9_count_0 1 rfl ?_
  refine g_tableIn 65 dX9_count_1 (by decide +kernel) (by decide +kernel) (off := 64) (by decide +kernel) (by decide) ?_
  refine g_aload_n dX9_count_65 0 rfl ?_
  refine g_getf dX9_count_66 kX9 wfX9_80 (Nat.le_of_ble_eq_true rfl) (mO) rfl ?_
  exact g_iret dX9_count_69 rfl ⟨Nat.zero_le _, Nat.zero_le _⟩ (⟨rfl, ⟨_, _, _, _, _, _, _, _, _, _, _, _, _, _, _, _, _, _, _, _, _, _, _, _, _, _, _, _, _, mO, ⟨mP, lP⟩, ⟨mRo, lRo⟩, ⟨mU, lU⟩, ⟨mrf, lrf⟩, ⟨mWM, lWM⟩, ⟨mWP, lWP⟩, ⟨mWR, lWR⟩, ⟨mTr, lTr⟩, ⟨mKe, lKe⟩, ⟨mCo, lCo⟩, ⟨mTh, lTh⟩, ⟨mBe, lBe⟩, ⟨mLe, lLe⟩, ⟨mAP, lAP⟩, ⟨mAR, lAR⟩, ⟨mAU, lAU⟩, ⟨mSz, lSz⟩, ⟨mIt, lIt⟩, ⟨mIP, lIP⟩, ⟨mIR, lIR⟩, ⟨mIU, lIU⟩, vP, vR, vU, vF, vH, vL, vS, vI, vG⟩, Smo.rf⟩)

set_option maxRecDepth 100000 in
set_option maxHeartbeats 4000000 in
theorem ev_y_count_o {h : List aC} {σ : Sg} (H : RM h σ) (ok : okSg σ) (x : Int32) (h2 : x.toInt < 0 ∨ 5 < x.toInt) : Ev mX9_count 2 0 0 [.ref 98, .int x] h (spM h (oCount σ x)) := by
  obtain ⟨fo, as_, sm, sk, z, iN, iM, iT, P, Ro, U, rf, WM, WP, WR, Tr, Ke, Co, Th, Be, Le, AP, AR, AU, Sz, It, IP, IR, IU, mO, mP, mRo, mU, mrf, mWM, mWP, mWR, mTr, mKe, mCo, mTh, mBe, mLe, mAP, mAR, mAU, mSz, mIt, mIP, mIR, mIU, vP, vR, vU, vF, vH, vL, vS, vI, vG⟩ := id H
  have mO : rd h 98 = some (.inr (9, [.int (nI σ.1.1), .int (nI σ.1.2.1), .ref 99, .ref 100, .ref 101, .int (nI σ.1.2.2.2.1), .ref 102, .int (nI ((σ.2.2.2.1).length)), .ref 103, .ref 104, .ref 105, .int fo, .int as_, .int sm, .int sk, .ref 106, .ref 107, .ref 108, .int z, .ref 109, .ref 110, .ref 111, .int (nI σ.2.1.1), .ref 112, .ref 113, .ref 114, .ref 115, .ref 116, .int (nI (bI σ.2.2.2.2.1.isSome)), .int iN, .int iM, .int iT, .ref 117, .ref 118, .ref 119])) := mO
  obtain ⟨mP, lP⟩ := mP
  obtain ⟨mRo, lRo⟩ := mRo
  obtain ⟨mU, lU⟩ := mU
  obtain ⟨mrf, lrf⟩ := mrf
  obtain ⟨mWM, lWM⟩ := mWM
  obtain ⟨mWP, lWP⟩ := mWP
  obtain ⟨mWR, lWR⟩ := mWR
  obtain ⟨mTr, lTr⟩ := mTr
  obtain ⟨mKe, lKe⟩ := mKe
  obtain ⟨mCo, lCo⟩ := mCo
  obtain ⟨mTh, lTh⟩ := mTh
  obtain ⟨mBe, lBe⟩ := mBe
  obtain ⟨mLe, lLe⟩ := mLe
  obtain ⟨mAP, lAP⟩ := mAP
  obtain ⟨mAR, lAR⟩ := mAR
  obtain ⟨mAU, lAU⟩ := mAU
  obtain ⟨mSz, lSz⟩ := mSz
  obtain ⟨mIt, lIt⟩ := mIt
  obtain ⟨mIP, lIP⟩ := mIP
  obtain ⟨mIR, lIR⟩ := mIR
  obtain ⟨mIU, lIU⟩ := mIU
  obtain ⟨okc, ⟨okl, okw⟩, okn, ⟨okh, oke⟩, oki, okr⟩ := id ok
  obtain ⟨k1, k2, k3, k4, k5, k6, k7, k8, k9⟩ := id okc
  refine Ev.of pX9_count (Nat.le_of_ble_eq_true rfl) ?_
  show G mX9_count (rmD 2 0 0) none _ 0 0 0 [(0, .ref 98), (1, .int x)] [] h
  refine g_iload_n dX9_count_0 1 rfl ?_
  refine g_tableOut 70 dX9_count_1 h2 (by decide) ?_
  refine g_iload_n dX9_count_70 1 rfl ?_
  refine g_i2l dX9_count_71 rfl ?_
  refine g_ldc2 dX9_count_72 wlX9_280 ?_
  refine g_ldc2 dX9_count_75 wlX9_282 ?_
  refine g_callSp dX9_count_78 (ev_inN (x) (11) (16) (by omega) (by omega) _) oX9_in wsX9_in wmX9_98 rfl ⟨(Nat.le_of_ble_eq_true rfl), (Nat.le_of_ble_eq_true rfl)⟩ ⟨Nat.zero_le _, Nat.zero_le _⟩ (Nat.le_of_ble_eq_true rfl) rfl ?_
  refine g_if_eqB 96 dX9_count_81 (by decide) (fun c81 => ?_) (fun c81 => ?_)
  · have n1 := of_decide_eq_false c81
    have nk : ∀ k, k < 6 → ¬ x = nI k := fun k hk e => by rw [e, nI_toInt (by omega)] at h2; omega
    rw [show oCount σ x = (-9, σ) from by unfold oCount cntV; rw [if_neg (fun z => n1 ⟨Int32.not_lt.mp z.1, Int32.not_lt.mp z.2⟩), if_neg (nk 0 (by omega)), if_neg (nk 1 (by omega)), if_neg (nk 2 (by omega)), if_neg (nk 3 (by omega)), if_neg (nk 4 (by omega)), if_neg (nk 5 (by omega))]]
    refine g_bipush (v := (-9)) dX9_count_96 (by decide +kernel) ?_
    exact g_iret dX9_count_98 rfl ⟨Nat.zero_le _, Nat.zero_le _⟩ (⟨rfl, ⟨_, _, _, _, _, _, _, _, _, _, _, _, _, _, _, _, _, _, _, _, _, _, _, _, _, _, _, _, _, mO, ⟨mP, lP⟩, ⟨mRo, lRo⟩, ⟨mU, lU⟩, ⟨mrf, lrf⟩, ⟨mWM, lWM⟩, ⟨mWP, lWP⟩, ⟨mWR, lWR⟩, ⟨mTr, lTr⟩, ⟨mKe, lKe⟩, ⟨mCo, lCo⟩, ⟨mTh, lTh⟩, ⟨mBe, lBe⟩, ⟨mLe, lLe⟩, ⟨mAP, lAP⟩, ⟨mAR, lAR⟩, ⟨mAU, lAU⟩, ⟨mSz, lSz⟩, ⟨mIt, lIt⟩, ⟨mIP, lIP⟩, ⟨mIR, lIR⟩, ⟨mIU, lIU⟩, vP, vR, vU, vF, vH, vL, vS, vI, vG⟩, Smo.rf⟩)
  · have n1 := of_decide_eq_true c81
    rw [show oCount σ x = (σ.2.2.2.2.2.getD (x.toNatClampNeg - 10) 0, σ) from by unfold oCount; rw [if_pos ⟨Int32.not_lt.mpr n1.1, Int32.not_lt.mpr n1.2⟩]]
    clear c81
    obtain ⟨x1, hx1, rfl⟩ := nn_of (Int32.le_trans (show (0 : Int32) ≤ nI 11 by decide) n1.1)
    rw [cl_ hx1]
    rw [nI_leI (by omega) hx1, nI_leI hx1 (by omega)] at n1
    refine g_aload_n dX9_count_84 0 rfl ?_
    refine g_getf dX9_count_85 kX9 wfX9_23 (Nat.le_of_ble_eq_true rfl) (mO) rfl ?_
    refine g_iload_n dX9_count_88 1 rfl ?_
    refine g_bipush (v := nI 10) dX9_count_89 (by decide +kernel) ?_
    refine g_isubN dX9_count_91 (by omega) ?_
    refine g_ialI dX9_count_92 (mrf) (by omega) (by omega) ?_
    refine g_goto 98 dX9_count_93 (by decide) ?_
    exact g_iret dX9_count_98 rfl ⟨Nat.zero_le _, Nat.zero_le _⟩ (⟨by rw [vF], ⟨_, _, _, _, _, _, _, _, _, _, _, _, _, _, _, _, _, _, _, _, _, _, _, _, _, _, _, _, _, mO, ⟨mP, lP⟩, ⟨mRo, lRo⟩, ⟨mU, lU⟩, ⟨mrf, lrf⟩, ⟨mWM, lWM⟩, ⟨mWP, lWP⟩, ⟨mWR, lWR⟩, ⟨mTr, lTr⟩, ⟨mKe, lKe⟩, ⟨mCo, lCo⟩, ⟨mTh, lTh⟩, ⟨mBe, lBe⟩, ⟨mLe, lLe⟩, ⟨mAP, lAP⟩, ⟨mAR, lAR⟩, ⟨mAU, lAU⟩, ⟨mSz, lSz⟩, ⟨mIt, lIt⟩, ⟨mIP, lIP⟩, ⟨mIR, lIR⟩, ⟨mIU, lIU⟩, vP, vR, vU, vF, vH, vL, vS, vI, vG⟩, Smo.rf⟩)

theorem ev_y_count {h : List aC} {σ : Sg} (H : RM h σ) (ok : okSg σ) (x : Int32) : Ev mX9_count 2 0 0 [.ref 98, .int x] h (spM h (oCount σ x)) := by
  by_cases h2 : x.toInt < 0 ∨ 5 < x.toInt
  · exact ev_y_count_o H ok x h2
  · have hx : 0 ≤ x := by rw [Int32.le_iff_toInt_le]; show (0 : Int) ≤ _; omega
    obtain ⟨x1, hx1, rfl⟩ := nn_of hx
    rw [nI_toInt hx1] at h2
    have : x1 = 0 ∨ x1 = 1 ∨ x1 = 2 ∨ x1 = 3 ∨ x1 = 4 ∨ x1 = 5 := by omega
    rcases this with e | e | e | e | e | e <;> subst e
    · exact ev_y_count_0 H ok
    · exact ev_y_count_1 H ok
    · exact ev_y_count_2 H ok
    · exact ev_y_count_3 H ok
    · exact ev_y_count_4 H ok
    · exact ev_y_count_5 H ok
