set_option maxRecDepth 100000 in
set_option maxHeartbeats 4000000 in
theorem ev_y_on0 {h : List aC} {σ : Sg} (H : RM h σ) (ok : okSg σ) (eh : σ.2.2.2.2.1 = none) : Ev mX9_on 2 0 0 [.ref 98] h (spM h (oOn σ)) := by
  obtain ⟨fo, as_, sm, sk, z, iN, iM, iT, P, Ro, U, rf, WM, WP, WR, Tr, Ke, Co, Th, Be, Le, AP, AR, AU, Sz, It, IP, IR, IU, mO, mP, mRo, mU, mrf, mWM, mWP, mWR, mTr, mKe, mCo, mTh, mBe, mLe, mAP, mAR, mAU, mSz, mIt, mIP, mIR, mIU, vP, vR, vU, vF, vH, vL, vS, vI, vG⟩ := id H
  have mO : rd h 98 = some (.inr (9, [.int (nI σ.1.1), .int (nI σ.1.2.1), .ref 99, .ref 100, .ref 101, .int (nI σ.1.2.2.2.1), .ref 102, .int (nI ((σ.2.2.2.1).length)), .ref 103, .ref 104, .ref 105, .int fo, .int as_, .int sm, .int sk, .ref 106, .ref 107, .ref 108, .int z, .ref 109, .ref 110, .ref 111, .int (nI σ.2.1.1), .ref 112, .ref 113, .ref 114, .ref 115, .ref 116, .int (nI (bI σ.2.2.2.2.1.isSome)), .int iN, .int iM, .int iT, .ref 117, .ref 118, .ref 119])) := mO
  obtain ⟨mP, lP⟩ := mP
  obtain ⟨mRo, lRo⟩ := mRo
  obtain ⟨mU, lU⟩ := mU
  obtain ⟨mrf, lrf⟩ := mrf
  obtain ⟨mWM, lWM⟩ := mWM
  obtain ⟨mWP, lWP⟩ := mWP
  obtain ⟨mWR, lWR⟩ := mWR
  obtain ⟨mTr, lTr⟩ := mTr
  obtain ⟨mKe, lKe⟩ := mKe
  obtain ⟨mCo, lCo⟩ := mCo
  obtain ⟨mTh, lTh⟩ := mTh
  obtain ⟨mBe, lBe⟩ := mBe
  obtain ⟨mLe, lLe⟩ := mLe
  obtain ⟨mAP, lAP⟩ := mAP
  obtain ⟨mAR, lAR⟩ := mAR
  obtain ⟨mAU, lAU⟩ := mAU
  obtain ⟨mSz, lSz⟩ := mSz
  obtain ⟨mIt, lIt⟩ := mIt
  obtain ⟨mIP, lIP⟩ := mIP
  obtain ⟨mIR, lIR⟩ := mIR
  obtain ⟨mIU, lIU⟩ := mIU
  obtain ⟨okc, ⟨okl, okw⟩, okn, ⟨okh, oke⟩, oki, okr⟩ := id ok
  obtain ⟨k1, k2, k3, k4, k5, k6, k7, k8, k9⟩ := id okc
  refine Ev.of pX9_on (Nat.le_of_ble_eq_true rfl) ?_
  show G mX9_on (rmD 2 0 0) none _ 0 0 0 [(0, .ref 98)] [] h
  refine g_aload_n dX9_on_0 0 rfl ?_
  refine g_getf dX9_on_1 kX9 wfX9_264 (Nat.le_of_ble_eq_true rfl) (mO) rfl ?_
  refine g_top (show nI (bI σ.2.2.2.2.1.isSome) = nI (bI false) from congrArg (fun z : Option Cr => nI (bI z.isSome)) eh) ?_
  refine g_if_neB 14 dX9_on_4 (by decide) (fun z => absurd z (by decide)) (fun c4 => ?_)
  refine g_aload_n dX9_on_7 0 rfl ?_
  refine g_bipush (v := (-3)) dX9_on_8 (by decide +kernel) ?_
  rw [show oOn σ = rfS σ (-3) from by unfold oOn; rw [eh]]
  refine g_callVq (st1 := [.int (-nI 3)]) dX9_on_10 (ev_refused H ok 3 (by unfold noN; omega)) oX9_refused wiX9_refused weX9_refused wmX9_90 kX9 (mO) rfl ⟨(Nat.le_of_ble_eq_true rfl), (Nat.le_of_ble_eq_true rfl)⟩ ⟨Nat.zero_le _, Nat.zero_le _⟩ (Nat.le_of_ble_eq_true rfl) rfl rfl (fun h1 q1 => ?_)
  exact g_iret dX9_on_13 rfl ⟨Nat.zero_le _, Nat.zero_le _⟩ (⟨rfl, q1⟩)

set_option maxRecDepth 100000 in
set_option maxHeartbeats 4000000 in
theorem ev_y_on1 {h : List aC} {σ : Sg} (H : RM h σ) (ok : okSg σ) (c2 : Cr) (eh : σ.2.2.2.2.1 = some c2) : Ev mX9_on 2 0 0 [.ref 98] h (spM h (oOn σ)) := by
  obtain ⟨fo, as_, sm, sk, z, iN, iM, iT, P, Ro, U, rf, WM, WP, WR, Tr, Ke, Co, Th, Be, Le, AP, AR, AU, Sz, It, IP, IR, IU, mO, mP, mRo, mU, mrf, mWM, mWP, mWR, mTr, mKe, mCo, mTh, mBe, mLe, mAP, mAR, mAU, mSz, mIt, mIP, mIR, mIU, vP, vR, vU, vF, vH, vL, vS, vI, vG⟩ := id H
  have mO : rd h 98 = some (.inr (9, [.int (nI σ.1.1), .int (nI σ.1.2.1), .ref 99, .ref 100, .ref 101, .int (nI σ.1.2.2.2.1), .ref 102, .int (nI ((σ.2.2.2.1).length)), .ref 103, .ref 104, .ref 105, .int fo, .int as_, .int sm, .int sk, .ref 106, .ref 107, .ref 108, .int z, .ref 109, .ref 110, .ref 111, .int (nI σ.2.1.1), .ref 112, .ref 113, .ref 114, .ref 115, .ref 116, .int (nI (bI σ.2.2.2.2.1.isSome)), .int iN, .int iM, .int iT, .ref 117, .ref 118, .ref 119])) := mO
  obtain ⟨mP, lP⟩ := mP
  obtain ⟨mRo, lRo⟩ := mRo
  obtain ⟨mU, lU⟩ := mU
  obtain ⟨mrf, lrf⟩ := mrf
  obtain ⟨mWM, lWM⟩ := mWM
  obtain ⟨mWP, lWP⟩ := mWP
  obtain ⟨mWR, lWR⟩ := mWR
  obtain ⟨mTr, lTr⟩ := mTr
  obtain ⟨mKe, lKe⟩ := mKe
  obtain ⟨mCo, lCo⟩ := mCo
  obtain ⟨mTh, lTh⟩ := mTh
  obtain ⟨mBe, lBe⟩ := mBe
  obtain ⟨mLe, lLe⟩ := mLe
  obtain ⟨mAP, lAP⟩ := mAP
  obtain ⟨mAR, lAR⟩ := mAR
  obtain ⟨mAU, lAU⟩ := mAU
  obtain ⟨mSz, lSz⟩ := mSz
  obtain ⟨mIt, lIt⟩ := mIt
  obtain ⟨mIP, lIP⟩ := mIP
  obtain ⟨mIR, lIR⟩ := mIR
  obtain ⟨mIU, lIU⟩ := mIU
  obtain ⟨okc, ⟨okl, okw⟩, okn, ⟨okh, oke⟩, oki, okr⟩ := id ok
  obtain ⟨k1, k2, k3, k4, k5, k6, k7, k8, k9⟩ := id okc
  have hm6 : c2.2.1 ≤ 6 := by have y := oki c2 eh; unfold okCr at y; omega
  obtain ⟨g1, g2, g3, g4, g5, g6⟩ := vG c2 eh
  rw [eh, g1, g2, g3] at mO
  have mO : rd h 98 = some (.inr (9, [.int (nI σ.1.1), .int (nI σ.1.2.1), .ref 99, .ref 100, .ref 101, .int (nI σ.1.2.2.2.1), .ref 102, .int (nI ((σ.2.2.2.1).length)), .ref 103, .ref 104, .ref 105, .int fo, .int as_, .int sm, .int sk, .ref 106, .ref 107, .ref 108, .int z, .ref 109, .ref 110, .ref 111, .int (nI σ.2.1.1), .ref 112, .ref 113, .ref 114, .ref 115, .ref 116, .int (nI (bI true)), .int (nI c2.1), .int (nI c2.2.1), .int (nI c2.2.2.2.1), .ref 117, .ref 118, .ref 119])) := mO
  obtain ⟨c1, c3, c4, c5, c6, c7, c8⟩ := oki c2 eh
  refine Ev.of pX9_on (Nat.le_of_ble_eq_true rfl) ?_
  show G mX9_on (rmD 2 0 0) none _ 0 0 0 [(0, .ref 98)] [] h
  refine g_aload_n dX9_on_0 0 rfl ?_
  refine g_getf dX9_on_1 kX9 wfX9_264 (Nat.le_of_ble_eq_true rfl) (mO) rfl ?_
  refine g_if_neB 14 dX9_on_4 (by decide) (fun c4 => ?_) (fun z => absurd z (by decide))
  rw [show oOn σ = (nI c2.2.1, (c2, σ.2.1, σ.2.2.1, [], σ.2.2.2.2)) from by unfold oOn; rw [eh]]
  refine g_aload_n dX9_on_14 0 rfl ?_
  refine g_aload_n dX9_on_15 0 rfl ?_
  refine g_getf dX9_on_16 kX9 wfX9_268 (Nat.le_of_ble_eq_true rfl) (mO) rfl ?_
  refine g_putv dX9_on_19 kX9 wfX9_7 (Nat.le_of_ble_eq_true rfl) rfl (fun _ _ => ⟨rfl, rfl⟩) (mO) (Nat.le_of_ble_eq_true rfl) (fs' := [.int (nI c2.1), .int (nI σ.1.2.1), .ref 99, .ref 100, .ref 101, .int (nI σ.1.2.2.2.1), .ref 102, .int (nI ((σ.2.2.2.1).length)), .ref 103, .ref 104, .ref 105, .int fo, .int as_, .int sm, .int sk, .ref 106, .ref 107, .ref 108, .int z, .ref 109, .ref 110, .ref 111, .int (nI σ.2.1.1), .ref 112, .ref 113, .ref 114, .ref 115, .ref 116, .int (nI (bI true)), .int (nI c2.1), .int (nI c2.2.1), .int (nI c2.2.2.2.1), .ref 117, .ref 118, .ref 119]) rfl (fun h1 e1 => ?_)
  have f1_98 : rd h1 98 = some (.inr (9, [.int (nI c2.1), .int (nI σ.1.2.1), .ref 99, .ref 100, .ref 101, .int (nI σ.1.2.2.2.1), .ref 102, .int (nI ((σ.2.2.2.1).length)), .ref 103, .ref 104, .ref 105, .int fo, .int as_, .int sm, .int sk, .ref 106, .ref 107, .ref 108, .int z, .ref 109, .ref 110, .ref 111, .int (nI σ.2.1.1), .ref 112, .ref 113, .ref 114, .ref 115, .ref 116, .int (nI (bI true)), .int (nI c2.1), .int (nI c2.2.1), .int (nI c2.2.2.2.1), .ref 117, .ref 118, .ref 119])) := by rw [e1]; exact rd_wr_eq (mO)
  have s1 : Smo 98 (98 + 1) h h1 := by rw [e1]; exact Smo.wr (by omega) (by omega)
  have f1_99 : rd h1 99 = some (.inl (P)) := by rw [s1 _ (by omega)]; exact mP
  have f1_100 : rd h1 100 = some (.inl (Ro)) := by rw [s1 _ (by omega)]; exact mRo
  have f1_101 : rd h1 101 = some (.inl (U)) := by rw [s1 _ (by omega)]; exact mU
  have f1_102 : rd h1 102 = some (.inl (rf)) := by rw [s1 _ (by omega)]; exact mrf
  have f1_103 : rd h1 103 = some (.inl (WM)) := by rw [s1 _ (by omega)]; exact mWM
  have f1_104 : rd h1 104 = some (.inl (WP)) := by rw [s1 _ (by omega)]; exact mWP
  have f1_105 : rd h1 105 = some (.inl (WR)) := by rw [s1 _ (by omega)]; exact mWR
  have f1_106 : rd h1 106 = some (.inl (Tr)) := by rw [s1 _ (by omega)]; exact mTr
  have f1_107 : rd h1 107 = some (.inl (Ke)) := by rw [s1 _ (by omega)]; exact mKe
  have f1_108 : rd h1 108 = some (.inl (Co)) := by rw [s1 _ (by omega)]; exact mCo
  have f1_109 : rd h1 109 = some (.inl (Th)) := by rw [s1 _ (by omega)]; exact mTh
  have f1_110 : rd h1 110 = some (.inl (Be)) := by rw [s1 _ (by omega)]; exact mBe
  have f1_111 : rd h1 111 = some (.inl (Le)) := by rw [s1 _ (by omega)]; exact mLe
  have f1_112 : rd h1 112 = some (.inl (AP)) := by rw [s1 _ (by omega)]; exact mAP
  have f1_113 : rd h1 113 = some (.inl (AR)) := by rw [s1 _ (by omega)]; exact mAR
  have f1_114 : rd h1 114 = some (.inl (AU)) := by rw [s1 _ (by omega)]; exact mAU
  have f1_115 : rd h1 115 = some (.inl (Sz)) := by rw [s1 _ (by omega)]; exact mSz
  have f1_116 : rd h1 116 = some (.inl (It)) := by rw [s1 _ (by omega)]; exact mIt
  have f1_117 : rd h1 117 = some (.inl (IP)) := by rw [s1 _ (by omega)]; exact mIP
  have f1_118 : rd h1 118 = some (.inl (IR)) := by rw [s1 _ (by omega)]; exact mIR
  have f1_119 : rd h1 119 = some (.inl (IU)) := by rw [s1 _ (by omega)]; exact mIU
  refine g_aload_n dX9_on_22 0 rfl ?_
  refine g_aload_n dX9_on_23 0 rfl ?_
  refine g_getf dX9_on_24 kX9 wfX9_271 (Nat.le_of_ble_eq_true rfl) (f1_98) rfl ?_
  refine g_putv dX9_on_27 kX9 wfX9_87 (Nat.le_of_ble_eq_true rfl) rfl (fun _ _ => ⟨rfl, rfl⟩) (f1_98) (Nat.le_of_ble_eq_true rfl) (fs' := [.int (nI c2.1), .int (nI c2.2.1), .ref 99, .ref 100, .ref 101, .int (nI σ.1.2.2.2.1), .ref 102, .int (nI ((σ.2.2.2.1).length)), .ref 103, .ref 104, .ref 105, .int fo, .int as_, .int sm, .int sk, .ref 106, .ref 107, .ref 108, .int z, .ref 109, .ref 110, .ref 111, .int (nI σ.2.1.1), .ref 112, .ref 113, .ref 114, .ref 115, .ref 116, .int (nI (bI true)), .int (nI c2.1), .int (nI c2.2.1), .int (nI c2.2.2.2.1), .ref 117, .ref 118, .ref 119]) rfl (fun h2 e2 => ?_)
  have f2_98 : rd h2 98 = some (.inr (9, [.int (nI c2.1), .int (nI c2.2.1), .ref 99, .ref 100, .ref 101, .int (nI σ.1.2.2.2.1), .ref 102, .int (nI ((σ.2.2.2.1).length)), .ref 103, .ref 104, .ref 105, .int fo, .int as_, .int sm, .int sk, .ref 106, .ref 107, .ref 108, .int z, .ref 109, .ref 110, .ref 111, .int (nI σ.2.1.1), .ref 112, .ref 113, .ref 114, .ref 115, .ref 116, .int (nI (bI true)), .int (nI c2.1), .int (nI c2.2.1), .int (nI c2.2.2.2.1), .ref 117, .ref 118, .ref 119])) := by rw [e2]; exact rd_wr_eq (f1_98)
  have s2 : Smo 98 (98 + 1) h1 h2 := by rw [e2]; exact Smo.wr (by omega) (by omega)
  have f2_99 : rd h2 99 = some (.inl (P)) := by rw [s2 _ (by omega)]; exact f1_99
  have f2_100 : rd h2 100 = some (.inl (Ro)) := by rw [s2 _ (by omega)]; exact f1_100
  have f2_101 : rd h2 101 = some (.inl (U)) := by rw [s2 _ (by omega)]; exact f1_101
  have f2_102 : rd h2 102 = some (.inl (rf)) := by rw [s2 _ (by omega)]; exact f1_102
  have f2_103 : rd h2 103 = some (.inl (WM)) := by rw [s2 _ (by omega)]; exact f1_103
  have f2_104 : rd h2 104 = some (.inl (WP)) := by rw [s2 _ (by omega)]; exact f1_104
  have f2_105 : rd h2 105 = some (.inl (WR)) := by rw [s2 _ (by omega)]; exact f1_105
  have f2_106 : rd h2 106 = some (.inl (Tr)) := by rw [s2 _ (by omega)]; exact f1_106
  have f2_107 : rd h2 107 = some (.inl (Ke)) := by rw [s2 _ (by omega)]; exact f1_107
  have f2_108 : rd h2 108 = some (.inl (Co)) := by rw [s2 _ (by omega)]; exact f1_108
  have f2_109 : rd h2 109 = some (.inl (Th)) := by rw [s2 _ (by omega)]; exact f1_109
  have f2_110 : rd h2 110 = some (.inl (Be)) := by rw [s2 _ (by omega)]; exact f1_110
  have f2_111 : rd h2 111 = some (.inl (Le)) := by rw [s2 _ (by omega)]; exact f1_111
  have f2_112 : rd h2 112 = some (.inl (AP)) := by rw [s2 _ (by omega)]; exact f1_112
  have f2_113 : rd h2 113 = some (.inl (AR)) := by rw [s2 _ (by omega)]; exact f1_113
  have f2_114 : rd h2 114 = some (.inl (AU)) := by rw [s2 _ (by omega)]; exact f1_114
  have f2_115 : rd h2 115 = some (.inl (Sz)) := by rw [s2 _ (by omega)]; exact f1_115
  have f2_116 : rd h2 116 = some (.inl (It)) := by rw [s2 _ (by omega)]; exact f1_116
  have f2_117 : rd h2 117 = some (.inl (IP)) := by rw [s2 _ (by omega)]; exact f1_117
  have f2_118 : rd h2 118 = some (.inl (IR)) := by rw [s2 _ (by omega)]; exact f1_118
  have f2_119 : rd h2 119 = some (.inl (IU)) := by rw [s2 _ (by omega)]; exact f1_119
  refine g_aload_n dX9_on_30 0 rfl ?_
  refine g_aload_n dX9_on_31 0 rfl ?_
  refine g_getf dX9_on_32 kX9 wfX9_274 (Nat.le_of_ble_eq_true rfl) (f2_98) rfl ?_
  refine g_putv dX9_on_35 kX9 wfX9_102 (Nat.le_of_ble_eq_true rfl) rfl (fun _ _ => ⟨rfl, rfl⟩) (f2_98) (Nat.le_of_ble_eq_true rfl) (fs' := [.int (nI c2.1), .int (nI c2.2.1), .ref 99, .ref 100, .ref 101, .int (nI c2.2.2.2.1), .ref 102, .int (nI ((σ.2.2.2.1).length)), .ref 103, .ref 104, .ref 105, .int fo, .int as_, .int sm, .int sk, .ref 106, .ref 107, .ref 108, .int z, .ref 109, .ref 110, .ref 111, .int (nI σ.2.1.1), .ref 112, .ref 113, .ref 114, .ref 115, .ref 116, .int (nI (bI true)), .int (nI c2.1), .int (nI c2.2.1), .int (nI c2.2.2.2.1), .ref 117, .ref 118, .ref 119]) rfl (fun h3 e3 => ?_)
  have f3_98 : rd h3 98 = some (.inr (9, [.int (nI c2.1), .int (nI c2.2.1), .ref 99, .ref 100, .ref 101, .int (nI c2.2.2.2.1), .ref 102, .int (nI ((σ.2.2.2.1).length)), .ref 103, .ref 104, .ref 105, .int fo, .int as_, .int sm, .int sk, .ref 106, .ref 107, .ref 108, .int z, .ref 109, .ref 110, .ref 111, .int (nI σ.2.1.1), .ref 112, .ref 113, .ref 114, .ref 115, .ref 116, .int (nI (bI true)), .int (nI c2.1), .int (nI c2.2.1), .int (nI c2.2.2.2.1), .ref 117, .ref 118, .ref 119])) := by rw [e3]; exact rd_wr_eq (f2_98)
  have s3 : Smo 98 (98 + 1) h2 h3 := by rw [e3]; exact Smo.wr (by omega) (by omega)
  have f3_99 : rd h3 99 = some (.inl (P)) := by rw [s3 _ (by omega)]; exact f2_99
  have f3_100 : rd h3 100 = some (.inl (Ro)) := by rw [s3 _ (by omega)]; exact f2_100
  have f3_101 : rd h3 101 = some (.inl (U)) := by rw [s3 _ (by omega)]; exact f2_101
  have f3_102 : rd h3 102 = some (.inl (rf)) := by rw [s3 _ (by omega)]; exact f2_102
  have f3_103 : rd h3 103 = some (.inl (WM)) := by rw [s3 _ (by omega)]; exact f2_103
  have f3_104 : rd h3 104 = some (.inl (WP)) := by rw [s3 _ (by omega)]; exact f2_104
  have f3_105 : rd h3 105 = some (.inl (WR)) := by rw [s3 _ (by omega)]; exact f2_105
  have f3_106 : rd h3 106 = some (.inl (Tr)) := by rw [s3 _ (by omega)]; exact f2_106
  have f3_107 : rd h3 107 = some (.inl (Ke)) := by rw [s3 _ (by omega)]; exact f2_107
  have f3_108 : rd h3 108 = some (.inl (Co)) := by rw [s3 _ (by omega)]; exact f2_108
  have f3_109 : rd h3 109 = some (.inl (Th)) := by rw [s3 _ (by omega)]; exact f2_109
  have f3_110 : rd h3 110 = some (.inl (Be)) := by rw [s3 _ (by omega)]; exact f2_110
  have f3_111 : rd h3 111 = some (.inl (Le)) := by rw [s3 _ (by omega)]; exact f2_111
  have f3_112 : rd h3 112 = some (.inl (AP)) := by rw [s3 _ (by omega)]; exact f2_112
  have f3_113 : rd h3 113 = some (.inl (AR)) := by rw [s3 _ (by omega)]; exact f2_113
  have f3_114 : rd h3 114 = some (.inl (AU)) := by rw [s3 _ (by omega)]; exact f2_114
  have f3_115 : rd h3 115 = some (.inl (Sz)) := by rw [s3 _ (by omega)]; exact f2_115
  have f3_116 : rd h3 116 = some (.inl (It)) := by rw [s3 _ (by omega)]; exact f2_116
  have f3_117 : rd h3 117 = some (.inl (IP)) := by rw [s3 _ (by omega)]; exact f2_117
  have f3_118 : rd h3 118 = some (.inl (IR)) := by rw [s3 _ (by omega)]; exact f2_118
  have f3_119 : rd h3 119 = some (.inl (IU)) := by rw [s3 _ (by omega)]; exact f2_119
  refine g_aload_n dX9_on_38 0 rfl ?_
  refine g_getf dX9_on_39 kX9 wfX9_68 (Nat.le_of_ble_eq_true rfl) (f3_98) rfl ?_
  refine g_iconst (v := nI 0) dX9_on_42 (by decide +kernel) ?_
  refine g_aload_n dX9_on_43 0 rfl ?_
  refine g_getf dX9_on_44 kX9 wfX9_13 (Nat.le_of_ble_eq_true rfl) (f3_98) rfl ?_
  refine g_iconst (v := nI 0) dX9_on_47 (by decide +kernel) ?_
  refine g_bipush (v := nI 18) dX9_on_48 (by decide +kernel) ?_
  have la4 : (IP).length = 18 := lIP
  have lb4 : (P).length = 18 := lP
  refine g_callSq (st1 := []) dX9_on_50 (ev_mlays (a := 0) (b := 0) (s := 18) (show 117 ≠ 99 by decide) (by omega) (by omega) ⟨by omega, by omega⟩ (f3_117) (f3_99)) oX9_lays wsX9_lays wmX9_83 rfl ⟨(Nat.le_of_ble_eq_true rfl), (Nat.le_of_ble_eq_true rfl)⟩ ⟨Nat.zero_le _, Nat.zero_le _⟩ (Nat.le_of_ble_eq_true rfl) rfl rfl (fun h5 q5 => ?_)
  obtain ⟨q5a, q5s⟩ := q5
  have f5_98 : rd h5 98 = some (.inr (9, [.int (nI c2.1), .int (nI c2.2.1), .ref 99, .ref 100, .ref 101, .int (nI c2.2.2.2.1), .ref 102, .int (nI ((σ.2.2.2.1).length)), .ref 103, .ref 104, .ref 105, .int fo, .int as_, .int sm, .int sk, .ref 106, .ref 107, .ref 108, .int z, .ref 109, .ref 110, .ref 111, .int (nI σ.2.1.1), .ref 112, .ref 113, .ref 114, .ref 115, .ref 116, .int (nI (bI true)), .int (nI c2.1), .int (nI c2.2.1), .int (nI c2.2.2.2.1), .ref 117, .ref 118, .ref 119])) := by rw [q5s _ (by omega)]; exact f3_98
  have f5_100 : rd h5 100 = some (.inl (Ro)) := by rw [q5s _ (by omega)]; exact f3_100
  have f5_101 : rd h5 101 = some (.inl (U)) := by rw [q5s _ (by omega)]; exact f3_101
  have f5_102 : rd h5 102 = some (.inl (rf)) := by rw [q5s _ (by omega)]; exact f3_102
  have f5_103 : rd h5 103 = some (.inl (WM)) := by rw [q5s _ (by omega)]; exact f3_103
  have f5_104 : rd h5 104 = some (.inl (WP)) := by rw [q5s _ (by omega)]; exact f3_104
  have f5_105 : rd h5 105 = some (.inl (WR)) := by rw [q5s _ (by omega)]; exact f3_105
  have f5_106 : rd h5 106 = some (.inl (Tr)) := by rw [q5s _ (by omega)]; exact f3_106
  have f5_107 : rd h5 107 = some (.inl (Ke)) := by rw [q5s _ (by omega)]; exact f3_107
  have f5_108 : rd h5 108 = some (.inl (Co)) := by rw [q5s _ (by omega)]; exact f3_108
  have f5_109 : rd h5 109 = some (.inl (Th)) := by rw [q5s _ (by omega)]; exact f3_109
  have f5_110 : rd h5 110 = some (.inl (Be)) := by rw [q5s _ (by omega)]; exact f3_110
  have f5_111 : rd h5 111 = some (.inl (Le)) := by rw [q5s _ (by omega)]; exact f3_111
  have f5_112 : rd h5 112 = some (.inl (AP)) := by rw [q5s _ (by omega)]; exact f3_112
  have f5_113 : rd h5 113 = some (.inl (AR)) := by rw [q5s _ (by omega)]; exact f3_113
  have f5_114 : rd h5 114 = some (.inl (AU)) := by rw [q5s _ (by omega)]; exact f3_114
  have f5_115 : rd h5 115 = some (.inl (Sz)) := by rw [q5s _ (by omega)]; exact f3_115
  have f5_116 : rd h5 116 = some (.inl (It)) := by rw [q5s _ (by omega)]; exact f3_116
  have f5_117 : rd h5 117 = some (.inl (IP)) := by rw [q5s _ (by omega)]; exact f3_117
  have f5_118 : rd h5 118 = some (.inl (IR)) := by rw [q5s _ (by omega)]; exact f3_118
  have f5_119 : rd h5 119 = some (.inl (IU)) := by rw [q5s _ (by omega)]; exact f3_119
  refine g_aload_n dX9_on_53 0 rfl ?_
  refine g_getf dX9_on_54 kX9 wfX9_71 (Nat.le_of_ble_eq_true rfl) (f5_98) rfl ?_
  refine g_iconst (v := nI 0) dX9_on_57 (by decide +kernel) ?_
  refine g_aload_n dX9_on_58 0 rfl ?_
  refine g_getf dX9_on_59 kX9 wfX9_17 (Nat.le_of_ble_eq_true rfl) (f5_98) rfl ?_
  refine g_iconst (v := nI 0) dX9_on_62 (by decide +kernel) ?_
  refine g_sipush (v := nI 338) dX9_on_63 (by decide +kernel) ?_
  have la6 : (IR).length = 338 := lIR
  have lb6 : (Ro).length = 338 := lRo
  refine g_callSq (st1 := []) dX9_on_66 (ev_mlays (a := 0) (b := 0) (s := 338) (show 118 ≠ 100 by decide) (by omega) (by omega) ⟨by omega, by omega⟩ (f5_118) (f5_100)) oX9_lays wsX9_lays wmX9_83 rfl ⟨(Nat.le_of_ble_eq_true rfl), (Nat.le_of_ble_eq_true rfl)⟩ ⟨Nat.zero_le _, Nat.zero_le _⟩ (Nat.le_of_ble_eq_true rfl) rfl rfl (fun h7 q7 => ?_)
  obtain ⟨q7a, q7s⟩ := q7
  have f7_98 : rd h7 98 = some (.inr (9, [.int (nI c2.1), .int (nI c2.2.1), .ref 99, .ref 100, .ref 101, .int (nI c2.2.2.2.1), .ref 102, .int (nI ((σ.2.2.2.1).length)), .ref 103, .ref 104, .ref 105, .int fo, .int as_, .int sm, .int sk, .ref 106, .ref 107, .ref 108, .int z, .ref 109, .ref 110, .ref 111, .int (nI σ.2.1.1), .ref 112, .ref 113, .ref 114, .ref 115, .ref 116, .int (nI (bI true)), .int (nI c2.1), .int (nI c2.2.1), .int (nI c2.2.2.2.1), .ref 117, .ref 118, .ref 119])) := by rw [q7s _ (by omega)]; exact f5_98
  have f7_101 : rd h7 101 = some (.inl (U)) := by rw [q7s _ (by omega)]; exact f5_101
  have f7_102 : rd h7 102 = some (.inl (rf)) := by rw [q7s _ (by omega)]; exact f5_102
  have f7_103 : rd h7 103 = some (.inl (WM)) := by rw [q7s _ (by omega)]; exact f5_103
  have f7_104 : rd h7 104 = some (.inl (WP)) := by rw [q7s _ (by omega)]; exact f5_104
  have f7_105 : rd h7 105 = some (.inl (WR)) := by rw [q7s _ (by omega)]; exact f5_105
  have f7_106 : rd h7 106 = some (.inl (Tr)) := by rw [q7s _ (by omega)]; exact f5_106
  have f7_107 : rd h7 107 = some (.inl (Ke)) := by rw [q7s _ (by omega)]; exact f5_107
  have f7_108 : rd h7 108 = some (.inl (Co)) := by rw [q7s _ (by omega)]; exact f5_108
  have f7_109 : rd h7 109 = some (.inl (Th)) := by rw [q7s _ (by omega)]; exact f5_109
  have f7_110 : rd h7 110 = some (.inl (Be)) := by rw [q7s _ (by omega)]; exact f5_110
  have f7_111 : rd h7 111 = some (.inl (Le)) := by rw [q7s _ (by omega)]; exact f5_111
  have f7_112 : rd h7 112 = some (.inl (AP)) := by rw [q7s _ (by omega)]; exact f5_112
  have f7_113 : rd h7 113 = some (.inl (AR)) := by rw [q7s _ (by omega)]; exact f5_113
  have f7_114 : rd h7 114 = some (.inl (AU)) := by rw [q7s _ (by omega)]; exact f5_114
  have f7_115 : rd h7 115 = some (.inl (Sz)) := by rw [q7s _ (by omega)]; exact f5_115
  have f7_116 : rd h7 116 = some (.inl (It)) := by rw [q7s _ (by omega)]; exact f5_116
  have f7_117 : rd h7 117 = some (.inl (IP)) := by rw [q7s _ (by omega)]; exact f5_117
  have f7_118 : rd h7 118 = some (.inl (IR)) := by rw [q7s _ (by omega)]; exact f5_118
  have f7_119 : rd h7 119 = some (.inl (IU)) := by rw [q7s _ (by omega)]; exact f5_119
  have f7_99 : rd h7 99 = some (.inl (cpL (IP) 0 (P) 0 18)) := by rw [q7s _ (by omega)]; exact q5a
  refine g_aload_n dX9_on_69 0 rfl ?_
  refine g_getf dX9_on_70 kX9 wfX9_74 (Nat.le_of_ble_eq_true rfl) (f7_98) rfl ?_
  refine g_iconst (v := nI 0) dX9_on_73 (by decide +kernel) ?_
  refine g_aload_n dX9_on_74 0 rfl ?_
  refine g_getf dX9_on_75 kX9 wfX9_20 (Nat.le_of_ble_eq_true rfl) (f7_98) rfl ?_
  refine g_iconst (v := nI 0) dX9_on_78 (by decide +kernel) ?_
  refine g_bipush (v := nI 12) dX9_on_79 (by decide +kernel) ?_
  have la8 : (IU).length = 12 := lIU
  have lb8 : (U).length = 12 := lU
  refine g_callSq (st1 := []) dX9_on_81 (ev_mlays (a := 0) (b := 0) (s := 12) (show 119 ≠ 101 by decide) (by omega) (by omega) ⟨by omega, by omega⟩ (f7_119) (f7_101)) oX9_lays wsX9_lays wmX9_83 rfl ⟨(Nat.le_of_ble_eq_true rfl), (Nat.le_of_ble_eq_true rfl)⟩ ⟨Nat.zero_le _, Nat.zero_le _⟩ (Nat.le_of_ble_eq_true rfl) rfl rfl (fun h9 q9 => ?_)
  obtain ⟨q9a, q9s⟩ := q9
  have f9_98 : rd h9 98 = some (.inr (9, [.int (nI c2.1), .int (nI c2.2.1), .ref 99, .ref 100, .ref 101, .int (nI c2.2.2.2.1), .ref 102, .int (nI ((σ.2.2.2.1).length)), .ref 103, .ref 104, .ref 105, .int fo, .int as_, .int sm, .int sk, .ref 106, .ref 107, .ref 108, .int z, .ref 109, .ref 110, .ref 111, .int (nI σ.2.1.1), .ref 112, .ref 113, .ref 114, .ref 115, .ref 116, .int (nI (bI true)), .int (nI c2.1), .int (nI c2.2.1), .int (nI c2.2.2.2.1), .ref 117, .ref 118, .ref 119])) := by rw [q9s _ (by omega)]; exact f7_98
  have f9_102 : rd h9 102 = some (.inl (rf)) := by rw [q9s _ (by omega)]; exact f7_102
  have f9_103 : rd h9 103 = some (.inl (WM)) := by rw [q9s _ (by omega)]; exact f7_103
  have f9_104 : rd h9 104 = some (.inl (WP)) := by rw [q9s _ (by omega)]; exact f7_104
  have f9_105 : rd h9 105 = some (.inl (WR)) := by rw [q9s _ (by omega)]; exact f7_105
  have f9_106 : rd h9 106 = some (.inl (Tr)) := by rw [q9s _ (by omega)]; exact f7_106
  have f9_107 : rd h9 107 = some (.inl (Ke)) := by rw [q9s _ (by omega)]; exact f7_107
  have f9_108 : rd h9 108 = some (.inl (Co)) := by rw [q9s _ (by omega)]; exact f7_108
  have f9_109 : rd h9 109 = some (.inl (Th)) := by rw [q9s _ (by omega)]; exact f7_109
  have f9_110 : rd h9 110 = some (.inl (Be)) := by rw [q9s _ (by omega)]; exact f7_110
  have f9_111 : rd h9 111 = some (.inl (Le)) := by rw [q9s _ (by omega)]; exact f7_111
  have f9_112 : rd h9 112 = some (.inl (AP)) := by rw [q9s _ (by omega)]; exact f7_112
  have f9_113 : rd h9 113 = some (.inl (AR)) := by rw [q9s _ (by omega)]; exact f7_113
  have f9_114 : rd h9 114 = some (.inl (AU)) := by rw [q9s _ (by omega)]; exact f7_114
  have f9_115 : rd h9 115 = some (.inl (Sz)) := by rw [q9s _ (by omega)]; exact f7_115
  have f9_116 : rd h9 116 = some (.inl (It)) := by rw [q9s _ (by omega)]; exact f7_116
  have f9_117 : rd h9 117 = some (.inl (IP)) := by rw [q9s _ (by omega)]; exact f7_117
  have f9_118 : rd h9 118 = some (.inl (IR)) := by rw [q9s _ (by omega)]; exact f7_118
  have f9_119 : rd h9 119 = some (.inl (IU)) := by rw [q9s _ (by omega)]; exact f7_119
  have f9_99 : rd h9 99 = some (.inl (cpL (IP) 0 (P) 0 18)) := by rw [q9s _ (by omega)]; exact f7_99
  have f9_100 : rd h9 100 = some (.inl (cpL (IR) 0 (Ro) 0 338)) := by rw [q9s _ (by omega)]; exact q7a
  refine g_aload_n dX9_on_84 0 rfl ?_
  refine g_iconst (v := nI 0) dX9_on_85 (by decide +kernel) ?_
  refine g_putv dX9_on_86 kX9 wfX9_80 (Nat.le_of_ble_eq_true rfl) rfl (fun _ _ => ⟨rfl, rfl⟩) (f9_98) (Nat.le_of_ble_eq_true rfl) (fs' := [.int (nI c2.1), .int (nI c2.2.1), .ref 99, .ref 100, .ref 101, .int (nI c2.2.2.2.1), .ref 102, .int (nI 0), .ref 103, .ref 104, .ref 105, .int fo, .int as_, .int sm, .int sk, .ref 106, .ref 107, .ref 108, .int z, .ref 109, .ref 110, .ref 111, .int (nI σ.2.1.1), .ref 112, .ref 113, .ref 114, .ref 115, .ref 116, .int (nI (bI true)), .int (nI c2.1), .int (nI c2.2.1), .int (nI c2.2.2.2.1), .ref 117, .ref 118, .ref 119]) rfl (fun h10 e10 => ?_)
  have f10_98 : rd h10 98 = some (.inr (9, [.int (nI c2.1), .int (nI c2.2.1), .ref 99, .ref 100, .ref 101, .int (nI c2.2.2.2.1), .ref 102, .int (nI 0), .ref 103, .ref 104, .ref 105, .int fo, .int as_, .int sm, .int sk, .ref 106, .ref 107, .ref 108, .int z, .ref 109, .ref 110, .ref 111, .int (nI σ.2.1.1), .ref 112, .ref 113, .ref 114, .ref 115, .ref 116, .int (nI (bI true)), .int (nI c2.1), .int (nI c2.2.1), .int (nI c2.2.2.2.1), .ref 117, .ref 118, .ref 119])) := by rw [e10]; exact rd_wr_eq (f9_98)
  have s10 : Smo 98 (98 + 1) h9 h10 := by rw [e10]; exact Smo.wr (by omega) (by omega)
  have f10_102 : rd h10 102 = some (.inl (rf)) := by rw [s10 _ (by omega)]; exact f9_102
  have f10_103 : rd h10 103 = some (.inl (WM)) := by rw [s10 _ (by omega)]; exact f9_103
  have f10_104 : rd h10 104 = some (.inl (WP)) := by rw [s10 _ (by omega)]; exact f9_104
  have f10_105 : rd h10 105 = some (.inl (WR)) := by rw [s10 _ (by omega)]; exact f9_105
  have f10_106 : rd h10 106 = some (.inl (Tr)) := by rw [s10 _ (by omega)]; exact f9_106
  have f10_107 : rd h10 107 = some (.inl (Ke)) := by rw [s10 _ (by omega)]; exact f9_107
  have f10_108 : rd h10 108 = some (.inl (Co)) := by rw [s10 _ (by omega)]; exact f9_108
  have f10_109 : rd h10 109 = some (.inl (Th)) := by rw [s10 _ (by omega)]; exact f9_109
  have f10_110 : rd h10 110 = some (.inl (Be)) := by rw [s10 _ (by omega)]; exact f9_110
  have f10_111 : rd h10 111 = some (.inl (Le)) := by rw [s10 _ (by omega)]; exact f9_111
  have f10_112 : rd h10 112 = some (.inl (AP)) := by rw [s10 _ (by omega)]; exact f9_112
  have f10_113 : rd h10 113 = some (.inl (AR)) := by rw [s10 _ (by omega)]; exact f9_113
  have f10_114 : rd h10 114 = some (.inl (AU)) := by rw [s10 _ (by omega)]; exact f9_114
  have f10_115 : rd h10 115 = some (.inl (Sz)) := by rw [s10 _ (by omega)]; exact f9_115
  have f10_116 : rd h10 116 = some (.inl (It)) := by rw [s10 _ (by omega)]; exact f9_116
  have f10_117 : rd h10 117 = some (.inl (IP)) := by rw [s10 _ (by omega)]; exact f9_117
  have f10_118 : rd h10 118 = some (.inl (IR)) := by rw [s10 _ (by omega)]; exact f9_118
  have f10_119 : rd h10 119 = some (.inl (IU)) := by rw [s10 _ (by omega)]; exact f9_119
  have f10_99 : rd h10 99 = some (.inl (cpL (IP) 0 (P) 0 18)) := by rw [s10 _ (by omega)]; exact f9_99
  have f10_100 : rd h10 100 = some (.inl (cpL (IR) 0 (Ro) 0 338)) := by rw [s10 _ (by omega)]; exact f9_100
  have f10_101 : rd h10 101 = some (.inl (cpL (IU) 0 (U) 0 12)) := by rw [s10 _ (by omega)]; exact q9a
  refine g_aload_n dX9_on_89 0 rfl ?_
  refine g_getf dX9_on_90 kX9 wfX9_87 (Nat.le_of_ble_eq_true rfl) (f10_98) rfl ?_
  exact g_iret dX9_on_93 rfl ⟨Nat.zero_le _, Nat.zero_le _⟩ (⟨rfl, ⟨_, _, _, _, _, _, _, _, _, _, _, _, _, _, _, _, _, _, _, _, _, _, _, _, _, _, _, _, _, (by have z := f10_98; rw [show MO = MO from rfl]; show MO _ _ _ _ _ _ _ _ _ _ _ σ.2.2.2.2.1.isSome _ _ _; rw [eh]; exact z), ⟨f10_99, ((cpL_len _ _ _ _ _).trans lb4)⟩, ⟨f10_100, ((cpL_len _ _ _ _ _).trans lb6)⟩, ⟨f10_101, ((cpL_len _ _ _ _ _).trans lb8)⟩, ⟨f10_102, lrf⟩, ⟨f10_103, lWM⟩, ⟨f10_104, lWP⟩, ⟨f10_105, lWR⟩, ⟨f10_106, lTr⟩, ⟨f10_107, lKe⟩, ⟨f10_108, lCo⟩, ⟨f10_109, lTh⟩, ⟨f10_110, lBe⟩, ⟨f10_111, lLe⟩, ⟨f10_112, lAP⟩, ⟨f10_113, lAR⟩, ⟨f10_114, lAU⟩, ⟨f10_115, lSz⟩, ⟨f10_116, lIt⟩, ⟨f10_117, lIP⟩, ⟨f10_118, lIR⟩, ⟨f10_119, lIU⟩, (pR_cg g4 hm6 (fun i hi => by rw [Nat.zero_add]; exact cp0 (by omega) hi)), (rR_cg g5 (fun i hi => by rw [Nat.zero_add]; exact cp0 (by omega) hi)), (tR_cg g6 c7 (fun i hi => cp0 (by omega) hi)), vF, (fun j hj => absurd hj (Nat.not_lt_zero j)), vL, vS, vI, (fun c hc => by have hc : σ.2.2.2.2.1 = some c := hc; rw [eh] at hc; have e := Option.some.inj hc; subst e; exact ⟨rfl, rfl, rfl, g4, g5, g6⟩)⟩, (fun q hq => by rw [s10 q (by omega), q9s q (by omega), q7s q (by omega), q5s q (by omega), s3 q (by omega), s2 q (by omega), s1 q (by omega)])⟩)

theorem ev_y_on {h : List aC} {σ : Sg} (H : RM h σ) (ok : okSg σ) : Ev mX9_on 2 0 0 [.ref 98] h (spM h (oOn σ)) := by
  rcases eh : σ.2.2.2.2.1 with _ | c2
  · exact ev_y_on0 H ok eh
  · exact ev_y_on1 H ok c2 eh

theorem rS_iff {k : Nat} (hk : 3 ≤ k ∧ k ≤ 13) : rSize (nI k) = (if k % 2 = 1 then 0 else -3) := by
  have z : ∀ k, k < 14 → 3 ≤ k → rSize (nI k) = (if k % 2 = 1 then 0 else -3) := by decide +kernel
  exact z k (by omega) hk.1
theorem rS_3 {x : Int32} (h1 : ¬ x < 3) (h2 : ¬ 13 < x) (h0 : ¬ rSize x = 0) : rSize x = -3 := by
  unfold rSize at h0 ⊢
  rw [if_neg h1, if_neg h2] at h0 ⊢
  by_cases q : x - x / 2 * 2 = 0
  · rw [if_pos q]
  · rw [if_neg q] at h0; exact absurd rfl h0
theorem in_3_13 {x : Int32} (h : decide (nI 3 ≤ x ∧ x ≤ nI 13) = true) : ∃ k, (3 ≤ k ∧ k ≤ 13) ∧ x = nI k := by
  have z := of_decide_eq_true h
  obtain ⟨k, hk, rfl⟩ := nn_of (Int32.le_trans (show (0 : Int32) ≤ nI 3 by decide) z.1)
  exact ⟨k, ⟨(nI_leI (by omega) hk).mp z.1, (nI_leI hk (by omega)).mp z.2⟩, rfl⟩
theorem rS_out {x : Int32} (h : decide (nI 3 ≤ x ∧ x ≤ nI 13) = false) : ¬ rSize x = 0 := fun e => by
  obtain ⟨k, hk, rfl⟩ := nn_of (rSize_nn e)
  have z := rSize_in hk e
  exact of_decide_eq_false h ⟨(nI_leI (by omega) hk).mpr z.1, (nI_leI hk (by omega)).mpr z.2.1⟩

set_option maxRecDepth 100000 in
set_option maxHeartbeats 4000000 in
theorem ev_isSize (x : Int32) (h : List aC) : Ev mX9_isSize 2 0 0 [.int x] h (pv (.int (nI (bI (decide (rSize x = 0))))) h) := by
  refine Ev.of pX9_isSize (Nat.le_of_ble_eq_true rfl) ?_
  show G mX9_isSize (rmD 2 0 0) none _ 0 0 0 [(0, .int x)] [] h
  refine g_iload_n dX9_isSize_0 0 rfl ?_
  refine g_i2l dX9_isSize_1 rfl ?_
  refine g_ldc2 dX9_isSize_2 wlX9_94 ?_
  refine g_ldc2 dX9_isSize_5 wlX9_96 ?_
  refine g_callSp dX9_isSize_8 (ev_inN (x) (3) (13) (by omega) (by omega) _) oX9_in wsX9_in wmX9_98 rfl ⟨(Nat.le_of_ble_eq_true rfl), (Nat.le_of_ble_eq_true rfl)⟩ ⟨Nat.zero_le _, Nat.zero_le _⟩ (Nat.le_of_ble_eq_true rfl) rfl ?_
  refine g_if_eqB 25 dX9_isSize_11 (by decide) (fun c11 => ?_) (fun c11 => ?_)
  · refine g_iconst (v := nI 0) dX9_isSize_25 (by decide +kernel) ?_
    exact g_zret dX9_isSize_26 rfl (by decide) ⟨Nat.zero_le _, Nat.zero_le _⟩ (pvF (decide_eq_false (rS_out c11)))
  · obtain ⟨k, hk, rfl⟩ := in_3_13 c11
    refine g_iload_n dX9_isSize_14 0 rfl ?_
    refine g_iconst (v := nI 2) dX9_isSize_15 (by decide +kernel) ?_
    refine g_iremN dX9_isSize_16 (by omega) (by omega) (by omega) ?_
    refine g_iconst (v := nI 1) dX9_isSize_17 (by decide +kernel) ?_
    refine g_icmp_neN 25 dX9_isSize_18 (by decide) (by omega) (by omega) (fun c18 => ?_) (fun c18 => ?_)
    · refine g_iconst (v := nI 0) dX9_isSize_25 (by decide +kernel) ?_
      exact g_zret dX9_isSize_26 rfl (by decide) ⟨Nat.zero_le _, Nat.zero_le _⟩ (pvF (decide_eq_false (by rw [rS_iff hk, if_neg (by omega)]; decide)))
    · refine g_iconst (v := nI 1) dX9_isSize_21 (by decide +kernel) ?_
      refine g_goto 26 dX9_isSize_22 (by decide) ?_
      exact g_zret dX9_isSize_26 rfl (by decide) ⟨Nat.zero_le _, Nat.zero_le _⟩ (pvT (decide_eq_true (by rw [rS_iff hk, if_pos (by omega)])))

set_option maxRecDepth 100000 in
set_option maxHeartbeats 4000000 in
theorem ev_y_size {h : List aC} {σ : Sg} (H : RM h σ) (ok : okSg σ) (x : Int32) : Ev mX9_size 3 0 0 [.ref 98, .int x] h (spM h (oSize σ x)) := by
  obtain ⟨fo, as_, sm, sk, z, iN, iM, iT, P, Ro, U, rf, WM, WP, WR, Tr, Ke, Co, Th, Be, Le, AP, AR, AU, Sz, It, IP, IR, IU, mO, mP, mRo, mU, mrf, mWM, mWP, mWR, mTr, mKe, mCo, mTh, mBe, mLe, mAP, mAR, mAU, mSz, mIt, mIP, mIR, mIU, vP, vR, vU, vF, vH, vL, vS, vI, vG⟩ := id H
  have mO : rd h 98 = some (.inr (9, [.int (nI σ.1.1), .int (nI σ.1.2.1), .ref 99, .ref 100, .ref 101, .int (nI σ.1.2.2.2.1), .ref 102, .int (nI ((σ.2.2.2.1).length)), .ref 103, .ref 104, .ref 105, .int fo, .int as_, .int sm, .int sk, .ref 106, .ref 107, .ref 108, .int z, .ref 109, .ref 110, .ref 111, .int (nI σ.2.1.1), .ref 112, .ref 113, .ref 114, .ref 115, .ref 116, .int (nI (bI σ.2.2.2.2.1.isSome)), .int iN, .int iM, .int iT, .ref 117, .ref 118, .ref 119])) := mO
  obtain ⟨mP, lP⟩ := mP
  obtain ⟨mRo, lRo⟩ := mRo
  obtain ⟨mU, lU⟩ := mU
  obtain ⟨mrf, lrf⟩ := mrf
  obtain ⟨mWM, lWM⟩ := mWM
  obtain ⟨mWP, lWP⟩ := mWP
  obtain ⟨mWR, lWR⟩ := mWR
  obtain ⟨mTr, lTr⟩ := mTr
  obtain ⟨mKe, lKe⟩ := mKe
  obtain ⟨mCo, lCo⟩ := mCo
  obtain ⟨mTh, lTh⟩ := mTh
  obtain ⟨mBe, lBe⟩ := mBe
  obtain ⟨mLe, lLe⟩ := mLe
  obtain ⟨mAP, lAP⟩ := mAP
  obtain ⟨mAR, lAR⟩ := mAR
  obtain ⟨mAU, lAU⟩ := mAU
  obtain ⟨mSz, lSz⟩ := mSz
  obtain ⟨mIt, lIt⟩ := mIt
  obtain ⟨mIP, lIP⟩ := mIP
  obtain ⟨mIR, lIR⟩ := mIR
  obtain ⟨mIU, lIU⟩ := mIU
  obtain ⟨okc, ⟨okl, okw⟩, okn, ⟨okh, oke⟩, oki, okr⟩ := id ok
  obtain ⟨k1, k2, k3, k4, k5, k6, k7, k8, k9⟩ := id okc
  refine Ev.of pX9_size (Nat.le_of_ble_eq_true rfl) ?_
  show G mX9_size (rmD 3 0 0) none _ 0 0 0 [(0, .ref 98), (1, .int x)] [] h
  refine g_iload_n dX9_size_0 1 rfl ?_
  refine g_callSp dX9_size_1 (ev_isSize x _) oX9_isSize wsX9_isSize wmX9_105 rfl ⟨(Nat.le_of_ble_eq_true rfl), (Nat.le_of_ble_eq_true rfl)⟩ ⟨Nat.zero_le _, Nat.zero_le _⟩ (Nat.le_of_ble_eq_true rfl) rfl ?_
  refine g_if_neB 35 dX9_size_4 (by decide) (fun c4 => ?_) (fun c4 => ?_)
  · have c4 := of_decide_eq_true c4
    rw [show oSize σ x = (nI σ.1.1, ((x.toNatClampNeg, 0, σ.1.2.2.1, 0, σ.1.2.2.2.2.1, fun _ _ => 0), σ.2.1, σ.2.2.1, [], σ.2.2.2.2)) from if_pos c4]
    obtain ⟨x1, hx1, rfl⟩ := nn_of (rSize_nn c4)
    rw [cl_ hx1]
    refine g_aload_n dX9_size_35 0 rfl ?_
    refine g_getf dX9_size_36 kX9 wfX9_7 (Nat.le_of_ble_eq_true rfl) (mO) rfl ?_
    refine g_istore_n (ls' := [(2, .int (nI σ.1.1)), (0, .ref 98), (1, .int (nI x1))]) dX9_size_39 (Nat.le_of_ble_eq_true rfl) rfl ?_
    refine g_aload_n dX9_size_40 1 rfl ?_
    refine g_iload_n dX9_size_41 2 rfl ?_
    refine g_callVq (st1 := []) dX9_size_42 (ev_becomesSize H ok x1) oX9_becomesSize wiX9_becomesSize weX9_becomesSize wmX9_109 kX9 (mO) rfl ⟨(Nat.le_of_ble_eq_true rfl), (Nat.le_of_ble_eq_true rfl)⟩ ⟨Nat.zero_le _, Nat.zero_le _⟩ (Nat.le_of_ble_eq_true rfl) rfl rfl (fun h1 q1 => ?_)
    refine g_iload_n dX9_size_45 0 rfl ?_
    exact g_iret dX9_size_46 rfl ⟨Nat.zero_le _, Nat.zero_le _⟩ (⟨rfl, q1⟩)
  · refine g_aload_n dX9_size_7 0 rfl ?_
    refine g_iload_n dX9_size_8 1 rfl ?_
    refine g_iconst (v := nI 3) dX9_size_9 (by decide +kernel) ?_
    refine g_icmp_ge 18 dX9_size_10 (by decide) (fun c10 => ?_) (fun c10 => ?_)
    · refine g_iload_n dX9_size_18 1 rfl ?_
      refine g_bipush (v := nI 13) dX9_size_19 (by decide +kernel) ?_
      refine g_icmp_le 29 dX9_size_21 (by decide) (fun c21 => ?_) (fun c21 => ?_)
      · refine g_bipush (v := (-3)) dX9_size_29 (by decide +kernel) ?_
        have n0 : ¬ rSize x = 0 := of_decide_eq_false c4
        have er : rSize x = -3 := rS_3 (Int32.not_lt.mpr c10) (Int32.not_lt.mpr c21) n0
        rw [show oSize σ x = rfS σ (rSize x) from if_neg n0, er]
        refine g_callVq (st1 := [.int (-nI 3)]) dX9_size_31 (ev_refused H ok 3 (by unfold noN; omega)) oX9_refused wiX9_refused weX9_refused wmX9_90 kX9 (mO) rfl ⟨(Nat.le_of_ble_eq_true rfl), (Nat.le_of_ble_eq_true rfl)⟩ ⟨Nat.zero_le _, Nat.zero_le _⟩ (Nat.le_of_ble_eq_true rfl) rfl rfl (fun h2 q2 => ?_)
        exact g_iret dX9_size_34 rfl ⟨Nat.zero_le _, Nat.zero_le _⟩ (⟨rfl, q2⟩)
      · refine g_bipush (v := (-6)) dX9_size_24 (by decide +kernel) ?_
        refine g_goto 31 dX9_size_26 (by decide) ?_
        have n0 : ¬ rSize x = 0 := of_decide_eq_false c4
        have er : rSize x = -6 := rSize_2 c10 c21
        rw [show oSize σ x = rfS σ (rSize x) from if_neg n0, er]
        refine g_callVq (st1 := [.int (-nI 6)]) dX9_size_31 (ev_refused H ok 6 (by unfold noN; omega)) oX9_refused wiX9_refused weX9_refused wmX9_90 kX9 (mO) rfl ⟨(Nat.le_of_ble_eq_true rfl), (Nat.le_of_ble_eq_true rfl)⟩ ⟨Nat.zero_le _, Nat.zero_le _⟩ (Nat.le_of_ble_eq_true rfl) rfl rfl (fun h3 q3 => ?_)
        exact g_iret dX9_size_34 rfl ⟨Nat.zero_le _, Nat.zero_le _⟩ (⟨rfl, q3⟩)
    · refine g_bipush (v := (-4)) dX9_size_13 (by decide +kernel) ?_
      refine g_goto 31 dX9_size_15 (by decide) ?_
      have n0 : ¬ rSize x = 0 := of_decide_eq_false c4
      have er : rSize x = -4 := rSize_1 c10
      rw [show oSize σ x = rfS σ (rSize x) from if_neg n0, er]
      refine g_callVq (st1 := [.int (-nI 4)]) dX9_size_31 (ev_refused H ok 4 (by unfold noN; omega)) oX9_refused wiX9_refused weX9_refused wmX9_90 kX9 (mO) rfl ⟨(Nat.le_of_ble_eq_true rfl), (Nat.le_of_ble_eq_true rfl)⟩ ⟨Nat.zero_le _, Nat.zero_le _⟩ (Nat.le_of_ble_eq_true rfl) rfl rfl (fun h4 q4 => ?_)
      exact g_iret dX9_size_34 rfl ⟨Nat.zero_le _, Nat.zero_le _⟩ (⟨rfl, q4⟩)
