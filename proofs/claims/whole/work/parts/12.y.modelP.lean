set_option maxRecDepth 100000 in
set_option maxHeartbeats 4000000 in
theorem ev_rem_a2 {h : List aC} {σ : Sg} (H : RM h σ) (ok : okSg σ) (hl : σ.2.2.2.1.length ≤ 11) : Ev mX9_remembers 2 0 0 [.ref 98] h (pq none (fun h2 => RM h2 (σ.1, σ.2.1, σ.2.2.1, (σ.1.2.2.1, σ.1.2.2.2.2.2) :: σ.2.2.2.1.take 11, σ.2.2.2.2) ∧ Smo 98 106 h h2)) := by
  obtain ⟨fo, as_, sm, sk, z, iN, iM, iT, P, Ro, U, rf, WM, WP, WR, Tr, Ke, Co, Th, Be, Le, AP, AR, AU, Sz, It, IP, IR, IU, mO, mP, mRo, mU, mrf, mWM, mWP, mWR, mTr, mKe, mCo, mTh, mBe, mLe, mAP, mAR, mAU, mSz, mIt, mIP, mIR, mIU, vP, vR, vU, vF, vH, vL, vS, vI, vG⟩ := id H
  have mO : rd h 98 = some (.inr (9, [.int (nI σ.1.1), .int (nI σ.1.2.1), .ref 99, .ref 100, .ref 101, .int (nI σ.1.2.2.2.1), .ref 102, .int (nI ((σ.2.2.2.1).length)), .ref 103, .ref 104, .ref 105, .int fo, .int as_, .int sm, .int sk, .ref 106, .ref 107, .ref 108, .int z, .ref 109, .ref 110, .ref 111, .int (nI σ.2.1.1), .ref 112, .ref 113, .ref 114, .ref 115, .ref 116, .int (nI (bI σ.2.2.2.2.1.isSome)), .int iN, .int iM, .int iT, .ref 117, .ref 118, .ref 119])) := mO
  obtain ⟨mP, lP⟩ := mP
  obtain ⟨mRo, lRo⟩ := mRo
  obtain ⟨mU, lU⟩ := mU
  obtain ⟨mrf, lrf⟩ := mrf
  obtain ⟨mWM, lWM⟩ := mWM
  obtain ⟨mWP, lWP⟩ := mWP
  obtain ⟨mWR, lWR⟩ := mWR
  obtain ⟨mTr, lTr⟩ := mTr
  obtain ⟨mKe, lKe⟩ := mKe
  obtain ⟨mCo, lCo⟩ := mCo
  obtain ⟨mTh, lTh⟩ := mTh
  obtain ⟨mBe, lBe⟩ := mBe
  obtain ⟨mLe, lLe⟩ := mLe
  obtain ⟨mAP, lAP⟩ := mAP
  obtain ⟨mAR, lAR⟩ := mAR
  obtain ⟨mAU, lAU⟩ := mAU
  obtain ⟨mSz, lSz⟩ := mSz
  obtain ⟨mIt, lIt⟩ := mIt
  obtain ⟨mIP, lIP⟩ := mIP
  obtain ⟨mIR, lIR⟩ := mIR
  obtain ⟨mIU, lIU⟩ := mIU
  obtain ⟨okc, ⟨okl, okw⟩, okn, ⟨okh, oke⟩, oki, okr⟩ := id ok
  obtain ⟨k1, k2, k3, k4, k5, k6, k7, k8, k9⟩ := id okc
  have hm6 : σ.1.2.1 ≤ 6 := by omega
  have et : σ.2.2.2.1.take 11 = σ.2.2.2.1 := List.take_of_length_le hl
  refine Ev.of pX9_remembers (Nat.le_of_ble_eq_true rfl) ?_
  show G mX9_remembers (rmD 2 0 0) none _ 0 0 0 [(0, .ref 98)] [] h
  refine g_aload_n dX9_remembers_0 0 rfl ?_
  refine g_getf dX9_remembers_1 kX9 wfX9_80 (Nat.le_of_ble_eq_true rfl) (mO) rfl ?_
  refine g_bipush (v := nI 12) dX9_remembers_4 (by decide +kernel) ?_
  refine g_icmp_neN 69 dX9_remembers_6 (by decide) (by omega) (by omega) (fun c6 => ?_) (fun z => absurd z (by omega))
  refine g_aload_n dX9_remembers_69 0 rfl ?_
  refine g_getf dX9_remembers_70 kX9 wfX9_26 (Nat.le_of_ble_eq_true rfl) (mO) rfl ?_
  refine g_aload_n dX9_remembers_73 0 rfl ?_
  refine g_getf dX9_remembers_74 kX9 wfX9_80 (Nat.le_of_ble_eq_true rfl) (mO) rfl ?_
  refine g_aload_n dX9_remembers_77 0 rfl ?_
  refine g_getf dX9_remembers_78 kX9 wfX9_87 (Nat.le_of_ble_eq_true rfl) (mO) rfl ?_
  refine g_iasI dX9_remembers_81 (mWM) (by omega) (by omega) (fun h1 e1 => ?_)
  have f1_103 : rd h1 103 = some (.inl ((WM).set ((σ.2.2.2.1).length) (nI σ.1.2.1))) := by rw [e1]; exact rd_wr_eq (mWM)
  have lf1_103 : ((WM).set ((σ.2.2.2.1).length) (nI σ.1.2.1)).length = _ := List.length_set.trans lWM
  have s1 : Smo 103 (103 + 1) h h1 := by rw [e1]; exact Smo.wr (by omega) (by omega)
  have f1_98 : rd h1 98 = some (.inr (9, [.int (nI σ.1.1), .int (nI σ.1.2.1), .ref 99, .ref 100, .ref 101, .int (nI σ.1.2.2.2.1), .ref 102, .int (nI ((σ.2.2.2.1).length)), .ref 103, .ref 104, .ref 105, .int fo, .int as_, .int sm, .int sk, .ref 106, .ref 107, .ref 108, .int z, .ref 109, .ref 110, .ref 111, .int (nI σ.2.1.1), .ref 112, .ref 113, .ref 114, .ref 115, .ref 116, .int (nI (bI σ.2.2.2.2.1.isSome)), .int iN, .int iM, .int iT, .ref 117, .ref 118, .ref 119])) := by rw [s1 _ (by omega)]; exact mO
  have f1_99 : rd h1 99 = some (.inl (P)) := by rw [s1 _ (by omega)]; exact mP
  have f1_100 : rd h1 100 = some (.inl (Ro)) := by rw [s1 _ (by omega)]; exact mRo
  have f1_101 : rd h1 101 = some (.inl (U)) := by rw [s1 _ (by omega)]; exact mU
  have f1_102 : rd h1 102 = some (.inl (rf)) := by rw [s1 _ (by omega)]; exact mrf
  have f1_104 : rd h1 104 = some (.inl (WP)) := by rw [s1 _ (by omega)]; exact mWP
  have f1_105 : rd h1 105 = some (.inl (WR)) := by rw [s1 _ (by omega)]; exact mWR
  have f1_106 : rd h1 106 = some (.inl (Tr)) := by rw [s1 _ (by omega)]; exact mTr
  have f1_107 : rd h1 107 = some (.inl (Ke)) := by rw [s1 _ (by omega)]; exact mKe
  have f1_108 : rd h1 108 = some (.inl (Co)) := by rw [s1 _ (by omega)]; exact mCo
  have f1_109 : rd h1 109 = some (.inl (Th)) := by rw [s1 _ (by omega)]; exact mTh
  have f1_110 : rd h1 110 = some (.inl (Be)) := by rw [s1 _ (by omega)]; exact mBe
  have f1_111 : rd h1 111 = some (.inl (Le)) := by rw [s1 _ (by omega)]; exact mLe
  have f1_112 : rd h1 112 = some (.inl (AP)) := by rw [s1 _ (by omega)]; exact mAP
  have f1_113 : rd h1 113 = some (.inl (AR)) := by rw [s1 _ (by omega)]; exact mAR
  have f1_114 : rd h1 114 = some (.inl (AU)) := by rw [s1 _ (by omega)]; exact mAU
  have f1_115 : rd h1 115 = some (.inl (Sz)) := by rw [s1 _ (by omega)]; exact mSz
  have f1_116 : rd h1 116 = some (.inl (It)) := by rw [s1 _ (by omega)]; exact mIt
  have f1_117 : rd h1 117 = some (.inl (IP)) := by rw [s1 _ (by omega)]; exact mIP
  have f1_118 : rd h1 118 = some (.inl (IR)) := by rw [s1 _ (by omega)]; exact mIR
  have f1_119 : rd h1 119 = some (.inl (IU)) := by rw [s1 _ (by omega)]; exact mIU
  refine g_aload_n dX9_remembers_82 0 rfl ?_
  refine g_getf dX9_remembers_83 kX9 wfX9_13 (Nat.le_of_ble_eq_true rfl) (f1_98) rfl ?_
  refine g_iconst (v := nI 0) dX9_remembers_86 (by decide +kernel) ?_
  refine g_aload_n dX9_remembers_87 0 rfl ?_
  refine g_getf dX9_remembers_88 kX9 wfX9_29 (Nat.le_of_ble_eq_true rfl) (f1_98) rfl ?_
  refine g_aload_n dX9_remembers_91 0 rfl ?_
  refine g_getf dX9_remembers_92 kX9 wfX9_80 (Nat.le_of_ble_eq_true rfl) (f1_98) rfl ?_
  refine g_iconst (v := nI 3) dX9_remembers_95 (by decide +kernel) ?_
  refine g_imulN dX9_remembers_96 ?_
  refine g_bipush (v := nI 6) dX9_remembers_97 (by decide +kernel) ?_
  refine g_imulN dX9_remembers_99 ?_
  refine g_bipush (v := nI 18) dX9_remembers_100 (by decide +kernel) ?_
  have la2 : (P).length = 18 := lP
  have lb2 : (WP).length = 216 := lWP
  refine g_callSq (st1 := []) dX9_remembers_102 (ev_mlays (a := 0) (b := (((σ.2.2.2.1).length) * 3) * 6) (s := 18) (show 99 ≠ 104 by decide) (by omega) (by omega) ⟨by omega, by omega⟩ (f1_99) (f1_104)) oX9_lays wsX9_lays wmX9_83 rfl ⟨(Nat.le_of_ble_eq_true rfl), (Nat.le_of_ble_eq_true rfl)⟩ ⟨Nat.zero_le _, Nat.zero_le _⟩ (Nat.le_of_ble_eq_true rfl) rfl rfl (fun h3 q3 => ?_)
  obtain ⟨q3a, q3s⟩ := q3
  have f3_98 : rd h3 98 = some (.inr (9, [.int (nI σ.1.1), .int (nI σ.1.2.1), .ref 99, .ref 100, .ref 101, .int (nI σ.1.2.2.2.1), .ref 102, .int (nI ((σ.2.2.2.1).length)), .ref 103, .ref 104, .ref 105, .int fo, .int as_, .int sm, .int sk, .ref 106, .ref 107, .ref 108, .int z, .ref 109, .ref 110, .ref 111, .int (nI σ.2.1.1), .ref 112, .ref 113, .ref 114, .ref 115, .ref 116, .int (nI (bI σ.2.2.2.2.1.isSome)), .int iN, .int iM, .int iT, .ref 117, .ref 118, .ref 119])) := by rw [q3s _ (by omega)]; exact f1_98
  have f3_99 : rd h3 99 = some (.inl (P)) := by rw [q3s _ (by omega)]; exact f1_99
  have f3_100 : rd h3 100 = some (.inl (Ro)) := by rw [q3s _ (by omega)]; exact f1_100
  have f3_101 : rd h3 101 = some (.inl (U)) := by rw [q3s _ (by omega)]; exact f1_101
  have f3_102 : rd h3 102 = some (.inl (rf)) := by rw [q3s _ (by omega)]; exact f1_102
  have f3_103 : rd h3 103 = some (.inl ((WM).set ((σ.2.2.2.1).length) (nI σ.1.2.1))) := by rw [q3s _ (by omega)]; exact f1_103
  have f3_105 : rd h3 105 = some (.inl (WR)) := by rw [q3s _ (by omega)]; exact f1_105
  have f3_106 : rd h3 106 = some (.inl (Tr)) := by rw [q3s _ (by omega)]; exact f1_106
  have f3_107 : rd h3 107 = some (.inl (Ke)) := by rw [q3s _ (by omega)]; exact f1_107
  have f3_108 : rd h3 108 = some (.inl (Co)) := by rw [q3s _ (by omega)]; exact f1_108
  have f3_109 : rd h3 109 = some (.inl (Th)) := by rw [q3s _ (by omega)]; exact f1_109
  have f3_110 : rd h3 110 = some (.inl (Be)) := by rw [q3s _ (by omega)]; exact f1_110
  have f3_111 : rd h3 111 = some (.inl (Le)) := by rw [q3s _ (by omega)]; exact f1_111
  have f3_112 : rd h3 112 = some (.inl (AP)) := by rw [q3s _ (by omega)]; exact f1_112
  have f3_113 : rd h3 113 = some (.inl (AR)) := by rw [q3s _ (by omega)]; exact f1_113
  have f3_114 : rd h3 114 = some (.inl (AU)) := by rw [q3s _ (by omega)]; exact f1_114
  have f3_115 : rd h3 115 = some (.inl (Sz)) := by rw [q3s _ (by omega)]; exact f1_115
  have f3_116 : rd h3 116 = some (.inl (It)) := by rw [q3s _ (by omega)]; exact f1_116
  have f3_117 : rd h3 117 = some (.inl (IP)) := by rw [q3s _ (by omega)]; exact f1_117
  have f3_118 : rd h3 118 = some (.inl (IR)) := by rw [q3s _ (by omega)]; exact f1_118
  have f3_119 : rd h3 119 = some (.inl (IU)) := by rw [q3s _ (by omega)]; exact f1_119
  refine g_aload_n dX9_remembers_105 0 rfl ?_
  refine g_getf dX9_remembers_106 kX9 wfX9_17 (Nat.le_of_ble_eq_true rfl) (f3_98) rfl ?_
  refine g_iconst (v := nI 0) dX9_remembers_109 (by decide +kernel) ?_
  refine g_aload_n dX9_remembers_110 0 rfl ?_
  refine g_getf dX9_remembers_111 kX9 wfX9_32 (Nat.le_of_ble_eq_true rfl) (f3_98) rfl ?_
  refine g_aload_n dX9_remembers_114 0 rfl ?_
  refine g_getf dX9_remembers_115 kX9 wfX9_80 (Nat.le_of_ble_eq_true rfl) (f3_98) rfl ?_
  refine g_iconst (v := nI 2) dX9_remembers_118 (by decide +kernel) ?_
  refine g_imulN dX9_remembers_119 ?_
  refine g_sipush (v := nI 169) dX9_remembers_120 (by decide +kernel) ?_
  refine g_imulN dX9_remembers_123 ?_
  refine g_sipush (v := nI 338) dX9_remembers_124 (by decide +kernel) ?_
  have la4 : (Ro).length = 338 := lRo
  have lb4 : (WR).length = 4056 := lWR
  refine g_callSq (st1 := []) dX9_remembers_127 (ev_mlays (a := 0) (b := (((σ.2.2.2.1).length) * 2) * 169) (s := 338) (show 100 ≠ 105 by decide) (by omega) (by omega) ⟨by omega, by omega⟩ (f3_100) (f3_105)) oX9_lays wsX9_lays wmX9_83 rfl ⟨(Nat.le_of_ble_eq_true rfl), (Nat.le_of_ble_eq_true rfl)⟩ ⟨Nat.zero_le _, Nat.zero_le _⟩ (Nat.le_of_ble_eq_true rfl) rfl rfl (fun h5 q5 => ?_)
  obtain ⟨q5a, q5s⟩ := q5
  have f5_98 : rd h5 98 = some (.inr (9, [.int (nI σ.1.1), .int (nI σ.1.2.1), .ref 99, .ref 100, .ref 101, .int (nI σ.1.2.2.2.1), .ref 102, .int (nI ((σ.2.2.2.1).length)), .ref 103, .ref 104, .ref 105, .int fo, .int as_, .int sm, .int sk, .ref 106, .ref 107, .ref 108, .int z, .ref 109, .ref 110, .ref 111, .int (nI σ.2.1.1), .ref 112, .ref 113, .ref 114, .ref 115, .ref 116, .int (nI (bI σ.2.2.2.2.1.isSome)), .int iN, .int iM, .int iT, .ref 117, .ref 118, .ref 119])) := by rw [q5s _ (by omega)]; exact f3_98
  have f5_99 : rd h5 99 = some (.inl (P)) := by rw [q5s _ (by omega)]; exact f3_99
  have f5_100 : rd h5 100 = some (.inl (Ro)) := by rw [q5s _ (by omega)]; exact f3_100
  have f5_101 : rd h5 101 = some (.inl (U)) := by rw [q5s _ (by omega)]; exact f3_101
  have f5_102 : rd h5 102 = some (.inl (rf)) := by rw [q5s _ (by omega)]; exact f3_102
  have f5_103 : rd h5 103 = some (.inl ((WM).set ((σ.2.2.2.1).length) (nI σ.1.2.1))) := by rw [q5s _ (by omega)]; exact f3_103
  have f5_106 : rd h5 106 = some (.inl (Tr)) := by rw [q5s _ (by omega)]; exact f3_106
  have f5_107 : rd h5 107 = some (.inl (Ke)) := by rw [q5s _ (by omega)]; exact f3_107
  have f5_108 : rd h5 108 = some (.inl (Co)) := by rw [q5s _ (by omega)]; exact f3_108
  have f5_109 : rd h5 109 = some (.inl (Th)) := by rw [q5s _ (by omega)]; exact f3_109
  have f5_110 : rd h5 110 = some (.inl (Be)) := by rw [q5s _ (by omega)]; exact f3_110
  have f5_111 : rd h5 111 = some (.inl (Le)) := by rw [q5s _ (by omega)]; exact f3_111
  have f5_112 : rd h5 112 = some (.inl (AP)) := by rw [q5s _ (by omega)]; exact f3_112
  have f5_113 : rd h5 113 = some (.inl (AR)) := by rw [q5s _ (by omega)]; exact f3_113
  have f5_114 : rd h5 114 = some (.inl (AU)) := by rw [q5s _ (by omega)]; exact f3_114
  have f5_115 : rd h5 115 = some (.inl (Sz)) := by rw [q5s _ (by omega)]; exact f3_115
  have f5_116 : rd h5 116 = some (.inl (It)) := by rw [q5s _ (by omega)]; exact f3_116
  have f5_117 : rd h5 117 = some (.inl (IP)) := by rw [q5s _ (by omega)]; exact f3_117
  have f5_118 : rd h5 118 = some (.inl (IR)) := by rw [q5s _ (by omega)]; exact f3_118
  have f5_119 : rd h5 119 = some (.inl (IU)) := by rw [q5s _ (by omega)]; exact f3_119
  have f5_104 : rd h5 104 = some (.inl (cpL (P) 0 (WP) ((((σ.2.2.2.1).length) * 3) * 6) 18)) := by rw [q5s _ (by omega)]; exact q3a
  refine g_aload_n dX9_remembers_130 0 rfl ?_
  refine g_dup dX9_remembers_131 rfl ?_
  refine g_getf dX9_remembers_132 kX9 wfX9_80 (Nat.le_of_ble_eq_true rfl) (f5_98) rfl ?_
  refine g_iconst (v := nI 1) dX9_remembers_135 (by decide +kernel) ?_
  refine g_iaddN dX9_remembers_136 ?_
  refine g_putv dX9_remembers_137 kX9 wfX9_80 (Nat.le_of_ble_eq_true rfl) rfl (fun _ _ => ⟨rfl, rfl⟩) (f5_98) (Nat.le_of_ble_eq_true rfl) (fs' := [.int (nI σ.1.1), .int (nI σ.1.2.1), .ref 99, .ref 100, .ref 101, .int (nI σ.1.2.2.2.1), .ref 102, .int (nI (((σ.2.2.2.1).length) + 1)), .ref 103, .ref 104, .ref 105, .int fo, .int as_, .int sm, .int sk, .ref 106, .ref 107, .ref 108, .int z, .ref 109, .ref 110, .ref 111, .int (nI σ.2.1.1), .ref 112, .ref 113, .ref 114, .ref 115, .ref 116, .int (nI (bI σ.2.2.2.2.1.isSome)), .int iN, .int iM, .int iT, .ref 117, .ref 118, .ref 119]) rfl (fun h6 e6 => ?_)
  have f6_98 : rd h6 98 = some (.inr (9, [.int (nI σ.1.1), .int (nI σ.1.2.1), .ref 99, .ref 100, .ref 101, .int (nI σ.1.2.2.2.1), .ref 102, .int (nI (((σ.2.2.2.1).length) + 1)), .ref 103, .ref 104, .ref 105, .int fo, .int as_, .int sm, .int sk, .ref 106, .ref 107, .ref 108, .int z, .ref 109, .ref 110, .ref 111, .int (nI σ.2.1.1), .ref 112, .ref 113, .ref 114, .ref 115, .ref 116, .int (nI (bI σ.2.2.2.2.1.isSome)), .int iN, .int iM, .int iT, .ref 117, .ref 118, .ref 119])) := by rw [e6]; exact rd_wr_eq (f5_98)
  have s6 : Smo 98 (98 + 1) h5 h6 := by rw [e6]; exact Smo.wr (by omega) (by omega)
  have f6_99 : rd h6 99 = some (.inl (P)) := by rw [s6 _ (by omega)]; exact f5_99
  have f6_100 : rd h6 100 = some (.inl (Ro)) := by rw [s6 _ (by omega)]; exact f5_100
  have f6_101 : rd h6 101 = some (.inl (U)) := by rw [s6 _ (by omega)]; exact f5_101
  have f6_102 : rd h6 102 = some (.inl (rf)) := by rw [s6 _ (by omega)]; exact f5_102
  have f6_103 : rd h6 103 = some (.inl ((WM).set ((σ.2.2.2.1).length) (nI σ.1.2.1))) := by rw [s6 _ (by omega)]; exact f5_103
  have f6_106 : rd h6 106 = some (.inl (Tr)) := by rw [s6 _ (by omega)]; exact f5_106
  have f6_107 : rd h6 107 = some (.inl (Ke)) := by rw [s6 _ (by omega)]; exact f5_107
  have f6_108 : rd h6 108 = some (.inl (Co)) := by rw [s6 _ (by omega)]; exact f5_108
  have f6_109 : rd h6 109 = some (.inl (Th)) := by rw [s6 _ (by omega)]; exact f5_109
  have f6_110 : rd h6 110 = some (.inl (Be)) := by rw [s6 _ (by omega)]; exact f5_110
  have f6_111 : rd h6 111 = some (.inl (Le)) := by rw [s6 _ (by omega)]; exact f5_111
  have f6_112 : rd h6 112 = some (.inl (AP)) := by rw [s6 _ (by omega)]; exact f5_112
  have f6_113 : rd h6 113 = some (.inl (AR)) := by rw [s6 _ (by omega)]; exact f5_113
  have f6_114 : rd h6 114 = some (.inl (AU)) := by rw [s6 _ (by omega)]; exact f5_114
  have f6_115 : rd h6 115 = some (.inl (Sz)) := by rw [s6 _ (by omega)]; exact f5_115
  have f6_116 : rd h6 116 = some (.inl (It)) := by rw [s6 _ (by omega)]; exact f5_116
  have f6_117 : rd h6 117 = some (.inl (IP)) := by rw [s6 _ (by omega)]; exact f5_117
  have f6_118 : rd h6 118 = some (.inl (IR)) := by rw [s6 _ (by omega)]; exact f5_118
  have f6_119 : rd h6 119 = some (.inl (IU)) := by rw [s6 _ (by omega)]; exact f5_119
  have f6_104 : rd h6 104 = some (.inl (cpL (P) 0 (WP) ((((σ.2.2.2.1).length) * 3) * 6) 18)) := by rw [s6 _ (by omega)]; exact f5_104
  have f6_105 : rd h6 105 = some (.inl (cpL (Ro) 0 (WR) ((((σ.2.2.2.1).length) * 2) * 169) 338)) := by rw [s6 _ (by omega)]; exact q5a
  exact g_vret dX9_remembers_140 rfl ⟨Nat.zero_le _, Nat.zero_le _⟩ (⟨rfl, (by rw [et]; exact ⟨_, _, _, _, _, _, _, _, _, _, _, _, _, _, _, _, _, _, _, _, _, _, _, _, _, _, _, _, _, f6_98, ⟨f6_99, lP⟩, ⟨f6_100, lRo⟩, ⟨f6_101, lU⟩, ⟨f6_102, lrf⟩, ⟨f6_103, lf1_103⟩, ⟨f6_104, ((cpL_len _ _ _ _ _).trans lb2)⟩, ⟨f6_105, ((cpL_len _ _ _ _ _).trans lb4)⟩, ⟨f6_106, lTr⟩, ⟨f6_107, lKe⟩, ⟨f6_108, lCo⟩, ⟨f6_109, lTh⟩, ⟨f6_110, lBe⟩, ⟨f6_111, lLe⟩, ⟨f6_112, lAP⟩, ⟨f6_113, lAR⟩, ⟨f6_114, lAU⟩, ⟨f6_115, lSz⟩, ⟨f6_116, lIt⟩, ⟨f6_117, lIP⟩, ⟨f6_118, lIR⟩, ⟨f6_119, lIU⟩, vP, vR, vU, vF, (hM_push vH rfl (by omega) hm6 lWM lWP lWR vP vR), vL, vS, vI, vG⟩), (fun q hq => by rw [s6 q (by omega), q5s q (by omega), q3s q (by omega), s1 q (by omega)])⟩)

set_option maxRecDepth 100000 in
set_option maxHeartbeats 4000000 in
theorem ev_rem_b2 {h : List aC} {σ : Sg} (H : RM h σ) (ok : okSg σ) (hl : σ.2.2.2.1.length = 12) : Ev mX9_remembers 2 0 0 [.ref 98] h (pq none (fun h2 => RM h2 (σ.1, σ.2.1, σ.2.2.1, (σ.1.2.2.1, σ.1.2.2.2.2.2) :: σ.2.2.2.1.take 11, σ.2.2.2.2) ∧ Smo 98 106 h h2)) := by
  obtain ⟨fo, as_, sm, sk, z, iN, iM, iT, P, Ro, U, rf, WM, WP, WR, Tr, Ke, Co, Th, Be, Le, AP, AR, AU, Sz, It, IP, IR, IU, mO, mP, mRo, mU, mrf, mWM, mWP, mWR, mTr, mKe, mCo, mTh, mBe, mLe, mAP, mAR, mAU, mSz, mIt, mIP, mIR, mIU, vP, vR, vU, vF, vH, vL, vS, vI, vG⟩ := id H
  have mO : rd h 98 = some (.inr (9, [.int (nI σ.1.1), .int (nI σ.1.2.1), .ref 99, .ref 100, .ref 101, .int (nI σ.1.2.2.2.1), .ref 102, .int (nI ((σ.2.2.2.1).length)), .ref 103, .ref 104, .ref 105, .int fo, .int as_, .int sm, .int sk, .ref 106, .ref 107, .ref 108, .int z, .ref 109, .ref 110, .ref 111, .int (nI σ.2.1.1), .ref 112, .ref 113, .ref 114, .ref 115, .ref 116, .int (nI (bI σ.2.2.2.2.1.isSome)), .int iN, .int iM, .int iT, .ref 117, .ref 118, .ref 119])) := mO
  obtain ⟨mP, lP⟩ := mP
  obtain ⟨mRo, lRo⟩ := mRo
  obtain ⟨mU, lU⟩ := mU
  obtain ⟨mrf, lrf⟩ := mrf
  obtain ⟨mWM, lWM⟩ := mWM
  obtain ⟨mWP, lWP⟩ := mWP
  obtain ⟨mWR, lWR⟩ := mWR
  obtain ⟨mTr, lTr⟩ := mTr
  obtain ⟨mKe, lKe⟩ := mKe
  obtain ⟨mCo, lCo⟩ := mCo
  obtain ⟨mTh, lTh⟩ := mTh
  obtain ⟨mBe, lBe⟩ := mBe
  obtain ⟨mLe, lLe⟩ := mLe
  obtain ⟨mAP, lAP⟩ := mAP
  obtain ⟨mAR, lAR⟩ := mAR
  obtain ⟨mAU, lAU⟩ := mAU
  obtain ⟨mSz, lSz⟩ := mSz
  obtain ⟨mIt, lIt⟩ := mIt
  obtain ⟨mIP, lIP⟩ := mIP
  obtain ⟨mIR, lIR⟩ := mIR
  obtain ⟨mIU, lIU⟩ := mIU
  obtain ⟨okc, ⟨okl, okw⟩, okn, ⟨okh, oke⟩, oki, okr⟩ := id ok
  obtain ⟨k1, k2, k3, k4, k5, k6, k7, k8, k9⟩ := id okc
  have hm6 : σ.1.2.1 ≤ 6 := by omega
  have lz : (cpL WM 1 WM 0 11).length = 12 := (cpL_len _ _ _ _ _).trans lWM
  have lt : (σ.2.2.2.1.take 11).length = 11 := by rw [List.length_take]; omega
  refine Ev.of pX9_remembers (Nat.le_of_ble_eq_true rfl) ?_
  show G mX9_remembers (rmD 2 0 0) none _ 0 0 0 [(0, .ref 98)] [] h
  refine g_aload_n dX9_remembers_0 0 rfl ?_
  refine g_getf dX9_remembers_1 kX9 wfX9_80 (Nat.le_of_ble_eq_true rfl) (mO) rfl ?_
  refine g_bipush (v := nI 12) dX9_remembers_4 (by decide +kernel) ?_
  refine g_icmp_neN 69 dX9_remembers_6 (by decide) (by omega) (by omega) (fun z => absurd z (by omega)) (fun c6 => ?_)
  refine g_aload_n dX9_remembers_9 0 rfl ?_
  refine g_getf dX9_remembers_10 kX9 wfX9_26 (Nat.le_of_ble_eq_true rfl) (mO) rfl ?_
  refine g_iconst (v := nI 1) dX9_remembers_13 (by decide +kernel) ?_
  refine g_aload_n dX9_remembers_14 0 rfl ?_
  refine g_getf dX9_remembers_15 kX9 wfX9_26 (Nat.le_of_ble_eq_true rfl) (mO) rfl ?_
  refine g_iconst (v := nI 0) dX9_remembers_18 (by decide +kernel) ?_
  refine g_bipush (v := nI 11) dX9_remembers_19 (by decide +kernel) ?_
  have la1 : (WM).length = 12 := lWM
  have lb1 : (WM).length = 12 := lWM
  refine g_callSq (st1 := []) dX9_remembers_21 (ev_mlays1 (a := 1) (b := 0) (s := 11) (by omega) (by omega) (by omega) (by omega) (mWM)) oX9_lays wsX9_lays wmX9_83 rfl ⟨(Nat.le_of_ble_eq_true rfl), (Nat.le_of_ble_eq_true rfl)⟩ ⟨Nat.zero_le _, Nat.zero_le _⟩ (Nat.le_of_ble_eq_true rfl) rfl rfl (fun h2 q2 => ?_)
  obtain ⟨q2a, q2s⟩ := q2
  have f2_98 : rd h2 98 = some (.inr (9, [.int (nI σ.1.1), .int (nI σ.1.2.1), .ref 99, .ref 100, .ref 101, .int (nI σ.1.2.2.2.1), .ref 102, .int (nI ((σ.2.2.2.1).length)), .ref 103, .ref 104, .ref 105, .int fo, .int as_, .int sm, .int sk, .ref 106, .ref 107, .ref 108, .int z, .ref 109, .ref 110, .ref 111, .int (nI σ.2.1.1), .ref 112, .ref 113, .ref 114, .ref 115, .ref 116, .int (nI (bI σ.2.2.2.2.1.isSome)), .int iN, .int iM, .int iT, .ref 117, .ref 118, .ref 119])) := by rw [q2s _ (by omega)]; exact mO
  have f2_99 : rd h2 99 = some (.inl (P)) := by rw [q2s _ (by omega)]; exact mP
  have f2_100 : rd h2 100 = some (.inl (Ro)) := by rw [q2s _ (by omega)]; exact mRo
  have f2_101 : rd h2 101 = some (.inl (U)) := by rw [q2s _ (by omega)]; exact mU
  have f2_102 : rd h2 102 = some (.inl (rf)) := by rw [q2s _ (by omega)]; exact mrf
  have f2_104 : rd h2 104 = some (.inl (WP)) := by rw [q2s _ (by omega)]; exact mWP
  have f2_105 : rd h2 105 = some (.inl (WR)) := by rw [q2s _ (by omega)]; exact mWR
  have f2_106 : rd h2 106 = some (.inl (Tr)) := by rw [q2s _ (by omega)]; exact mTr
  have f2_107 : rd h2 107 = some (.inl (Ke)) := by rw [q2s _ (by omega)]; exact mKe
  have f2_108 : rd h2 108 = some (.inl (Co)) := by rw [q2s _ (by omega)]; exact mCo
  have f2_109 : rd h2 109 = some (.inl (Th)) := by rw [q2s _ (by omega)]; exact mTh
  have f2_110 : rd h2 110 = some (.inl (Be)) := by rw [q2s _ (by omega)]; exact mBe
  have f2_111 : rd h2 111 = some (.inl (Le)) := by rw [q2s _ (by omega)]; exact mLe
  have f2_112 : rd h2 112 = some (.inl (AP)) := by rw [q2s _ (by omega)]; exact mAP
  have f2_113 : rd h2 113 = some (.inl (AR)) := by rw [q2s _ (by omega)]; exact mAR
  have f2_114 : rd h2 114 = some (.inl (AU)) := by rw [q2s _ (by omega)]; exact mAU
  have f2_115 : rd h2 115 = some (.inl (Sz)) := by rw [q2s _ (by omega)]; exact mSz
  have f2_116 : rd h2 116 = some (.inl (It)) := by rw [q2s _ (by omega)]; exact mIt
  have f2_117 : rd h2 117 = some (.inl (IP)) := by rw [q2s _ (by omega)]; exact mIP
  have f2_118 : rd h2 118 = some (.inl (IR)) := by rw [q2s _ (by omega)]; exact mIR
  have f2_119 : rd h2 119 = some (.inl (IU)) := by rw [q2s _ (by omega)]; exact mIU
  refine g_aload_n dX9_remembers_24 0 rfl ?_
  refine g_getf dX9_remembers_25 kX9 wfX9_29 (Nat.le_of_ble_eq_true rfl) (f2_98) rfl ?_
  refine g_bipush (v := nI 18) dX9_remembers_28 (by decide +kernel) ?_
  refine g_aload_n dX9_remembers_30 0 rfl ?_
  refine g_getf dX9_remembers_31 kX9 wfX9_29 (Nat.le_of_ble_eq_true rfl) (f2_98) rfl ?_
  refine g_iconst (v := nI 0) dX9_remembers_34 (by decide +kernel) ?_
  refine g_sipush (v := nI 198) dX9_remembers_35 (by decide +kernel) ?_
  have la3 : (WP).length = 216 := lWP
  have lb3 : (WP).length = 216 := lWP
  refine g_callSq (st1 := []) dX9_remembers_38 (ev_mlays1 (a := 18) (b := 0) (s := 198) (by omega) (by omega) (by omega) (by omega) (f2_104)) oX9_lays wsX9_lays wmX9_83 rfl ⟨(Nat.le_of_ble_eq_true rfl), (Nat.le_of_ble_eq_true rfl)⟩ ⟨Nat.zero_le _, Nat.zero_le _⟩ (Nat.le_of_ble_eq_true rfl) rfl rfl (fun h4 q4 => ?_)
  obtain ⟨q4a, q4s⟩ := q4
  have f4_98 : rd h4 98 = some (.inr (9, [.int (nI σ.1.1), .int (nI σ.1.2.1), .ref 99, .ref 100, .ref 101, .int (nI σ.1.2.2.2.1), .ref 102, .int (nI ((σ.2.2.2.1).length)), .ref 103, .ref 104, .ref 105, .int fo, .int as_, .int sm, .int sk, .ref 106, .ref 107, .ref 108, .int z, .ref 109, .ref 110, .ref 111, .int (nI σ.2.1.1), .ref 112, .ref 113, .ref 114, .ref 115, .ref 116, .int (nI (bI σ.2.2.2.2.1.isSome)), .int iN, .int iM, .int iT, .ref 117, .ref 118, .ref 119])) := by rw [q4s _ (by omega)]; exact f2_98
  have f4_99 : rd h4 99 = some (.inl (P)) := by rw [q4s _ (by omega)]; exact f2_99
  have f4_100 : rd h4 100 = some (.inl (Ro)) := by rw [q4s _ (by omega)]; exact f2_100
  have f4_101 : rd h4 101 = some (.inl (U)) := by rw [q4s _ (by omega)]; exact f2_101
  have f4_102 : rd h4 102 = some (.inl (rf)) := by rw [q4s _ (by omega)]; exact f2_102
  have f4_105 : rd h4 105 = some (.inl (WR)) := by rw [q4s _ (by omega)]; exact f2_105
  have f4_106 : rd h4 106 = some (.inl (Tr)) := by rw [q4s _ (by omega)]; exact f2_106
  have f4_107 : rd h4 107 = some (.inl (Ke)) := by rw [q4s _ (by omega)]; exact f2_107
  have f4_108 : rd h4 108 = some (.inl (Co)) := by rw [q4s _ (by omega)]; exact f2_108
  have f4_109 : rd h4 109 = some (.inl (Th)) := by rw [q4s _ (by omega)]; exact f2_109
  have f4_110 : rd h4 110 = some (.inl (Be)) := by rw [q4s _ (by omega)]; exact f2_110
  have f4_111 : rd h4 111 = some (.inl (Le)) := by rw [q4s _ (by omega)]; exact f2_111
  have f4_112 : rd h4 112 = some (.inl (AP)) := by rw [q4s _ (by omega)]; exact f2_112
  have f4_113 : rd h4 113 = some (.inl (AR)) := by rw [q4s _ (by omega)]; exact f2_113
  have f4_114 : rd h4 114 = some (.inl (AU)) := by rw [q4s _ (by omega)]; exact f2_114
  have f4_115 : rd h4 115 = some (.inl (Sz)) := by rw [q4s _ (by omega)]; exact f2_115
  have f4_116 : rd h4 116 = some (.inl (It)) := by rw [q4s _ (by omega)]; exact f2_116
  have f4_117 : rd h4 117 = some (.inl (IP)) := by rw [q4s _ (by omega)]; exact f2_117
  have f4_118 : rd h4 118 = some (.inl (IR)) := by rw [q4s _ (by omega)]; exact f2_118
  have f4_119 : rd h4 119 = some (.inl (IU)) := by rw [q4s _ (by omega)]; exact f2_119
  have f4_103 : rd h4 103 = some (.inl (cpL (WM) 1 (WM) 0 11)) := by rw [q4s _ (by omega)]; exact q2a
  refine g_aload_n dX9_remembers_41 0 rfl ?_
  refine g_getf dX9_remembers_42 kX9 wfX9_32 (Nat.le_of_ble_eq_true rfl) (f4_98) rfl ?_
  refine g_sipush (v := nI 338) dX9_remembers_45 (by decide +kernel) ?_
  refine g_aload_n dX9_remembers_48 0 rfl ?_
  refine g_getf dX9_remembers_49 kX9 wfX9_32 (Nat.le_of_ble_eq_true rfl) (f4_98) rfl ?_
  refine g_iconst (v := nI 0) dX9_remembers_52 (by decide +kernel) ?_
  refine g_sipush (v := nI 3718) dX9_remembers_53 (by decide +kernel) ?_
  have la5 : (WR).length = 4056 := lWR
  have lb5 : (WR).length = 4056 := lWR
  refine g_callSq (st1 := []) dX9_remembers_56 (ev_mlays1 (a := 338) (b := 0) (s := 3718) (by omega) (by omega) (by omega) (by omega) (f4_105)) oX9_lays wsX9_lays wmX9_83 rfl ⟨(Nat.le_of_ble_eq_true rfl), (Nat.le_of_ble_eq_true rfl)⟩ ⟨Nat.zero_le _, Nat.zero_le _⟩ (Nat.le_of_ble_eq_true rfl) rfl rfl (fun h6 q6 => ?_)
  obtain ⟨q6a, q6s⟩ := q6
  have f6_98 : rd h6 98 = some (.inr (9, [.int (nI σ.1.1), .int (nI σ.1.2.1), .ref 99, .ref 100, .ref 101, .int (nI σ.1.2.2.2.1), .ref 102, .int (nI ((σ.2.2.2.1).length)), .ref 103, .ref 104, .ref 105, .int fo, .int as_, .int sm, .int sk, .ref 106, .ref 107, .ref 108, .int z, .ref 109, .ref 110, .ref 111, .int (nI σ.2.1.1), .ref 112, .ref 113, .ref 114, .ref 115, .ref 116, .int (nI (bI σ.2.2.2.2.1.isSome)), .int iN, .int iM, .int iT, .ref 117, .ref 118, .ref 119])) := by rw [q6s _ (by omega)]; exact f4_98
  have f6_99 : rd h6 99 = some (.inl (P)) := by rw [q6s _ (by omega)]; exact f4_99
  have f6_100 : rd h6 100 = some (.inl (Ro)) := by rw [q6s _ (by omega)]; exact f4_100
  have f6_101 : rd h6 101 = some (.inl (U)) := by rw [q6s _ (by omega)]; exact f4_101
  have f6_102 : rd h6 102 = some (.inl (rf)) := by rw [q6s _ (by omega)]; exact f4_102
  have f6_106 : rd h6 106 = some (.inl (Tr)) := by rw [q6s _ (by omega)]; exact f4_106
  have f6_107 : rd h6 107 = some (.inl (Ke)) := by rw [q6s _ (by omega)]; exact f4_107
  have f6_108 : rd h6 108 = some (.inl (Co)) := by rw [q6s _ (by omega)]; exact f4_108
  have f6_109 : rd h6 109 = some (.inl (Th)) := by rw [q6s _ (by omega)]; exact f4_109
  have f6_110 : rd h6 110 = some (.inl (Be)) := by rw [q6s _ (by omega)]; exact f4_110
  have f6_111 : rd h6 111 = some (.inl (Le)) := by rw [q6s _ (by omega)]; exact f4_111
  have f6_112 : rd h6 112 = some (.inl (AP)) := by rw [q6s _ (by omega)]; exact f4_112
  have f6_113 : rd h6 113 = some (.inl (AR)) := by rw [q6s _ (by omega)]; exact f4_113
  have f6_114 : rd h6 114 = some (.inl (AU)) := by rw [q6s _ (by omega)]; exact f4_114
  have f6_115 : rd h6 115 = some (.inl (Sz)) := by rw [q6s _ (by omega)]; exact f4_115
  have f6_116 : rd h6 116 = some (.inl (It)) := by rw [q6s _ (by omega)]; exact f4_116
  have f6_117 : rd h6 117 = some (.inl (IP)) := by rw [q6s _ (by omega)]; exact f4_117
  have f6_118 : rd h6 118 = some (.inl (IR)) := by rw [q6s _ (by omega)]; exact f4_118
  have f6_119 : rd h6 119 = some (.inl (IU)) := by rw [q6s _ (by omega)]; exact f4_119
  have f6_103 : rd h6 103 = some (.inl (cpL (WM) 1 (WM) 0 11)) := by rw [q6s _ (by omega)]; exact f4_103
  have f6_104 : rd h6 104 = some (.inl (cpL (WP) 18 (WP) 0 198)) := by rw [q6s _ (by omega)]; exact q4a
  refine g_aload_n dX9_remembers_59 0 rfl ?_
  refine g_dup dX9_remembers_60 rfl ?_
  refine g_getf dX9_remembers_61 kX9 wfX9_80 (Nat.le_of_ble_eq_true rfl) (f6_98) rfl ?_
  refine g_iconst (v := nI 1) dX9_remembers_64 (by decide +kernel) ?_
  refine g_isubN dX9_remembers_65 (by omega) ?_
  refine g_putv dX9_remembers_66 kX9 wfX9_80 (Nat.le_of_ble_eq_true rfl) rfl (fun _ _ => ⟨rfl, rfl⟩) (f6_98) (Nat.le_of_ble_eq_true rfl) (fs' := [.int (nI σ.1.1), .int (nI σ.1.2.1), .ref 99, .ref 100, .ref 101, .int (nI σ.1.2.2.2.1), .ref 102, .int (nI (((σ.2.2.2.1).length) - 1)), .ref 103, .ref 104, .ref 105, .int fo, .int as_, .int sm, .int sk, .ref 106, .ref 107, .ref 108, .int z, .ref 109, .ref 110, .ref 111, .int (nI σ.2.1.1), .ref 112, .ref 113, .ref 114, .ref 115, .ref 116, .int (nI (bI σ.2.2.2.2.1.isSome)), .int iN, .int iM, .int iT, .ref 117, .ref 118, .ref 119]) rfl (fun h7 e7 => ?_)
  have f7_98 : rd h7 98 = some (.inr (9, [.int (nI σ.1.1), .int (nI σ.1.2.1), .ref 99, .ref 100, .ref 101, .int (nI σ.1.2.2.2.1), .ref 102, .int (nI (((σ.2.2.2.1).length) - 1)), .ref 103, .ref 104, .ref 105, .int fo, .int as_, .int sm, .int sk, .ref 106, .ref 107, .ref 108, .int z, .ref 109, .ref 110, .ref 111, .int (nI σ.2.1.1), .ref 112, .ref 113, .ref 114, .ref 115, .ref 116, .int (nI (bI σ.2.2.2.2.1.isSome)), .int iN, .int iM, .int iT, .ref 117, .ref 118, .ref 119])) := by rw [e7]; exact rd_wr_eq (f6_98)
  have s7 : Smo 98 (98 + 1) h6 h7 := by rw [e7]; exact Smo.wr (by omega) (by omega)
  have f7_99 : rd h7 99 = some (.inl (P)) := by rw [s7 _ (by omega)]; exact f6_99
  have f7_100 : rd h7 100 = some (.inl (Ro)) := by rw [s7 _ (by omega)]; exact f6_100
  have f7_101 : rd h7 101 = some (.inl (U)) := by rw [s7 _ (by omega)]; exact f6_101
  have f7_102 : rd h7 102 = some (.inl (rf)) := by rw [s7 _ (by omega)]; exact f6_102
  have f7_106 : rd h7 106 = some (.inl (Tr)) := by rw [s7 _ (by omega)]; exact f6_106
  have f7_107 : rd h7 107 = some (.inl (Ke)) := by rw [s7 _ (by omega)]; exact f6_107
  have f7_108 : rd h7 108 = some (.inl (Co)) := by rw [s7 _ (by omega)]; exact f6_108
  have f7_109 : rd h7 109 = some (.inl (Th)) := by rw [s7 _ (by omega)]; exact f6_109
  have f7_110 : rd h7 110 = some (.inl (Be)) := by rw [s7 _ (by omega)]; exact f6_110
  have f7_111 : rd h7 111 = some (.inl (Le)) := by rw [s7 _ (by omega)]; exact f6_111
  have f7_112 : rd h7 112 = some (.inl (AP)) := by rw [s7 _ (by omega)]; exact f6_112
  have f7_113 : rd h7 113 = some (.inl (AR)) := by rw [s7 _ (by omega)]; exact f6_113
  have f7_114 : rd h7 114 = some (.inl (AU)) := by rw [s7 _ (by omega)]; exact f6_114
  have f7_115 : rd h7 115 = some (.inl (Sz)) := by rw [s7 _ (by omega)]; exact f6_115
  have f7_116 : rd h7 116 = some (.inl (It)) := by rw [s7 _ (by omega)]; exact f6_116
  have f7_117 : rd h7 117 = some (.inl (IP)) := by rw [s7 _ (by omega)]; exact f6_117
  have f7_118 : rd h7 118 = some (.inl (IR)) := by rw [s7 _ (by omega)]; exact f6_118
  have f7_119 : rd h7 119 = some (.inl (IU)) := by rw [s7 _ (by omega)]; exact f6_119
  have f7_103 : rd h7 103 = some (.inl (cpL (WM) 1 (WM) 0 11)) := by rw [s7 _ (by omega)]; exact f6_103
  have f7_104 : rd h7 104 = some (.inl (cpL (WP) 18 (WP) 0 198)) := by rw [s7 _ (by omega)]; exact f6_104
  have f7_105 : rd h7 105 = some (.inl (cpL (WR) 338 (WR) 0 3718)) := by rw [s7 _ (by omega)]; exact q6a
  have o11 : rd h7 98 = some (.inr (9, [.int (nI σ.1.1), .int (nI σ.1.2.1), .ref 99, .ref 100, .ref 101, .int (nI σ.1.2.2.2.1), .ref 102, .int (nI 11), .ref 103, .ref 104, .ref 105, .int fo, .int as_, .int sm, .int sk, .ref 106, .ref 107, .ref 108, .int z, .ref 109, .ref 110, .ref 111, .int (nI σ.2.1.1), .ref 112, .ref 113, .ref 114, .ref 115, .ref 116, .int (nI (bI σ.2.2.2.2.1.isSome)), .int iN, .int iM, .int iT, .ref 117, .ref 118, .ref 119])) := by have z := f7_98; rw [hl] at z; exact z
  refine g_aload_n dX9_remembers_69 0 rfl ?_
  refine g_getf dX9_remembers_70 kX9 wfX9_26 (Nat.le_of_ble_eq_true rfl) (o11) rfl ?_
  refine g_aload_n dX9_remembers_73 0 rfl ?_
  refine g_getf dX9_remembers_74 kX9 wfX9_80 (Nat.le_of_ble_eq_true rfl) (o11) rfl ?_
  refine g_aload_n dX9_remembers_77 0 rfl ?_
  refine g_getf dX9_remembers_78 kX9 wfX9_87 (Nat.le_of_ble_eq_true rfl) (o11) rfl ?_
  refine g_iasI dX9_remembers_81 (f7_103) (by omega) (by omega) (fun h8 e8 => ?_)
  have f8_103 : rd h8 103 = some (.inl ((cpL (WM) 1 (WM) 0 11).set 11 (nI σ.1.2.1))) := by rw [e8]; exact rd_wr_eq (f7_103)
  have lf8_103 : ((cpL (WM) 1 (WM) 0 11).set 11 (nI σ.1.2.1)).length = _ := List.length_set.trans ((cpL_len _ _ _ _ _).trans lb1)
  have s8 : Smo 103 (103 + 1) h7 h8 := by rw [e8]; exact Smo.wr (by omega) (by omega)
  have f8_98 : rd h8 98 = some (.inr (9, [.int (nI σ.1.1), .int (nI σ.1.2.1), .ref 99, .ref 100, .ref 101, .int (nI σ.1.2.2.2.1), .ref 102, .int (nI 11), .ref 103, .ref 104, .ref 105, .int fo, .int as_, .int sm, .int sk, .ref 106, .ref 107, .ref 108, .int z, .ref 109, .ref 110, .ref 111, .int (nI σ.2.1.1), .ref 112, .ref 113, .ref 114, .ref 115, .ref 116, .int (nI (bI σ.2.2.2.2.1.isSome)), .int iN, .int iM, .int iT, .ref 117, .ref 118, .ref 119])) := by rw [s8 _ (by omega)]; exact o11
  have f8_99 : rd h8 99 = some (.inl (P)) := by rw [s8 _ (by omega)]; exact f7_99
  have f8_100 : rd h8 100 = some (.inl (Ro)) := by rw [s8 _ (by omega)]; exact f7_100
  have f8_101 : rd h8 101 = some (.inl (U)) := by rw [s8 _ (by omega)]; exact f7_101
  have f8_102 : rd h8 102 = some (.inl (rf)) := by rw [s8 _ (by omega)]; exact f7_102
  have f8_106 : rd h8 106 = some (.inl (Tr)) := by rw [s8 _ (by omega)]; exact f7_106
  have f8_107 : rd h8 107 = some (.inl (Ke)) := by rw [s8 _ (by omega)]; exact f7_107
  have f8_108 : rd h8 108 = some (.inl (Co)) := by rw [s8 _ (by omega)]; exact f7_108
  have f8_109 : rd h8 109 = some (.inl (Th)) := by rw [s8 _ (by omega)]; exact f7_109
  have f8_110 : rd h8 110 = some (.inl (Be)) := by rw [s8 _ (by omega)]; exact f7_110
  have f8_111 : rd h8 111 = some (.inl (Le)) := by rw [s8 _ (by omega)]; exact f7_111
  have f8_112 : rd h8 112 = some (.inl (AP)) := by rw [s8 _ (by omega)]; exact f7_112
  have f8_113 : rd h8 113 = some (.inl (AR)) := by rw [s8 _ (by omega)]; exact f7_113
  have f8_114 : rd h8 114 = some (.inl (AU)) := by rw [s8 _ (by omega)]; exact f7_114
  have f8_115 : rd h8 115 = some (.inl (Sz)) := by rw [s8 _ (by omega)]; exact f7_115
  have f8_116 : rd h8 116 = some (.inl (It)) := by rw [s8 _ (by omega)]; exact f7_116
  have f8_117 : rd h8 117 = some (.inl (IP)) := by rw [s8 _ (by omega)]; exact f7_117
  have f8_118 : rd h8 118 = some (.inl (IR)) := by rw [s8 _ (by omega)]; exact f7_118
  have f8_119 : rd h8 119 = some (.inl (IU)) := by rw [s8 _ (by omega)]; exact f7_119
  have f8_104 : rd h8 104 = some (.inl (cpL (WP) 18 (WP) 0 198)) := by rw [s8 _ (by omega)]; exact f7_104
  have f8_105 : rd h8 105 = some (.inl (cpL (WR) 338 (WR) 0 3718)) := by rw [s8 _ (by omega)]; exact f7_105
  refine g_aload_n dX9_remembers_82 0 rfl ?_
  refine g_getf dX9_remembers_83 kX9 wfX9_13 (Nat.le_of_ble_eq_true rfl) (f8_98) rfl ?_
  refine g_iconst (v := nI 0) dX9_remembers_86 (by decide +kernel) ?_
  refine g_aload_n dX9_remembers_87 0 rfl ?_
  refine g_getf dX9_remembers_88 kX9 wfX9_29 (Nat.le_of_ble_eq_true rfl) (f8_98) rfl ?_
  refine g_aload_n dX9_remembers_91 0 rfl ?_
  refine g_getf dX9_remembers_92 kX9 wfX9_80 (Nat.le_of_ble_eq_true rfl) (f8_98) rfl ?_
  refine g_iconst (v := nI 3) dX9_remembers_95 (by decide +kernel) ?_
  refine g_imulN dX9_remembers_96 ?_
  refine g_bipush (v := nI 6) dX9_remembers_97 (by decide +kernel) ?_
  refine g_imulN dX9_remembers_99 ?_
  refine g_bipush (v := nI 18) dX9_remembers_100 (by decide +kernel) ?_
  have la9 : (P).length = 18 := lP
  have lb9 : (cpL (WP) 18 (WP) 0 198).length = 216 := ((cpL_len _ _ _ _ _).trans lb3)
  refine g_callSq (st1 := []) dX9_remembers_102 (ev_mlays (a := 0) (b := (11 * 3) * 6) (s := 18) (show 99 ≠ 104 by decide) (by omega) (by omega) ⟨by omega, by omega⟩ (f8_99) (f8_104)) oX9_lays wsX9_lays wmX9_83 rfl ⟨(Nat.le_of_ble_eq_true rfl), (Nat.le_of_ble_eq_true rfl)⟩ ⟨Nat.zero_le _, Nat.zero_le _⟩ (Nat.le_of_ble_eq_true rfl) rfl rfl (fun h10 q10 => ?_)
  obtain ⟨q10a, q10s⟩ := q10
  have f10_98 : rd h10 98 = some (.inr (9, [.int (nI σ.1.1), .int (nI σ.1.2.1), .ref 99, .ref 100, .ref 101, .int (nI σ.1.2.2.2.1), .ref 102, .int (nI 11), .ref 103, .ref 104, .ref 105, .int fo, .int as_, .int sm, .int sk, .ref 106, .ref 107, .ref 108, .int z, .ref 109, .ref 110, .ref 111, .int (nI σ.2.1.1), .ref 112, .ref 113, .ref 114, .ref 115, .ref 116, .int (nI (bI σ.2.2.2.2.1.isSome)), .int iN, .int iM, .int iT, .ref 117, .ref 118, .ref 119])) := by rw [q10s _ (by omega)]; exact f8_98
  have f10_99 : rd h10 99 = some (.inl (P)) := by rw [q10s _ (by omega)]; exact f8_99
  have f10_100 : rd h10 100 = some (.inl (Ro)) := by rw [q10s _ (by omega)]; exact f8_100
  have f10_101 : rd h10 101 = some (.inl (U)) := by rw [q10s _ (by omega)]; exact f8_101
  have f10_102 : rd h10 102 = some (.inl (rf)) := by rw [q10s _ (by omega)]; exact f8_102
  have f10_106 : rd h10 106 = some (.inl (Tr)) := by rw [q10s _ (by omega)]; exact f8_106
  have f10_107 : rd h10 107 = some (.inl (Ke)) := by rw [q10s _ (by omega)]; exact f8_107
  have f10_108 : rd h10 108 = some (.inl (Co)) := by rw [q10s _ (by omega)]; exact f8_108
  have f10_109 : rd h10 109 = some (.inl (Th)) := by rw [q10s _ (by omega)]; exact f8_109
  have f10_110 : rd h10 110 = some (.inl (Be)) := by rw [q10s _ (by omega)]; exact f8_110
  have f10_111 : rd h10 111 = some (.inl (Le)) := by rw [q10s _ (by omega)]; exact f8_111
  have f10_112 : rd h10 112 = some (.inl (AP)) := by rw [q10s _ (by omega)]; exact f8_112
  have f10_113 : rd h10 113 = some (.inl (AR)) := by rw [q10s _ (by omega)]; exact f8_113
  have f10_114 : rd h10 114 = some (.inl (AU)) := by rw [q10s _ (by omega)]; exact f8_114
  have f10_115 : rd h10 115 = some (.inl (Sz)) := by rw [q10s _ (by omega)]; exact f8_115
  have f10_116 : rd h10 116 = some (.inl (It)) := by rw [q10s _ (by omega)]; exact f8_116
  have f10_117 : rd h10 117 = some (.inl (IP)) := by rw [q10s _ (by omega)]; exact f8_117
  have f10_118 : rd h10 118 = some (.inl (IR)) := by rw [q10s _ (by omega)]; exact f8_118
  have f10_119 : rd h10 119 = some (.inl (IU)) := by rw [q10s _ (by omega)]; exact f8_119
  have f10_103 : rd h10 103 = some (.inl ((cpL (WM) 1 (WM) 0 11).set 11 (nI σ.1.2.1))) := by rw [q10s _ (by omega)]; exact f8_103
  have f10_105 : rd h10 105 = some (.inl (cpL (WR) 338 (WR) 0 3718)) := by rw [q10s _ (by omega)]; exact f8_105
  refine g_aload_n dX9_remembers_105 0 rfl ?_
  refine g_getf dX9_remembers_106 kX9 wfX9_17 (Nat.le_of_ble_eq_true rfl) (f10_98) rfl ?_
  refine g_iconst (v := nI 0) dX9_remembers_109 (by decide +kernel) ?_
  refine g_aload_n dX9_remembers_110 0 rfl ?_
  refine g_getf dX9_remembers_111 kX9 wfX9_32 (Nat.le_of_ble_eq_true rfl) (f10_98) rfl ?_
  refine g_aload_n dX9_remembers_114 0 rfl ?_
  refine g_getf dX9_remembers_115 kX9 wfX9_80 (Nat.le_of_ble_eq_true rfl) (f10_98) rfl ?_
  refine g_iconst (v := nI 2) dX9_remembers_118 (by decide +kernel) ?_
  refine g_imulN dX9_remembers_119 ?_
  refine g_sipush (v := nI 169) dX9_remembers_120 (by decide +kernel) ?_
  refine g_imulN dX9_remembers_123 ?_
  refine g_sipush (v := nI 338) dX9_remembers_124 (by decide +kernel) ?_
  have la11 : (Ro).length = 338 := lRo
  have lb11 : (cpL (WR) 338 (WR) 0 3718).length = 4056 := ((cpL_len _ _ _ _ _).trans lb5)
  refine g_callSq (st1 := []) dX9_remembers_127 (ev_mlays (a := 0) (b := (11 * 2) * 169) (s := 338) (show 100 ≠ 105 by decide) (by omega) (by omega) ⟨by omega, by omega⟩ (f10_100) (f10_105)) oX9_lays wsX9_lays wmX9_83 rfl ⟨(Nat.le_of_ble_eq_true rfl), (Nat.le_of_ble_eq_true rfl)⟩ ⟨Nat.zero_le _, Nat.zero_le _⟩ (Nat.le_of_ble_eq_true rfl) rfl rfl (fun h12 q12 => ?_)
  obtain ⟨q12a, q12s⟩ := q12
  have f12_98 : rd h12 98 = some (.inr (9, [.int (nI σ.1.1), .int (nI σ.1.2.1), .ref 99, .ref 100, .ref 101, .int (nI σ.1.2.2.2.1), .ref 102, .int (nI 11), .ref 103, .ref 104, .ref 105, .int fo, .int as_, .int sm, .int sk, .ref 106, .ref 107, .ref 108, .int z, .ref 109, .ref 110, .ref 111, .int (nI σ.2.1.1), .ref 112, .ref 113, .ref 114, .ref 115, .ref 116, .int (nI (bI σ.2.2.2.2.1.isSome)), .int iN, .int iM, .int iT, .ref 117, .ref 118, .ref 119])) := by rw [q12s _ (by omega)]; exact f10_98
  have f12_99 : rd h12 99 = some (.inl (P)) := by rw [q12s _ (by omega)]; exact f10_99
  have f12_100 : rd h12 100 = some (.inl (Ro)) := by rw [q12s _ (by omega)]; exact f10_100
  have f12_101 : rd h12 101 = some (.inl (U)) := by rw [q12s _ (by omega)]; exact f10_101
  have f12_102 : rd h12 102 = some (.inl (rf)) := by rw [q12s _ (by omega)]; exact f10_102
  have f12_106 : rd h12 106 = some (.inl (Tr)) := by rw [q12s _ (by omega)]; exact f10_106
  have f12_107 : rd h12 107 = some (.inl (Ke)) := by rw [q12s _ (by omega)]; exact f10_107
  have f12_108 : rd h12 108 = some (.inl (Co)) := by rw [q12s _ (by omega)]; exact f10_108
  have f12_109 : rd h12 109 = some (.inl (Th)) := by rw [q12s _ (by omega)]; exact f10_109
  have f12_110 : rd h12 110 = some (.inl (Be)) := by rw [q12s _ (by omega)]; exact f10_110
  have f12_111 : rd h12 111 = some (.inl (Le)) := by rw [q12s _ (by omega)]; exact f10_111
  have f12_112 : rd h12 112 = some (.inl (AP)) := by rw [q12s _ (by omega)]; exact f10_112
  have f12_113 : rd h12 113 = some (.inl (AR)) := by rw [q12s _ (by omega)]; exact f10_113
  have f12_114 : rd h12 114 = some (.inl (AU)) := by rw [q12s _ (by omega)]; exact f10_114
  have f12_115 : rd h12 115 = some (.inl (Sz)) := by rw [q12s _ (by omega)]; exact f10_115
  have f12_116 : rd h12 116 = some (.inl (It)) := by rw [q12s _ (by omega)]; exact f10_116
  have f12_117 : rd h12 117 = some (.inl (IP)) := by rw [q12s _ (by omega)]; exact f10_117
  have f12_118 : rd h12 118 = some (.inl (IR)) := by rw [q12s _ (by omega)]; exact f10_118
  have f12_119 : rd h12 119 = some (.inl (IU)) := by rw [q12s _ (by omega)]; exact f10_119
  have f12_103 : rd h12 103 = some (.inl ((cpL (WM) 1 (WM) 0 11).set 11 (nI σ.1.2.1))) := by rw [q12s _ (by omega)]; exact f10_103
  have f12_104 : rd h12 104 = some (.inl (cpL (P) 0 (cpL (WP) 18 (WP) 0 198) ((11 * 3) * 6) 18)) := by rw [q12s _ (by omega)]; exact q10a
  refine g_aload_n dX9_remembers_130 0 rfl ?_
  refine g_dup dX9_remembers_131 rfl ?_
  refine g_getf dX9_remembers_132 kX9 wfX9_80 (Nat.le_of_ble_eq_true rfl) (f12_98) rfl ?_
  refine g_iconst (v := nI 1) dX9_remembers_135 (by decide +kernel) ?_
  refine g_iaddN dX9_remembers_136 ?_
  refine g_putv dX9_remembers_137 kX9 wfX9_80 (Nat.le_of_ble_eq_true rfl) rfl (fun _ _ => ⟨rfl, rfl⟩) (f12_98) (Nat.le_of_ble_eq_true rfl) (fs' := [.int (nI σ.1.1), .int (nI σ.1.2.1), .ref 99, .ref 100, .ref 101, .int (nI σ.1.2.2.2.1), .ref 102, .int (nI (11 + 1)), .ref 103, .ref 104, .ref 105, .int fo, .int as_, .int sm, .int sk, .ref 106, .ref 107, .ref 108, .int z, .ref 109, .ref 110, .ref 111, .int (nI σ.2.1.1), .ref 112, .ref 113, .ref 114, .ref 115, .ref 116, .int (nI (bI σ.2.2.2.2.1.isSome)), .int iN, .int iM, .int iT, .ref 117, .ref 118, .ref 119]) rfl (fun h13 e13 => ?_)
  have f13_98 : rd h13 98 = some (.inr (9, [.int (nI σ.1.1), .int (nI σ.1.2.1), .ref 99, .ref 100, .ref 101, .int (nI σ.1.2.2.2.1), .ref 102, .int (nI (11 + 1)), .ref 103, .ref 104, .ref 105, .int fo, .int as_, .int sm, .int sk, .ref 106, .ref 107, .ref 108, .int z, .ref 109, .ref 110, .ref 111, .int (nI σ.2.1.1), .ref 112, .ref 113, .ref 114, .ref 115, .ref 116, .int (nI (bI σ.2.2.2.2.1.isSome)), .int iN, .int iM, .int iT, .ref 117, .ref 118, .ref 119])) := by rw [e13]; exact rd_wr_eq (f12_98)
  have s13 : Smo 98 (98 + 1) h12 h13 := by rw [e13]; exact Smo.wr (by omega) (by omega)
  have f13_99 : rd h13 99 = some (.inl (P)) := by rw [s13 _ (by omega)]; exact f12_99
  have f13_100 : rd h13 100 = some (.inl (Ro)) := by rw [s13 _ (by omega)]; exact f12_100
  have f13_101 : rd h13 101 = some (.inl (U)) := by rw [s13 _ (by omega)]; exact f12_101
  have f13_102 : rd h13 102 = some (.inl (rf)) := by rw [s13 _ (by omega)]; exact f12_102
  have f13_106 : rd h13 106 = some (.inl (Tr)) := by rw [s13 _ (by omega)]; exact f12_106
  have f13_107 : rd h13 107 = some (.inl (Ke)) := by rw [s13 _ (by omega)]; exact f12_107
  have f13_108 : rd h13 108 = some (.inl (Co)) := by rw [s13 _ (by omega)]; exact f12_108
  have f13_109 : rd h13 109 = some (.inl (Th)) := by rw [s13 _ (by omega)]; exact f12_109
  have f13_110 : rd h13 110 = some (.inl (Be)) := by rw [s13 _ (by omega)]; exact f12_110
  have f13_111 : rd h13 111 = some (.inl (Le)) := by rw [s13 _ (by omega)]; exact f12_111
  have f13_112 : rd h13 112 = some (.inl (AP)) := by rw [s13 _ (by omega)]; exact f12_112
  have f13_113 : rd h13 113 = some (.inl (AR)) := by rw [s13 _ (by omega)]; exact f12_113
  have f13_114 : rd h13 114 = some (.inl (AU)) := by rw [s13 _ (by omega)]; exact f12_114
  have f13_115 : rd h13 115 = some (.inl (Sz)) := by rw [s13 _ (by omega)]; exact f12_115
  have f13_116 : rd h13 116 = some (.inl (It)) := by rw [s13 _ (by omega)]; exact f12_116
  have f13_117 : rd h13 117 = some (.inl (IP)) := by rw [s13 _ (by omega)]; exact f12_117
  have f13_118 : rd h13 118 = some (.inl (IR)) := by rw [s13 _ (by omega)]; exact f12_118
  have f13_119 : rd h13 119 = some (.inl (IU)) := by rw [s13 _ (by omega)]; exact f12_119
  have f13_103 : rd h13 103 = some (.inl ((cpL (WM) 1 (WM) 0 11).set 11 (nI σ.1.2.1))) := by rw [s13 _ (by omega)]; exact f12_103
  have f13_104 : rd h13 104 = some (.inl (cpL (P) 0 (cpL (WP) 18 (WP) 0 198) ((11 * 3) * 6) 18)) := by rw [s13 _ (by omega)]; exact f12_104
  have f13_105 : rd h13 105 = some (.inl (cpL (Ro) 0 (cpL (WR) 338 (WR) 0 3718) ((11 * 2) * 169) 338)) := by rw [s13 _ (by omega)]; exact q12a
  exact g_vret dX9_remembers_140 rfl ⟨Nat.zero_le _, Nat.zero_le _⟩ (⟨rfl, ⟨_, _, _, _, _, _, _, _, _, _, _, _, _, _, _, _, _, _, _, _, _, _, _, _, _, _, _, _, _, (by rw [show ((σ.1.2.2.1, σ.1.2.2.2.2.2) :: σ.2.2.2.1.take 11).length = 11 + 1 from by rw [List.length_cons, lt]]; exact f13_98), ⟨f13_99, lP⟩, ⟨f13_100, lRo⟩, ⟨f13_101, lU⟩, ⟨f13_102, lrf⟩, ⟨f13_103, lf8_103⟩, ⟨f13_104, ((cpL_len _ _ _ _ _).trans lb9)⟩, ⟨f13_105, ((cpL_len _ _ _ _ _).trans lb11)⟩, ⟨f13_106, lTr⟩, ⟨f13_107, lKe⟩, ⟨f13_108, lCo⟩, ⟨f13_109, lTh⟩, ⟨f13_110, lBe⟩, ⟨f13_111, lLe⟩, ⟨f13_112, lAP⟩, ⟨f13_113, lAR⟩, ⟨f13_114, lAU⟩, ⟨f13_115, lSz⟩, ⟨f13_116, lIt⟩, ⟨f13_117, lIP⟩, ⟨f13_118, lIR⟩, ⟨f13_119, lIU⟩, vP, vR, vU, vF, (hM_push (hM_shift vH hl hm6 lWM lWP lWR) lt (by omega) hm6 ((cpL_len _ _ _ _ _).trans lWM) ((cpL_len _ _ _ _ _).trans lWP) ((cpL_len _ _ _ _ _).trans lWR) vP vR), vL, vS, vI, vG⟩, (fun q hq => by rw [s13 q (by omega), q12s q (by omega), q10s q (by omega), s8 q (by omega), s7 q (by omega), q6s q (by omega), q4s q (by omega), q2s q (by omega)])⟩)

theorem ev_remembers2 {h : List aC} {σ : Sg} (H : RM h σ) (ok : okSg σ) : Ev mX9_remembers 2 0 0 [.ref 98] h (pq none (fun h2 => RM h2 (σ.1, σ.2.1, σ.2.2.1, (σ.1.2.2.1, σ.1.2.2.2.2.2) :: σ.2.2.2.1.take 11, σ.2.2.2.2) ∧ Smo 98 106 h h2)) := by
  by_cases hl : σ.2.2.2.1.length ≤ 11
  · exact ev_rem_a2 H ok hl
  · exact ev_rem_b2 H ok (by have := ok.2.2.2.1.1; omega)

set_option maxRecDepth 100000 in
set_option maxHeartbeats 4000000 in
theorem lp_mtAll {h0 : List aC} {P : Option Value → List aC → Prop} {n m a de : Nat} {fo as_ sm sk z : Int32} {am : Nat} {ib : Bool} {iN iM iT : Int32} (n3 : n ≤ 13) (h0n : 0 < n) (hm : m ≤ 6) (ha : a ≤ 6) {U : List Int32} (hU : rd h0 101 = some (.inl U)) (lU : U.length = 12) {tu : Nat → Nat × Nat} (vU : tR U a tu) (htu : ∀ i, i < a → (tu i).1 ≤ 5 ∧ (tu i).2 ≤ 12) {f : Nat → Pr} (hb : bf n m f) (K : ∀ T B h', MO h' n m a de fo as_ sm sk z am ib iN iM iT → rd h' 109 = some (.inl T) → T.length = 18 → pR T 0 m (tAF n m tu f a) → rd h' 110 = some (.inl B) → B.length = 18 → Smo 109 111 h0 h' → G mX9_turnsAll (rmD 3 0 0) none P 0 0 53 [(0, .ref 98), (1, .int (nI a))] [] h') : ∀ j k (h : List aC) (T B : List Int32), k + j = a → MO h n m a de fo as_ sm sk z am ib iN iM iT → rd h 109 = some (.inl T) → T.length = 18 → pR T 0 m (tAF n m tu f k) → rd h 110 = some (.inl B) → B.length = 18 → Smo 109 111 h0 h → G mX9_turnsAll (rmD 3 0 0) none P 0 0 17 [(1, .int (nI k)), (0, .ref 98)] [] h := by
  intro j
  induction j with
  | zero =>
    intro k h T B hk hO hT lT vT hB lB hS
    have hO : rd h 98 = some (.inr (9, [.int (nI n), .int (nI m), .ref 99, .ref 100, .ref 101, .int (nI a), .ref 102, .int (nI de), .ref 103, .ref 104, .ref 105, .int fo, .int as_, .int sm, .int sk, .ref 106, .ref 107, .ref 108, .int z, .ref 109, .ref 110, .ref 111, .int (nI am), .ref 112, .ref 113, .ref 114, .ref 115, .ref 116, .int (nI (bI ib)), .int iN, .int iM, .int iT, .ref 117, .ref 118, .ref 119])) := hO
    refine g_iload_n dX9_turnsAll_17 0 rfl ?_
    refine g_aload_n dX9_turnsAll_18 1 rfl ?_
    refine g_getf dX9_turnsAll_19 kX9 wfX9_102 (Nat.le_of_ble_eq_true rfl) (hO) rfl ?_
    refine g_icmp_geN 53 dX9_turnsAll_22 (by decide) (by omega) (by omega) (fun c22 => ?_) (fun z => absurd z (by omega))
    refine g_lsub_ (ls2 := [(0, .ref 98), (1, .int (nI k))]) [1, 0] rfl ?_
    have ek : k = a := by omega
    subst ek
    exact K _ _ _ hO hT lT vT hB lB hS
  | succ j ih =>
    intro k h T B hk hO hT lT vT hB lB hS
    have hO : rd h 98 = some (.inr (9, [.int (nI n), .int (nI m), .ref 99, .ref 100, .ref 101, .int (nI a), .ref 102, .int (nI de), .ref 103, .ref 104, .ref 105, .int fo, .int as_, .int sm, .int sk, .ref 106, .ref 107, .ref 108, .int z, .ref 109, .ref 110, .ref 111, .int (nI am), .ref 112, .ref 113, .ref 114, .ref 115, .ref 116, .int (nI (bI ib)), .int iN, .int iM, .int iT, .ref 117, .ref 118, .ref 119])) := hO
    refine g_iload_n dX9_turnsAll_17 0 rfl ?_
    refine g_aload_n dX9_turnsAll_18 1 rfl ?_
    refine g_getf dX9_turnsAll_19 kX9 wfX9_102 (Nat.le_of_ble_eq_true rfl) (hO) rfl ?_
    refine g_icmp_geN 53 dX9_turnsAll_22 (by decide) (by omega) (by omega) (fun z => absurd z (by omega)) (fun c22 => ?_)
    refine g_aload_n dX9_turnsAll_25 1 rfl ?_
    refine g_aload_n dX9_turnsAll_26 1 rfl ?_
    refine g_getf dX9_turnsAll_27 kX9 wfX9_20 (Nat.le_of_ble_eq_true rfl) (hO) rfl ?_
    refine g_iconst (v := nI 2) dX9_turnsAll_30 (by decide +kernel) ?_
    refine g_iload_n dX9_turnsAll_31 0 rfl ?_
    refine g_imulN dX9_turnsAll_32 ?_
    refine g_ialI dX9_turnsAll_33 ((show rd h 101 = some (.inl U) by rw [hS 101 (by omega)]; exact hU)) (by omega) (by omega) ?_
    refine g_top (show (U).getD (2 * k) 0 = nI ((tu k).1) from (vU k (by omega)).1) ?_
    refine g_aload_n dX9_turnsAll_34 1 rfl ?_
    refine g_getf dX9_turnsAll_35 kX9 wfX9_20 (Nat.le_of_ble_eq_true rfl) (hO) rfl ?_
    refine g_iconst (v := nI 2) dX9_turnsAll_38 (by decide +kernel) ?_
    refine g_iload_n dX9_turnsAll_39 0 rfl ?_
    refine g_imulN dX9_turnsAll_40 ?_
    refine g_iconst (v := nI 1) dX9_turnsAll_41 (by decide +kernel) ?_
    refine g_iaddN dX9_turnsAll_42 ?_
    refine g_ialI dX9_turnsAll_43 ((show rd h 101 = some (.inl U) by rw [hS 101 (by omega)]; exact hU)) (by omega) (by omega) ?_
    refine g_top (show (U).getD ((2 * k) + 1) 0 = nI ((tu k).2) from (vU k (by omega)).2) ?_
    refine g_callVq (st1 := []) dX9_turnsAll_44 (ev_tb hO n3 h0n hm hT lT hB lB vT (tAF_bf h0n tu hb k) (tu k).1 (tu k).2 (htu k (by omega)).1 (htu k (by omega)).2) oX9_turnsBy wiX9_turnsBy weX9_turnsBy wmX9_231 kX9 (hO) rfl ⟨(Nat.le_of_ble_eq_true rfl), (Nat.le_of_ble_eq_true rfl)⟩ ⟨Nat.zero_le _, Nat.zero_le _⟩ (Nat.le_of_ble_eq_true rfl) rfl rfl (fun h1 q1 => ?_)
    obtain ⟨T2, B2, o2, t2, lt2, v2, b2, lb2, s2⟩ := q1
    have f1_101 : rd h1 101 = some (.inl (U)) := by rw [s2 _ (by omega)]; exact (show rd h 101 = some (.inl U) by rw [hS 101 (by omega)]; exact hU)
    refine g_iinc (q := 0) (v := nI (k + 1)) (ls' := [(1, .int (nI (k + 1))), (0, .ref 98)]) dX9_turnsAll_47 rfl (inc1 _) (Nat.le_of_ble_eq_true rfl) rfl ?_
    refine g_goto 17 dX9_turnsAll_50 (by decide) ?_
    exact ih (k + 1) _ _ _ (by omega) o2 t2 lt2 v2 b2 lb2 (hS.tr (fun q hq => by rw [s2 q (by omega)]))

set_option maxRecDepth 100000 in
set_option maxHeartbeats 4000000 in
theorem ev_turnsAll {h : List aC} {σ : Sg} (H : RM h σ) (ok : okSg σ) : Ev mX9_turnsAll 3 0 0 [.ref 98] h (pq none (fun h2 => RM h2 σ ∧ (∃ T2, rd h2 109 = some (.inl T2) ∧ T2.length = 18 ∧ pR T2 0 σ.1.2.1 (tAl σ)) ∧ Smo 109 111 h h2)) := by
  obtain ⟨fo, as_, sm, sk, z, iN, iM, iT, P, Ro, U, rf, WM, WP, WR, Tr, Ke, Co, Th, Be, Le, AP, AR, AU, Sz, It, IP, IR, IU, mO, mP, mRo, mU, mrf, mWM, mWP, mWR, mTr, mKe, mCo, mTh, mBe, mLe, mAP, mAR, mAU, mSz, mIt, mIP, mIR, mIU, vP, vR, vU, vF, vH, vL, vS, vI, vG⟩ := id H
  have mO : rd h 98 = some (.inr (9, [.int (nI σ.1.1), .int (nI σ.1.2.1), .ref 99, .ref 100, .ref 101, .int (nI σ.1.2.2.2.1), .ref 102, .int (nI ((σ.2.2.2.1).length)), .ref 103, .ref 104, .ref 105, .int fo, .int as_, .int sm, .int sk, .ref 106, .ref 107, .ref 108, .int z, .ref 109, .ref 110, .ref 111, .int (nI σ.2.1.1), .ref 112, .ref 113, .ref 114, .ref 115, .ref 116, .int (nI (bI σ.2.2.2.2.1.isSome)), .int iN, .int iM, .int iT, .ref 117, .ref 118, .ref 119])) := mO
  obtain ⟨mP, lP⟩ := mP
  obtain ⟨mRo, lRo⟩ := mRo
  obtain ⟨mU, lU⟩ := mU
  obtain ⟨mrf, lrf⟩ := mrf
  obtain ⟨mWM, lWM⟩ := mWM
  obtain ⟨mWP, lWP⟩ := mWP
  obtain ⟨mWR, lWR⟩ := mWR
  obtain ⟨mTr, lTr⟩ := mTr
  obtain ⟨mKe, lKe⟩ := mKe
  obtain ⟨mCo, lCo⟩ := mCo
  obtain ⟨mTh, lTh⟩ := mTh
  obtain ⟨mBe, lBe⟩ := mBe
  obtain ⟨mLe, lLe⟩ := mLe
  obtain ⟨mAP, lAP⟩ := mAP
  obtain ⟨mAR, lAR⟩ := mAR
  obtain ⟨mAU, lAU⟩ := mAU
  obtain ⟨mSz, lSz⟩ := mSz
  obtain ⟨mIt, lIt⟩ := mIt
  obtain ⟨mIP, lIP⟩ := mIP
  obtain ⟨mIR, lIR⟩ := mIR
  obtain ⟨mIU, lIU⟩ := mIU
  obtain ⟨okc, ⟨okl, okw⟩, okn, ⟨okh, oke⟩, oki, okr⟩ := id ok
  obtain ⟨k1, k2, k3, k4, k5, k6, k7, k8, k9⟩ := id okc
  refine Ev.of pX9_turnsAll (Nat.le_of_ble_eq_true rfl) ?_
  show G mX9_turnsAll (rmD 3 0 0) none _ 0 0 0 [(0, .ref 98)] [] h
  refine g_aload_n dX9_turnsAll_0 0 rfl ?_
  refine g_getf dX9_turnsAll_1 kX9 wfX9_13 (Nat.le_of_ble_eq_true rfl) (mO) rfl ?_
  refine g_iconst (v := nI 0) dX9_turnsAll_4 (by decide +kernel) ?_
  refine g_aload_n dX9_turnsAll_5 0 rfl ?_
  refine g_getf dX9_turnsAll_6 kX9 wfX9_44 (Nat.le_of_ble_eq_true rfl) (mO) rfl ?_
  refine g_iconst (v := nI 0) dX9_turnsAll_9 (by decide +kernel) ?_
  refine g_bipush (v := nI 18) dX9_turnsAll_10 (by decide +kernel) ?_
  have la1 : (P).length = 18 := lP
  have lb1 : (Th).length = 18 := lTh
  refine g_callSq (st1 := []) dX9_turnsAll_12 (ev_mlays (a := 0) (b := 0) (s := 18) (show 99 ≠ 109 by decide) (by omega) (by omega) ⟨by omega, by omega⟩ (mP) (mTh)) oX9_lays wsX9_lays wmX9_83 rfl ⟨(Nat.le_of_ble_eq_true rfl), (Nat.le_of_ble_eq_true rfl)⟩ ⟨Nat.zero_le _, Nat.zero_le _⟩ (Nat.le_of_ble_eq_true rfl) rfl rfl (fun h2 q2 => ?_)
  obtain ⟨q2a, q2s⟩ := q2
  have f2_98 : rd h2 98 = some (.inr (9, [.int (nI σ.1.1), .int (nI σ.1.2.1), .ref 99, .ref 100, .ref 101, .int (nI σ.1.2.2.2.1), .ref 102, .int (nI ((σ.2.2.2.1).length)), .ref 103, .ref 104, .ref 105, .int fo, .int as_, .int sm, .int sk, .ref 106, .ref 107, .ref 108, .int z, .ref 109, .ref 110, .ref 111, .int (nI σ.2.1.1), .ref 112, .ref 113, .ref 114, .ref 115, .ref 116, .int (nI (bI σ.2.2.2.2.1.isSome)), .int iN, .int iM, .int iT, .ref 117, .ref 118, .ref 119])) := by rw [q2s _ (by omega)]; exact mO
  have f2_99 : rd h2 99 = some (.inl (P)) := by rw [q2s _ (by omega)]; exact mP
  have f2_100 : rd h2 100 = some (.inl (Ro)) := by rw [q2s _ (by omega)]; exact mRo
  have f2_101 : rd h2 101 = some (.inl (U)) := by rw [q2s _ (by omega)]; exact mU
  have f2_102 : rd h2 102 = some (.inl (rf)) := by rw [q2s _ (by omega)]; exact mrf
  have f2_103 : rd h2 103 = some (.inl (WM)) := by rw [q2s _ (by omega)]; exact mWM
  have f2_104 : rd h2 104 = some (.inl (WP)) := by rw [q2s _ (by omega)]; exact mWP
  have f2_105 : rd h2 105 = some (.inl (WR)) := by rw [q2s _ (by omega)]; exact mWR
  have f2_106 : rd h2 106 = some (.inl (Tr)) := by rw [q2s _ (by omega)]; exact mTr
  have f2_107 : rd h2 107 = some (.inl (Ke)) := by rw [q2s _ (by omega)]; exact mKe
  have f2_108 : rd h2 108 = some (.inl (Co)) := by rw [q2s _ (by omega)]; exact mCo
  have f2_110 : rd h2 110 = some (.inl (Be)) := by rw [q2s _ (by omega)]; exact mBe
  have f2_111 : rd h2 111 = some (.inl (Le)) := by rw [q2s _ (by omega)]; exact mLe
  have f2_112 : rd h2 112 = some (.inl (AP)) := by rw [q2s _ (by omega)]; exact mAP
  have f2_113 : rd h2 113 = some (.inl (AR)) := by rw [q2s _ (by omega)]; exact mAR
  have f2_114 : rd h2 114 = some (.inl (AU)) := by rw [q2s _ (by omega)]; exact mAU
  have f2_115 : rd h2 115 = some (.inl (Sz)) := by rw [q2s _ (by omega)]; exact mSz
  have f2_116 : rd h2 116 = some (.inl (It)) := by rw [q2s _ (by omega)]; exact mIt
  have f2_117 : rd h2 117 = some (.inl (IP)) := by rw [q2s _ (by omega)]; exact mIP
  have f2_118 : rd h2 118 = some (.inl (IR)) := by rw [q2s _ (by omega)]; exact mIR
  have f2_119 : rd h2 119 = some (.inl (IU)) := by rw [q2s _ (by omega)]; exact mIU
  refine g_iconst (v := nI 0) dX9_turnsAll_15 (by decide +kernel) ?_
  refine g_istore_n (ls' := [(1, .int (nI 0)), (0, .ref 98)]) dX9_turnsAll_16 (Nat.le_of_ble_eq_true rfl) rfl ?_
  refine lp_mtAll k2 (by omega) (by omega) k6 (show rd h2 101 = some (.inl U) from f2_101) lU vU k7 (fun k hk => ⟨(k5 k hk).2.1, (k5 k hk).2.2.2.1, (k5 k hk).2.2.2.2.2⟩) (fun T9 B9 h9 o9 t9 lt9 v9 b9 lb9 s9 => ?_) σ.1.2.2.2.1 0 _ _ _ (by omega) (show MO h2 _ _ _ _ _ _ _ _ _ _ _ _ _ _ from f2_98) (q2a) (((cpL_len _ _ _ _ _).trans lb1)) (pR_cp vP lTh lP (by omega)) (f2_110) lBe Smo.rf
  have f9_99 : rd h9 99 = some (.inl (P)) := by rw [s9 _ (by omega)]; exact f2_99
  have f9_100 : rd h9 100 = some (.inl (Ro)) := by rw [s9 _ (by omega)]; exact f2_100
  have f9_101 : rd h9 101 = some (.inl (U)) := by rw [s9 _ (by omega)]; exact f2_101
  have f9_102 : rd h9 102 = some (.inl (rf)) := by rw [s9 _ (by omega)]; exact f2_102
  have f9_103 : rd h9 103 = some (.inl (WM)) := by rw [s9 _ (by omega)]; exact f2_103
  have f9_104 : rd h9 104 = some (.inl (WP)) := by rw [s9 _ (by omega)]; exact f2_104
  have f9_105 : rd h9 105 = some (.inl (WR)) := by rw [s9 _ (by omega)]; exact f2_105
  have f9_106 : rd h9 106 = some (.inl (Tr)) := by rw [s9 _ (by omega)]; exact f2_106
  have f9_107 : rd h9 107 = some (.inl (Ke)) := by rw [s9 _ (by omega)]; exact f2_107
  have f9_108 : rd h9 108 = some (.inl (Co)) := by rw [s9 _ (by omega)]; exact f2_108
  have f9_111 : rd h9 111 = some (.inl (Le)) := by rw [s9 _ (by omega)]; exact f2_111
  have f9_112 : rd h9 112 = some (.inl (AP)) := by rw [s9 _ (by omega)]; exact f2_112
  have f9_113 : rd h9 113 = some (.inl (AR)) := by rw [s9 _ (by omega)]; exact f2_113
  have f9_114 : rd h9 114 = some (.inl (AU)) := by rw [s9 _ (by omega)]; exact f2_114
  have f9_115 : rd h9 115 = some (.inl (Sz)) := by rw [s9 _ (by omega)]; exact f2_115
  have f9_116 : rd h9 116 = some (.inl (It)) := by rw [s9 _ (by omega)]; exact f2_116
  have f9_117 : rd h9 117 = some (.inl (IP)) := by rw [s9 _ (by omega)]; exact f2_117
  have f9_118 : rd h9 118 = some (.inl (IR)) := by rw [s9 _ (by omega)]; exact f2_118
  have f9_119 : rd h9 119 = some (.inl (IU)) := by rw [s9 _ (by omega)]; exact f2_119
  have o9 : rd h9 98 = some (.inr (9, [.int (nI σ.1.1), .int (nI σ.1.2.1), .ref 99, .ref 100, .ref 101, .int (nI σ.1.2.2.2.1), .ref 102, .int (nI ((σ.2.2.2.1).length)), .ref 103, .ref 104, .ref 105, .int fo, .int as_, .int sm, .int sk, .ref 106, .ref 107, .ref 108, .int z, .ref 109, .ref 110, .ref 111, .int (nI σ.2.1.1), .ref 112, .ref 113, .ref 114, .ref 115, .ref 116, .int (nI (bI σ.2.2.2.2.1.isSome)), .int iN, .int iM, .int iT, .ref 117, .ref 118, .ref 119])) := o9
  exact g_vret dX9_turnsAll_53 rfl ⟨Nat.zero_le _, Nat.zero_le _⟩ (⟨rfl, ⟨_, _, _, _, _, _, _, _, _, _, _, _, _, _, _, _, _, _, _, _, _, _, _, _, _, _, _, _, _, o9, ⟨f9_99, lP⟩, ⟨f9_100, lRo⟩, ⟨f9_101, lU⟩, ⟨f9_102, lrf⟩, ⟨f9_103, lWM⟩, ⟨f9_104, lWP⟩, ⟨f9_105, lWR⟩, ⟨f9_106, lTr⟩, ⟨f9_107, lKe⟩, ⟨f9_108, lCo⟩, ⟨t9, lt9⟩, ⟨b9, lb9⟩, ⟨f9_111, lLe⟩, ⟨f9_112, lAP⟩, ⟨f9_113, lAR⟩, ⟨f9_114, lAU⟩, ⟨f9_115, lSz⟩, ⟨f9_116, lIt⟩, ⟨f9_117, lIP⟩, ⟨f9_118, lIR⟩, ⟨f9_119, lIU⟩, vP, vR, vU, vF, vH, vL, vS, vI, vG⟩, ⟨_, t9, lt9, v9⟩, (fun q hq => by rw [s9 q (by omega), q2s q (by omega)])⟩)

set_option maxRecDepth 100000 in
set_option maxHeartbeats 4000000 in
theorem ev_y_turned {h : List aC} {σ : Sg} (H : RM h σ) (ok : okSg σ) (x y : Int32) : Ev mX9_turned 4 0 0 [.ref 98, .int x, .int y] h (spM h (oTurned σ x y)) := by
  obtain ⟨fo, as_, sm, sk, z, iN, iM, iT, P, Ro, U, rf, WM, WP, WR, Tr, Ke, Co, Th, Be, Le, AP, AR, AU, Sz, It, IP, IR, IU, mO, mP, mRo, mU, mrf, mWM, mWP, mWR, mTr, mKe, mCo, mTh, mBe, mLe, mAP, mAR, mAU, mSz, mIt, mIP, mIR, mIU, vP, vR, vU, vF, vH, vL, vS, vI, vG⟩ := id H
  have mO : rd h 98 = some (.inr (9, [.int (nI σ.1.1), .int (nI σ.1.2.1), .ref 99, .ref 100, .ref 101, .int (nI σ.1.2.2.2.1), .ref 102, .int (nI ((σ.2.2.2.1).length)), .ref 103, .ref 104, .ref 105, .int fo, .int as_, .int sm, .int sk, .ref 106, .ref 107, .ref 108, .int z, .ref 109, .ref 110, .ref 111, .int (nI σ.2.1.1), .ref 112, .ref 113, .ref 114, .ref 115, .ref 116, .int (nI (bI σ.2.2.2.2.1.isSome)), .int iN, .int iM, .int iT, .ref 117, .ref 118, .ref 119])) := mO
  obtain ⟨mP, lP⟩ := mP
  obtain ⟨mRo, lRo⟩ := mRo
  obtain ⟨mU, lU⟩ := mU
  obtain ⟨mrf, lrf⟩ := mrf
  obtain ⟨mWM, lWM⟩ := mWM
  obtain ⟨mWP, lWP⟩ := mWP
  obtain ⟨mWR, lWR⟩ := mWR
  obtain ⟨mTr, lTr⟩ := mTr
  obtain ⟨mKe, lKe⟩ := mKe
  obtain ⟨mCo, lCo⟩ := mCo
  obtain ⟨mTh, lTh⟩ := mTh
  obtain ⟨mBe, lBe⟩ := mBe
  obtain ⟨mLe, lLe⟩ := mLe
  obtain ⟨mAP, lAP⟩ := mAP
  obtain ⟨mAR, lAR⟩ := mAR
  obtain ⟨mAU, lAU⟩ := mAU
  obtain ⟨mSz, lSz⟩ := mSz
  obtain ⟨mIt, lIt⟩ := mIt
  obtain ⟨mIP, lIP⟩ := mIP
  obtain ⟨mIR, lIR⟩ := mIR
  obtain ⟨mIU, lIU⟩ := mIU
  obtain ⟨okc, ⟨okl, okw⟩, okn, ⟨okh, oke⟩, oki, okr⟩ := id ok
  obtain ⟨k1, k2, k3, k4, k5, k6, k7, k8, k9⟩ := id okc
  refine Ev.of pX9_turned (Nat.le_of_ble_eq_true rfl) ?_
  show G mX9_turned (rmD 4 0 0) none _ 0 0 0 [(0, .ref 98), (1, .int x), (2, .int y)] [] h
  refine g_aload_n dX9_turned_0 0 rfl ?_
  refine g_iload_n dX9_turned_1 1 rfl ?_
  refine g_callVp dX9_turned_2 (ev_isPair H ok x) oX9_isPair wiX9_isPair weX9_isPair wmX9_121 kX9 (mO) rfl ⟨(Nat.le_of_ble_eq_true rfl), (Nat.le_of_ble_eq_true rfl)⟩ ⟨Nat.zero_le _, Nat.zero_le _⟩ (Nat.le_of_ble_eq_true rfl) rfl ?_
  refine g_if_neB 14 dX9_turned_5 (by decide) (fun c5 => ?_) (fun c5 => ?_)
  · have n1 := of_decide_eq_true c5
    rw [show oTurned σ x y = _ from if_pos n1]
    refine g_iload_n dX9_turned_14 2 rfl ?_
    refine g_i2l dX9_turned_15 rfl ?_
    refine g_lconst (v := lN 0) dX9_turned_16 rfl ?_
    refine g_ldc2 dX9_turned_17 wlX9_207 ?_
    refine g_callSp dX9_turned_20 (ev_inN (y) (0) (2) (by omega) (by omega) _) oX9_in wsX9_in wmX9_98 rfl ⟨(Nat.le_of_ble_eq_true rfl), (Nat.le_of_ble_eq_true rfl)⟩ ⟨Nat.zero_le _, Nat.zero_le _⟩ (Nat.le_of_ble_eq_true rfl) rfl ?_
    refine g_if_neB 33 dX9_turned_23 (by decide) (fun c23 => ?_) (fun c23 => ?_)
    · rw [if_neg (in4_t c23)]
      have n2 := of_decide_eq_true c23
      clear c5 c23
      obtain ⟨x1, hx1, rfl⟩ := nn_of n1.1
      obtain ⟨y1, hy1, rfl⟩ := nn_of n2.1
      rw [cl_ hx1, cl_ hy1]
      have b1 := nn_lt hx1 (by omega) n1.2
      have b2 : y1 ≤ 2 := (nI_leI hy1 (by omega)).mp n2.2
      refine g_aload_n dX9_turned_33 0 rfl ?_
      refine g_callVq (st1 := []) dX9_turned_34 (ev_turnsAll H ok) oX9_turnsAll wiX9_turnsAll weX9_turnsAll wmX9_235 kX9 (mO) rfl ⟨(Nat.le_of_ble_eq_true rfl), (Nat.le_of_ble_eq_true rfl)⟩ ⟨Nat.zero_le _, Nat.zero_le _⟩ (Nat.le_of_ble_eq_true rfl) rfl rfl (fun h1 q1 => ?_)
      obtain ⟨H9, ⟨T9, t9, lt9, v9⟩, s9⟩ := q1
      obtain ⟨fo, as_, sm, sk, z, iN, iM, iT, P, Ro, U, rf, WM, WP, WR, Tr, Ke, Co, Th, Be, Le, AP, AR, AU, Sz, It, IP, IR, IU, mO, mP, mRo, mU, mrf, mWM, mWP, mWR, mTr, mKe, mCo, mTh, mBe, mLe, mAP, mAR, mAU, mSz, mIt, mIP, mIR, mIU, vP, vR, vU, vF, vH, vL, vS, vI, vG⟩ := H9
      have mO : rd h1 98 = some (.inr (9, [.int (nI σ.1.1), .int (nI σ.1.2.1), .ref 99, .ref 100, .ref 101, .int (nI σ.1.2.2.2.1), .ref 102, .int (nI ((σ.2.2.2.1).length)), .ref 103, .ref 104, .ref 105, .int fo, .int as_, .int sm, .int sk, .ref 106, .ref 107, .ref 108, .int z, .ref 109, .ref 110, .ref 111, .int (nI σ.2.1.1), .ref 112, .ref 113, .ref 114, .ref 115, .ref 116, .int (nI (bI σ.2.2.2.2.1.isSome)), .int iN, .int iM, .int iT, .ref 117, .ref 118, .ref 119])) := mO
      obtain ⟨mP, lP⟩ := mP
      obtain ⟨mRo, lRo⟩ := mRo
      obtain ⟨mU, lU⟩ := mU
      obtain ⟨mrf, lrf⟩ := mrf
      obtain ⟨mWM, lWM⟩ := mWM
      obtain ⟨mWP, lWP⟩ := mWP
      obtain ⟨mWR, lWR⟩ := mWR
      obtain ⟨mTr, lTr⟩ := mTr
      obtain ⟨mKe, lKe⟩ := mKe
      obtain ⟨mCo, lCo⟩ := mCo
      obtain ⟨mTh, lTh⟩ := mTh
      obtain ⟨mBe, lBe⟩ := mBe
      obtain ⟨mLe, lLe⟩ := mLe
      obtain ⟨mAP, lAP⟩ := mAP
      obtain ⟨mAR, lAR⟩ := mAR
      obtain ⟨mAU, lAU⟩ := mAU
      obtain ⟨mSz, lSz⟩ := mSz
      obtain ⟨mIt, lIt⟩ := mIt
      obtain ⟨mIP, lIP⟩ := mIP
      obtain ⟨mIR, lIR⟩ := mIR
      obtain ⟨mIU, lIU⟩ := mIU
      refine g_aload_n dX9_turned_37 0 rfl ?_
      refine g_getf dX9_turned_38 kX9 wfX9_44 (Nat.le_of_ble_eq_true rfl) (mO) rfl ?_
      refine g_iconst (v := nI 3) dX9_turned_41 (by decide +kernel) ?_
      refine g_iload_n dX9_turned_42 1 rfl ?_
      refine g_imulN dX9_turned_43 ?_
      refine g_iload_n dX9_turned_44 2 rfl ?_
      refine g_iaddN dX9_turned_45 ?_
      refine g_ialI dX9_turned_46 (t9) (by omega) (by omega) ?_
      refine g_top (show (T9).getD ((3 * x1) + y1) 0 = nI (toldN σ.1.1 (tAl σ x1) y1) from pRw (n := σ.1.1) v9 b1 (by omega)) ?_
      exact g_iret dX9_turned_47 rfl ⟨Nat.zero_le _, Nat.zero_le _⟩ (⟨rfl, ⟨_, _, _, _, _, _, _, _, _, _, _, _, _, _, _, _, _, _, _, _, _, _, _, _, _, _, _, _, _, mO, ⟨mP, lP⟩, ⟨mRo, lRo⟩, ⟨mU, lU⟩, ⟨mrf, lrf⟩, ⟨mWM, lWM⟩, ⟨mWP, lWP⟩, ⟨mWR, lWR⟩, ⟨mTr, lTr⟩, ⟨mKe, lKe⟩, ⟨mCo, lCo⟩, ⟨t9, lt9⟩, ⟨mBe, lBe⟩, ⟨mLe, lLe⟩, ⟨mAP, lAP⟩, ⟨mAR, lAR⟩, ⟨mAU, lAU⟩, ⟨mSz, lSz⟩, ⟨mIt, lIt⟩, ⟨mIP, lIP⟩, ⟨mIR, lIR⟩, ⟨mIU, lIU⟩, vP, vR, vU, vF, vH, vL, vS, vI, vG⟩, (fun q hq => by rw [s9 q (by omega)])⟩)
    · refine g_aload_n dX9_turned_26 0 rfl ?_
      refine g_bipush (v := (-2)) dX9_turned_27 (by decide +kernel) ?_
      rw [if_pos (in4_f c23)]
      refine g_callVq (st1 := [.int (-nI 2)]) dX9_turned_29 (ev_refused H ok 2 (by unfold noN; omega)) oX9_refused wiX9_refused weX9_refused wmX9_90 kX9 (mO) rfl ⟨(Nat.le_of_ble_eq_true rfl), (Nat.le_of_ble_eq_true rfl)⟩ ⟨Nat.zero_le _, Nat.zero_le _⟩ (Nat.le_of_ble_eq_true rfl) rfl rfl (fun h2 q2 => ?_)
      exact g_iret dX9_turned_32 rfl ⟨Nat.zero_le _, Nat.zero_le _⟩ (⟨rfl, q2⟩)
  · refine g_aload_n dX9_turned_8 0 rfl ?_
    refine g_iconst (v := (-1)) dX9_turned_9 (by decide +kernel) ?_
    rw [show oTurned σ x y = rfS σ (-1) from if_neg (of_decide_eq_false c5)]
    refine g_callVq (st1 := [.int (-nI 1)]) dX9_turned_10 (ev_refused H ok 1 (by unfold noN; omega)) oX9_refused wiX9_refused weX9_refused wmX9_90 kX9 (mO) rfl ⟨(Nat.le_of_ble_eq_true rfl), (Nat.le_of_ble_eq_true rfl)⟩ ⟨Nat.zero_le _, Nat.zero_le _⟩ (Nat.le_of_ble_eq_true rfl) rfl rfl (fun h3 q3 => ?_)
    exact g_iret dX9_turned_13 rfl ⟨Nat.zero_le _, Nat.zero_le _⟩ (⟨rfl, q3⟩)

def gdF (f : Nat → Pr) (k : Nat) : Prop := (f k).1 ≠ 0 ∧ (f k).2.1 ≠ 0 ∧ (f k).1 ≠ (f k).2.1
theorem cb_t {m : Nat} {f : Nat → Pr} (h : ∀ i, i < m → gdF f i) : cbF m f = true := by unfold cbF; rw [decide_eq_true_eq]; exact h
theorem cb_f {m : Nat} {f : Nat → Pr} (h : cbF m f = true) : ∀ i, i < m → gdF f i := by unfold cbF at h; rw [decide_eq_true_eq] at h; exact h

set_option maxRecDepth 100000 in
set_option maxHeartbeats 4000000 in
theorem lp_mcb {h : List aC} {P : Option Value → List aC → Prop} {n m a de : Nat} {fo as_ sm sk z : Int32} {am : Nat} {ib : Bool} {iN iM iT : Int32} (hO : MO h n m a de fo as_ sm sk z am ib iN iM iT) (hm : m ≤ 6) (n3 : n ≤ 13) {T : List Int32} (hT : rd h 109 = some (.inl T)) (lT : T.length = 18) {f : Nat → Pr} (vT : pR T 0 m f) (hb : bf n m f) (KG : (∀ i, i < m → gdF f i) → G mX9_turns (rmD 4 0 0) none P 0 0 72 [(0, .ref 98), (1, .int (nI m))] [] h) (KB : ∀ i, i < m → ¬ gdF f i → G mX9_turns (rmD 4 0 0) none P 0 0 59 [(0, .ref 98), (1, .int (nI i))] [] h) : ∀ j k , k + j = m → (∀ i, i < k → gdF f i) → G mX9_turns (rmD 4 0 0) none P 0 0 6 [(1, .int (nI k)), (0, .ref 98)] [] h := by
  intro j
  induction j with
  | zero =>
    intro k  hk hg
    have hO : rd h 98 = some (.inr (9, [.int (nI n), .int (nI m), .ref 99, .ref 100, .ref 101, .int (nI a), .ref 102, .int (nI de), .ref 103, .ref 104, .ref 105, .int fo, .int as_, .int sm, .int sk, .ref 106, .ref 107, .ref 108, .int z, .ref 109, .ref 110, .ref 111, .int (nI am), .ref 112, .ref 113, .ref 114, .ref 115, .ref 116, .int (nI (bI ib)), .int iN, .int iM, .int iT, .ref 117, .ref 118, .ref 119])) := hO
    refine g_iload_n dX9_turns_6 0 rfl ?_
    refine g_aload_n dX9_turns_7 1 rfl ?_
    refine g_getf dX9_turns_8 kX9 wfX9_87 (Nat.le_of_ble_eq_true rfl) (hO) rfl ?_
    refine g_icmp_geN 72 dX9_turns_11 (by decide) (by omega) (by omega) (fun c11 => ?_) (fun z => absurd z (by omega))
    refine g_lsub_ (ls2 := [(0, .ref 98), (1, .int (nI k))]) [1, 0] rfl ?_
    have ek : k = m := by omega
    subst ek
    exact KG hg
  | succ j ih =>
    intro k  hk hg
    have hO : rd h 98 = some (.inr (9, [.int (nI n), .int (nI m), .ref 99, .ref 100, .ref 101, .int (nI a), .ref 102, .int (nI de), .ref 103, .ref 104, .ref 105, .int fo, .int as_, .int sm, .int sk, .ref 106, .ref 107, .ref 108, .int z, .ref 109, .ref 110, .ref 111, .int (nI am), .ref 112, .ref 113, .ref 114, .ref 115, .ref 116, .int (nI (bI ib)), .int iN, .int iM, .int iT, .ref 117, .ref 118, .ref 119])) := hO
    obtain ⟨b1, b2, b3⟩ := hb k (by omega)
    refine g_iload_n dX9_turns_6 0 rfl ?_
    refine g_aload_n dX9_turns_7 1 rfl ?_
    refine g_getf dX9_turns_8 kX9 wfX9_87 (Nat.le_of_ble_eq_true rfl) (hO) rfl ?_
    refine g_icmp_geN 72 dX9_turns_11 (by decide) (by omega) (by omega) (fun z => absurd z (by omega)) (fun c11 => ?_)
    refine g_aload_n dX9_turns_14 1 rfl ?_
    refine g_getf dX9_turns_15 kX9 wfX9_44 (Nat.le_of_ble_eq_true rfl) (hO) rfl ?_
    refine g_iconst (v := nI 3) dX9_turns_18 (by decide +kernel) ?_
    refine g_iload_n dX9_turns_19 0 rfl ?_
    refine g_imulN dX9_turns_20 ?_
    refine g_ialI dX9_turns_21 (hT) (by omega) (by omega) ?_
    refine g_top (show (T).getD (3 * k) 0 = nI ((f k).1) from pR0 vT (by omega)) ?_
    refine g_if_eqN 59 dX9_turns_22 (by decide) (by omega) (fun c22 => ?_) (fun c22 => ?_)
    · refine g_lsub_ (ls2 := [(0, .ref 98), (1, .int (nI k))]) [1, 0] rfl ?_
      exact KB k (by omega) (fun z => by have z1 := z.1; have z2 := z.2.1; have z3 := z.2.2; omega)
    · refine g_aload_n dX9_turns_25 1 rfl ?_
      refine g_getf dX9_turns_26 kX9 wfX9_44 (Nat.le_of_ble_eq_true rfl) (hO) rfl ?_
      refine g_iconst (v := nI 3) dX9_turns_29 (by decide +kernel) ?_
      refine g_iload_n dX9_turns_30 0 rfl ?_
      refine g_imulN dX9_turns_31 ?_
      refine g_iconst (v := nI 1) dX9_turns_32 (by decide +kernel) ?_
      refine g_iaddN dX9_turns_33 ?_
      refine g_ialI dX9_turns_34 (hT) (by omega) (by omega) ?_
      refine g_top (show (T).getD ((3 * k) + 1) 0 = nI ((f k).2.1) from pR1 vT (by omega)) ?_
      refine g_if_eqN 59 dX9_turns_35 (by decide) (by omega) (fun c35 => ?_) (fun c35 => ?_)
      · refine g_lsub_ (ls2 := [(0, .ref 98), (1, .int (nI k))]) [1, 0] rfl ?_
        exact KB k (by omega) (fun z => by have z1 := z.1; have z2 := z.2.1; have z3 := z.2.2; omega)
      · refine g_aload_n dX9_turns_38 1 rfl ?_
        refine g_getf dX9_turns_39 kX9 wfX9_44 (Nat.le_of_ble_eq_true rfl) (hO) rfl ?_
        refine g_iconst (v := nI 3) dX9_turns_42 (by decide +kernel) ?_
        refine g_iload_n dX9_turns_43 0 rfl ?_
        refine g_imulN dX9_turns_44 ?_
        refine g_ialI dX9_turns_45 (hT) (by omega) (by omega) ?_
        refine g_top (show (T).getD (3 * k) 0 = nI ((f k).1) from pR0 vT (by omega)) ?_
        refine g_aload_n dX9_turns_46 1 rfl ?_
        refine g_getf dX9_turns_47 kX9 wfX9_44 (Nat.le_of_ble_eq_true rfl) (hO) rfl ?_
        refine g_iconst (v := nI 3) dX9_turns_50 (by decide +kernel) ?_
        refine g_iload_n dX9_turns_51 0 rfl ?_
        refine g_imulN dX9_turns_52 ?_
        refine g_iconst (v := nI 1) dX9_turns_53 (by decide +kernel) ?_
        refine g_iaddN dX9_turns_54 ?_
        refine g_ialI dX9_turns_55 (hT) (by omega) (by omega) ?_
        refine g_top (show (T).getD ((3 * k) + 1) 0 = nI ((f k).2.1) from pR1 vT (by omega)) ?_
        refine g_icmp_neN 66 dX9_turns_56 (by decide) (by omega) (by omega) (fun c56 => ?_) (fun c56 => ?_)
        · refine g_iinc (q := 0) (v := nI (k + 1)) (ls' := [(1, .int (nI (k + 1))), (0, .ref 98)]) dX9_turns_66 rfl (inc1 _) (Nat.le_of_ble_eq_true rfl) rfl ?_
          refine g_goto 6 dX9_turns_69 (by decide) ?_
          exact ih (k + 1) (by omega) (fun i hi => by by_cases q2 : i = k; (subst q2; exact ⟨by omega, by omega, by omega⟩); exact hg i (by omega))
        · refine g_lsub_ (ls2 := [(0, .ref 98), (1, .int (nI k))]) [1, 0] rfl ?_
          exact KB k (by omega) (fun z => by have z1 := z.1; have z2 := z.2.1; have z3 := z.2.2; omega)

set_option maxRecDepth 100000 in
set_option maxHeartbeats 4000000 in
theorem ev_y_turns {h : List aC} {σ : Sg} (H : RM h σ) (ok : okSg σ) : Ev mX9_turns 4 0 0 [.ref 98] h (spM h (oTurns σ)) := by
  obtain ⟨fo, as_, sm, sk, z, iN, iM, iT, P, Ro, U, rf, WM, WP, WR, Tr, Ke, Co, Th, Be, Le, AP, AR, AU, Sz, It, IP, IR, IU, mO, mP, mRo, mU, mrf, mWM, mWP, mWR, mTr, mKe, mCo, mTh, mBe, mLe, mAP, mAR, mAU, mSz, mIt, mIP, mIR, mIU, vP, vR, vU, vF, vH, vL, vS, vI, vG⟩ := id H
  have mO : rd h 98 = some (.inr (9, [.int (nI σ.1.1), .int (nI σ.1.2.1), .ref 99, .ref 100, .ref 101, .int (nI σ.1.2.2.2.1), .ref 102, .int (nI ((σ.2.2.2.1).length)), .ref 103, .ref 104, .ref 105, .int fo, .int as_, .int sm, .int sk, .ref 106, .ref 107, .ref 108, .int z, .ref 109, .ref 110, .ref 111, .int (nI σ.2.1.1), .ref 112, .ref 113, .ref 114, .ref 115, .ref 116, .int (nI (bI σ.2.2.2.2.1.isSome)), .int iN, .int iM, .int iT, .ref 117, .ref 118, .ref 119])) := mO
  obtain ⟨mP, lP⟩ := mP
  obtain ⟨mRo, lRo⟩ := mRo
  obtain ⟨mU, lU⟩ := mU
  obtain ⟨mrf, lrf⟩ := mrf
  obtain ⟨mWM, lWM⟩ := mWM
  obtain ⟨mWP, lWP⟩ := mWP
  obtain ⟨mWR, lWR⟩ := mWR
  obtain ⟨mTr, lTr⟩ := mTr
  obtain ⟨mKe, lKe⟩ := mKe
  obtain ⟨mCo, lCo⟩ := mCo
  obtain ⟨mTh, lTh⟩ := mTh
  obtain ⟨mBe, lBe⟩ := mBe
  obtain ⟨mLe, lLe⟩ := mLe
  obtain ⟨mAP, lAP⟩ := mAP
  obtain ⟨mAR, lAR⟩ := mAR
  obtain ⟨mAU, lAU⟩ := mAU
  obtain ⟨mSz, lSz⟩ := mSz
  obtain ⟨mIt, lIt⟩ := mIt
  obtain ⟨mIP, lIP⟩ := mIP
  obtain ⟨mIR, lIR⟩ := mIR
  obtain ⟨mIU, lIU⟩ := mIU
  obtain ⟨okc, ⟨okl, okw⟩, okn, ⟨okh, oke⟩, oki, okr⟩ := id ok
  obtain ⟨k1, k2, k3, k4, k5, k6, k7, k8, k9⟩ := id okc
  refine Ev.of pX9_turns (Nat.le_of_ble_eq_true rfl) ?_
  show G mX9_turns (rmD 4 0 0) none _ 0 0 0 [(0, .ref 98)] [] h
  refine g_aload_n dX9_turns_0 0 rfl ?_
  refine g_callVq (st1 := []) dX9_turns_1 (ev_turnsAll H ok) oX9_turnsAll wiX9_turnsAll weX9_turnsAll wmX9_235 kX9 (mO) rfl ⟨(Nat.le_of_ble_eq_true rfl), (Nat.le_of_ble_eq_true rfl)⟩ ⟨Nat.zero_le _, Nat.zero_le _⟩ (Nat.le_of_ble_eq_true rfl) rfl rfl (fun h1 q1 => ?_)
  obtain ⟨H9, ⟨T9, t9, lt9, v9⟩, s9⟩ := q1
  obtain ⟨fo, as_, sm, sk, z, iN, iM, iT, P, Ro, U, rf, WM, WP, WR, Tr, Ke, Co, Th, Be, Le, AP, AR, AU, Sz, It, IP, IR, IU, mO, mP, mRo, mU, mrf, mWM, mWP, mWR, mTr, mKe, mCo, mTh, mBe, mLe, mAP, mAR, mAU, mSz, mIt, mIP, mIR, mIU, vP, vR, vU, vF, vH, vL, vS, vI, vG⟩ := H9
  have mO : rd h1 98 = some (.inr (9, [.int (nI σ.1.1), .int (nI σ.1.2.1), .ref 99, .ref 100, .ref 101, .int (nI σ.1.2.2.2.1), .ref 102, .int (nI ((σ.2.2.2.1).length)), .ref 103, .ref 104, .ref 105, .int fo, .int as_, .int sm, .int sk, .ref 106, .ref 107, .ref 108, .int z, .ref 109, .ref 110, .ref 111, .int (nI σ.2.1.1), .ref 112, .ref 113, .ref 114, .ref 115, .ref 116, .int (nI (bI σ.2.2.2.2.1.isSome)), .int iN, .int iM, .int iT, .ref 117, .ref 118, .ref 119])) := mO
  obtain ⟨mP, lP⟩ := mP
  obtain ⟨mRo, lRo⟩ := mRo
  obtain ⟨mU, lU⟩ := mU
  obtain ⟨mrf, lrf⟩ := mrf
  obtain ⟨mWM, lWM⟩ := mWM
  obtain ⟨mWP, lWP⟩ := mWP
  obtain ⟨mWR, lWR⟩ := mWR
  obtain ⟨mTr, lTr⟩ := mTr
  obtain ⟨mKe, lKe⟩ := mKe
  obtain ⟨mCo, lCo⟩ := mCo
  obtain ⟨mTh, lTh⟩ := mTh
  obtain ⟨mBe, lBe⟩ := mBe
  obtain ⟨mLe, lLe⟩ := mLe
  obtain ⟨mAP, lAP⟩ := mAP
  obtain ⟨mAR, lAR⟩ := mAR
  obtain ⟨mAU, lAU⟩ := mAU
  obtain ⟨mSz, lSz⟩ := mSz
  obtain ⟨mIt, lIt⟩ := mIt
  obtain ⟨mIP, lIP⟩ := mIP
  obtain ⟨mIR, lIR⟩ := mIR
  obtain ⟨mIU, lIU⟩ := mIU
  refine g_iconst (v := nI 0) dX9_turns_4 (by decide +kernel) ?_
  refine g_istore_n (ls' := [(1, .int (nI 0)), (0, .ref 98)]) dX9_turns_5 (Nat.le_of_ble_eq_true rfl) rfl ?_
  have H9 : RM h1 σ := ⟨_, _, _, _, _, _, _, _, _, _, _, _, _, _, _, _, _, _, _, _, _, _, _, _, _, _, _, _, _, mO, ⟨mP, lP⟩, ⟨mRo, lRo⟩, ⟨mU, lU⟩, ⟨mrf, lrf⟩, ⟨mWM, lWM⟩, ⟨mWP, lWP⟩, ⟨mWR, lWR⟩, ⟨mTr, lTr⟩, ⟨mKe, lKe⟩, ⟨mCo, lCo⟩, ⟨t9, lt9⟩, ⟨mBe, lBe⟩, ⟨mLe, lLe⟩, ⟨mAP, lAP⟩, ⟨mAR, lAR⟩, ⟨mAU, lAU⟩, ⟨mSz, lSz⟩, ⟨mIt, lIt⟩, ⟨mIP, lIP⟩, ⟨mIR, lIR⟩, ⟨mIU, lIU⟩, vP, vR, vU, vF, vH, vL, vS, vI, vG⟩
  refine lp_mcb (show MO h1 _ _ _ _ _ _ _ _ _ _ _ _ _ _ from mO) (by omega) k2 t9 lt9 v9 (tAl_bf ok) (fun hg => ?_) (fun i hi hg => ?_) σ.1.2.1 0 (by omega) (fun i hi => absurd hi (Nat.not_lt_zero i))
  · rw [show oTurns σ = (nI σ.1.2.1, ((σ.1.1, σ.1.2.1, tAl σ, σ.1.2.2.2), σ.2.1, σ.2.2.1, (σ.1.2.2.1, σ.1.2.2.2.2.2) :: σ.2.2.2.1.take 11, σ.2.2.2.2)) from if_pos (cb_t hg)]
    refine g_aload_n dX9_turns_72 0 rfl ?_
    refine g_callVq (st1 := []) dX9_turns_73 (ev_remembers2 H9 ok) oX9_remembers wiX9_remembers weX9_remembers wmX9_124 kX9 (mO) rfl ⟨(Nat.le_of_ble_eq_true rfl), (Nat.le_of_ble_eq_true rfl)⟩ ⟨Nat.zero_le _, Nat.zero_le _⟩ (Nat.le_of_ble_eq_true rfl) rfl rfl (fun h2 q2 => ?_)
    have hS0 := q2.2
    obtain ⟨fo, as_, sm, sk, z, iN, iM, iT, P, Ro, U, rf, WM, WP, WR, Tr, Ke, Co, Th, Be, Le, AP, AR, AU, Sz, It, IP, IR, IU, mO, mP, mRo, mU, mrf, mWM, mWP, mWR, mTr, mKe, mCo, mTh, mBe, mLe, mAP, mAR, mAU, mSz, mIt, mIP, mIR, mIU, vP, vR, vU, vF, vH, vL, vS, vI, vG⟩ := q2.1
    have mO : rd h2 98 = some (.inr (9, [.int (nI σ.1.1), .int (nI σ.1.2.1), .ref 99, .ref 100, .ref 101, .int (nI σ.1.2.2.2.1), .ref 102, .int (nI (((σ.1.2.2.1, σ.1.2.2.2.2.2) :: σ.2.2.2.1.take 11).length)), .ref 103, .ref 104, .ref 105, .int fo, .int as_, .int sm, .int sk, .ref 106, .ref 107, .ref 108, .int z, .ref 109, .ref 110, .ref 111, .int (nI σ.2.1.1), .ref 112, .ref 113, .ref 114, .ref 115, .ref 116, .int (nI (bI σ.2.2.2.2.1.isSome)), .int iN, .int iM, .int iT, .ref 117, .ref 118, .ref 119])) := mO
    obtain ⟨mP, lP⟩ := mP
    obtain ⟨mRo, lRo⟩ := mRo
    obtain ⟨mU, lU⟩ := mU
    obtain ⟨mrf, lrf⟩ := mrf
    obtain ⟨mWM, lWM⟩ := mWM
    obtain ⟨mWP, lWP⟩ := mWP
    obtain ⟨mWR, lWR⟩ := mWR
    obtain ⟨mTr, lTr⟩ := mTr
    obtain ⟨mKe, lKe⟩ := mKe
    obtain ⟨mCo, lCo⟩ := mCo
    obtain ⟨mTh, lTh⟩ := mTh
    obtain ⟨mBe, lBe⟩ := mBe
    obtain ⟨mLe, lLe⟩ := mLe
    obtain ⟨mAP, lAP⟩ := mAP
    obtain ⟨mAR, lAR⟩ := mAR
    obtain ⟨mAU, lAU⟩ := mAU
    obtain ⟨mSz, lSz⟩ := mSz
    obtain ⟨mIt, lIt⟩ := mIt
    obtain ⟨mIP, lIP⟩ := mIP
    obtain ⟨mIR, lIR⟩ := mIR
    obtain ⟨mIU, lIU⟩ := mIU
    have vP : pR P 0 σ.1.2.1 σ.1.2.2.1 := vP
    have vR : rR Ro 0 σ.1.2.2.2.2.2 := vR
    have vU : tR U σ.1.2.2.2.1 σ.1.2.2.2.2.1 := vU
    have t8 : rd h2 109 = some (.inl T9) := by rw [hS0 109 (by omega)]; exact t9
    refine g_aload_n dX9_turns_76 0 rfl ?_
    refine g_getf dX9_turns_77 kX9 wfX9_44 (Nat.le_of_ble_eq_true rfl) (mO) rfl ?_
    refine g_iconst (v := nI 0) dX9_turns_80 (by decide +kernel) ?_
    refine g_aload_n dX9_turns_81 0 rfl ?_
    refine g_getf dX9_turns_82 kX9 wfX9_13 (Nat.le_of_ble_eq_true rfl) (mO) rfl ?_
    refine g_iconst (v := nI 0) dX9_turns_85 (by decide +kernel) ?_
    refine g_bipush (v := nI 18) dX9_turns_86 (by decide +kernel) ?_
    have la3 : (T9).length = 18 := lt9
    have lb3 : (P).length = 18 := lP
    refine g_callSq (st1 := []) dX9_turns_88 (ev_mlays (a := 0) (b := 0) (s := 18) (show 109 ≠ 99 by decide) (by omega) (by omega) ⟨by omega, by omega⟩ (t8) (mP)) oX9_lays wsX9_lays wmX9_83 rfl ⟨(Nat.le_of_ble_eq_true rfl), (Nat.le_of_ble_eq_true rfl)⟩ ⟨Nat.zero_le _, Nat.zero_le _⟩ (Nat.le_of_ble_eq_true rfl) rfl rfl (fun h4 q4 => ?_)
    obtain ⟨q4a, q4s⟩ := q4
    have f4_98 : rd h4 98 = some (.inr (9, [.int (nI σ.1.1), .int (nI σ.1.2.1), .ref 99, .ref 100, .ref 101, .int (nI σ.1.2.2.2.1), .ref 102, .int (nI (((σ.1.2.2.1, σ.1.2.2.2.2.2) :: σ.2.2.2.1.take 11).length)), .ref 103, .ref 104, .ref 105, .int fo, .int as_, .int sm, .int sk, .ref 106, .ref 107, .ref 108, .int z, .ref 109, .ref 110, .ref 111, .int (nI σ.2.1.1), .ref 112, .ref 113, .ref 114, .ref 115, .ref 116, .int (nI (bI σ.2.2.2.2.1.isSome)), .int iN, .int iM, .int iT, .ref 117, .ref 118, .ref 119])) := by rw [q4s _ (by omega)]; exact mO
    have f4_100 : rd h4 100 = some (.inl (Ro)) := by rw [q4s _ (by omega)]; exact mRo
    have f4_101 : rd h4 101 = some (.inl (U)) := by rw [q4s _ (by omega)]; exact mU
    have f4_102 : rd h4 102 = some (.inl (rf)) := by rw [q4s _ (by omega)]; exact mrf
    have f4_103 : rd h4 103 = some (.inl (WM)) := by rw [q4s _ (by omega)]; exact mWM
    have f4_104 : rd h4 104 = some (.inl (WP)) := by rw [q4s _ (by omega)]; exact mWP
    have f4_105 : rd h4 105 = some (.inl (WR)) := by rw [q4s _ (by omega)]; exact mWR
    have f4_106 : rd h4 106 = some (.inl (Tr)) := by rw [q4s _ (by omega)]; exact mTr
    have f4_107 : rd h4 107 = some (.inl (Ke)) := by rw [q4s _ (by omega)]; exact mKe
    have f4_108 : rd h4 108 = some (.inl (Co)) := by rw [q4s _ (by omega)]; exact mCo
    have f4_109 : rd h4 109 = some (.inl (T9)) := by rw [q4s _ (by omega)]; exact t8
    have f4_110 : rd h4 110 = some (.inl (Be)) := by rw [q4s _ (by omega)]; exact mBe
    have f4_111 : rd h4 111 = some (.inl (Le)) := by rw [q4s _ (by omega)]; exact mLe
    have f4_112 : rd h4 112 = some (.inl (AP)) := by rw [q4s _ (by omega)]; exact mAP
    have f4_113 : rd h4 113 = some (.inl (AR)) := by rw [q4s _ (by omega)]; exact mAR
    have f4_114 : rd h4 114 = some (.inl (AU)) := by rw [q4s _ (by omega)]; exact mAU
    have f4_115 : rd h4 115 = some (.inl (Sz)) := by rw [q4s _ (by omega)]; exact mSz
    have f4_116 : rd h4 116 = some (.inl (It)) := by rw [q4s _ (by omega)]; exact mIt
    have f4_117 : rd h4 117 = some (.inl (IP)) := by rw [q4s _ (by omega)]; exact mIP
    have f4_118 : rd h4 118 = some (.inl (IR)) := by rw [q4s _ (by omega)]; exact mIR
    have f4_119 : rd h4 119 = some (.inl (IU)) := by rw [q4s _ (by omega)]; exact mIU
    refine g_aload_n dX9_turns_91 0 rfl ?_
    refine g_getf dX9_turns_92 kX9 wfX9_87 (Nat.le_of_ble_eq_true rfl) (f4_98) rfl ?_
    exact g_iret dX9_turns_95 rfl ⟨Nat.zero_le _, Nat.zero_le _⟩ (⟨rfl, ⟨_, _, _, _, _, _, _, _, _, _, _, _, _, _, _, _, _, _, _, _, _, _, _, _, _, _, _, _, _, f4_98, ⟨q4a, ((cpL_len _ _ _ _ _).trans lb3)⟩, ⟨f4_100, lRo⟩, ⟨f4_101, lU⟩, ⟨f4_102, lrf⟩, ⟨f4_103, lWM⟩, ⟨f4_104, lWP⟩, ⟨f4_105, lWR⟩, ⟨f4_106, lTr⟩, ⟨f4_107, lKe⟩, ⟨f4_108, lCo⟩, ⟨f4_109, lt9⟩, ⟨f4_110, lBe⟩, ⟨f4_111, lLe⟩, ⟨f4_112, lAP⟩, ⟨f4_113, lAR⟩, ⟨f4_114, lAU⟩, ⟨f4_115, lSz⟩, ⟨f4_116, lIt⟩, ⟨f4_117, lIP⟩, ⟨f4_118, lIR⟩, ⟨f4_119, lIU⟩, (pR_cp (m := σ.1.2.1) v9 lP lt9 (by omega)), vR, vU, vF, vH, vL, vS, vI, vG⟩, (fun q hq => by rw [q4s q (by omega), hS0 q (by omega), s9 q (by omega)])⟩)
  · rw [show oTurns σ = rfS σ (-3) from if_neg (fun z => hg (cb_f z i hi))]
    refine g_aload_n dX9_turns_59 0 rfl ?_
    refine g_bipush (v := (-3)) dX9_turns_60 (by decide +kernel) ?_
    refine g_callVq (st1 := [.int (-nI 3)]) dX9_turns_62 (ev_refused H9 ok 3 (by unfold noN; omega)) oX9_refused wiX9_refused weX9_refused wmX9_90 kX9 (mO) rfl ⟨(Nat.le_of_ble_eq_true rfl), (Nat.le_of_ble_eq_true rfl)⟩ ⟨Nat.zero_le _, Nat.zero_le _⟩ (Nat.le_of_ble_eq_true rfl) rfl rfl (fun h5 q5 => ?_)
    exact g_iret dX9_turns_65 rfl ⟨Nat.zero_le _, Nat.zero_le _⟩ (⟨rfl, q5.1, Smo.tr (show Smo 98 120 h _ from (fun q hq => by rw [s9 q (by omega)])) q5.2⟩)
