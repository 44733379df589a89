set_option maxRecDepth 100000 in
set_option maxHeartbeats 4000000 in
theorem ev_y_adders {h : List aC} {σ : Sg} (H : RM h σ) (ok : okSg σ) (x k : Int32) : Ev mX9_adders 13 0 0 [.ref 98, .int x, .int k] h (spM h (oAdders σ x k)) := by
  obtain ⟨fo, as_, sm, sk, z, iN, iM, iT, P, Ro, U, rf, WM, WP, WR, Tr, Ke, Co, Th, Be, Le, AP, AR, AU, Sz, It, IP, IR, IU, mO, mP, mRo, mU, mrf, mWM, mWP, mWR, mTr, mKe, mCo, mTh, mBe, mLe, mAP, mAR, mAU, mSz, mIt, mIP, mIR, mIU, vP, vR, vU, vF, vH, vL, vS, vI, vG⟩ := id H
  have mO : rd h 98 = some (.inr (9, [.int (nI σ.1.1), .int (nI σ.1.2.1), .ref 99, .ref 100, .ref 101, .int (nI σ.1.2.2.2.1), .ref 102, .int (nI ((σ.2.2.2.1).length)), .ref 103, .ref 104, .ref 105, .int fo, .int as_, .int sm, .int sk, .ref 106, .ref 107, .ref 108, .int z, .ref 109, .ref 110, .ref 111, .int (nI σ.2.1.1), .ref 112, .ref 113, .ref 114, .ref 115, .ref 116, .int (nI (bI σ.2.2.2.2.1.isSome)), .int iN, .int iM, .int iT, .ref 117, .ref 118, .ref 119])) := mO
  obtain ⟨mP, lP⟩ := mP
  obtain ⟨mRo, lRo⟩ := mRo
  obtain ⟨mU, lU⟩ := mU
  obtain ⟨mrf, lrf⟩ := mrf
  obtain ⟨mWM, lWM⟩ := mWM
  obtain ⟨mWP, lWP⟩ := mWP
  obtain ⟨mWR, lWR⟩ := mWR
  obtain ⟨mTr, lTr⟩ := mTr
  obtain ⟨mKe, lKe⟩ := mKe
  obtain ⟨mCo, lCo⟩ := mCo
  obtain ⟨mTh, lTh⟩ := mTh
  obtain ⟨mBe, lBe⟩ := mBe
  obtain ⟨mLe, lLe⟩ := mLe
  obtain ⟨mAP, lAP⟩ := mAP
  obtain ⟨mAR, lAR⟩ := mAR
  obtain ⟨mAU, lAU⟩ := mAU
  obtain ⟨mSz, lSz⟩ := mSz
  obtain ⟨mIt, lIt⟩ := mIt
  obtain ⟨mIP, lIP⟩ := mIP
  obtain ⟨mIR, lIR⟩ := mIR
  obtain ⟨mIU, lIU⟩ := mIU
  obtain ⟨okc, ⟨okl, okw⟩, okn, ⟨okh, oke⟩, oki, okr⟩ := id ok
  obtain ⟨k1, k2, k3, k4, k5, k6, k7, k8, k9⟩ := id okc
  refine Ev.of pX9_adders (Nat.le_of_ble_eq_true rfl) ?_
  show G mX9_adders (rmD 13 0 0) none _ 0 0 0 [(0, .ref 98), (1, .int x), (2, .int k)] [] h
  refine g_iload_n dX9_adders_0 1 rfl ?_
  refine g_iconst (v := (-1)) dX9_adders_1 (by decide +kernel) ?_
  refine g_icmp_ge 12 dX9_adders_2 (by decide) (fun c2 => ?_) (fun c2 => ?_)
  · rw [show oAdders σ x k = _ from if_pos c2]
    refine g_aload_n dX9_adders_12 0 rfl ?_
    refine g_getf dX9_adders_13 kX9 wfX9_7 (Nat.le_of_ble_eq_true rfl) (mO) rfl ?_
    refine g_bipush (v := nI 11) dX9_adders_16 (by decide +kernel) ?_
    refine g_icmp_gtN 28 dX9_adders_18 (by decide) (by omega) (by omega) (fun c18 => ?_) (fun c18 => ?_)
    · refine g_aload_n dX9_adders_28 0 rfl ?_
      refine g_bipush (v := (-3)) dX9_adders_29 (by decide +kernel) ?_
      rw [if_neg (show ¬ (σ.1.1 ≤ 11 ∧ isSt σ.1.1 σ.1.2.1 (qF σ.1.2.2.1) (qS σ.1.2.2.1) = true) from fun z => by omega)]
      refine g_callVq (st1 := [.int (-nI 3)]) dX9_adders_31 (ev_refused H ok 3 (by unfold noN; omega)) oX9_refused wiX9_refused weX9_refused wmX9_90 kX9 (mO) rfl ⟨(Nat.le_of_ble_eq_true rfl), (Nat.le_of_ble_eq_true rfl)⟩ ⟨Nat.zero_le _, Nat.zero_le _⟩ (Nat.le_of_ble_eq_true rfl) rfl rfl (fun h1 q1 => ?_)
      exact g_iret dX9_adders_34 rfl ⟨Nat.zero_le _, Nat.zero_le _⟩ (⟨rfl, q1⟩)
    · refine g_aload_n dX9_adders_21 0 rfl ?_
      refine g_callVp dX9_adders_22 (ev_isOne H ok) oX9_isOne wiX9_isOne weX9_isOne wmX9_145 kX9 (mO) rfl ⟨(Nat.le_of_ble_eq_true rfl), (Nat.le_of_ble_eq_true rfl)⟩ ⟨Nat.zero_le _, Nat.zero_le _⟩ (Nat.le_of_ble_eq_true rfl) rfl ?_
      refine g_if_neB 35 dX9_adders_25 (by decide) (fun c25 => ?_) (fun c25 => ?_)
      · rw [if_pos (show σ.1.1 ≤ 11 ∧ isSt σ.1.1 σ.1.2.1 (qF σ.1.2.2.1) (qS σ.1.2.2.1) = true from ⟨by omega, c25⟩)]
        have m1 : 1 ≤ σ.1.2.1 := by have := (of_decide_eq_true c25).1; omega
        have sl := aDL_len ok
        refine g_iload_n dX9_adders_35 1 rfl ?_
        refine g_if_lt 53 dX9_adders_36 (by decide) (fun c36 => ?_) (fun c36 => ?_)
        · rw [if_neg (show ¬ (¬ x < 0 ∧ ¬ (0 ≤ k ∧ k < nI σ.1.2.1)) from fun z => z.1 c36)]
          have hx : x = -1 := m1_eq c2 c36
          refine g_aload_n dX9_adders_53 0 rfl ?_
          refine g_iload_n dX9_adders_54 1 rfl ?_
          refine g_callVq (st1 := []) dX9_adders_55 (ev_findsA (show MO h _ _ _ _ _ _ _ _ _ _ _ _ _ _ from mO) m1 (by omega) (by omega) (by omega) mTr lTr mKe lKe mP lP (F := qF σ.1.2.2.1) (S := qS σ.1.2.2.1) (fun k hk => ⟨(pq_ (n := σ.1.1) vP (by omega) hk).1, (pq_ (n := σ.1.1) vP (by omega) hk).2.1, (bnd_q (by omega) k5 k hk).1, (bnd_q (by omega) k5 k hk).2.1⟩) x) oX9_findsAdders wiX9_findsAdders weX9_findsAdders wmX9_182 kX9 (mO) rfl ⟨(Nat.le_of_ble_eq_true rfl), (Nat.le_of_ble_eq_true rfl)⟩ ⟨Nat.zero_le _, Nat.zero_le _⟩ (Nat.le_of_ble_eq_true rfl) rfl rfl (fun h2 q2 => ?_)
          obtain ⟨Tz, Kz, oz, tz, ltz, yz, lyz, kpz, sz⟩ := q2
          have f2_99 : rd h2 99 = some (.inl (P)) := by rw [sz _ (by omega)]; exact mP
          have f2_100 : rd h2 100 = some (.inl (Ro)) := by rw [sz _ (by omega)]; exact mRo
          have f2_101 : rd h2 101 = some (.inl (U)) := by rw [sz _ (by omega)]; exact mU
          have f2_102 : rd h2 102 = some (.inl (rf)) := by rw [sz _ (by omega)]; exact mrf
          have f2_103 : rd h2 103 = some (.inl (WM)) := by rw [sz _ (by omega)]; exact mWM
          have f2_104 : rd h2 104 = some (.inl (WP)) := by rw [sz _ (by omega)]; exact mWP
          have f2_105 : rd h2 105 = some (.inl (WR)) := by rw [sz _ (by omega)]; exact mWR
          have f2_108 : rd h2 108 = some (.inl (Co)) := by rw [sz _ (by omega)]; exact mCo
          have f2_109 : rd h2 109 = some (.inl (Th)) := by rw [sz _ (by omega)]; exact mTh
          have f2_110 : rd h2 110 = some (.inl (Be)) := by rw [sz _ (by omega)]; exact mBe
          have f2_111 : rd h2 111 = some (.inl (Le)) := by rw [sz _ (by omega)]; exact mLe
          have f2_112 : rd h2 112 = some (.inl (AP)) := by rw [sz _ (by omega)]; exact mAP
          have f2_113 : rd h2 113 = some (.inl (AR)) := by rw [sz _ (by omega)]; exact mAR
          have f2_114 : rd h2 114 = some (.inl (AU)) := by rw [sz _ (by omega)]; exact mAU
          have f2_115 : rd h2 115 = some (.inl (Sz)) := by rw [sz _ (by omega)]; exact mSz
          have f2_116 : rd h2 116 = some (.inl (It)) := by rw [sz _ (by omega)]; exact mIt
          have f2_117 : rd h2 117 = some (.inl (IP)) := by rw [sz _ (by omega)]; exact mIP
          have f2_118 : rd h2 118 = some (.inl (IR)) := by rw [sz _ (by omega)]; exact mIR
          have f2_119 : rd h2 119 = some (.inl (IU)) := by rw [sz _ (by omega)]; exact mIU
          have oz : rd h2 98 = some (.inr (9, [.int (nI σ.1.1), .int (nI σ.1.2.1), .ref 99, .ref 100, .ref 101, .int (nI σ.1.2.2.2.1), .ref 102, .int (nI ((σ.2.2.2.1).length)), .ref 103, .ref 104, .ref 105, .int (nI ((aDL σ).length)), .int x, .int sm, .int sk, .ref 106, .ref 107, .ref 108, .int z, .ref 109, .ref 110, .ref 111, .int (nI σ.2.1.1), .ref 112, .ref 113, .ref 114, .ref 115, .ref 116, .int (nI (bI σ.2.2.2.2.1.isSome)), .int iN, .int iM, .int iT, .ref 117, .ref 118, .ref 119])) := oz
          refine g_iload_n dX9_adders_58 1 rfl ?_
          refine g_iconst (v := (-1)) dX9_adders_59 (by decide +kernel) ?_
          refine g_icmp_ne 70 dX9_adders_60 (by decide) (fun z => absurd z (not_not_intro hx)) (fun c60 => ?_)
          refine g_aload_n dX9_adders_63 0 rfl ?_
          refine g_getf dX9_adders_64 kX9 wfX9_161 (Nat.le_of_ble_eq_true rfl) (oz) rfl ?_
          refine g_goto 89 dX9_adders_67 (by decide) ?_
          exact g_iret dX9_adders_89 rfl ⟨Nat.zero_le _, Nat.zero_le _⟩ (⟨by rw [if_pos c36], ⟨_, _, _, _, _, _, _, _, _, _, _, _, _, _, _, _, _, _, _, _, _, _, _, _, _, _, _, _, _, oz, ⟨f2_99, lP⟩, ⟨f2_100, lRo⟩, ⟨f2_101, lU⟩, ⟨f2_102, lrf⟩, ⟨f2_103, lWM⟩, ⟨f2_104, lWP⟩, ⟨f2_105, lWR⟩, ⟨tz, ltz⟩, ⟨yz, lyz⟩, ⟨f2_108, lCo⟩, ⟨f2_109, lTh⟩, ⟨f2_110, lBe⟩, ⟨f2_111, lLe⟩, ⟨f2_112, lAP⟩, ⟨f2_113, lAR⟩, ⟨f2_114, lAU⟩, ⟨f2_115, lSz⟩, ⟨f2_116, lIt⟩, ⟨f2_117, lIP⟩, ⟨f2_118, lIR⟩, ⟨f2_119, lIU⟩, vP, vR, vU, vF, vH, vL, vS, vI, vG⟩, (fun q hq => by rw [sz q (by omega)])⟩)
        · refine g_aload_n dX9_adders_39 0 rfl ?_
          refine g_iload_n dX9_adders_40 2 rfl ?_
          refine g_callVp dX9_adders_41 (ev_isPair H ok k) oX9_isPair wiX9_isPair weX9_isPair wmX9_121 kX9 (mO) rfl ⟨(Nat.le_of_ble_eq_true rfl), (Nat.le_of_ble_eq_true rfl)⟩ ⟨Nat.zero_le _, Nat.zero_le _⟩ (Nat.le_of_ble_eq_true rfl) rfl ?_
          refine g_if_neB 53 dX9_adders_44 (by decide) (fun c44 => ?_) (fun c44 => ?_)
          · rw [if_neg (show ¬ (¬ x < 0 ∧ ¬ (0 ≤ k ∧ k < nI σ.1.2.1)) from fun z => z.2 (of_decide_eq_true c44))]
            refine g_aload_n dX9_adders_53 0 rfl ?_
            refine g_iload_n dX9_adders_54 1 rfl ?_
            refine g_callVq (st1 := []) dX9_adders_55 (ev_findsA (show MO h _ _ _ _ _ _ _ _ _ _ _ _ _ _ from mO) m1 (by omega) (by omega) (by omega) mTr lTr mKe lKe mP lP (F := qF σ.1.2.2.1) (S := qS σ.1.2.2.1) (fun k hk => ⟨(pq_ (n := σ.1.1) vP (by omega) hk).1, (pq_ (n := σ.1.1) vP (by omega) hk).2.1, (bnd_q (by omega) k5 k hk).1, (bnd_q (by omega) k5 k hk).2.1⟩) x) oX9_findsAdders wiX9_findsAdders weX9_findsAdders wmX9_182 kX9 (mO) rfl ⟨(Nat.le_of_ble_eq_true rfl), (Nat.le_of_ble_eq_true rfl)⟩ ⟨Nat.zero_le _, Nat.zero_le _⟩ (Nat.le_of_ble_eq_true rfl) rfl rfl (fun h3 q3 => ?_)
            obtain ⟨Tz, Kz, oz, tz, ltz, yz, lyz, kpz, sz⟩ := q3
            have f3_99 : rd h3 99 = some (.inl (P)) := by rw [sz _ (by omega)]; exact mP
            have f3_100 : rd h3 100 = some (.inl (Ro)) := by rw [sz _ (by omega)]; exact mRo
            have f3_101 : rd h3 101 = some (.inl (U)) := by rw [sz _ (by omega)]; exact mU
            have f3_102 : rd h3 102 = some (.inl (rf)) := by rw [sz _ (by omega)]; exact mrf
            have f3_103 : rd h3 103 = some (.inl (WM)) := by rw [sz _ (by omega)]; exact mWM
            have f3_104 : rd h3 104 = some (.inl (WP)) := by rw [sz _ (by omega)]; exact mWP
            have f3_105 : rd h3 105 = some (.inl (WR)) := by rw [sz _ (by omega)]; exact mWR
            have f3_108 : rd h3 108 = some (.inl (Co)) := by rw [sz _ (by omega)]; exact mCo
            have f3_109 : rd h3 109 = some (.inl (Th)) := by rw [sz _ (by omega)]; exact mTh
            have f3_110 : rd h3 110 = some (.inl (Be)) := by rw [sz _ (by omega)]; exact mBe
            have f3_111 : rd h3 111 = some (.inl (Le)) := by rw [sz _ (by omega)]; exact mLe
            have f3_112 : rd h3 112 = some (.inl (AP)) := by rw [sz _ (by omega)]; exact mAP
            have f3_113 : rd h3 113 = some (.inl (AR)) := by rw [sz _ (by omega)]; exact mAR
            have f3_114 : rd h3 114 = some (.inl (AU)) := by rw [sz _ (by omega)]; exact mAU
            have f3_115 : rd h3 115 = some (.inl (Sz)) := by rw [sz _ (by omega)]; exact mSz
            have f3_116 : rd h3 116 = some (.inl (It)) := by rw [sz _ (by omega)]; exact mIt
            have f3_117 : rd h3 117 = some (.inl (IP)) := by rw [sz _ (by omega)]; exact mIP
            have f3_118 : rd h3 118 = some (.inl (IR)) := by rw [sz _ (by omega)]; exact mIR
            have f3_119 : rd h3 119 = some (.inl (IU)) := by rw [sz _ (by omega)]; exact mIU
            have oz : rd h3 98 = some (.inr (9, [.int (nI σ.1.1), .int (nI σ.1.2.1), .ref 99, .ref 100, .ref 101, .int (nI σ.1.2.2.2.1), .ref 102, .int (nI ((σ.2.2.2.1).length)), .ref 103, .ref 104, .ref 105, .int (nI ((aDL σ).length)), .int x, .int sm, .int sk, .ref 106, .ref 107, .ref 108, .int z, .ref 109, .ref 110, .ref 111, .int (nI σ.2.1.1), .ref 112, .ref 113, .ref 114, .ref 115, .ref 116, .int (nI (bI σ.2.2.2.2.1.isSome)), .int iN, .int iM, .int iT, .ref 117, .ref 118, .ref 119])) := oz
            refine g_iload_n dX9_adders_58 1 rfl ?_
            refine g_iconst (v := (-1)) dX9_adders_59 (by decide +kernel) ?_
            refine g_icmp_ne 70 dX9_adders_60 (by decide) (fun c60 => ?_) (fun z => absurd z (m1_ne c36))
            have n2 := of_decide_eq_true c44
            obtain ⟨x1, hx1, rfl⟩ := nn_of (Int32.not_lt.mp c36)
            obtain ⟨y1, hy1, rfl⟩ := nn_of n2.1
            rw [if_neg c36, cl_ hx1, cl_ hy1]
            have b2 := nn_lt hy1 (by omega) n2.2
            refine g_iload_n dX9_adders_70 1 rfl ?_
            refine g_aload_n dX9_adders_71 0 rfl ?_
            refine g_getf dX9_adders_72 kX9 wfX9_161 (Nat.le_of_ble_eq_true rfl) (oz) rfl ?_
            refine g_icmp_geN 87 dX9_adders_75 (by decide) (by omega) (by omega) (fun c75 => ?_) (fun c75 => ?_)
            · refine g_bipush (v := (-9)) dX9_adders_87 (by decide +kernel) ?_
              exact g_iret dX9_adders_89 rfl ⟨Nat.zero_le _, Nat.zero_le _⟩ (⟨by rw [if_neg (show ¬ x1 < (aDL σ).length by omega)], ⟨_, _, _, _, _, _, _, _, _, _, _, _, _, _, _, _, _, _, _, _, _, _, _, _, _, _, _, _, _, oz, ⟨f3_99, lP⟩, ⟨f3_100, lRo⟩, ⟨f3_101, lU⟩, ⟨f3_102, lrf⟩, ⟨f3_103, lWM⟩, ⟨f3_104, lWP⟩, ⟨f3_105, lWR⟩, ⟨tz, ltz⟩, ⟨yz, lyz⟩, ⟨f3_108, lCo⟩, ⟨f3_109, lTh⟩, ⟨f3_110, lBe⟩, ⟨f3_111, lLe⟩, ⟨f3_112, lAP⟩, ⟨f3_113, lAR⟩, ⟨f3_114, lAU⟩, ⟨f3_115, lSz⟩, ⟨f3_116, lIt⟩, ⟨f3_117, lIP⟩, ⟨f3_118, lIR⟩, ⟨f3_119, lIU⟩, vP, vR, vU, vF, vH, vL, vS, vI, vG⟩, (fun q hq => by rw [sz q (by omega)])⟩)
            · refine g_aload_n dX9_adders_78 0 rfl ?_
              refine g_getf dX9_adders_79 kX9 wfX9_38 (Nat.le_of_ble_eq_true rfl) (oz) rfl ?_
              refine g_iload_n dX9_adders_82 2 rfl ?_
              refine g_ialI dX9_adders_83 (yz) (by omega) (by omega) ?_
              refine g_top (show (Kz).getD y1 0 = nI (((aDL σ).getD x1 []).getD y1 0) from kpz x1 rfl (show x1 < (aDL σ).length by omega) y1 b2) ?_
              refine g_goto 89 dX9_adders_84 (by decide) ?_
              exact g_iret dX9_adders_89 rfl ⟨Nat.zero_le _, Nat.zero_le _⟩ (⟨by rw [if_pos (show x1 < (aDL σ).length by omega)], ⟨_, _, _, _, _, _, _, _, _, _, _, _, _, _, _, _, _, _, _, _, _, _, _, _, _, _, _, _, _, oz, ⟨f3_99, lP⟩, ⟨f3_100, lRo⟩, ⟨f3_101, lU⟩, ⟨f3_102, lrf⟩, ⟨f3_103, lWM⟩, ⟨f3_104, lWP⟩, ⟨f3_105, lWR⟩, ⟨tz, ltz⟩, ⟨yz, lyz⟩, ⟨f3_108, lCo⟩, ⟨f3_109, lTh⟩, ⟨f3_110, lBe⟩, ⟨f3_111, lLe⟩, ⟨f3_112, lAP⟩, ⟨f3_113, lAR⟩, ⟨f3_114, lAU⟩, ⟨f3_115, lSz⟩, ⟨f3_116, lIt⟩, ⟨f3_117, lIP⟩, ⟨f3_118, lIR⟩, ⟨f3_119, lIU⟩, vP, vR, vU, vF, vH, vL, vS, vI, vG⟩, (fun q hq => by rw [sz q (by omega)])⟩)
          · refine g_aload_n dX9_adders_47 0 rfl ?_
            refine g_iconst (v := (-1)) dX9_adders_48 (by decide +kernel) ?_
            rw [if_pos (show ¬ x < 0 ∧ ¬ (0 ≤ k ∧ k < nI σ.1.2.1) from ⟨c36, of_decide_eq_false c44⟩)]
            refine g_callVq (st1 := [.int (-nI 1)]) dX9_adders_49 (ev_refused H ok 1 (by unfold noN; omega)) oX9_refused wiX9_refused weX9_refused wmX9_90 kX9 (mO) rfl ⟨(Nat.le_of_ble_eq_true rfl), (Nat.le_of_ble_eq_true rfl)⟩ ⟨Nat.zero_le _, Nat.zero_le _⟩ (Nat.le_of_ble_eq_true rfl) rfl rfl (fun h4 q4 => ?_)
            exact g_iret dX9_adders_52 rfl ⟨Nat.zero_le _, Nat.zero_le _⟩ (⟨rfl, q4⟩)
      · refine g_aload_n dX9_adders_28 0 rfl ?_
        refine g_bipush (v := (-3)) dX9_adders_29 (by decide +kernel) ?_
        rw [if_neg (show ¬ (σ.1.1 ≤ 11 ∧ isSt σ.1.1 σ.1.2.1 (qF σ.1.2.2.1) (qS σ.1.2.2.1) = true) from fun z => by rw [c25] at z; exact absurd z.2 (by decide))]
        refine g_callVq (st1 := [.int (-nI 3)]) dX9_adders_31 (ev_refused H ok 3 (by unfold noN; omega)) oX9_refused wiX9_refused weX9_refused wmX9_90 kX9 (mO) rfl ⟨(Nat.le_of_ble_eq_true rfl), (Nat.le_of_ble_eq_true rfl)⟩ ⟨Nat.zero_le _, Nat.zero_le _⟩ (Nat.le_of_ble_eq_true rfl) rfl rfl (fun h5 q5 => ?_)
        exact g_iret dX9_adders_34 rfl ⟨Nat.zero_le _, Nat.zero_le _⟩ (⟨rfl, q5⟩)
  · refine g_aload_n dX9_adders_5 0 rfl ?_
    refine g_bipush (v := (-4)) dX9_adders_6 (by decide +kernel) ?_
    rw [show oAdders σ x k = rfS σ (-4) from if_neg c2]
    refine g_callVq (st1 := [.int (-nI 4)]) dX9_adders_8 (ev_refused H ok 4 (by unfold noN; omega)) oX9_refused wiX9_refused weX9_refused wmX9_90 kX9 (mO) rfl ⟨(Nat.le_of_ble_eq_true rfl), (Nat.le_of_ble_eq_true rfl)⟩ ⟨Nat.zero_le _, Nat.zero_le _⟩ (Nat.le_of_ble_eq_true rfl) rfl rfl (fun h6 q6 => ?_)
    exact g_iret dX9_adders_11 rfl ⟨Nat.zero_le _, Nat.zero_le _⟩ (⟨rfl, q6⟩)

theorem bkA1_e0 {n : Nat} (e : EA n (qF (fB n)) (qS (fB n)) ((n - 1) / 2) [] = []) : bkA1 n = fB n := by unfold bkA1; rw [e]
theorem bkA1_e1 {n : Nat} {a : List Nat} {t : List (List Nat)} (e : EA n (qF (fB n)) (qS (fB n)) ((n - 1) / 2) [] = a :: t) : bkA1 n = fun k => (k + 1, n - (k + 1), a.getD k 0) := by unfold bkA1; rw [e]
theorem bk_vF {n : Nat} {R : List Int32} (h3 : 3 ≤ n) (hn : n ≤ 13) (vR : pR R 0 ((n - 1) / 2) (fB n)) : ∀ k, k < (n - 1) / 2 → R.getD (3 * k) 0 = nI ((qF (fB n)).getD k 0) ∧ R.getD (3 * k + 1) 0 = nI ((qS (fB n)).getD k 0) ∧ (qF (fB n)).getD k 0 < n ∧ (qS (fB n)).getD k 0 < n := fun k hk => by
  obtain ⟨a, b, -⟩ := q_eq (n := n) (f := fB n) (m := (n - 1) / 2) (by omega) hk
  obtain ⟨c, d, -⟩ := pq_ (n := n) vR (by omega) hk
  refine ⟨c, d, ?_, ?_⟩
  · rw [a]; show k + 1 < n; omega
  · rw [b]; show n - (k + 1) < n; omega
def fBk (n : Nat) (a : List Nat) (k : Nat) : Nat → Pr := fun i => (i + 1, n - (i + 1), if i < k then a.getD i 0 else 0)
theorem fBk_s (n : Nat) (a : List Nat) (k : Nat) : upF (fBk n a k) k ((fBk n a k k).1, (fBk n a k k).2.1, a.getD k 0) = fBk n a (k + 1) := funext fun i => by
  by_cases q : i = k
  · subst q; rw [upF_eq]; show (i + 1, n - (i + 1), a.getD i 0) = (i + 1, n - (i + 1), if i < i + 1 then a.getD i 0 else 0); rw [if_pos (Nat.lt_succ_self i)]
  · rw [upF_ne q]; show (i + 1, n - (i + 1), if i < k then a.getD i 0 else 0) = (i + 1, n - (i + 1), if i < k + 1 then a.getD i 0 else 0)
    by_cases w : i < k
    · rw [if_pos w, if_pos (by omega)]
    · rw [if_neg w, if_neg (by omega)]

set_option maxRecDepth 100000 in
set_option maxHeartbeats 4000000 in
theorem lp_mbk1 {h0 : List aC} {P : Option Value → List aC → Prop} {n a de : Nat} {fo as_ sm sk z : Int32} {am : Nat} {ib : Bool} {iN iM iT : Int32} (h3n : 3 ≤ n) (n3 : n ≤ 13) (K : ∀ R h', MO h' n ((n - 1) / 2) a de fo as_ sm sk z am ib iN iM iT → rd h' 99 = some (.inl R) → R.length = 18 → pR R 0 ((n - 1) / 2) (fB n) → Sm2 98 99 h0 h' → G mX9_book (rmD 13 0 0) none P 0 0 49 [(1, .int (nI ((n - 1) / 2 + 1))), (0, .ref 98)] [] h') : ∀ j k (h : List aC) (R : List Int32), k + j = (n - 1) / 2 → MO h n k a de fo as_ sm sk z am ib iN iM iT → rd h 99 = some (.inl R) → R.length = 18 → pR R 0 k (fB n) → Sm2 98 99 h0 h → G mX9_book (rmD 13 0 0) none P 0 0 23 [(1, .int (nI (k + 1))), (0, .ref 98)] [] h := by
  intro j
  induction j with
  | zero =>
    intro k h R hk hO hR lR vR hS
    have hO : rd h 98 = some (.inr (9, [.int (nI n), .int (nI k), .ref 99, .ref 100, .ref 101, .int (nI a), .ref 102, .int (nI de), .ref 103, .ref 104, .ref 105, .int fo, .int as_, .int sm, .int sk, .ref 106, .ref 107, .ref 108, .int z, .ref 109, .ref 110, .ref 111, .int (nI am), .ref 112, .ref 113, .ref 114, .ref 115, .ref 116, .int (nI (bI ib)), .int iN, .int iM, .int iT, .ref 117, .ref 118, .ref 119])) := hO
    refine g_iload_n dX9_book_23 0 rfl ?_
    refine g_aload_n dX9_book_24 1 rfl ?_
    refine g_callVp dX9_book_25 (ev_halfR (show MO h n k a de fo as_ sm sk z am ib iN iM iT from hO) h3n n3) oX9_half wiX9_half weX9_half wmX9_113 kX9 (hO) rfl ⟨(Nat.le_of_ble_eq_true rfl), (Nat.le_of_ble_eq_true rfl)⟩ ⟨Nat.zero_le _, Nat.zero_le _⟩ (Nat.le_of_ble_eq_true rfl) rfl ?_
    refine g_icmp_gtN 49 dX9_book_28 (by decide) (by omega) (by omega) (fun c28 => ?_) (fun z => absurd z (by omega))
    have ek : k = (n - 1) / 2 := by omega
    subst ek
    exact K _ _ hO hR lR vR hS
  | succ j ih =>
    intro k h R hk hO hR lR vR hS
    have hO : rd h 98 = some (.inr (9, [.int (nI n), .int (nI k), .ref 99, .ref 100, .ref 101, .int (nI a), .ref 102, .int (nI de), .ref 103, .ref 104, .ref 105, .int fo, .int as_, .int sm, .int sk, .ref 106, .ref 107, .ref 108, .int z, .ref 109, .ref 110, .ref 111, .int (nI am), .ref 112, .ref 113, .ref 114, .ref 115, .ref 116, .int (nI (bI ib)), .int iN, .int iM, .int iT, .ref 117, .ref 118, .ref 119])) := hO
    refine g_iload_n dX9_book_23 0 rfl ?_
    refine g_aload_n dX9_book_24 1 rfl ?_
    refine g_callVp dX9_book_25 (ev_halfR (show MO h n k a de fo as_ sm sk z am ib iN iM iT from hO) h3n n3) oX9_half wiX9_half weX9_half wmX9_113 kX9 (hO) rfl ⟨(Nat.le_of_ble_eq_true rfl), (Nat.le_of_ble_eq_true rfl)⟩ ⟨Nat.zero_le _, Nat.zero_le _⟩ (Nat.le_of_ble_eq_true rfl) rfl ?_
    refine g_icmp_gtN 49 dX9_book_28 (by decide) (by omega) (by omega) (fun z => absurd z (by omega)) (fun c28 => ?_)
    refine g_aload_n dX9_book_31 1 rfl ?_
    refine g_iload_n dX9_book_32 0 rfl ?_
    refine g_aload_n dX9_book_33 1 rfl ?_
    refine g_getf dX9_book_34 kX9 wfX9_7 (Nat.le_of_ble_eq_true rfl) (hO) rfl ?_
    refine g_iload_n dX9_book_37 0 rfl ?_
    refine g_isubN dX9_book_38 (by omega) ?_
    refine g_iconst (v := nI 0) dX9_book_39 (by decide +kernel) ?_
    refine g_callVq (st1 := []) dX9_book_40 (ev_comes (show MO h n k a de fo as_ sm sk z am ib iN iM iT from hO) lR hR (by omega) (nI (k + 1)) (nI (n - (k + 1))) (nI 0)) oX9_comes wiX9_comes weX9_comes wmX9_117 kX9 (hO) rfl ⟨(Nat.le_of_ble_eq_true rfl), (Nat.le_of_ble_eq_true rfl)⟩ ⟨Nat.zero_le _, Nat.zero_le _⟩ (Nat.le_of_ble_eq_true rfl) rfl rfl (fun h1 q1 => ?_)
    obtain ⟨q1o, q1p, q1s⟩ := q1
    refine g_iinc (q := 0) (v := nI (k + 1 + 1)) (ls' := [(1, .int (nI (k + 1 + 1))), (0, .ref 98)]) dX9_book_43 rfl (inc1 _) (Nat.le_of_ble_eq_true rfl) rfl ?_
    refine g_goto 23 dX9_book_46 (by decide) ?_
    exact ih (k + 1) _ _ (by omega) q1o q1p ((P3_len _ _ _ _ _).trans lR) (pR_row (g := fB n) vR lR (by omega) rfl rfl rfl) (hS.tr (show Sm2 98 99 h _ from (fun q hq => by rw [q1s q (by omega)])))

set_option maxRecDepth 100000 in
set_option maxHeartbeats 4000000 in
theorem lp_mbk2 {h0 : List aC} {P : Option Value → List aC → Prop} {n m a de : Nat} {as_ sm sk z : Int32} {am : Nat} {ib : Bool} {iN iM iT : Int32} {f1 : Nat} (hf1 : 0 < f1) (hf2 : f1 ≤ 2 ^ 30) (hm : m ≤ 6) {K1 : List Int32} (hK : rd h0 107 = some (.inl K1)) (lK : K1.length = 6) {ad : List Nat} (hk9 : ∀ j, j < m → K1.getD j 0 = nI (ad.getD j 0)) (K : ∀ R h', MO h' n m a de (nI f1) as_ sm sk z am ib iN iM iT → rd h' 99 = some (.inl R) → R.length = 18 → pR R 0 m (fBk n ad m) → Smo 99 100 h0 h' → G mX9_book (rmD 13 0 0) none P 0 0 98 [(1, .int (nI m)), (0, .ref 98)] [] h') : ∀ j k (h : List aC) (R : List Int32), k + j = m → MO h n m a de (nI f1) as_ sm sk z am ib iN iM iT → rd h 99 = some (.inl R) → R.length = 18 → pR R 0 m (fBk n ad k) → Smo 99 100 h0 h → G mX9_book (rmD 13 0 0) none P 0 0 61 [(1, .int (nI k)), (0, .ref 98)] [] h := by
  intro j
  induction j with
  | zero =>
    intro k h R hk hO hR lR vR hS
    have hO : rd h 98 = some (.inr (9, [.int (nI n), .int (nI m), .ref 99, .ref 100, .ref 101, .int (nI a), .ref 102, .int (nI de), .ref 103, .ref 104, .ref 105, .int (nI f1), .int as_, .int sm, .int sk, .ref 106, .ref 107, .ref 108, .int z, .ref 109, .ref 110, .ref 111, .int (nI am), .ref 112, .ref 113, .ref 114, .ref 115, .ref 116, .int (nI (bI ib)), .int iN, .int iM, .int iT, .ref 117, .ref 118, .ref 119])) := hO
    refine g_iload_n dX9_book_61 0 rfl ?_
    refine g_aload_n dX9_book_62 1 rfl ?_
    refine g_getf dX9_book_63 kX9 wfX9_87 (Nat.le_of_ble_eq_true rfl) (hO) rfl ?_
    refine g_icmp_geN 98 dX9_book_66 (by decide) (by omega) (by omega) (fun c66 => ?_) (fun z => absurd z (by omega))
    have ek : k = m := by omega
    subst ek
    exact K _ _ hO hR lR vR hS
  | succ j ih =>
    intro k h R hk hO hR lR vR hS
    have hO : rd h 98 = some (.inr (9, [.int (nI n), .int (nI m), .ref 99, .ref 100, .ref 101, .int (nI a), .ref 102, .int (nI de), .ref 103, .ref 104, .ref 105, .int (nI f1), .int as_, .int sm, .int sk, .ref 106, .ref 107, .ref 108, .int z, .ref 109, .ref 110, .ref 111, .int (nI am), .ref 112, .ref 113, .ref 114, .ref 115, .ref 116, .int (nI (bI ib)), .int iN, .int iM, .int iT, .ref 117, .ref 118, .ref 119])) := hO
    refine g_iload_n dX9_book_61 0 rfl ?_
    refine g_aload_n dX9_book_62 1 rfl ?_
    refine g_getf dX9_book_63 kX9 wfX9_87 (Nat.le_of_ble_eq_true rfl) (hO) rfl ?_
    refine g_icmp_geN 98 dX9_book_66 (by decide) (by omega) (by omega) (fun z => absurd z (by omega)) (fun c66 => ?_)
    refine g_aload_n dX9_book_69 1 rfl ?_
    refine g_getf dX9_book_70 kX9 wfX9_161 (Nat.le_of_ble_eq_true rfl) (hO) rfl ?_
    refine g_if_leN 98 dX9_book_73 (by decide) (by omega) (fun z => absurd z (by omega)) (fun c73 => ?_)
    refine g_aload_n dX9_book_76 1 rfl ?_
    refine g_getf dX9_book_77 kX9 wfX9_13 (Nat.le_of_ble_eq_true rfl) (hO) rfl ?_
    refine g_iconst (v := nI 3) dX9_book_80 (by decide +kernel) ?_
    refine g_iload_n dX9_book_81 0 rfl ?_
    refine g_imulN dX9_book_82 ?_
    refine g_iconst (v := nI 2) dX9_book_83 (by decide +kernel) ?_
    refine g_iaddN dX9_book_84 ?_
    refine g_aload_n dX9_book_85 1 rfl ?_
    refine g_getf dX9_book_86 kX9 wfX9_38 (Nat.le_of_ble_eq_true rfl) (hO) rfl ?_
    refine g_iload_n dX9_book_89 0 rfl ?_
    refine g_ialI dX9_book_90 ((show rd h 107 = some (.inl K1) by rw [hS 107 (by omega)]; exact hK)) (by omega) (by omega) ?_
    refine g_top (show (K1).getD k 0 = nI (ad.getD k 0) from hk9 k (by omega)) ?_
    refine g_iasI dX9_book_91 (hR) (by omega) (by omega) (fun h1 e1 => ?_)
    have f1_99 : rd h1 99 = some (.inl ((R).set ((3 * k) + 2) (nI (ad.getD k 0)))) := by rw [e1]; exact rd_wr_eq (hR)
    have lf1_99 : ((R).set ((3 * k) + 2) (nI (ad.getD k 0))).length = _ := List.length_set.trans lR
    have s1 : Smo 99 (99 + 1) h h1 := by rw [e1]; exact Smo.wr (by omega) (by omega)
    have f1_98 : rd h1 98 = some (.inr (9, [.int (nI n), .int (nI m), .ref 99, .ref 100, .ref 101, .int (nI a), .ref 102, .int (nI de), .ref 103, .ref 104, .ref 105, .int (nI f1), .int as_, .int sm, .int sk, .ref 106, .ref 107, .ref 108, .int z, .ref 109, .ref 110, .ref 111, .int (nI am), .ref 112, .ref 113, .ref 114, .ref 115, .ref 116, .int (nI (bI ib)), .int iN, .int iM, .int iT, .ref 117, .ref 118, .ref 119])) := by rw [s1 _ (by omega)]; exact hO
    have f1_107 : rd h1 107 = some (.inl (K1)) := by rw [s1 _ (by omega)]; exact (show rd h 107 = some (.inl K1) by rw [hS 107 (by omega)]; exact hK)
    refine g_iinc (q := 0) (v := nI (k + 1)) (ls' := [(1, .int (nI (k + 1))), (0, .ref 98)]) dX9_book_92 rfl (inc1 _) (Nat.le_of_ble_eq_true rfl) rfl ?_
    refine g_goto 61 dX9_book_95 (by decide) ?_
    exact ih (k + 1) _ _ (by omega) f1_98 f1_99 (lf1_99) (by rw [← fBk_s]; exact pR_setA vR (by omega) (by omega) _) (hS.tr (fun q hq => by rw [s1 q (by omega)]))

set_option maxRecDepth 100000 in
set_option maxHeartbeats 4000000 in
theorem ev_y_book {h : List aC} {σ : Sg} (H : RM h σ) (ok : okSg σ) : Ev mX9_book 13 0 0 [.ref 98] h (spM h (oBook σ)) := by
  obtain ⟨fo, as_, sm, sk, z, iN, iM, iT, P, Ro, U, rf, WM, WP, WR, Tr, Ke, Co, Th, Be, Le, AP, AR, AU, Sz, It, IP, IR, IU, mO, mP, mRo, mU, mrf, mWM, mWP, mWR, mTr, mKe, mCo, mTh, mBe, mLe, mAP, mAR, mAU, mSz, mIt, mIP, mIR, mIU, vP, vR, vU, vF, vH, vL, vS, vI, vG⟩ := id H
  have mO : rd h 98 = some (.inr (9, [.int (nI σ.1.1), .int (nI σ.1.2.1), .ref 99, .ref 100, .ref 101, .int (nI σ.1.2.2.2.1), .ref 102, .int (nI ((σ.2.2.2.1).length)), .ref 103, .ref 104, .ref 105, .int fo, .int as_, .int sm, .int sk, .ref 106, .ref 107, .ref 108, .int z, .ref 109, .ref 110, .ref 111, .int (nI σ.2.1.1), .ref 112, .ref 113, .ref 114, .ref 115, .ref 116, .int (nI (bI σ.2.2.2.2.1.isSome)), .int iN, .int iM, .int iT, .ref 117, .ref 118, .ref 119])) := mO
  obtain ⟨mP, lP⟩ := mP
  obtain ⟨mRo, lRo⟩ := mRo
  obtain ⟨mU, lU⟩ := mU
  obtain ⟨mrf, lrf⟩ := mrf
  obtain ⟨mWM, lWM⟩ := mWM
  obtain ⟨mWP, lWP⟩ := mWP
  obtain ⟨mWR, lWR⟩ := mWR
  obtain ⟨mTr, lTr⟩ := mTr
  obtain ⟨mKe, lKe⟩ := mKe
  obtain ⟨mCo, lCo⟩ := mCo
  obtain ⟨mTh, lTh⟩ := mTh
  obtain ⟨mBe, lBe⟩ := mBe
  obtain ⟨mLe, lLe⟩ := mLe
  obtain ⟨mAP, lAP⟩ := mAP
  obtain ⟨mAR, lAR⟩ := mAR
  obtain ⟨mAU, lAU⟩ := mAU
  obtain ⟨mSz, lSz⟩ := mSz
  obtain ⟨mIt, lIt⟩ := mIt
  obtain ⟨mIP, lIP⟩ := mIP
  obtain ⟨mIR, lIR⟩ := mIR
  obtain ⟨mIU, lIU⟩ := mIU
  obtain ⟨okc, ⟨okl, okw⟩, okn, ⟨okh, oke⟩, oki, okr⟩ := id ok
  obtain ⟨k1, k2, k3, k4, k5, k6, k7, k8, k9⟩ := id okc
  refine Ev.of pX9_book (Nat.le_of_ble_eq_true rfl) ?_
  show G mX9_book (rmD 13 0 0) none _ 0 0 0 [(0, .ref 98)] [] h
  refine g_aload_n dX9_book_0 0 rfl ?_
  refine g_getf dX9_book_1 kX9 wfX9_7 (Nat.le_of_ble_eq_true rfl) (mO) rfl ?_
  refine g_bipush (v := nI 11) dX9_book_4 (by decide +kernel) ?_
  refine g_icmp_leN 16 dX9_book_6 (by decide) (by omega) (by omega) (fun c6 => ?_) (fun c6 => ?_)
  · rw [show oBook σ = (nI ((σ.1.1 - 1) / 2), ((σ.1.1, (σ.1.1 - 1) / 2, bkA1 σ.1.1, σ.1.2.2.2), σ.2.1, σ.2.2.1, [], σ.2.2.2.2)) from if_pos (by omega)]
    refine g_aload_n dX9_book_16 0 rfl ?_
    refine g_iconst (v := nI 0) dX9_book_17 (by decide +kernel) ?_
    refine g_putv dX9_book_18 kX9 wfX9_87 (Nat.le_of_ble_eq_true rfl) rfl (fun _ _ => ⟨rfl, rfl⟩) (mO) (Nat.le_of_ble_eq_true rfl) (fs' := [.int (nI σ.1.1), .int (nI 0), .ref 99, .ref 100, .ref 101, .int (nI σ.1.2.2.2.1), .ref 102, .int (nI ((σ.2.2.2.1).length)), .ref 103, .ref 104, .ref 105, .int fo, .int as_, .int sm, .int sk, .ref 106, .ref 107, .ref 108, .int z, .ref 109, .ref 110, .ref 111, .int (nI σ.2.1.1), .ref 112, .ref 113, .ref 114, .ref 115, .ref 116, .int (nI (bI σ.2.2.2.2.1.isSome)), .int iN, .int iM, .int iT, .ref 117, .ref 118, .ref 119]) rfl (fun h1 e1 => ?_)
    have f1_98 : rd h1 98 = some (.inr (9, [.int (nI σ.1.1), .int (nI 0), .ref 99, .ref 100, .ref 101, .int (nI σ.1.2.2.2.1), .ref 102, .int (nI ((σ.2.2.2.1).length)), .ref 103, .ref 104, .ref 105, .int fo, .int as_, .int sm, .int sk, .ref 106, .ref 107, .ref 108, .int z, .ref 109, .ref 110, .ref 111, .int (nI σ.2.1.1), .ref 112, .ref 113, .ref 114, .ref 115, .ref 116, .int (nI (bI σ.2.2.2.2.1.isSome)), .int iN, .int iM, .int iT, .ref 117, .ref 118, .ref 119])) := by rw [e1]; exact rd_wr_eq (mO)
    have s1 : Smo 98 (98 + 1) h h1 := by rw [e1]; exact Smo.wr (by omega) (by omega)
    have f1_99 : rd h1 99 = some (.inl (P)) := by rw [s1 _ (by omega)]; exact mP
    have f1_100 : rd h1 100 = some (.inl (Ro)) := by rw [s1 _ (by omega)]; exact mRo
    have f1_101 : rd h1 101 = some (.inl (U)) := by rw [s1 _ (by omega)]; exact mU
    have f1_102 : rd h1 102 = some (.inl (rf)) := by rw [s1 _ (by omega)]; exact mrf
    have f1_103 : rd h1 103 = some (.inl (WM)) := by rw [s1 _ (by omega)]; exact mWM
    have f1_104 : rd h1 104 = some (.inl (WP)) := by rw [s1 _ (by omega)]; exact mWP
    have f1_105 : rd h1 105 = some (.inl (WR)) := by rw [s1 _ (by omega)]; exact mWR
    have f1_106 : rd h1 106 = some (.inl (Tr)) := by rw [s1 _ (by omega)]; exact mTr
    have f1_107 : rd h1 107 = some (.inl (Ke)) := by rw [s1 _ (by omega)]; exact mKe
    have f1_108 : rd h1 108 = some (.inl (Co)) := by rw [s1 _ (by omega)]; exact mCo
    have f1_109 : rd h1 109 = some (.inl (Th)) := by rw [s1 _ (by omega)]; exact mTh
    have f1_110 : rd h1 110 = some (.inl (Be)) := by rw [s1 _ (by omega)]; exact mBe
    have f1_111 : rd h1 111 = some (.inl (Le)) := by rw [s1 _ (by omega)]; exact mLe
    have f1_112 : rd h1 112 = some (.inl (AP)) := by rw [s1 _ (by omega)]; exact mAP
    have f1_113 : rd h1 113 = some (.inl (AR)) := by rw [s1 _ (by omega)]; exact mAR
    have f1_114 : rd h1 114 = some (.inl (AU)) := by rw [s1 _ (by omega)]; exact mAU
    have f1_115 : rd h1 115 = some (.inl (Sz)) := by rw [s1 _ (by omega)]; exact mSz
    have f1_116 : rd h1 116 = some (.inl (It)) := by rw [s1 _ (by omega)]; exact mIt
    have f1_117 : rd h1 117 = some (.inl (IP)) := by rw [s1 _ (by omega)]; exact mIP
    have f1_118 : rd h1 118 = some (.inl (IR)) := by rw [s1 _ (by omega)]; exact mIR
    have f1_119 : rd h1 119 = some (.inl (IU)) := by rw [s1 _ (by omega)]; exact mIU
    refine g_iconst (v := nI 1) dX9_book_21 (by decide +kernel) ?_
    refine g_top (show nI 1 = nI (0 + 1) from rfl) ?_
    refine g_istore_n (ls' := [(1, .int (nI (0 + 1))), (0, .ref 98)]) dX9_book_22 (Nat.le_of_ble_eq_true rfl) rfl ?_
    refine lp_mbk1 k1 k2 (fun Rq hq oq yq lq vq sq => ?_) ((σ.1.1 - 1) / 2) 0 _ _ (by omega) (show MO h1 _ _ _ _ _ _ _ _ _ _ _ _ _ _ from f1_98) f1_99 lP (fun j hj => absurd hj (Nat.not_lt_zero j)) (fun _ _ => rfl)
    have f99_100 : rd hq 100 = some (.inl (Ro)) := by rw [sq _ (by omega)]; exact f1_100
    have f99_101 : rd hq 101 = some (.inl (U)) := by rw [sq _ (by omega)]; exact f1_101
    have f99_102 : rd hq 102 = some (.inl (rf)) := by rw [sq _ (by omega)]; exact f1_102
    have f99_103 : rd hq 103 = some (.inl (WM)) := by rw [sq _ (by omega)]; exact f1_103
    have f99_104 : rd hq 104 = some (.inl (WP)) := by rw [sq _ (by omega)]; exact f1_104
    have f99_105 : rd hq 105 = some (.inl (WR)) := by rw [sq _ (by omega)]; exact f1_105
    have f99_106 : rd hq 106 = some (.inl (Tr)) := by rw [sq _ (by omega)]; exact f1_106
    have f99_107 : rd hq 107 = some (.inl (Ke)) := by rw [sq _ (by omega)]; exact f1_107
    have f99_108 : rd hq 108 = some (.inl (Co)) := by rw [sq _ (by omega)]; exact f1_108
    have f99_109 : rd hq 109 = some (.inl (Th)) := by rw [sq _ (by omega)]; exact f1_109
    have f99_110 : rd hq 110 = some (.inl (Be)) := by rw [sq _ (by omega)]; exact f1_110
    have f99_111 : rd hq 111 = some (.inl (Le)) := by rw [sq _ (by omega)]; exact f1_111
    have f99_112 : rd hq 112 = some (.inl (AP)) := by rw [sq _ (by omega)]; exact f1_112
    have f99_113 : rd hq 113 = some (.inl (AR)) := by rw [sq _ (by omega)]; exact f1_113
    have f99_114 : rd hq 114 = some (.inl (AU)) := by rw [sq _ (by omega)]; exact f1_114
    have f99_115 : rd hq 115 = some (.inl (Sz)) := by rw [sq _ (by omega)]; exact f1_115
    have f99_116 : rd hq 116 = some (.inl (It)) := by rw [sq _ (by omega)]; exact f1_116
    have f99_117 : rd hq 117 = some (.inl (IP)) := by rw [sq _ (by omega)]; exact f1_117
    have f99_118 : rd hq 118 = some (.inl (IR)) := by rw [sq _ (by omega)]; exact f1_118
    have f99_119 : rd hq 119 = some (.inl (IU)) := by rw [sq _ (by omega)]; exact f1_119
    have oq : rd hq 98 = some (.inr (9, [.int (nI σ.1.1), .int (nI ((σ.1.1 - 1) / 2)), .ref 99, .ref 100, .ref 101, .int (nI σ.1.2.2.2.1), .ref 102, .int (nI ((σ.2.2.2.1).length)), .ref 103, .ref 104, .ref 105, .int fo, .int as_, .int sm, .int sk, .ref 106, .ref 107, .ref 108, .int z, .ref 109, .ref 110, .ref 111, .int (nI σ.2.1.1), .ref 112, .ref 113, .ref 114, .ref 115, .ref 116, .int (nI (bI σ.2.2.2.2.1.isSome)), .int iN, .int iM, .int iT, .ref 117, .ref 118, .ref 119])) := oq
    refine g_aload_n dX9_book_49 1 rfl ?_
    refine g_iconst (v := nI 0) dX9_book_50 (by decide +kernel) ?_
    refine g_putv dX9_book_51 kX9 wfX9_80 (Nat.le_of_ble_eq_true rfl) rfl (fun _ _ => ⟨rfl, rfl⟩) (oq) (Nat.le_of_ble_eq_true rfl) (fs' := [.int (nI σ.1.1), .int (nI ((σ.1.1 - 1) / 2)), .ref 99, .ref 100, .ref 101, .int (nI σ.1.2.2.2.1), .ref 102, .int (nI 0), .ref 103, .ref 104, .ref 105, .int fo, .int as_, .int sm, .int sk, .ref 106, .ref 107, .ref 108, .int z, .ref 109, .ref 110, .ref 111, .int (nI σ.2.1.1), .ref 112, .ref 113, .ref 114, .ref 115, .ref 116, .int (nI (bI σ.2.2.2.2.1.isSome)), .int iN, .int iM, .int iT, .ref 117, .ref 118, .ref 119]) rfl (fun h2 e2 => ?_)
    have f2_98 : rd h2 98 = some (.inr (9, [.int (nI σ.1.1), .int (nI ((σ.1.1 - 1) / 2)), .ref 99, .ref 100, .ref 101, .int (nI σ.1.2.2.2.1), .ref 102, .int (nI 0), .ref 103, .ref 104, .ref 105, .int fo, .int as_, .int sm, .int sk, .ref 106, .ref 107, .ref 108, .int z, .ref 109, .ref 110, .ref 111, .int (nI σ.2.1.1), .ref 112, .ref 113, .ref 114, .ref 115, .ref 116, .int (nI (bI σ.2.2.2.2.1.isSome)), .int iN, .int iM, .int iT, .ref 117, .ref 118, .ref 119])) := by rw [e2]; exact rd_wr_eq (oq)
    have s2 : Smo 98 (98 + 1) hq h2 := by rw [e2]; exact Smo.wr (by omega) (by omega)
    have f2_100 : rd h2 100 = some (.inl (Ro)) := by rw [s2 _ (by omega)]; exact f99_100
    have f2_101 : rd h2 101 = some (.inl (U)) := by rw [s2 _ (by omega)]; exact f99_101
    have f2_102 : rd h2 102 = some (.inl (rf)) := by rw [s2 _ (by omega)]; exact f99_102
    have f2_103 : rd h2 103 = some (.inl (WM)) := by rw [s2 _ (by omega)]; exact f99_103
    have f2_104 : rd h2 104 = some (.inl (WP)) := by rw [s2 _ (by omega)]; exact f99_104
    have f2_105 : rd h2 105 = some (.inl (WR)) := by rw [s2 _ (by omega)]; exact f99_105
    have f2_106 : rd h2 106 = some (.inl (Tr)) := by rw [s2 _ (by omega)]; exact f99_106
    have f2_107 : rd h2 107 = some (.inl (Ke)) := by rw [s2 _ (by omega)]; exact f99_107
    have f2_108 : rd h2 108 = some (.inl (Co)) := by rw [s2 _ (by omega)]; exact f99_108
    have f2_109 : rd h2 109 = some (.inl (Th)) := by rw [s2 _ (by omega)]; exact f99_109
    have f2_110 : rd h2 110 = some (.inl (Be)) := by rw [s2 _ (by omega)]; exact f99_110
    have f2_111 : rd h2 111 = some (.inl (Le)) := by rw [s2 _ (by omega)]; exact f99_111
    have f2_112 : rd h2 112 = some (.inl (AP)) := by rw [s2 _ (by omega)]; exact f99_112
    have f2_113 : rd h2 113 = some (.inl (AR)) := by rw [s2 _ (by omega)]; exact f99_113
    have f2_114 : rd h2 114 = some (.inl (AU)) := by rw [s2 _ (by omega)]; exact f99_114
    have f2_115 : rd h2 115 = some (.inl (Sz)) := by rw [s2 _ (by omega)]; exact f99_115
    have f2_116 : rd h2 116 = some (.inl (It)) := by rw [s2 _ (by omega)]; exact f99_116
    have f2_117 : rd h2 117 = some (.inl (IP)) := by rw [s2 _ (by omega)]; exact f99_117
    have f2_118 : rd h2 118 = some (.inl (IR)) := by rw [s2 _ (by omega)]; exact f99_118
    have f2_119 : rd h2 119 = some (.inl (IU)) := by rw [s2 _ (by omega)]; exact f99_119
    have f2_99 : rd h2 99 = some (.inl (Rq)) := by rw [s2 _ (by omega)]; exact yq
    refine g_aload_n dX9_book_54 1 rfl ?_
    refine g_iconst (v := nI 0) dX9_book_55 (by decide +kernel) ?_
    refine g_callVq (st1 := []) dX9_book_56 (ev_findsA (show MO h2 _ _ _ _ _ _ _ _ _ _ _ _ _ _ from f2_98) (by omega) (by omega) (by omega) (by omega) f2_106 lTr f2_107 lKe f2_99 lq (F := qF (fB σ.1.1)) (S := qS (fB σ.1.1)) (bk_vF k1 k2 vq) (nI 0)) oX9_findsAdders wiX9_findsAdders weX9_findsAdders wmX9_182 kX9 (f2_98) rfl ⟨(Nat.le_of_ble_eq_true rfl), (Nat.le_of_ble_eq_true rfl)⟩ ⟨Nat.zero_le _, Nat.zero_le _⟩ (Nat.le_of_ble_eq_true rfl) rfl rfl (fun h3 q3 => ?_)
    obtain ⟨Tz, Kz, oz, tz, ltz, yz, lyz, kpz, sz⟩ := q3
    have f3_100 : rd h3 100 = some (.inl (Ro)) := by rw [sz _ (by omega)]; exact f2_100
    have f3_101 : rd h3 101 = some (.inl (U)) := by rw [sz _ (by omega)]; exact f2_101
    have f3_102 : rd h3 102 = some (.inl (rf)) := by rw [sz _ (by omega)]; exact f2_102
    have f3_103 : rd h3 103 = some (.inl (WM)) := by rw [sz _ (by omega)]; exact f2_103
    have f3_104 : rd h3 104 = some (.inl (WP)) := by rw [sz _ (by omega)]; exact f2_104
    have f3_105 : rd h3 105 = some (.inl (WR)) := by rw [sz _ (by omega)]; exact f2_105
    have f3_108 : rd h3 108 = some (.inl (Co)) := by rw [sz _ (by omega)]; exact f2_108
    have f3_109 : rd h3 109 = some (.inl (Th)) := by rw [sz _ (by omega)]; exact f2_109
    have f3_110 : rd h3 110 = some (.inl (Be)) := by rw [sz _ (by omega)]; exact f2_110
    have f3_111 : rd h3 111 = some (.inl (Le)) := by rw [sz _ (by omega)]; exact f2_111
    have f3_112 : rd h3 112 = some (.inl (AP)) := by rw [sz _ (by omega)]; exact f2_112
    have f3_113 : rd h3 113 = some (.inl (AR)) := by rw [sz _ (by omega)]; exact f2_113
    have f3_114 : rd h3 114 = some (.inl (AU)) := by rw [sz _ (by omega)]; exact f2_114
    have f3_115 : rd h3 115 = some (.inl (Sz)) := by rw [sz _ (by omega)]; exact f2_115
    have f3_116 : rd h3 116 = some (.inl (It)) := by rw [sz _ (by omega)]; exact f2_116
    have f3_117 : rd h3 117 = some (.inl (IP)) := by rw [sz _ (by omega)]; exact f2_117
    have f3_118 : rd h3 118 = some (.inl (IR)) := by rw [sz _ (by omega)]; exact f2_118
    have f3_119 : rd h3 119 = some (.inl (IU)) := by rw [sz _ (by omega)]; exact f2_119
    have f3_99 : rd h3 99 = some (.inl (Rq)) := by rw [sz _ (by omega)]; exact f2_99
    have oz : rd h3 98 = some (.inr (9, [.int (nI σ.1.1), .int (nI ((σ.1.1 - 1) / 2)), .ref 99, .ref 100, .ref 101, .int (nI σ.1.2.2.2.1), .ref 102, .int (nI 0), .ref 103, .ref 104, .ref 105, .int (nI ((EA σ.1.1 (qF (fB σ.1.1)) (qS (fB σ.1.1)) ((σ.1.1 - 1) / 2) []).length)), .int (nI 0), .int sm, .int sk, .ref 106, .ref 107, .ref 108, .int z, .ref 109, .ref 110, .ref 111, .int (nI σ.2.1.1), .ref 112, .ref 113, .ref 114, .ref 115, .ref 116, .int (nI (bI σ.2.2.2.2.1.isSome)), .int iN, .int iM, .int iT, .ref 117, .ref 118, .ref 119])) := oz
    refine g_iconst (v := nI 0) dX9_book_59 (by decide +kernel) ?_
    refine g_istore_n (ls' := [(1, .int (nI 0)), (0, .ref 98)]) dX9_book_60 (Nat.le_of_ble_eq_true rfl) rfl ?_
    have sl := EA_small (n := σ.1.1) (d := (σ.1.1 - 1) / 2) (F := qF (fB σ.1.1)) (S := qS (fB σ.1.1)) (by omega) (by omega) []
    cases eE : EA σ.1.1 (qF (fB σ.1.1)) (qS (fB σ.1.1)) ((σ.1.1 - 1) / 2) [] with
    | nil =>
      rw [eE] at oz kpz sl
      have oz : rd h3 98 = some (.inr (9, [.int (nI σ.1.1), .int (nI ((σ.1.1 - 1) / 2)), .ref 99, .ref 100, .ref 101, .int (nI σ.1.2.2.2.1), .ref 102, .int (nI 0), .ref 103, .ref 104, .ref 105, .int (nI 0), .int (nI 0), .int sm, .int sk, .ref 106, .ref 107, .ref 108, .int z, .ref 109, .ref 110, .ref 111, .int (nI σ.2.1.1), .ref 112, .ref 113, .ref 114, .ref 115, .ref 116, .int (nI (bI σ.2.2.2.2.1.isSome)), .int iN, .int iM, .int iT, .ref 117, .ref 118, .ref 119])) := oz
      refine g_iload_n dX9_book_61 0 rfl ?_
      refine g_aload_n dX9_book_62 1 rfl ?_
      refine g_getf dX9_book_63 kX9 wfX9_87 (Nat.le_of_ble_eq_true rfl) (oz) rfl ?_
      refine g_icmp_geN 98 dX9_book_66 (by decide) (by omega) (by omega) (fun z => absurd z (by omega)) (fun c66 => ?_)
      refine g_aload_n dX9_book_69 1 rfl ?_
      refine g_getf dX9_book_70 kX9 wfX9_161 (Nat.le_of_ble_eq_true rfl) (oz) rfl ?_
      refine g_if_leN 98 dX9_book_73 (by decide) (by omega) (fun c73 => ?_) (fun z => absurd z (by omega))
      refine g_aload_n dX9_book_98 1 rfl ?_
      refine g_getf dX9_book_99 kX9 wfX9_87 (Nat.le_of_ble_eq_true rfl) (oz) rfl ?_
      exact g_iret dX9_book_102 rfl ⟨Nat.zero_le _, Nat.zero_le _⟩ (⟨rfl, ⟨_, _, _, _, _, _, _, _, _, _, _, _, _, _, _, _, _, _, _, _, _, _, _, _, _, _, _, _, _, oz, ⟨f3_99, lq⟩, ⟨f3_100, lRo⟩, ⟨f3_101, lU⟩, ⟨f3_102, lrf⟩, ⟨f3_103, lWM⟩, ⟨f3_104, lWP⟩, ⟨f3_105, lWR⟩, ⟨tz, ltz⟩, ⟨yz, lyz⟩, ⟨f3_108, lCo⟩, ⟨f3_109, lTh⟩, ⟨f3_110, lBe⟩, ⟨f3_111, lLe⟩, ⟨f3_112, lAP⟩, ⟨f3_113, lAR⟩, ⟨f3_114, lAU⟩, ⟨f3_115, lSz⟩, ⟨f3_116, lIt⟩, ⟨f3_117, lIP⟩, ⟨f3_118, lIR⟩, ⟨f3_119, lIU⟩, (by show pR Rq 0 ((σ.1.1 - 1) / 2) (bkA1 σ.1.1); rw [bkA1_e0 eE]; exact vq), vR, vU, vF, (fun j hj => absurd hj (Nat.not_lt_zero j)), vL, vS, vI, vG⟩, (fun q hq => by rw [sz q (by omega), s2 q (by omega), sq q (by omega), s1 q (by omega)])⟩)
    | cons a t =>
      rw [eE] at oz kpz sl
      have oz : rd h3 98 = some (.inr (9, [.int (nI σ.1.1), .int (nI ((σ.1.1 - 1) / 2)), .ref 99, .ref 100, .ref 101, .int (nI σ.1.2.2.2.1), .ref 102, .int (nI 0), .ref 103, .ref 104, .ref 105, .int (nI ((a :: t).length)), .int (nI 0), .int sm, .int sk, .ref 106, .ref 107, .ref 108, .int z, .ref 109, .ref 110, .ref 111, .int (nI σ.2.1.1), .ref 112, .ref 113, .ref 114, .ref 115, .ref 116, .int (nI (bI σ.2.2.2.2.1.isSome)), .int iN, .int iM, .int iT, .ref 117, .ref 118, .ref 119])) := oz
      refine lp_mbk2 (f1 := (a :: t).length) (Nat.succ_pos _) (by omega) (by omega) yz lyz (ad := a) (fun j hj => kpz 0 rfl (Nat.succ_pos _) j hj) (fun Rr hr or_ yr lr vr sr => ?_) ((σ.1.1 - 1) / 2) 0 _ _ (by omega) oz f3_99 lq vq Smo.rf
      have f98_100 : rd hr 100 = some (.inl (Ro)) := by rw [sr _ (by omega)]; exact f3_100
      have f98_101 : rd hr 101 = some (.inl (U)) := by rw [sr _ (by omega)]; exact f3_101
      have f98_102 : rd hr 102 = some (.inl (rf)) := by rw [sr _ (by omega)]; exact f3_102
      have f98_103 : rd hr 103 = some (.inl (WM)) := by rw [sr _ (by omega)]; exact f3_103
      have f98_104 : rd hr 104 = some (.inl (WP)) := by rw [sr _ (by omega)]; exact f3_104
      have f98_105 : rd hr 105 = some (.inl (WR)) := by rw [sr _ (by omega)]; exact f3_105
      have f98_108 : rd hr 108 = some (.inl (Co)) := by rw [sr _ (by omega)]; exact f3_108
      have f98_109 : rd hr 109 = some (.inl (Th)) := by rw [sr _ (by omega)]; exact f3_109
      have f98_110 : rd hr 110 = some (.inl (Be)) := by rw [sr _ (by omega)]; exact f3_110
      have f98_111 : rd hr 111 = some (.inl (Le)) := by rw [sr _ (by omega)]; exact f3_111
      have f98_112 : rd hr 112 = some (.inl (AP)) := by rw [sr _ (by omega)]; exact f3_112
      have f98_113 : rd hr 113 = some (.inl (AR)) := by rw [sr _ (by omega)]; exact f3_113
      have f98_114 : rd hr 114 = some (.inl (AU)) := by rw [sr _ (by omega)]; exact f3_114
      have f98_115 : rd hr 115 = some (.inl (Sz)) := by rw [sr _ (by omega)]; exact f3_115
      have f98_116 : rd hr 116 = some (.inl (It)) := by rw [sr _ (by omega)]; exact f3_116
      have f98_117 : rd hr 117 = some (.inl (IP)) := by rw [sr _ (by omega)]; exact f3_117
      have f98_118 : rd hr 118 = some (.inl (IR)) := by rw [sr _ (by omega)]; exact f3_118
      have f98_119 : rd hr 119 = some (.inl (IU)) := by rw [sr _ (by omega)]; exact f3_119
      have f98_106 : rd hr 106 = some (.inl (Tz)) := by rw [sr _ (by omega)]; exact tz
      have f98_107 : rd hr 107 = some (.inl (Kz)) := by rw [sr _ (by omega)]; exact yz
      have or_ : rd hr 98 = some (.inr (9, [.int (nI σ.1.1), .int (nI ((σ.1.1 - 1) / 2)), .ref 99, .ref 100, .ref 101, .int (nI σ.1.2.2.2.1), .ref 102, .int (nI 0), .ref 103, .ref 104, .ref 105, .int (nI ((a :: t).length)), .int (nI 0), .int sm, .int sk, .ref 106, .ref 107, .ref 108, .int z, .ref 109, .ref 110, .ref 111, .int (nI σ.2.1.1), .ref 112, .ref 113, .ref 114, .ref 115, .ref 116, .int (nI (bI σ.2.2.2.2.1.isSome)), .int iN, .int iM, .int iT, .ref 117, .ref 118, .ref 119])) := or_
      refine g_aload_n dX9_book_98 1 rfl ?_
      refine g_getf dX9_book_99 kX9 wfX9_87 (Nat.le_of_ble_eq_true rfl) (or_) rfl ?_
      exact g_iret dX9_book_102 rfl ⟨Nat.zero_le _, Nat.zero_le _⟩ (⟨rfl, ⟨_, _, _, _, _, _, _, _, _, _, _, _, _, _, _, _, _, _, _, _, _, _, _, _, _, _, _, _, _, or_, ⟨yr, lr⟩, ⟨f98_100, lRo⟩, ⟨f98_101, lU⟩, ⟨f98_102, lrf⟩, ⟨f98_103, lWM⟩, ⟨f98_104, lWP⟩, ⟨f98_105, lWR⟩, ⟨f98_106, ltz⟩, ⟨f98_107, lyz⟩, ⟨f98_108, lCo⟩, ⟨f98_109, lTh⟩, ⟨f98_110, lBe⟩, ⟨f98_111, lLe⟩, ⟨f98_112, lAP⟩, ⟨f98_113, lAR⟩, ⟨f98_114, lAU⟩, ⟨f98_115, lSz⟩, ⟨f98_116, lIt⟩, ⟨f98_117, lIP⟩, ⟨f98_118, lIR⟩, ⟨f98_119, lIU⟩, (by show pR Rr 0 ((σ.1.1 - 1) / 2) (bkA1 σ.1.1); rw [bkA1_e1 eE]; exact fun i hi => by have z := vr i hi; rw [show fBk σ.1.1 a ((σ.1.1 - 1) / 2) i = (i + 1, σ.1.1 - (i + 1), a.getD i 0) from congrArg (fun z => (i + 1, σ.1.1 - (i + 1), z)) (if_pos hi)] at z; exact z), vR, vU, vF, (fun j hj => absurd hj (Nat.not_lt_zero j)), vL, vS, vI, vG⟩, (fun q hq => by rw [sr q (by omega), sz q (by omega), s2 q (by omega), sq q (by omega), s1 q (by omega)])⟩)
  · refine g_aload_n dX9_book_9 0 rfl ?_
    refine g_bipush (v := (-6)) dX9_book_10 (by decide +kernel) ?_
    rw [show oBook σ = rfS σ (-6) from if_neg (by omega)]
    refine g_callVq (st1 := [.int (-nI 6)]) dX9_book_12 (ev_refused H ok 6 (by unfold noN; omega)) oX9_refused wiX9_refused weX9_refused wmX9_90 kX9 (mO) rfl ⟨(Nat.le_of_ble_eq_true rfl), (Nat.le_of_ble_eq_true rfl)⟩ ⟨Nat.zero_le _, Nat.zero_le _⟩ (Nat.le_of_ble_eq_true rfl) rfl rfl (fun h4 q4 => ?_)
    exact g_iret dX9_book_15 rfl ⟨Nat.zero_le _, Nat.zero_le _⟩ (⟨rfl, q4⟩)
