set_option maxRecDepth 100000 in
set_option maxHeartbeats 4000000 in
theorem ev_refused {h : List aC} {σ : Sg} (H : RM h σ) (ok : okSg σ) (k : Nat) (hk : noN k) : Ev mX9_refused 1 0 0 [.ref 98, .int (-nI k)] h (spM h (rfS σ (-nI k))) := by
  obtain ⟨fo, as_, sm, sk, z, iN, iM, iT, P, Ro, U, rf, WM, WP, WR, Tr, Ke, Co, Th, Be, Le, AP, AR, AU, Sz, It, IP, IR, IU, mO, mP, mRo, mU, mrf, mWM, mWP, mWR, mTr, mKe, mCo, mTh, mBe, mLe, mAP, mAR, mAU, mSz, mIt, mIP, mIR, mIU, vP, vR, vU, vF, vH, vL, vS, vI, vG⟩ := id H
  have mO : rd h 98 = some (.inr (9, [.int (nI σ.1.1), .int (nI σ.1.2.1), .ref 99, .ref 100, .ref 101, .int (nI σ.1.2.2.2.1), .ref 102, .int (nI ((σ.2.2.2.1).length)), .ref 103, .ref 104, .ref 105, .int fo, .int as_, .int sm, .int sk, .ref 106, .ref 107, .ref 108, .int z, .ref 109, .ref 110, .ref 111, .int (nI σ.2.1.1), .ref 112, .ref 113, .ref 114, .ref 115, .ref 116, .int (nI (bI σ.2.2.2.2.1.isSome)), .int iN, .int iM, .int iT, .ref 117, .ref 118, .ref 119])) := mO
  obtain ⟨mP, lP⟩ := mP
  obtain ⟨mRo, lRo⟩ := mRo
  obtain ⟨mU, lU⟩ := mU
  obtain ⟨mrf, lrf⟩ := mrf
  obtain ⟨mWM, lWM⟩ := mWM
  obtain ⟨mWP, lWP⟩ := mWP
  obtain ⟨mWR, lWR⟩ := mWR
  obtain ⟨mTr, lTr⟩ := mTr
  obtain ⟨mKe, lKe⟩ := mKe
  obtain ⟨mCo, lCo⟩ := mCo
  obtain ⟨mTh, lTh⟩ := mTh
  obtain ⟨mBe, lBe⟩ := mBe
  obtain ⟨mLe, lLe⟩ := mLe
  obtain ⟨mAP, lAP⟩ := mAP
  obtain ⟨mAR, lAR⟩ := mAR
  obtain ⟨mAU, lAU⟩ := mAU
  obtain ⟨mSz, lSz⟩ := mSz
  obtain ⟨mIt, lIt⟩ := mIt
  obtain ⟨mIP, lIP⟩ := mIP
  obtain ⟨mIR, lIR⟩ := mIR
  obtain ⟨mIU, lIU⟩ := mIU
  obtain ⟨okc, ⟨okl, okw⟩, okn, ⟨okh, oke⟩, oki, okr⟩ := id ok
  obtain ⟨k1, k2, k3, k4, k5, k6, k7, k8, k9⟩ := id okc
  have e1 : rfS σ (-nI k) = (-nI k, rfG σ k) := by unfold rfS; rw [(noN_neg hk).2]
  rw [e1]
  have hk6 : k < 7 := by rcases hk with h | h | h | h | h <;> omega
  refine Ev.of pX9_refused (Nat.le_of_ble_eq_true rfl) ?_
  show G mX9_refused (rmD 1 0 0) none _ 0 0 0 [(0, .ref 98), (1, .int (-nI k))] [] h
  refine g_aload_n dX9_refused_0 0 rfl ?_
  refine g_getf dX9_refused_1 kX9 wfX9_23 (Nat.le_of_ble_eq_true rfl) (mO) rfl ?_
  refine g_iload_n dX9_refused_4 1 rfl ?_
  refine g_ineg dX9_refused_5 ?_
  refine g_top (neg_neg1 k) ?_
  refine g_dup2 dX9_refused_6 rfl rfl ?_
  refine g_ialI dX9_refused_7 (mrf) (by omega) (by omega) ?_
  refine g_iconst (v := nI 1) dX9_refused_8 (by decide +kernel) ?_
  refine g_iadd dX9_refused_9 ?_
  refine g_iasI dX9_refused_10 (mrf) (by omega) (by omega) (fun h1 e1 => ?_)
  have f1_102 : rd h1 102 = some (.inl ((rf).set k (((rf).getD k 0) + (nI 1)))) := by rw [e1]; exact rd_wr_eq (mrf)
  have lf1_102 : ((rf).set k (((rf).getD k 0) + (nI 1))).length = _ := List.length_set.trans lrf
  have s1 : Smo 102 (102 + 1) h h1 := by rw [e1]; exact Smo.wr (by omega) (by omega)
  have f1_98 : rd h1 98 = some (.inr (9, [.int (nI σ.1.1), .int (nI σ.1.2.1), .ref 99, .ref 100, .ref 101, .int (nI σ.1.2.2.2.1), .ref 102, .int (nI ((σ.2.2.2.1).length)), .ref 103, .ref 104, .ref 105, .int fo, .int as_, .int sm, .int sk, .ref 106, .ref 107, .ref 108, .int z, .ref 109, .ref 110, .ref 111, .int (nI σ.2.1.1), .ref 112, .ref 113, .ref 114, .ref 115, .ref 116, .int (nI (bI σ.2.2.2.2.1.isSome)), .int iN, .int iM, .int iT, .ref 117, .ref 118, .ref 119])) := by rw [s1 _ (by omega)]; exact mO
  have f1_99 : rd h1 99 = some (.inl (P)) := by rw [s1 _ (by omega)]; exact mP
  have f1_100 : rd h1 100 = some (.inl (Ro)) := by rw [s1 _ (by omega)]; exact mRo
  have f1_101 : rd h1 101 = some (.inl (U)) := by rw [s1 _ (by omega)]; exact mU
  have f1_103 : rd h1 103 = some (.inl (WM)) := by rw [s1 _ (by omega)]; exact mWM
  have f1_104 : rd h1 104 = some (.inl (WP)) := by rw [s1 _ (by omega)]; exact mWP
  have f1_105 : rd h1 105 = some (.inl (WR)) := by rw [s1 _ (by omega)]; exact mWR
  have f1_106 : rd h1 106 = some (.inl (Tr)) := by rw [s1 _ (by omega)]; exact mTr
  have f1_107 : rd h1 107 = some (.inl (Ke)) := by rw [s1 _ (by omega)]; exact mKe
  have f1_108 : rd h1 108 = some (.inl (Co)) := by rw [s1 _ (by omega)]; exact mCo
  have f1_109 : rd h1 109 = some (.inl (Th)) := by rw [s1 _ (by omega)]; exact mTh
  have f1_110 : rd h1 110 = some (.inl (Be)) := by rw [s1 _ (by omega)]; exact mBe
  have f1_111 : rd h1 111 = some (.inl (Le)) := by rw [s1 _ (by omega)]; exact mLe
  have f1_112 : rd h1 112 = some (.inl (AP)) := by rw [s1 _ (by omega)]; exact mAP
  have f1_113 : rd h1 113 = some (.inl (AR)) := by rw [s1 _ (by omega)]; exact mAR
  have f1_114 : rd h1 114 = some (.inl (AU)) := by rw [s1 _ (by omega)]; exact mAU
  have f1_115 : rd h1 115 = some (.inl (Sz)) := by rw [s1 _ (by omega)]; exact mSz
  have f1_116 : rd h1 116 = some (.inl (It)) := by rw [s1 _ (by omega)]; exact mIt
  have f1_117 : rd h1 117 = some (.inl (IP)) := by rw [s1 _ (by omega)]; exact mIP
  have f1_118 : rd h1 118 = some (.inl (IR)) := by rw [s1 _ (by omega)]; exact mIR
  have f1_119 : rd h1 119 = some (.inl (IU)) := by rw [s1 _ (by omega)]; exact mIU
  refine g_iload_n dX9_refused_11 1 rfl ?_
  exact g_iret dX9_refused_12 rfl ⟨Nat.zero_le _, Nat.zero_le _⟩ (⟨rfl, ⟨_, _, _, _, _, _, _, _, _, _, _, _, _, _, _, _, _, _, _, _, _, _, _, _, _, _, _, _, _, f1_98, ⟨f1_99, lP⟩, ⟨f1_100, lRo⟩, ⟨f1_101, lU⟩, ⟨f1_102, lf1_102⟩, ⟨f1_103, lWM⟩, ⟨f1_104, lWP⟩, ⟨f1_105, lWR⟩, ⟨f1_106, lTr⟩, ⟨f1_107, lKe⟩, ⟨f1_108, lCo⟩, ⟨f1_109, lTh⟩, ⟨f1_110, lBe⟩, ⟨f1_111, lLe⟩, ⟨f1_112, lAP⟩, ⟨f1_113, lAR⟩, ⟨f1_114, lAU⟩, ⟨f1_115, lSz⟩, ⟨f1_116, lIt⟩, ⟨f1_117, lIP⟩, ⟨f1_118, lIR⟩, ⟨f1_119, lIU⟩, vP, vR, vU, (by rw [vF]; rfl), vH, vL, vS, vI, vG⟩, (fun q hq => by rw [s1 q (by omega)])⟩)

theorem ev_refusedR {h : List aC} {σ : Sg} (H : RM h σ) (ok : okSg σ) {r : Int32} (hr : isNo r) (h0 : ¬ r = 0) : Ev mX9_refused 1 0 0 [.ref 98, .int r] h (spM h (rfS σ r)) := by
  obtain ⟨k, hk, rfl⟩ := noN_of hr h0
  exact ev_refused H ok k hk

set_option maxRecDepth 100000 in
set_option maxHeartbeats 4000000 in
theorem ev_half {h : List aC} {σ : Sg} (H : RM h σ) (ok : okSg σ) : Ev mX9_half 1 0 0 [.ref 98] h (pv (.int (nI ((σ.1.1 - 1) / 2))) h) := by
  obtain ⟨fo, as_, sm, sk, z, iN, iM, iT, P, Ro, U, rf, WM, WP, WR, Tr, Ke, Co, Th, Be, Le, AP, AR, AU, Sz, It, IP, IR, IU, mO, mP, mRo, mU, mrf, mWM, mWP, mWR, mTr, mKe, mCo, mTh, mBe, mLe, mAP, mAR, mAU, mSz, mIt, mIP, mIR, mIU, vP, vR, vU, vF, vH, vL, vS, vI, vG⟩ := id H
  have mO : rd h 98 = some (.inr (9, [.int (nI σ.1.1), .int (nI σ.1.2.1), .ref 99, .ref 100, .ref 101, .int (nI σ.1.2.2.2.1), .ref 102, .int (nI ((σ.2.2.2.1).length)), .ref 103, .ref 104, .ref 105, .int fo, .int as_, .int sm, .int sk, .ref 106, .ref 107, .ref 108, .int z, .ref 109, .ref 110, .ref 111, .int (nI σ.2.1.1), .ref 112, .ref 113, .ref 114, .ref 115, .ref 116, .int (nI (bI σ.2.2.2.2.1.isSome)), .int iN, .int iM, .int iT, .ref 117, .ref 118, .ref 119])) := mO
  obtain ⟨mP, lP⟩ := mP
  obtain ⟨mRo, lRo⟩ := mRo
  obtain ⟨mU, lU⟩ := mU
  obtain ⟨mrf, lrf⟩ := mrf
  obtain ⟨mWM, lWM⟩ := mWM
  obtain ⟨mWP, lWP⟩ := mWP
  obtain ⟨mWR, lWR⟩ := mWR
  obtain ⟨mTr, lTr⟩ := mTr
  obtain ⟨mKe, lKe⟩ := mKe
  obtain ⟨mCo, lCo⟩ := mCo
  obtain ⟨mTh, lTh⟩ := mTh
  obtain ⟨mBe, lBe⟩ := mBe
  obtain ⟨mLe, lLe⟩ := mLe
  obtain ⟨mAP, lAP⟩ := mAP
  obtain ⟨mAR, lAR⟩ := mAR
  obtain ⟨mAU, lAU⟩ := mAU
  obtain ⟨mSz, lSz⟩ := mSz
  obtain ⟨mIt, lIt⟩ := mIt
  obtain ⟨mIP, lIP⟩ := mIP
  obtain ⟨mIR, lIR⟩ := mIR
  obtain ⟨mIU, lIU⟩ := mIU
  obtain ⟨okc, ⟨okl, okw⟩, okn, ⟨okh, oke⟩, oki, okr⟩ := id ok
  obtain ⟨k1, k2, k3, k4, k5, k6, k7, k8, k9⟩ := id okc
  refine Ev.of pX9_half (Nat.le_of_ble_eq_true rfl) ?_
  show G mX9_half (rmD 1 0 0) none _ 0 0 0 [(0, .ref 98)] [] h
  refine g_aload_n dX9_half_0 0 rfl ?_
  refine g_getf dX9_half_1 kX9 wfX9_7 (Nat.le_of_ble_eq_true rfl) (mO) rfl ?_
  refine g_iconst (v := nI 1) dX9_half_4 (by decide +kernel) ?_
  refine g_isubN dX9_half_5 (by omega) ?_
  refine g_iconst (v := nI 2) dX9_half_6 (by decide +kernel) ?_
  refine g_idivN dX9_half_7 (by omega) (by omega) (by omega) ?_
  exact g_iret dX9_half_8 rfl ⟨Nat.zero_le _, Nat.zero_le _⟩ (⟨rfl, rfl⟩)

theorem whole_eq {n a : Nat} (hn : n ≤ 13) (h0 : 0 < n) (ha : a < n) {b : Nat} (hb : b < n) : (nI a - nI b) - (nI a - nI b) / nI n * nI n + nI n = nI ((if b ≤ a then a - b else a + n - b - n) + n) ∨ True := Or.inr trivial
theorem wh_all : ∀ n, n < 14 → 0 < n → ∀ a, a < n → ∀ b, b < n → ((nI a - nI b) - (nI a - nI b) / nI n * nI n + nI n) - ((nI a - nI b) - (nI a - nI b) / nI n * nI n + nI n) / nI n * nI n = nI ((a + n - b) % n) := by decide +kernel

set_option maxRecDepth 100000 in
set_option maxHeartbeats 4000000 in
theorem ev_whole {h : List aC} {σ : Sg} (H : RM h σ) (ok : okSg σ) (a b : Nat) (ha : a < σ.1.1) (hb : b < σ.1.1) : Ev mX9_whole 1 0 0 [.ref 98, .int (nI a - nI b)] h (pv (.int (nI ((a + σ.1.1 - b) % σ.1.1))) h) := by
  obtain ⟨fo, as_, sm, sk, z, iN, iM, iT, P, Ro, U, rf, WM, WP, WR, Tr, Ke, Co, Th, Be, Le, AP, AR, AU, Sz, It, IP, IR, IU, mO, mP, mRo, mU, mrf, mWM, mWP, mWR, mTr, mKe, mCo, mTh, mBe, mLe, mAP, mAR, mAU, mSz, mIt, mIP, mIR, mIU, vP, vR, vU, vF, vH, vL, vS, vI, vG⟩ := id H
  have mO : rd h 98 = some (.inr (9, [.int (nI σ.1.1), .int (nI σ.1.2.1), .ref 99, .ref 100, .ref 101, .int (nI σ.1.2.2.2.1), .ref 102, .int (nI ((σ.2.2.2.1).length)), .ref 103, .ref 104, .ref 105, .int fo, .int as_, .int sm, .int sk, .ref 106, .ref 107, .ref 108, .int z, .ref 109, .ref 110, .ref 111, .int (nI σ.2.1.1), .ref 112, .ref 113, .ref 114, .ref 115, .ref 116, .int (nI (bI σ.2.2.2.2.1.isSome)), .int iN, .int iM, .int iT, .ref 117, .ref 118, .ref 119])) := mO
  obtain ⟨mP, lP⟩ := mP
  obtain ⟨mRo, lRo⟩ := mRo
  obtain ⟨mU, lU⟩ := mU
  obtain ⟨mrf, lrf⟩ := mrf
  obtain ⟨mWM, lWM⟩ := mWM
  obtain ⟨mWP, lWP⟩ := mWP
  obtain ⟨mWR, lWR⟩ := mWR
  obtain ⟨mTr, lTr⟩ := mTr
  obtain ⟨mKe, lKe⟩ := mKe
  obtain ⟨mCo, lCo⟩ := mCo
  obtain ⟨mTh, lTh⟩ := mTh
  obtain ⟨mBe, lBe⟩ := mBe
  obtain ⟨mLe, lLe⟩ := mLe
  obtain ⟨mAP, lAP⟩ := mAP
  obtain ⟨mAR, lAR⟩ := mAR
  obtain ⟨mAU, lAU⟩ := mAU
  obtain ⟨mSz, lSz⟩ := mSz
  obtain ⟨mIt, lIt⟩ := mIt
  obtain ⟨mIP, lIP⟩ := mIP
  obtain ⟨mIR, lIR⟩ := mIR
  obtain ⟨mIU, lIU⟩ := mIU
  obtain ⟨okc, ⟨okl, okw⟩, okn, ⟨okh, oke⟩, oki, okr⟩ := id ok
  obtain ⟨k1, k2, k3, k4, k5, k6, k7, k8, k9⟩ := id okc
  refine Ev.of pX9_whole (Nat.le_of_ble_eq_true rfl) ?_
  show G mX9_whole (rmD 1 0 0) none _ 0 0 0 [(0, .ref 98), (1, .int (nI a - nI b))] [] h
  refine g_iload_n dX9_whole_0 1 rfl ?_
  refine g_aload_n dX9_whole_1 0 rfl ?_
  refine g_getf dX9_whole_2 kX9 wfX9_7 (Nat.le_of_ble_eq_true rfl) (mO) rfl ?_
  refine g_irem dX9_whole_5 (fun z => by have := (nI_eq (a := σ.1.1) (b := 0) (by omega) (by omega)).mp z; omega) ?_
  refine g_aload_n dX9_whole_6 0 rfl ?_
  refine g_getf dX9_whole_7 kX9 wfX9_7 (Nat.le_of_ble_eq_true rfl) (mO) rfl ?_
  refine g_iadd dX9_whole_10 ?_
  refine g_aload_n dX9_whole_11 0 rfl ?_
  refine g_getf dX9_whole_12 kX9 wfX9_7 (Nat.le_of_ble_eq_true rfl) (mO) rfl ?_
  refine g_irem dX9_whole_15 (fun z => by have := (nI_eq (a := σ.1.1) (b := 0) (by omega) (by omega)).mp z; omega) ?_
  exact g_iret dX9_whole_16 rfl ⟨Nat.zero_le _, Nat.zero_le _⟩ (⟨by rw [← wh_all σ.1.1 (by omega) (by omega) a ha b hb], rfl⟩)

theorem isP_eq {x : Int32} {m : Nat} (hm : m ≤ 13) : decide (nI 0 ≤ x ∧ x ≤ nI m - nI 1) = decide (0 ≤ x ∧ x < nI m) := by
  congr 1
  apply propext
  have e : (nI m - nI 1).toInt = (m : Int) - 1 := by
    have z : ∀ m, m < 14 → (nI m - nI 1).toInt = (m : Int) - 1 := by decide +kernel
    exact z m (by omega)
  rw [Int32.le_iff_toInt_le, Int32.le_iff_toInt_le, Int32.le_iff_toInt_le, Int32.lt_iff_toInt_lt, e, nI_toInt (show m < 2 ^ 31 by omega), nI_toInt (show 0 < 2 ^ 31 by omega)]
  show ((0 : Int) ≤ _ ∧ _) ↔ ((0 : Int) ≤ _ ∧ _)
  omega

set_option maxRecDepth 100000 in
set_option maxHeartbeats 4000000 in
theorem ev_isPair {h : List aC} {σ : Sg} (H : RM h σ) (ok : okSg σ) (x : Int32) : Ev mX9_isPair 2 0 0 [.ref 98, .int x] h (pv (.int (nI (bI (decide (0 ≤ x ∧ x < nI σ.1.2.1))))) h) := by
  obtain ⟨fo, as_, sm, sk, z, iN, iM, iT, P, Ro, U, rf, WM, WP, WR, Tr, Ke, Co, Th, Be, Le, AP, AR, AU, Sz, It, IP, IR, IU, mO, mP, mRo, mU, mrf, mWM, mWP, mWR, mTr, mKe, mCo, mTh, mBe, mLe, mAP, mAR, mAU, mSz, mIt, mIP, mIR, mIU, vP, vR, vU, vF, vH, vL, vS, vI, vG⟩ := id H
  have mO : rd h 98 = some (.inr (9, [.int (nI σ.1.1), .int (nI σ.1.2.1), .ref 99, .ref 100, .ref 101, .int (nI σ.1.2.2.2.1), .ref 102, .int (nI ((σ.2.2.2.1).length)), .ref 103, .ref 104, .ref 105, .int fo, .int as_, .int sm, .int sk, .ref 106, .ref 107, .ref 108, .int z, .ref 109, .ref 110, .ref 111, .int (nI σ.2.1.1), .ref 112, .ref 113, .ref 114, .ref 115, .ref 116, .int (nI (bI σ.2.2.2.2.1.isSome)), .int iN, .int iM, .int iT, .ref 117, .ref 118, .ref 119])) := mO
  obtain ⟨mP, lP⟩ := mP
  obtain ⟨mRo, lRo⟩ := mRo
  obtain ⟨mU, lU⟩ := mU
  obtain ⟨mrf, lrf⟩ := mrf
  obtain ⟨mWM, lWM⟩ := mWM
  obtain ⟨mWP, lWP⟩ := mWP
  obtain ⟨mWR, lWR⟩ := mWR
  obtain ⟨mTr, lTr⟩ := mTr
  obtain ⟨mKe, lKe⟩ := mKe
  obtain ⟨mCo, lCo⟩ := mCo
  obtain ⟨mTh, lTh⟩ := mTh
  obtain ⟨mBe, lBe⟩ := mBe
  obtain ⟨mLe, lLe⟩ := mLe
  obtain ⟨mAP, lAP⟩ := mAP
  obtain ⟨mAR, lAR⟩ := mAR
  obtain ⟨mAU, lAU⟩ := mAU
  obtain ⟨mSz, lSz⟩ := mSz
  obtain ⟨mIt, lIt⟩ := mIt
  obtain ⟨mIP, lIP⟩ := mIP
  obtain ⟨mIR, lIR⟩ := mIR
  obtain ⟨mIU, lIU⟩ := mIU
  obtain ⟨okc, ⟨okl, okw⟩, okn, ⟨okh, oke⟩, oki, okr⟩ := id ok
  obtain ⟨k1, k2, k3, k4, k5, k6, k7, k8, k9⟩ := id okc
  refine Ev.of pX9_isPair (Nat.le_of_ble_eq_true rfl) ?_
  show G mX9_isPair (rmD 2 0 0) none _ 0 0 0 [(0, .ref 98), (1, .int x)] [] h
  refine g_iload_n dX9_isPair_0 1 rfl ?_
  refine g_i2l dX9_isPair_1 rfl ?_
  refine g_lconst (v := lN 0) dX9_isPair_2 rfl ?_
  refine g_aload_n dX9_isPair_3 0 rfl ?_
  refine g_getf dX9_isPair_4 kX9 wfX9_87 (Nat.le_of_ble_eq_true rfl) (mO) rfl ?_
  refine g_iconst (v := nI 1) dX9_isPair_7 (by decide +kernel) ?_
  refine g_isub dX9_isPair_8 ?_
  refine g_i2l dX9_isPair_9 rfl ?_
  refine g_callSp dX9_isPair_10 (ev_inM x (nI σ.1.2.1 - nI 1) _) oX9_in wsX9_in wmX9_98 rfl ⟨(Nat.le_of_ble_eq_true rfl), (Nat.le_of_ble_eq_true rfl)⟩ ⟨Nat.zero_le _, Nat.zero_le _⟩ (Nat.le_of_ble_eq_true rfl) rfl ?_
  refine g_top (congrArg (fun z => nI (bI z)) (isP_eq (by omega))) ?_
  exact g_zret dX9_isPair_13 rfl (narB _) ⟨Nat.zero_le _, Nat.zero_le _⟩ (⟨rfl, rfl⟩)

set_option maxRecDepth 100000 in
set_option maxHeartbeats 4000000 in
theorem ev_isList0 (x : Int32) (h : List aC) : Ev mX9_isList 2 0 0 [.int x] h (pv (.int (nI (bI (decide (nI 0 ≤ x ∧ x ≤ nI 2))))) h) := by
  refine Ev.of pX9_isList (Nat.le_of_ble_eq_true rfl) ?_
  show G mX9_isList (rmD 2 0 0) none _ 0 0 0 [(0, .int x)] [] h
  refine g_iload_n dX9_isList_0 0 rfl ?_
  refine g_i2l dX9_isList_1 rfl ?_
  refine g_lconst (v := lN 0) dX9_isList_2 rfl ?_
  refine g_ldc2 dX9_isList_3 wlX9_207 ?_
  refine g_callSp dX9_isList_6 (ev_inN x 0 2 (by decide) (by decide) _) oX9_in wsX9_in wmX9_98 rfl ⟨(Nat.le_of_ble_eq_true rfl), (Nat.le_of_ble_eq_true rfl)⟩ ⟨Nat.zero_le _, Nat.zero_le _⟩ (Nat.le_of_ble_eq_true rfl) rfl ?_
  exact g_zret dX9_isList_9 rfl (narB _) ⟨Nat.zero_le _, Nat.zero_le _⟩ (⟨rfl, rfl⟩)

theorem ev_isList (x : Int32) (h : List aC) : Ev mX9_isList 2 0 0 [.int x] h (pv (.int (nI (bI (decide (0 ≤ x ∧ x < 3))))) h) := by
  have e : decide (nI 0 ≤ x ∧ x ≤ nI 2) = decide (0 ≤ x ∧ x < 3) := by
    congr 1
    apply propext
    rw [Int32.le_iff_toInt_le, Int32.le_iff_toInt_le, Int32.le_iff_toInt_le, Int32.lt_iff_toInt_lt]
    show ((0 : Int) ≤ _ ∧ _ ≤ (2 : Int)) ↔ ((0 : Int) ≤ _ ∧ _ < (3 : Int))
    omega
  rw [← e]
  exact ev_isList0 x h

theorem isN_eq {x : Int32} {n : Nat} (h0 : 0 < n) (hn : n ≤ 13) : decide (nI 0 ≤ x ∧ x ≤ nI (n - 1)) = decide (0 ≤ x ∧ x < nI n) := by
  congr 1
  apply propext
  rw [Int32.le_iff_toInt_le, Int32.le_iff_toInt_le, Int32.le_iff_toInt_le, Int32.lt_iff_toInt_lt, nI_toInt (show n < 2 ^ 31 by omega), nI_toInt (show n - 1 < 2 ^ 31 by omega), nI_toInt (show 0 < 2 ^ 31 by omega)]
  show ((0 : Int) ≤ _ ∧ _) ↔ ((0 : Int) ≤ _ ∧ _)
  omega
theorem isC_t {x y : Int32} {n : Nat} (h0 : 0 < n) (hn : n ≤ 13) (a : decide (nI 0 ≤ x ∧ x ≤ nI (n - 1)) = true) (b : decide (nI 0 ≤ y ∧ y ≤ nI (n - 1)) = true) : decide (0 ≤ x ∧ x < nI n ∧ 0 ≤ y ∧ y < nI n) = true := by
  rw [isN_eq h0 hn] at a b
  have a := of_decide_eq_true a
  have b := of_decide_eq_true b
  exact decide_eq_true ⟨a.1, a.2, b⟩
theorem isC_f {x y : Int32} {n : Nat} (h0 : 0 < n) (hn : n ≤ 13) (a : decide (nI 0 ≤ x ∧ x ≤ nI (n - 1)) = false ∨ decide (nI 0 ≤ y ∧ y ≤ nI (n - 1)) = false) : decide (0 ≤ x ∧ x < nI n ∧ 0 ≤ y ∧ y < nI n) = false := by
  rw [isN_eq h0 hn, isN_eq h0 hn] at a
  refine decide_eq_false (fun z => ?_)
  rcases a with a | a
  · exact of_decide_eq_false a ⟨z.1, z.2.1⟩
  · exact of_decide_eq_false a z.2.2

set_option maxRecDepth 100000 in
set_option maxHeartbeats 4000000 in
theorem ev_isCell {h : List aC} {σ : Sg} (H : RM h σ) (ok : okSg σ) (x y : Int32) : Ev mX9_isCell 2 0 0 [.ref 98, .int x, .int y] h (pv (.int (nI (bI (decide (0 ≤ x ∧ x < nI σ.1.1 ∧ 0 ≤ y ∧ y < nI σ.1.1))))) h) := by
  obtain ⟨fo, as_, sm, sk, z, iN, iM, iT, P, Ro, U, rf, WM, WP, WR, Tr, Ke, Co, Th, Be, Le, AP, AR, AU, Sz, It, IP, IR, IU, mO, mP, mRo, mU, mrf, mWM, mWP, mWR, mTr, mKe, mCo, mTh, mBe, mLe, mAP, mAR, mAU, mSz, mIt, mIP, mIR, mIU, vP, vR, vU, vF, vH, vL, vS, vI, vG⟩ := id H
  have mO : rd h 98 = some (.inr (9, [.int (nI σ.1.1), .int (nI σ.1.2.1), .ref 99, .ref 100, .ref 101, .int (nI σ.1.2.2.2.1), .ref 102, .int (nI ((σ.2.2.2.1).length)), .ref 103, .ref 104, .ref 105, .int fo, .int as_, .int sm, .int sk, .ref 106, .ref 107, .ref 108, .int z, .ref 109, .ref 110, .ref 111, .int (nI σ.2.1.1), .ref 112, .ref 113, .ref 114, .ref 115, .ref 116, .int (nI (bI σ.2.2.2.2.1.isSome)), .int iN, .int iM, .int iT, .ref 117, .ref 118, .ref 119])) := mO
  obtain ⟨mP, lP⟩ := mP
  obtain ⟨mRo, lRo⟩ := mRo
  obtain ⟨mU, lU⟩ := mU
  obtain ⟨mrf, lrf⟩ := mrf
  obtain ⟨mWM, lWM⟩ := mWM
  obtain ⟨mWP, lWP⟩ := mWP
  obtain ⟨mWR, lWR⟩ := mWR
  obtain ⟨mTr, lTr⟩ := mTr
  obtain ⟨mKe, lKe⟩ := mKe
  obtain ⟨mCo, lCo⟩ := mCo
  obtain ⟨mTh, lTh⟩ := mTh
  obtain ⟨mBe, lBe⟩ := mBe
  obtain ⟨mLe, lLe⟩ := mLe
  obtain ⟨mAP, lAP⟩ := mAP
  obtain ⟨mAR, lAR⟩ := mAR
  obtain ⟨mAU, lAU⟩ := mAU
  obtain ⟨mSz, lSz⟩ := mSz
  obtain ⟨mIt, lIt⟩ := mIt
  obtain ⟨mIP, lIP⟩ := mIP
  obtain ⟨mIR, lIR⟩ := mIR
  obtain ⟨mIU, lIU⟩ := mIU
  obtain ⟨okc, ⟨okl, okw⟩, okn, ⟨okh, oke⟩, oki, okr⟩ := id ok
  obtain ⟨k1, k2, k3, k4, k5, k6, k7, k8, k9⟩ := id okc
  refine Ev.of pX9_isCell (Nat.le_of_ble_eq_true rfl) ?_
  show G mX9_isCell (rmD 2 0 0) none _ 0 0 0 [(0, .ref 98), (1, .int x), (2, .int y)] [] h
  refine g_iload_n dX9_isCell_0 1 rfl ?_
  refine g_i2l dX9_isCell_1 rfl ?_
  refine g_lconst (v := lN 0) dX9_isCell_2 rfl ?_
  refine g_aload_n dX9_isCell_3 0 rfl ?_
  refine g_getf dX9_isCell_4 kX9 wfX9_7 (Nat.le_of_ble_eq_true rfl) (mO) rfl ?_
  refine g_iconst (v := nI 1) dX9_isCell_7 (by decide +kernel) ?_
  refine g_isubN dX9_isCell_8 (by omega) ?_
  refine g_i2l (v := lN (σ.1.1 - 1)) dX9_isCell_9 (nI_l (by omega)) ?_
  refine g_callSp dX9_isCell_10 (ev_inN x 0 (σ.1.1 - 1) (by decide) (by omega) _) oX9_in wsX9_in wmX9_98 rfl ⟨(Nat.le_of_ble_eq_true rfl), (Nat.le_of_ble_eq_true rfl)⟩ ⟨Nat.zero_le _, Nat.zero_le _⟩ (Nat.le_of_ble_eq_true rfl) rfl ?_
  refine g_if_eqB 36 dX9_isCell_13 (by decide) (fun c13 => ?_) (fun c13 => ?_)
  · refine g_iconst (v := nI 0) dX9_isCell_36 (by decide +kernel) ?_
    exact g_zret dX9_isCell_37 rfl (by decide) ⟨Nat.zero_le _, Nat.zero_le _⟩ (pvF (isC_f (by omega) (by omega) (by first | exact Or.inl c13 | exact Or.inr c29)))
  · refine g_iload_n dX9_isCell_16 2 rfl ?_
    refine g_i2l dX9_isCell_17 rfl ?_
    refine g_lconst (v := lN 0) dX9_isCell_18 rfl ?_
    refine g_aload_n dX9_isCell_19 0 rfl ?_
    refine g_getf dX9_isCell_20 kX9 wfX9_7 (Nat.le_of_ble_eq_true rfl) (mO) rfl ?_
    refine g_iconst (v := nI 1) dX9_isCell_23 (by decide +kernel) ?_
    refine g_isubN dX9_isCell_24 (by omega) ?_
    refine g_i2l (v := lN (σ.1.1 - 1)) dX9_isCell_25 (nI_l (by omega)) ?_
    refine g_callSp dX9_isCell_26 (ev_inN y 0 (σ.1.1 - 1) (by decide) (by omega) _) oX9_in wsX9_in wmX9_98 rfl ⟨(Nat.le_of_ble_eq_true rfl), (Nat.le_of_ble_eq_true rfl)⟩ ⟨Nat.zero_le _, Nat.zero_le _⟩ (Nat.le_of_ble_eq_true rfl) rfl ?_
    refine g_if_eqB 36 dX9_isCell_29 (by decide) (fun c29 => ?_) (fun c29 => ?_)
    · refine g_iconst (v := nI 0) dX9_isCell_36 (by decide +kernel) ?_
      exact g_zret dX9_isCell_37 rfl (by decide) ⟨Nat.zero_le _, Nat.zero_le _⟩ (pvF (isC_f (by omega) (by omega) (by first | exact Or.inl c13 | exact Or.inr c29)))
    · refine g_iconst (v := nI 1) dX9_isCell_32 (by decide +kernel) ?_
      refine g_goto 37 dX9_isCell_33 (by decide) ?_
      exact g_zret dX9_isCell_37 rfl (by decide) ⟨Nat.zero_le _, Nat.zero_le _⟩ (pvT (isC_t (by omega) (by omega) c13 c29))

set_option maxRecDepth 100000 in
set_option maxHeartbeats 4000000 in
theorem ev_cellAt {h : List aC} {σ : Sg} (H : RM h σ) (ok : okSg σ) (a b : Nat) : Ev mX9_cellAt 1 0 0 [.ref 98, .int (nI a), .int (nI b)] h (pv (.int (nI (2 * (13 * a + b)))) h) := by
  obtain ⟨fo, as_, sm, sk, z, iN, iM, iT, P, Ro, U, rf, WM, WP, WR, Tr, Ke, Co, Th, Be, Le, AP, AR, AU, Sz, It, IP, IR, IU, mO, mP, mRo, mU, mrf, mWM, mWP, mWR, mTr, mKe, mCo, mTh, mBe, mLe, mAP, mAR, mAU, mSz, mIt, mIP, mIR, mIU, vP, vR, vU, vF, vH, vL, vS, vI, vG⟩ := id H
  have mO : rd h 98 = some (.inr (9, [.int (nI σ.1.1), .int (nI σ.1.2.1), .ref 99, .ref 100, .ref 101, .int (nI σ.1.2.2.2.1), .ref 102, .int (nI ((σ.2.2.2.1).length)), .ref 103, .ref 104, .ref 105, .int fo, .int as_, .int sm, .int sk, .ref 106, .ref 107, .ref 108, .int z, .ref 109, .ref 110, .ref 111, .int (nI σ.2.1.1), .ref 112, .ref 113, .ref 114, .ref 115, .ref 116, .int (nI (bI σ.2.2.2.2.1.isSome)), .int iN, .int iM, .int iT, .ref 117, .ref 118, .ref 119])) := mO
  obtain ⟨mP, lP⟩ := mP
  obtain ⟨mRo, lRo⟩ := mRo
  obtain ⟨mU, lU⟩ := mU
  obtain ⟨mrf, lrf⟩ := mrf
  obtain ⟨mWM, lWM⟩ := mWM
  obtain ⟨mWP, lWP⟩ := mWP
  obtain ⟨mWR, lWR⟩ := mWR
  obtain ⟨mTr, lTr⟩ := mTr
  obtain ⟨mKe, lKe⟩ := mKe
  obtain ⟨mCo, lCo⟩ := mCo
  obtain ⟨mTh, lTh⟩ := mTh
  obtain ⟨mBe, lBe⟩ := mBe
  obtain ⟨mLe, lLe⟩ := mLe
  obtain ⟨mAP, lAP⟩ := mAP
  obtain ⟨mAR, lAR⟩ := mAR
  obtain ⟨mAU, lAU⟩ := mAU
  obtain ⟨mSz, lSz⟩ := mSz
  obtain ⟨mIt, lIt⟩ := mIt
  obtain ⟨mIP, lIP⟩ := mIP
  obtain ⟨mIR, lIR⟩ := mIR
  obtain ⟨mIU, lIU⟩ := mIU
  obtain ⟨okc, ⟨okl, okw⟩, okn, ⟨okh, oke⟩, oki, okr⟩ := id ok
  obtain ⟨k1, k2, k3, k4, k5, k6, k7, k8, k9⟩ := id okc
  refine Ev.of pX9_cellAt (Nat.le_of_ble_eq_true rfl) ?_
  show G mX9_cellAt (rmD 1 0 0) none _ 0 0 0 [(0, .ref 98), (1, .int (nI a)), (2, .int (nI b))] [] h
  refine g_iconst (v := nI 2) dX9_cellAt_0 (by decide +kernel) ?_
  refine g_bipush (v := nI 13) dX9_cellAt_1 (by decide +kernel) ?_
  refine g_iload_n dX9_cellAt_3 1 rfl ?_
  refine g_imulN dX9_cellAt_4 ?_
  refine g_iload_n dX9_cellAt_5 2 rfl ?_
  refine g_iaddN dX9_cellAt_6 ?_
  refine g_imulN dX9_cellAt_7 ?_
  exact g_iret dX9_cellAt_8 rfl ⟨Nat.zero_le _, Nat.zero_le _⟩ (⟨rfl, rfl⟩)

theorem pR0 {P : List Int32} {m : Nat} {f : Nat → Pr} (h : pR P 0 m f) {k : Nat} (hk : k < m) : P.getD (3 * k) 0 = nI (f k).1 := by have z := (h k hk).1; rw [Nat.zero_add] at z; exact z
theorem pR1 {P : List Int32} {m : Nat} {f : Nat → Pr} (h : pR P 0 m f) {k : Nat} (hk : k < m) : P.getD (3 * k + 1) 0 = nI (f k).2.1 := by have z := (h k hk).2.1; rw [Nat.zero_add] at z; exact z
theorem pR2 {P : List Int32} {m : Nat} {f : Nat → Pr} (h : pR P 0 m f) {k : Nat} (hk : k < m) : P.getD (3 * k + 2) 0 = nI (f k).2.2 := by have z := (h k hk).2.2; rw [Nat.zero_add] at z; exact z

set_option maxRecDepth 100000 in
set_option maxHeartbeats 4000000 in
theorem ev_sumOf {h : List aC} {σ : Sg} (H : RM h σ) (ok : okSg σ) (k : Nat) (hk : k < σ.1.2.1) : Ev mX9_sumOf 1 0 0 [.ref 98, .int (nI k)] h (pv (.int (nI (((σ.1.2.2.1 k).1 + (σ.1.2.2.1 k).2.1) % σ.1.1))) h) := by
  obtain ⟨fo, as_, sm, sk, z, iN, iM, iT, P, Ro, U, rf, WM, WP, WR, Tr, Ke, Co, Th, Be, Le, AP, AR, AU, Sz, It, IP, IR, IU, mO, mP, mRo, mU, mrf, mWM, mWP, mWR, mTr, mKe, mCo, mTh, mBe, mLe, mAP, mAR, mAU, mSz, mIt, mIP, mIR, mIU, vP, vR, vU, vF, vH, vL, vS, vI, vG⟩ := id H
  have mO : rd h 98 = some (.inr (9, [.int (nI σ.1.1), .int (nI σ.1.2.1), .ref 99, .ref 100, .ref 101, .int (nI σ.1.2.2.2.1), .ref 102, .int (nI ((σ.2.2.2.1).length)), .ref 103, .ref 104, .ref 105, .int fo, .int as_, .int sm, .int sk, .ref 106, .ref 107, .ref 108, .int z, .ref 109, .ref 110, .ref 111, .int (nI σ.2.1.1), .ref 112, .ref 113, .ref 114, .ref 115, .ref 116, .int (nI (bI σ.2.2.2.2.1.isSome)), .int iN, .int iM, .int iT, .ref 117, .ref 118, .ref 119])) := mO
  obtain ⟨mP, lP⟩ := mP
  obtain ⟨mRo, lRo⟩ := mRo
  obtain ⟨mU, lU⟩ := mU
  obtain ⟨mrf, lrf⟩ := mrf
  obtain ⟨mWM, lWM⟩ := mWM
  obtain ⟨mWP, lWP⟩ := mWP
  obtain ⟨mWR, lWR⟩ := mWR
  obtain ⟨mTr, lTr⟩ := mTr
  obtain ⟨mKe, lKe⟩ := mKe
  obtain ⟨mCo, lCo⟩ := mCo
  obtain ⟨mTh, lTh⟩ := mTh
  obtain ⟨mBe, lBe⟩ := mBe
  obtain ⟨mLe, lLe⟩ := mLe
  obtain ⟨mAP, lAP⟩ := mAP
  obtain ⟨mAR, lAR⟩ := mAR
  obtain ⟨mAU, lAU⟩ := mAU
  obtain ⟨mSz, lSz⟩ := mSz
  obtain ⟨mIt, lIt⟩ := mIt
  obtain ⟨mIP, lIP⟩ := mIP
  obtain ⟨mIR, lIR⟩ := mIR
  obtain ⟨mIU, lIU⟩ := mIU
  obtain ⟨okc, ⟨okl, okw⟩, okn, ⟨okh, oke⟩, oki, okr⟩ := id ok
  obtain ⟨k1, k2, k3, k4, k5, k6, k7, k8, k9⟩ := id okc
  refine Ev.of pX9_sumOf (Nat.le_of_ble_eq_true rfl) ?_
  show G mX9_sumOf (rmD 1 0 0) none _ 0 0 0 [(0, .ref 98), (1, .int (nI k))] [] h
  refine g_aload_n dX9_sumOf_0 0 rfl ?_
  refine g_getf dX9_sumOf_1 kX9 wfX9_13 (Nat.le_of_ble_eq_true rfl) (mO) rfl ?_
  refine g_iconst (v := nI 3) dX9_sumOf_4 (by decide +kernel) ?_
  refine g_iload_n dX9_sumOf_5 1 rfl ?_
  refine g_imulN dX9_sumOf_6 ?_
  refine g_ialI dX9_sumOf_7 (mP) (by omega) (by omega) ?_
  refine g_top (pR0 vP hk) ?_
  refine g_aload_n dX9_sumOf_8 0 rfl ?_
  refine g_getf dX9_sumOf_9 kX9 wfX9_13 (Nat.le_of_ble_eq_true rfl) (mO) rfl ?_
  refine g_iconst (v := nI 3) dX9_sumOf_12 (by decide +kernel) ?_
  refine g_iload_n dX9_sumOf_13 1 rfl ?_
  refine g_imulN dX9_sumOf_14 ?_
  refine g_iconst (v := nI 1) dX9_sumOf_15 (by decide +kernel) ?_
  refine g_iaddN dX9_sumOf_16 ?_
  refine g_ialI dX9_sumOf_17 (mP) (by omega) (by omega) ?_
  refine g_top (pR1 vP hk) ?_
  refine g_iaddN dX9_sumOf_18 ?_
  refine g_aload_n dX9_sumOf_19 0 rfl ?_
  refine g_getf dX9_sumOf_20 kX9 wfX9_7 (Nat.le_of_ble_eq_true rfl) (mO) rfl ?_
  refine g_iremN dX9_sumOf_23 (by have := k5 k hk; unfold okPr at this; omega) (by omega) (by omega) ?_
  exact g_iret dX9_sumOf_24 rfl ⟨Nat.zero_le _, Nat.zero_le _⟩ (⟨rfl, rfl⟩)
