def fillL (R : List Int32) : Nat → List Int32
  | 0 => R
  | k + 1 => (fillL R k).set k (-1)
theorem fillL_len (R : List Int32) : ∀ k, (fillL R k).length = R.length
  | 0 => rfl
  | k + 1 => List.length_set.trans (fillL_len R k)
theorem fillL_at {R : List Int32} {i : Nat} : ∀ k, k ≤ R.length → i < k → (fillL R k).getD i 0 = -1
  | 0, _, h => absurd h (Nat.not_lt_zero i)
  | k + 1, l, h => by
    show ((fillL R k).set k (-1)).getD i 0 = -1
    by_cases q : k = i
    · subst q; rw [getD_set_eqI (by rw [fillL_len]; omega)]
    · rw [getD_set_neI q]; exact fillL_at k (by omega) (by omega)
theorem rR_empty {R : List Int32} (l : R.length = 338) : rR (fillL R 338) 0 (fun _ _ => 0) := fun a b ha hb => ⟨by rw [fillL_at 338 (by omega) (by omega)]; rfl, by rw [fillL_at 338 (by omega) (by omega)]; rfl⟩
def M98 (h : List aC) (fs : List Value) : Prop := rd h 98 = some (.inr (9, fs))

set_option maxRecDepth 100000 in
set_option maxHeartbeats 4000000 in
theorem lp_empties {h0 : List aC} {n m a de : Nat} {fo as_ sm sk z : Int32} {am : Nat} {ib : Bool} {iN iM iT : Int32} {Ro : List Int32} (lR : Ro.length = 338) : ∀ j k (h : List aC), k + j = 338 → MO h n m a de fo as_ sm sk z am ib iN iM iT → rd h 100 = some (.inl (fillL Ro k)) → Smo 100 101 h0 h → G mX9_empties (rmD 1 0 0) none (pq none (fun h2 => rd h2 100 = some (.inl (fillL Ro 338)) ∧ Smo 100 101 h0 h2)) 0 0 2 [(1, .int (nI k)), (0, .ref 98)] [] h := by
  intro j
  induction j with
  | zero =>
    intro k h hk hO hR hS
    have hO : rd h 98 = some (.inr (9, [.int (nI n), .int (nI m), .ref 99, .ref 100, .ref 101, .int (nI a), .ref 102, .int (nI de), .ref 103, .ref 104, .ref 105, .int fo, .int as_, .int sm, .int sk, .ref 106, .ref 107, .ref 108, .int z, .ref 109, .ref 110, .ref 111, .int (nI am), .ref 112, .ref 113, .ref 114, .ref 115, .ref 116, .int (nI (bI ib)), .int iN, .int iM, .int iT, .ref 117, .ref 118, .ref 119])) := hO
    have lk := fillL_len Ro k
    refine g_iload_n dX9_empties_2 0 rfl ?_
    refine g_sipush (v := nI 338) dX9_empties_3 (by decide +kernel) ?_
    refine g_icmp_geN 22 dX9_empties_6 (by decide) (by omega) (by omega) (fun c6 => ?_) (fun z => absurd z (by omega))
    exact g_vret dX9_empties_22 rfl ⟨Nat.zero_le _, Nat.zero_le _⟩ (⟨rfl, by rw [show 338 = k by omega]; exact hR, hS⟩)
  | succ j ih =>
    intro k h hk hO hR hS
    have hO : rd h 98 = some (.inr (9, [.int (nI n), .int (nI m), .ref 99, .ref 100, .ref 101, .int (nI a), .ref 102, .int (nI de), .ref 103, .ref 104, .ref 105, .int fo, .int as_, .int sm, .int sk, .ref 106, .ref 107, .ref 108, .int z, .ref 109, .ref 110, .ref 111, .int (nI am), .ref 112, .ref 113, .ref 114, .ref 115, .ref 116, .int (nI (bI ib)), .int iN, .int iM, .int iT, .ref 117, .ref 118, .ref 119])) := hO
    have lk := fillL_len Ro k
    refine g_iload_n dX9_empties_2 0 rfl ?_
    refine g_sipush (v := nI 338) dX9_empties_3 (by decide +kernel) ?_
    refine g_icmp_geN 22 dX9_empties_6 (by decide) (by omega) (by omega) (fun z => absurd z (by omega)) (fun c6 => ?_)
    refine g_aload_n dX9_empties_9 1 rfl ?_
    refine g_getf dX9_empties_10 kX9 wfX9_17 (Nat.le_of_ble_eq_true rfl) (hO) rfl ?_
    refine g_iload_n dX9_empties_13 0 rfl ?_
    refine g_iconst (v := (-1)) dX9_empties_14 (by decide +kernel) ?_
    refine g_iasI dX9_empties_15 (hR) (by rw [lk]; omega) (by omega) (fun h1 e1 => ?_)
    have f1_100 : rd h1 100 = some (.inl ((fillL Ro k).set k (-1))) := by rw [e1]; exact rd_wr_eq (hR)
    have s1 : Smo 100 (100 + 1) h h1 := by rw [e1]; exact Smo.wr (by omega) (by omega)
    have f1_98 : rd h1 98 = some (.inr (9, [.int (nI n), .int (nI m), .ref 99, .ref 100, .ref 101, .int (nI a), .ref 102, .int (nI de), .ref 103, .ref 104, .ref 105, .int fo, .int as_, .int sm, .int sk, .ref 106, .ref 107, .ref 108, .int z, .ref 109, .ref 110, .ref 111, .int (nI am), .ref 112, .ref 113, .ref 114, .ref 115, .ref 116, .int (nI (bI ib)), .int iN, .int iM, .int iT, .ref 117, .ref 118, .ref 119])) := by rw [s1 _ (by omega)]; exact hO
    refine g_iinc (q := 0) (v := nI (k + 1)) (ls' := [(1, .int (nI (k + 1))), (0, .ref 98)]) dX9_empties_16 rfl (inc1 _) (Nat.le_of_ble_eq_true rfl) rfl ?_
    refine g_goto 2 dX9_empties_19 (by decide) ?_
    exact ih (k + 1) _ (by omega) f1_98 f1_100 (hS.tr (fun q hq => by rw [s1 q (by omega)]))

set_option maxRecDepth 100000 in
set_option maxHeartbeats 4000000 in
theorem ev_empties {h : List aC} {n m a de : Nat} {fo as_ sm sk z : Int32} {am : Nat} {ib : Bool} {iN iM iT : Int32} (hO : MO h n m a de fo as_ sm sk z am ib iN iM iT) {Ro : List Int32} (lR : Ro.length = 338) (hR : rd h 100 = some (.inl Ro)) : Ev mX9_empties 1 0 0 [.ref 98] h (pq none (fun h2 => rd h2 100 = some (.inl (fillL Ro 338)) ∧ Smo 100 101 h h2)) := by
  refine Ev.of pX9_empties (Nat.le_of_ble_eq_true rfl) ?_
  show G mX9_empties (rmD 1 0 0) none _ 0 0 0 [(0, .ref 98)] [] h
  refine g_iconst (v := nI 0) dX9_empties_0 (by decide +kernel) ?_
  refine g_istore_n (ls' := [(1, .int (nI 0)), (0, .ref 98)]) dX9_empties_1 (Nat.le_of_ble_eq_true rfl) rfl ?_
  exact lp_empties lR 338 0 h (by omega) hO hR Smo.rf

set_option maxRecDepth 100000 in
set_option maxHeartbeats 4000000 in
theorem ev_becomesSize {h : List aC} {σ : Sg} (H : RM h σ) (ok : okSg σ) (x : Nat) : Ev mX9_becomesSize 2 0 0 [.ref 98, .int (nI x)] h (pq none (fun h2 => RM h2 ((x, 0, σ.1.2.2.1, 0, σ.1.2.2.2.2.1, fun _ _ => 0), σ.2.1, σ.2.2.1, [], σ.2.2.2.2) ∧ Smo 98 120 h h2)) := by
  obtain ⟨fo, as_, sm, sk, z, iN, iM, iT, P, Ro, U, rf, WM, WP, WR, Tr, Ke, Co, Th, Be, Le, AP, AR, AU, Sz, It, IP, IR, IU, mO, mP, mRo, mU, mrf, mWM, mWP, mWR, mTr, mKe, mCo, mTh, mBe, mLe, mAP, mAR, mAU, mSz, mIt, mIP, mIR, mIU, vP, vR, vU, vF, vH, vL, vS, vI, vG⟩ := id H
  have mO : rd h 98 = some (.inr (9, [.int (nI σ.1.1), .int (nI σ.1.2.1), .ref 99, .ref 100, .ref 101, .int (nI σ.1.2.2.2.1), .ref 102, .int (nI ((σ.2.2.2.1).length)), .ref 103, .ref 104, .ref 105, .int fo, .int as_, .int sm, .int sk, .ref 106, .ref 107, .ref 108, .int z, .ref 109, .ref 110, .ref 111, .int (nI σ.2.1.1), .ref 112, .ref 113, .ref 114, .ref 115, .ref 116, .int (nI (bI σ.2.2.2.2.1.isSome)), .int iN, .int iM, .int iT, .ref 117, .ref 118, .ref 119])) := mO
  obtain ⟨mP, lP⟩ := mP
  obtain ⟨mRo, lRo⟩ := mRo
  obtain ⟨mU, lU⟩ := mU
  obtain ⟨mrf, lrf⟩ := mrf
  obtain ⟨mWM, lWM⟩ := mWM
  obtain ⟨mWP, lWP⟩ := mWP
  obtain ⟨mWR, lWR⟩ := mWR
  obtain ⟨mTr, lTr⟩ := mTr
  obtain ⟨mKe, lKe⟩ := mKe
  obtain ⟨mCo, lCo⟩ := mCo
  obtain ⟨mTh, lTh⟩ := mTh
  obtain ⟨mBe, lBe⟩ := mBe
  obtain ⟨mLe, lLe⟩ := mLe
  obtain ⟨mAP, lAP⟩ := mAP
  obtain ⟨mAR, lAR⟩ := mAR
  obtain ⟨mAU, lAU⟩ := mAU
  obtain ⟨mSz, lSz⟩ := mSz
  obtain ⟨mIt, lIt⟩ := mIt
  obtain ⟨mIP, lIP⟩ := mIP
  obtain ⟨mIR, lIR⟩ := mIR
  obtain ⟨mIU, lIU⟩ := mIU
  obtain ⟨okc, ⟨okl, okw⟩, okn, ⟨okh, oke⟩, oki, okr⟩ := id ok
  obtain ⟨k1, k2, k3, k4, k5, k6, k7, k8, k9⟩ := id okc
  refine Ev.of pX9_becomesSize (Nat.le_of_ble_eq_true rfl) ?_
  show G mX9_becomesSize (rmD 2 0 0) none _ 0 0 0 [(0, .ref 98), (1, .int (nI x))] [] h
  refine g_aload_n dX9_becomesSize_0 0 rfl ?_
  refine g_iload_n dX9_becomesSize_1 1 rfl ?_
  refine g_putv dX9_becomesSize_2 kX9 wfX9_7 (Nat.le_of_ble_eq_true rfl) rfl (fun _ _ => ⟨rfl, rfl⟩) (mO) (Nat.le_of_ble_eq_true rfl) (fs' := [.int (nI x), .int (nI σ.1.2.1), .ref 99, .ref 100, .ref 101, .int (nI σ.1.2.2.2.1), .ref 102, .int (nI ((σ.2.2.2.1).length)), .ref 103, .ref 104, .ref 105, .int fo, .int as_, .int sm, .int sk, .ref 106, .ref 107, .ref 108, .int z, .ref 109, .ref 110, .ref 111, .int (nI σ.2.1.1), .ref 112, .ref 113, .ref 114, .ref 115, .ref 116, .int (nI (bI σ.2.2.2.2.1.isSome)), .int iN, .int iM, .int iT, .ref 117, .ref 118, .ref 119]) rfl (fun h1 e1 => ?_)
  have f1_98 : rd h1 98 = some (.inr (9, [.int (nI x), .int (nI σ.1.2.1), .ref 99, .ref 100, .ref 101, .int (nI σ.1.2.2.2.1), .ref 102, .int (nI ((σ.2.2.2.1).length)), .ref 103, .ref 104, .ref 105, .int fo, .int as_, .int sm, .int sk, .ref 106, .ref 107, .ref 108, .int z, .ref 109, .ref 110, .ref 111, .int (nI σ.2.1.1), .ref 112, .ref 113, .ref 114, .ref 115, .ref 116, .int (nI (bI σ.2.2.2.2.1.isSome)), .int iN, .int iM, .int iT, .ref 117, .ref 118, .ref 119])) := by rw [e1]; exact rd_wr_eq (mO)
  have s1 : Smo 98 (98 + 1) h h1 := by rw [e1]; exact Smo.wr (by omega) (by omega)
  have f1_99 : rd h1 99 = some (.inl (P)) := by rw [s1 _ (by omega)]; exact mP
  have f1_100 : rd h1 100 = some (.inl (Ro)) := by rw [s1 _ (by omega)]; exact mRo
  have f1_101 : rd h1 101 = some (.inl (U)) := by rw [s1 _ (by omega)]; exact mU
  have f1_102 : rd h1 102 = some (.inl (rf)) := by rw [s1 _ (by omega)]; exact mrf
  have f1_103 : rd h1 103 = some (.inl (WM)) := by rw [s1 _ (by omega)]; exact mWM
  have f1_104 : rd h1 104 = some (.inl (WP)) := by rw [s1 _ (by omega)]; exact mWP
  have f1_105 : rd h1 105 = some (.inl (WR)) := by rw [s1 _ (by omega)]; exact mWR
  have f1_106 : rd h1 106 = some (.inl (Tr)) := by rw [s1 _ (by omega)]; exact mTr
  have f1_107 : rd h1 107 = some (.inl (Ke)) := by rw [s1 _ (by omega)]; exact mKe
  have f1_108 : rd h1 108 = some (.inl (Co)) := by rw [s1 _ (by omega)]; exact mCo
  have f1_109 : rd h1 109 = some (.inl (Th)) := by rw [s1 _ (by omega)]; exact mTh
  have f1_110 : rd h1 110 = some (.inl (Be)) := by rw [s1 _ (by omega)]; exact mBe
  have f1_111 : rd h1 111 = some (.inl (Le)) := by rw [s1 _ (by omega)]; exact mLe
  have f1_112 : rd h1 112 = some (.inl (AP)) := by rw [s1 _ (by omega)]; exact mAP
  have f1_113 : rd h1 113 = some (.inl (AR)) := by rw [s1 _ (by omega)]; exact mAR
  have f1_114 : rd h1 114 = some (.inl (AU)) := by rw [s1 _ (by omega)]; exact mAU
  have f1_115 : rd h1 115 = some (.inl (Sz)) := by rw [s1 _ (by omega)]; exact mSz
  have f1_116 : rd h1 116 = some (.inl (It)) := by rw [s1 _ (by omega)]; exact mIt
  have f1_117 : rd h1 117 = some (.inl (IP)) := by rw [s1 _ (by omega)]; exact mIP
  have f1_118 : rd h1 118 = some (.inl (IR)) := by rw [s1 _ (by omega)]; exact mIR
  have f1_119 : rd h1 119 = some (.inl (IU)) := by rw [s1 _ (by omega)]; exact mIU
  refine g_aload_n dX9_becomesSize_5 0 rfl ?_
  refine g_iconst (v := nI 0) dX9_becomesSize_6 (by decide +kernel) ?_
  refine g_putv dX9_becomesSize_7 kX9 wfX9_87 (Nat.le_of_ble_eq_true rfl) rfl (fun _ _ => ⟨rfl, rfl⟩) (f1_98) (Nat.le_of_ble_eq_true rfl) (fs' := [.int (nI x), .int (nI 0), .ref 99, .ref 100, .ref 101, .int (nI σ.1.2.2.2.1), .ref 102, .int (nI ((σ.2.2.2.1).length)), .ref 103, .ref 104, .ref 105, .int fo, .int as_, .int sm, .int sk, .ref 106, .ref 107, .ref 108, .int z, .ref 109, .ref 110, .ref 111, .int (nI σ.2.1.1), .ref 112, .ref 113, .ref 114, .ref 115, .ref 116, .int (nI (bI σ.2.2.2.2.1.isSome)), .int iN, .int iM, .int iT, .ref 117, .ref 118, .ref 119]) rfl (fun h2 e2 => ?_)
  have f2_98 : rd h2 98 = some (.inr (9, [.int (nI x), .int (nI 0), .ref 99, .ref 100, .ref 101, .int (nI σ.1.2.2.2.1), .ref 102, .int (nI ((σ.2.2.2.1).length)), .ref 103, .ref 104, .ref 105, .int fo, .int as_, .int sm, .int sk, .ref 106, .ref 107, .ref 108, .int z, .ref 109, .ref 110, .ref 111, .int (nI σ.2.1.1), .ref 112, .ref 113, .ref 114, .ref 115, .ref 116, .int (nI (bI σ.2.2.2.2.1.isSome)), .int iN, .int iM, .int iT, .ref 117, .ref 118, .ref 119])) := by rw [e2]; exact rd_wr_eq (f1_98)
  have s2 : Smo 98 (98 + 1) h1 h2 := by rw [e2]; exact Smo.wr (by omega) (by omega)
  have f2_99 : rd h2 99 = some (.inl (P)) := by rw [s2 _ (by omega)]; exact f1_99
  have f2_100 : rd h2 100 = some (.inl (Ro)) := by rw [s2 _ (by omega)]; exact f1_100
  have f2_101 : rd h2 101 = some (.inl (U)) := by rw [s2 _ (by omega)]; exact f1_101
  have f2_102 : rd h2 102 = some (.inl (rf)) := by rw [s2 _ (by omega)]; exact f1_102
  have f2_103 : rd h2 103 = some (.inl (WM)) := by rw [s2 _ (by omega)]; exact f1_103
  have f2_104 : rd h2 104 = some (.inl (WP)) := by rw [s2 _ (by omega)]; exact f1_104
  have f2_105 : rd h2 105 = some (.inl (WR)) := by rw [s2 _ (by omega)]; exact f1_105
  have f2_106 : rd h2 106 = some (.inl (Tr)) := by rw [s2 _ (by omega)]; exact f1_106
  have f2_107 : rd h2 107 = some (.inl (Ke)) := by rw [s2 _ (by omega)]; exact f1_107
  have f2_108 : rd h2 108 = some (.inl (Co)) := by rw [s2 _ (by omega)]; exact f1_108
  have f2_109 : rd h2 109 = some (.inl (Th)) := by rw [s2 _ (by omega)]; exact f1_109
  have f2_110 : rd h2 110 = some (.inl (Be)) := by rw [s2 _ (by omega)]; exact f1_110
  have f2_111 : rd h2 111 = some (.inl (Le)) := by rw [s2 _ (by omega)]; exact f1_111
  have f2_112 : rd h2 112 = some (.inl (AP)) := by rw [s2 _ (by omega)]; exact f1_112
  have f2_113 : rd h2 113 = some (.inl (AR)) := by rw [s2 _ (by omega)]; exact f1_113
  have f2_114 : rd h2 114 = some (.inl (AU)) := by rw [s2 _ (by omega)]; exact f1_114
  have f2_115 : rd h2 115 = some (.inl (Sz)) := by rw [s2 _ (by omega)]; exact f1_115
  have f2_116 : rd h2 116 = some (.inl (It)) := by rw [s2 _ (by omega)]; exact f1_116
  have f2_117 : rd h2 117 = some (.inl (IP)) := by rw [s2 _ (by omega)]; exact f1_117
  have f2_118 : rd h2 118 = some (.inl (IR)) := by rw [s2 _ (by omega)]; exact f1_118
  have f2_119 : rd h2 119 = some (.inl (IU)) := by rw [s2 _ (by omega)]; exact f1_119
  refine g_aload_n dX9_becomesSize_10 0 rfl ?_
  refine g_iconst (v := nI 0) dX9_becomesSize_11 (by decide +kernel) ?_
  refine g_putv dX9_becomesSize_12 kX9 wfX9_102 (Nat.le_of_ble_eq_true rfl) rfl (fun _ _ => ⟨rfl, rfl⟩) (f2_98) (Nat.le_of_ble_eq_true rfl) (fs' := [.int (nI x), .int (nI 0), .ref 99, .ref 100, .ref 101, .int (nI 0), .ref 102, .int (nI ((σ.2.2.2.1).length)), .ref 103, .ref 104, .ref 105, .int fo, .int as_, .int sm, .int sk, .ref 106, .ref 107, .ref 108, .int z, .ref 109, .ref 110, .ref 111, .int (nI σ.2.1.1), .ref 112, .ref 113, .ref 114, .ref 115, .ref 116, .int (nI (bI σ.2.2.2.2.1.isSome)), .int iN, .int iM, .int iT, .ref 117, .ref 118, .ref 119]) rfl (fun h3 e3 => ?_)
  have f3_98 : rd h3 98 = some (.inr (9, [.int (nI x), .int (nI 0), .ref 99, .ref 100, .ref 101, .int (nI 0), .ref 102, .int (nI ((σ.2.2.2.1).length)), .ref 103, .ref 104, .ref 105, .int fo, .int as_, .int sm, .int sk, .ref 106, .ref 107, .ref 108, .int z, .ref 109, .ref 110, .ref 111, .int (nI σ.2.1.1), .ref 112, .ref 113, .ref 114, .ref 115, .ref 116, .int (nI (bI σ.2.2.2.2.1.isSome)), .int iN, .int iM, .int iT, .ref 117, .ref 118, .ref 119])) := by rw [e3]; exact rd_wr_eq (f2_98)
  have s3 : Smo 98 (98 + 1) h2 h3 := by rw [e3]; exact Smo.wr (by omega) (by omega)
  have f3_99 : rd h3 99 = some (.inl (P)) := by rw [s3 _ (by omega)]; exact f2_99
  have f3_100 : rd h3 100 = some (.inl (Ro)) := by rw [s3 _ (by omega)]; exact f2_100
  have f3_101 : rd h3 101 = some (.inl (U)) := by rw [s3 _ (by omega)]; exact f2_101
  have f3_102 : rd h3 102 = some (.inl (rf)) := by rw [s3 _ (by omega)]; exact f2_102
  have f3_103 : rd h3 103 = some (.inl (WM)) := by rw [s3 _ (by omega)]; exact f2_103
  have f3_104 : rd h3 104 = some (.inl (WP)) := by rw [s3 _ (by omega)]; exact f2_104
  have f3_105 : rd h3 105 = some (.inl (WR)) := by rw [s3 _ (by omega)]; exact f2_105
  have f3_106 : rd h3 106 = some (.inl (Tr)) := by rw [s3 _ (by omega)]; exact f2_106
  have f3_107 : rd h3 107 = some (.inl (Ke)) := by rw [s3 _ (by omega)]; exact f2_107
  have f3_108 : rd h3 108 = some (.inl (Co)) := by rw [s3 _ (by omega)]; exact f2_108
  have f3_109 : rd h3 109 = some (.inl (Th)) := by rw [s3 _ (by omega)]; exact f2_109
  have f3_110 : rd h3 110 = some (.inl (Be)) := by rw [s3 _ (by omega)]; exact f2_110
  have f3_111 : rd h3 111 = some (.inl (Le)) := by rw [s3 _ (by omega)]; exact f2_111
  have f3_112 : rd h3 112 = some (.inl (AP)) := by rw [s3 _ (by omega)]; exact f2_112
  have f3_113 : rd h3 113 = some (.inl (AR)) := by rw [s3 _ (by omega)]; exact f2_113
  have f3_114 : rd h3 114 = some (.inl (AU)) := by rw [s3 _ (by omega)]; exact f2_114
  have f3_115 : rd h3 115 = some (.inl (Sz)) := by rw [s3 _ (by omega)]; exact f2_115
  have f3_116 : rd h3 116 = some (.inl (It)) := by rw [s3 _ (by omega)]; exact f2_116
  have f3_117 : rd h3 117 = some (.inl (IP)) := by rw [s3 _ (by omega)]; exact f2_117
  have f3_118 : rd h3 118 = some (.inl (IR)) := by rw [s3 _ (by omega)]; exact f2_118
  have f3_119 : rd h3 119 = some (.inl (IU)) := by rw [s3 _ (by omega)]; exact f2_119
  refine g_aload_n dX9_becomesSize_15 0 rfl ?_
  refine g_iconst (v := nI 0) dX9_becomesSize_16 (by decide +kernel) ?_
  refine g_putv dX9_becomesSize_17 kX9 wfX9_80 (Nat.le_of_ble_eq_true rfl) rfl (fun _ _ => ⟨rfl, rfl⟩) (f3_98) (Nat.le_of_ble_eq_true rfl) (fs' := [.int (nI x), .int (nI 0), .ref 99, .ref 100, .ref 101, .int (nI 0), .ref 102, .int (nI 0), .ref 103, .ref 104, .ref 105, .int fo, .int as_, .int sm, .int sk, .ref 106, .ref 107, .ref 108, .int z, .ref 109, .ref 110, .ref 111, .int (nI σ.2.1.1), .ref 112, .ref 113, .ref 114, .ref 115, .ref 116, .int (nI (bI σ.2.2.2.2.1.isSome)), .int iN, .int iM, .int iT, .ref 117, .ref 118, .ref 119]) rfl (fun h4 e4 => ?_)
  have f4_98 : rd h4 98 = some (.inr (9, [.int (nI x), .int (nI 0), .ref 99, .ref 100, .ref 101, .int (nI 0), .ref 102, .int (nI 0), .ref 103, .ref 104, .ref 105, .int fo, .int as_, .int sm, .int sk, .ref 106, .ref 107, .ref 108, .int z, .ref 109, .ref 110, .ref 111, .int (nI σ.2.1.1), .ref 112, .ref 113, .ref 114, .ref 115, .ref 116, .int (nI (bI σ.2.2.2.2.1.isSome)), .int iN, .int iM, .int iT, .ref 117, .ref 118, .ref 119])) := by rw [e4]; exact rd_wr_eq (f3_98)
  have s4 : Smo 98 (98 + 1) h3 h4 := by rw [e4]; exact Smo.wr (by omega) (by omega)
  have f4_99 : rd h4 99 = some (.inl (P)) := by rw [s4 _ (by omega)]; exact f3_99
  have f4_100 : rd h4 100 = some (.inl (Ro)) := by rw [s4 _ (by omega)]; exact f3_100
  have f4_101 : rd h4 101 = some (.inl (U)) := by rw [s4 _ (by omega)]; exact f3_101
  have f4_102 : rd h4 102 = some (.inl (rf)) := by rw [s4 _ (by omega)]; exact f3_102
  have f4_103 : rd h4 103 = some (.inl (WM)) := by rw [s4 _ (by omega)]; exact f3_103
  have f4_104 : rd h4 104 = some (.inl (WP)) := by rw [s4 _ (by omega)]; exact f3_104
  have f4_105 : rd h4 105 = some (.inl (WR)) := by rw [s4 _ (by omega)]; exact f3_105
  have f4_106 : rd h4 106 = some (.inl (Tr)) := by rw [s4 _ (by omega)]; exact f3_106
  have f4_107 : rd h4 107 = some (.inl (Ke)) := by rw [s4 _ (by omega)]; exact f3_107
  have f4_108 : rd h4 108 = some (.inl (Co)) := by rw [s4 _ (by omega)]; exact f3_108
  have f4_109 : rd h4 109 = some (.inl (Th)) := by rw [s4 _ (by omega)]; exact f3_109
  have f4_110 : rd h4 110 = some (.inl (Be)) := by rw [s4 _ (by omega)]; exact f3_110
  have f4_111 : rd h4 111 = some (.inl (Le)) := by rw [s4 _ (by omega)]; exact f3_111
  have f4_112 : rd h4 112 = some (.inl (AP)) := by rw [s4 _ (by omega)]; exact f3_112
  have f4_113 : rd h4 113 = some (.inl (AR)) := by rw [s4 _ (by omega)]; exact f3_113
  have f4_114 : rd h4 114 = some (.inl (AU)) := by rw [s4 _ (by omega)]; exact f3_114
  have f4_115 : rd h4 115 = some (.inl (Sz)) := by rw [s4 _ (by omega)]; exact f3_115
  have f4_116 : rd h4 116 = some (.inl (It)) := by rw [s4 _ (by omega)]; exact f3_116
  have f4_117 : rd h4 117 = some (.inl (IP)) := by rw [s4 _ (by omega)]; exact f3_117
  have f4_118 : rd h4 118 = some (.inl (IR)) := by rw [s4 _ (by omega)]; exact f3_118
  have f4_119 : rd h4 119 = some (.inl (IU)) := by rw [s4 _ (by omega)]; exact f3_119
  refine g_aload_n dX9_becomesSize_20 0 rfl ?_
  refine g_callVq (st1 := []) dX9_becomesSize_21 (ev_empties (show MO h4 _ _ _ _ _ _ _ _ _ _ _ _ _ _ from f4_98) lRo f4_100) oX9_empties wiX9_empties weX9_empties wmX9_77 kX9 (f4_98) rfl ⟨(Nat.le_of_ble_eq_true rfl), (Nat.le_of_ble_eq_true rfl)⟩ ⟨Nat.zero_le _, Nat.zero_le _⟩ (Nat.le_of_ble_eq_true rfl) rfl rfl (fun h5 q5 => ?_)
  obtain ⟨q5a, q5s⟩ := q5
  have f5_98 : rd h5 98 = some (.inr (9, [.int (nI x), .int (nI 0), .ref 99, .ref 100, .ref 101, .int (nI 0), .ref 102, .int (nI 0), .ref 103, .ref 104, .ref 105, .int fo, .int as_, .int sm, .int sk, .ref 106, .ref 107, .ref 108, .int z, .ref 109, .ref 110, .ref 111, .int (nI σ.2.1.1), .ref 112, .ref 113, .ref 114, .ref 115, .ref 116, .int (nI (bI σ.2.2.2.2.1.isSome)), .int iN, .int iM, .int iT, .ref 117, .ref 118, .ref 119])) := by rw [q5s _ (by omega)]; exact f4_98
  have f5_99 : rd h5 99 = some (.inl (P)) := by rw [q5s _ (by omega)]; exact f4_99
  have f5_101 : rd h5 101 = some (.inl (U)) := by rw [q5s _ (by omega)]; exact f4_101
  have f5_102 : rd h5 102 = some (.inl (rf)) := by rw [q5s _ (by omega)]; exact f4_102
  have f5_103 : rd h5 103 = some (.inl (WM)) := by rw [q5s _ (by omega)]; exact f4_103
  have f5_104 : rd h5 104 = some (.inl (WP)) := by rw [q5s _ (by omega)]; exact f4_104
  have f5_105 : rd h5 105 = some (.inl (WR)) := by rw [q5s _ (by omega)]; exact f4_105
  have f5_106 : rd h5 106 = some (.inl (Tr)) := by rw [q5s _ (by omega)]; exact f4_106
  have f5_107 : rd h5 107 = some (.inl (Ke)) := by rw [q5s _ (by omega)]; exact f4_107
  have f5_108 : rd h5 108 = some (.inl (Co)) := by rw [q5s _ (by omega)]; exact f4_108
  have f5_109 : rd h5 109 = some (.inl (Th)) := by rw [q5s _ (by omega)]; exact f4_109
  have f5_110 : rd h5 110 = some (.inl (Be)) := by rw [q5s _ (by omega)]; exact f4_110
  have f5_111 : rd h5 111 = some (.inl (Le)) := by rw [q5s _ (by omega)]; exact f4_111
  have f5_112 : rd h5 112 = some (.inl (AP)) := by rw [q5s _ (by omega)]; exact f4_112
  have f5_113 : rd h5 113 = some (.inl (AR)) := by rw [q5s _ (by omega)]; exact f4_113
  have f5_114 : rd h5 114 = some (.inl (AU)) := by rw [q5s _ (by omega)]; exact f4_114
  have f5_115 : rd h5 115 = some (.inl (Sz)) := by rw [q5s _ (by omega)]; exact f4_115
  have f5_116 : rd h5 116 = some (.inl (It)) := by rw [q5s _ (by omega)]; exact f4_116
  have f5_117 : rd h5 117 = some (.inl (IP)) := by rw [q5s _ (by omega)]; exact f4_117
  have f5_118 : rd h5 118 = some (.inl (IR)) := by rw [q5s _ (by omega)]; exact f4_118
  have f5_119 : rd h5 119 = some (.inl (IU)) := by rw [q5s _ (by omega)]; exact f4_119
  exact g_vret dX9_becomesSize_24 rfl ⟨Nat.zero_le _, Nat.zero_le _⟩ (⟨rfl, ⟨_, _, _, _, _, _, _, _, _, _, _, _, _, _, _, _, _, _, _, _, _, _, _, _, _, _, _, _, _, f5_98, ⟨f5_99, lP⟩, ⟨q5a, ((fillL_len Ro 338).trans lRo)⟩, ⟨f5_101, lU⟩, ⟨f5_102, lrf⟩, ⟨f5_103, lWM⟩, ⟨f5_104, lWP⟩, ⟨f5_105, lWR⟩, ⟨f5_106, lTr⟩, ⟨f5_107, lKe⟩, ⟨f5_108, lCo⟩, ⟨f5_109, lTh⟩, ⟨f5_110, lBe⟩, ⟨f5_111, lLe⟩, ⟨f5_112, lAP⟩, ⟨f5_113, lAR⟩, ⟨f5_114, lAU⟩, ⟨f5_115, lSz⟩, ⟨f5_116, lIt⟩, ⟨f5_117, lIP⟩, ⟨f5_118, lIR⟩, ⟨f5_119, lIU⟩, (fun j hj => absurd hj (Nat.not_lt_zero j)), (rR_empty lRo), (fun j hj => absurd hj (Nat.not_lt_zero j)), vF, (fun j hj => absurd hj (Nat.not_lt_zero j)), vL, vS, vI, vG⟩, (fun q hq => by rw [q5s q (by omega), s4 q (by omega), s3 q (by omega), s2 q (by omega), s1 q (by omega)])⟩)

