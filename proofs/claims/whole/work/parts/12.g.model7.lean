theorem hM_pop {m : Nat} {WM WP WR : List Int32} {e : Hs} {t : List Hs} (h : hM m WM WP WR (e :: t)) : WM.getD t.length 0 = nI m ∧ pR WP (18 * t.length) m e.1 ∧ rR WR (338 * t.length) e.2 ∧ hM m WM WP WR t := by
  have z := h 0 (Nat.succ_pos _)
  refine ⟨z.1, z.2.1, z.2.2, fun j hj => ?_⟩
  have y := h (j + 1) (Nat.succ_lt_succ hj)
  rw [List.length_cons, show t.length + 1 - 1 - (j + 1) = t.length - 1 - j by omega] at y
  exact y
theorem pR_setA {P : List Int32} {m : Nat} {f : Nat → Pr} (h : pR P 0 m f) {k : Nat} (hk : k < m) (l : 3 * k + 2 < P.length) (v : Nat) : pR (P.set (3 * k + 2) (nI v)) 0 m (upF f k ((f k).1, (f k).2.1, v)) := fun i hi => by
  rw [Nat.zero_add, getD_set_neI (by omega), getD_set_neI (by omega)]
  by_cases q : i = k
  · subst q; rw [upF_eq, getD_set_eqI l]; exact ⟨pR0 h hi, pR1 h hi, rfl⟩
  · rw [upF_ne q, getD_set_neI (by omega)]; exact ⟨pR0 h hi, pR1 h hi, pR2 h hi⟩

set_option maxRecDepth 100000 in
set_option maxHeartbeats 4000000 in
theorem ev_y_undo0 {h : List aC} {σ : Sg} (H : RM h σ) (ok : okSg σ) (eh : σ.2.2.2.1 = []) : Ev mX9_undo 2 0 0 [.ref 98] h (spM h (oUndo σ)) := by
  obtain ⟨fo, as_, sm, sk, z, iN, iM, iT, P, Ro, U, rf, WM, WP, WR, Tr, Ke, Co, Th, Be, Le, AP, AR, AU, Sz, It, IP, IR, IU, mO, mP, mRo, mU, mrf, mWM, mWP, mWR, mTr, mKe, mCo, mTh, mBe, mLe, mAP, mAR, mAU, mSz, mIt, mIP, mIR, mIU, vP, vR, vU, vF, vH, vL, vS, vI, vG⟩ := id H
  have mO : rd h 98 = some (.inr (9, [.int (nI σ.1.1), .int (nI σ.1.2.1), .ref 99, .ref 100, .ref 101, .int (nI σ.1.2.2.2.1), .ref 102, .int (nI ((σ.2.2.2.1).length)), .ref 103, .ref 104, .ref 105, .int fo, .int as_, .int sm, .int sk, .ref 106, .ref 107, .ref 108, .int z, .ref 109, .ref 110, .ref 111, .int (nI σ.2.1.1), .ref 112, .ref 113, .ref 114, .ref 115, .ref 116, .int (nI (bI σ.2.2.2.2.1.isSome)), .int iN, .int iM, .int iT, .ref 117, .ref 118, .ref 119])) := mO
  obtain ⟨mP, lP⟩ := mP
  obtain ⟨mRo, lRo⟩ := mRo
  obtain ⟨mU, lU⟩ := mU
  obtain ⟨mrf, lrf⟩ := mrf
  obtain ⟨mWM, lWM⟩ := mWM
  obtain ⟨mWP, lWP⟩ := mWP
  obtain ⟨mWR, lWR⟩ := mWR
  obtain ⟨mTr, lTr⟩ := mTr
  obtain ⟨mKe, lKe⟩ := mKe
  obtain ⟨mCo, lCo⟩ := mCo
  obtain ⟨mTh, lTh⟩ := mTh
  obtain ⟨mBe, lBe⟩ := mBe
  obtain ⟨mLe, lLe⟩ := mLe
  obtain ⟨mAP, lAP⟩ := mAP
  obtain ⟨mAR, lAR⟩ := mAR
  obtain ⟨mAU, lAU⟩ := mAU
  obtain ⟨mSz, lSz⟩ := mSz
  obtain ⟨mIt, lIt⟩ := mIt
  obtain ⟨mIP, lIP⟩ := mIP
  obtain ⟨mIR, lIR⟩ := mIR
  obtain ⟨mIU, lIU⟩ := mIU
  obtain ⟨okc, ⟨okl, okw⟩, okn, ⟨okh, oke⟩, oki, okr⟩ := id ok
  obtain ⟨k1, k2, k3, k4, k5, k6, k7, k8, k9⟩ := id okc
  refine Ev.of pX9_undo (Nat.le_of_ble_eq_true rfl) ?_
  show G mX9_undo (rmD 2 0 0) none _ 0 0 0 [(0, .ref 98)] [] h
  refine g_aload_n dX9_undo_0 0 rfl ?_
  refine g_getf dX9_undo_1 kX9 wfX9_80 (Nat.le_of_ble_eq_true rfl) (mO) rfl ?_
  refine g_top (show nI σ.2.2.2.1.length = nI 0 from by rw [eh]; rfl) ?_
  refine g_if_neN 14 dX9_undo_4 (by decide) (by omega) (fun z => absurd z (by omega)) (fun c4 => ?_)
  refine g_aload_n dX9_undo_7 0 rfl ?_
  refine g_bipush (v := (-3)) dX9_undo_8 (by decide +kernel) ?_
  rw [show oUndo σ = rfS σ (-3) from by unfold oUndo; rw [eh]]
  refine g_callVq (st1 := [.int (-nI 3)]) dX9_undo_10 (ev_refused H ok 3 (by unfold noN; omega)) oX9_refused wiX9_refused weX9_refused wmX9_90 kX9 (mO) rfl ⟨(Nat.le_of_ble_eq_true rfl), (Nat.le_of_ble_eq_true rfl)⟩ ⟨Nat.zero_le _, Nat.zero_le _⟩ (Nat.le_of_ble_eq_true rfl) rfl rfl (fun h1 q1 => ?_)
  exact g_iret dX9_undo_13 rfl ⟨Nat.zero_le _, Nat.zero_le _⟩ (⟨rfl, q1⟩)

set_option maxRecDepth 100000 in
set_option maxHeartbeats 4000000 in
theorem ev_y_undo1 {h : List aC} {σ : Sg} (H : RM h σ) (ok : okSg σ) (e0 : Hs) (t0 : List Hs) (eh : σ.2.2.2.1 = e0 :: t0) : Ev mX9_undo 2 0 0 [.ref 98] h (spM h (oUndo σ)) := by
  obtain ⟨fo, as_, sm, sk, z, iN, iM, iT, P, Ro, U, rf, WM, WP, WR, Tr, Ke, Co, Th, Be, Le, AP, AR, AU, Sz, It, IP, IR, IU, mO, mP, mRo, mU, mrf, mWM, mWP, mWR, mTr, mKe, mCo, mTh, mBe, mLe, mAP, mAR, mAU, mSz, mIt, mIP, mIR, mIU, vP, vR, vU, vF, vH, vL, vS, vI, vG⟩ := id H
  have mO : rd h 98 = some (.inr (9, [.int (nI σ.1.1), .int (nI σ.1.2.1), .ref 99, .ref 100, .ref 101, .int (nI σ.1.2.2.2.1), .ref 102, .int (nI ((σ.2.2.2.1).length)), .ref 103, .ref 104, .ref 105, .int fo, .int as_, .int sm, .int sk, .ref 106, .ref 107, .ref 108, .int z, .ref 109, .ref 110, .ref 111, .int (nI σ.2.1.1), .ref 112, .ref 113, .ref 114, .ref 115, .ref 116, .int (nI (bI σ.2.2.2.2.1.isSome)), .int iN, .int iM, .int iT, .ref 117, .ref 118, .ref 119])) := mO
  obtain ⟨mP, lP⟩ := mP
  obtain ⟨mRo, lRo⟩ := mRo
  obtain ⟨mU, lU⟩ := mU
  obtain ⟨mrf, lrf⟩ := mrf
  obtain ⟨mWM, lWM⟩ := mWM
  obtain ⟨mWP, lWP⟩ := mWP
  obtain ⟨mWR, lWR⟩ := mWR
  obtain ⟨mTr, lTr⟩ := mTr
  obtain ⟨mKe, lKe⟩ := mKe
  obtain ⟨mCo, lCo⟩ := mCo
  obtain ⟨mTh, lTh⟩ := mTh
  obtain ⟨mBe, lBe⟩ := mBe
  obtain ⟨mLe, lLe⟩ := mLe
  obtain ⟨mAP, lAP⟩ := mAP
  obtain ⟨mAR, lAR⟩ := mAR
  obtain ⟨mAU, lAU⟩ := mAU
  obtain ⟨mSz, lSz⟩ := mSz
  obtain ⟨mIt, lIt⟩ := mIt
  obtain ⟨mIP, lIP⟩ := mIP
  obtain ⟨mIR, lIR⟩ := mIR
  obtain ⟨mIU, lIU⟩ := mIU
  obtain ⟨okc, ⟨okl, okw⟩, okn, ⟨okh, oke⟩, oki, okr⟩ := id ok
  obtain ⟨k1, k2, k3, k4, k5, k6, k7, k8, k9⟩ := id okc
  rw [eh] at vH mO
  obtain ⟨p1, p2, p3, p4⟩ := hM_pop vH
  have mO : rd h 98 = some (.inr (9, [.int (nI σ.1.1), .int (nI σ.1.2.1), .ref 99, .ref 100, .ref 101, .int (nI σ.1.2.2.2.1), .ref 102, .int (nI (t0.length + 1)), .ref 103, .ref 104, .ref 105, .int fo, .int as_, .int sm, .int sk, .ref 106, .ref 107, .ref 108, .int z, .ref 109, .ref 110, .ref 111, .int (nI σ.2.1.1), .ref 112, .ref 113, .ref 114, .ref 115, .ref 116, .int (nI (bI σ.2.2.2.2.1.isSome)), .int iN, .int iM, .int iT, .ref 117, .ref 118, .ref 119])) := mO
  have lt0 : t0.length + 1 ≤ 12 := by rw [eh] at okh; exact okh
  have hm6 : σ.1.2.1 ≤ 6 := by omega
  refine Ev.of pX9_undo (Nat.le_of_ble_eq_true rfl) ?_
  show G mX9_undo (rmD 2 0 0) none _ 0 0 0 [(0, .ref 98)] [] h
  refine g_aload_n dX9_undo_0 0 rfl ?_
  refine g_getf dX9_undo_1 kX9 wfX9_80 (Nat.le_of_ble_eq_true rfl) (mO) rfl ?_
  refine g_if_neN 14 dX9_undo_4 (by decide) (by omega) (fun c4 => ?_) (fun z => absurd z (by omega))
  rw [show oUndo σ = (nI t0.length, ((σ.1.1, σ.1.2.1, e0.1, σ.1.2.2.2.1, σ.1.2.2.2.2.1, e0.2), σ.2.1, σ.2.2.1, t0, σ.2.2.2.2)) from by unfold oUndo; rw [eh]]
  refine g_aload_n dX9_undo_14 0 rfl ?_
  refine g_dup dX9_undo_15 rfl ?_
  refine g_getf dX9_undo_16 kX9 wfX9_80 (Nat.le_of_ble_eq_true rfl) (mO) rfl ?_
  refine g_iconst (v := nI 1) dX9_undo_19 (by decide +kernel) ?_
  refine g_isubN dX9_undo_20 (by omega) ?_
  refine g_top (congrArg nI (show t0.length + 1 - 1 = t0.length by omega)) ?_
  refine g_putv dX9_undo_21 kX9 wfX9_80 (Nat.le_of_ble_eq_true rfl) rfl (fun _ _ => ⟨rfl, rfl⟩) (mO) (Nat.le_of_ble_eq_true rfl) (fs' := [.int (nI σ.1.1), .int (nI σ.1.2.1), .ref 99, .ref 100, .ref 101, .int (nI σ.1.2.2.2.1), .ref 102, .int (nI t0.length), .ref 103, .ref 104, .ref 105, .int fo, .int as_, .int sm, .int sk, .ref 106, .ref 107, .ref 108, .int z, .ref 109, .ref 110, .ref 111, .int (nI σ.2.1.1), .ref 112, .ref 113, .ref 114, .ref 115, .ref 116, .int (nI (bI σ.2.2.2.2.1.isSome)), .int iN, .int iM, .int iT, .ref 117, .ref 118, .ref 119]) rfl (fun h1 e1 => ?_)
  have f1_98 : rd h1 98 = some (.inr (9, [.int (nI σ.1.1), .int (nI σ.1.2.1), .ref 99, .ref 100, .ref 101, .int (nI σ.1.2.2.2.1), .ref 102, .int (nI t0.length), .ref 103, .ref 104, .ref 105, .int fo, .int as_, .int sm, .int sk, .ref 106, .ref 107, .ref 108, .int z, .ref 109, .ref 110, .ref 111, .int (nI σ.2.1.1), .ref 112, .ref 113, .ref 114, .ref 115, .ref 116, .int (nI (bI σ.2.2.2.2.1.isSome)), .int iN, .int iM, .int iT, .ref 117, .ref 118, .ref 119])) := by rw [e1]; exact rd_wr_eq (mO)
  have s1 : Smo 98 (98 + 1) h h1 := by rw [e1]; exact Smo.wr (by omega) (by omega)
  have f1_99 : rd h1 99 = some (.inl (P)) := by rw [s1 _ (by omega)]; exact mP
  have f1_100 : rd h1 100 = some (.inl (Ro)) := by rw [s1 _ (by omega)]; exact mRo
  have f1_101 : rd h1 101 = some (.inl (U)) := by rw [s1 _ (by omega)]; exact mU
  have f1_102 : rd h1 102 = some (.inl (rf)) := by rw [s1 _ (by omega)]; exact mrf
  have f1_103 : rd h1 103 = some (.inl (WM)) := by rw [s1 _ (by omega)]; exact mWM
  have f1_104 : rd h1 104 = some (.inl (WP)) := by rw [s1 _ (by omega)]; exact mWP
  have f1_105 : rd h1 105 = some (.inl (WR)) := by rw [s1 _ (by omega)]; exact mWR
  have f1_106 : rd h1 106 = some (.inl (Tr)) := by rw [s1 _ (by omega)]; exact mTr
  have f1_107 : rd h1 107 = some (.inl (Ke)) := by rw [s1 _ (by omega)]; exact mKe
  have f1_108 : rd h1 108 = some (.inl (Co)) := by rw [s1 _ (by omega)]; exact mCo
  have f1_109 : rd h1 109 = some (.inl (Th)) := by rw [s1 _ (by omega)]; exact mTh
  have f1_110 : rd h1 110 = some (.inl (Be)) := by rw [s1 _ (by omega)]; exact mBe
  have f1_111 : rd h1 111 = some (.inl (Le)) := by rw [s1 _ (by omega)]; exact mLe
  have f1_112 : rd h1 112 = some (.inl (AP)) := by rw [s1 _ (by omega)]; exact mAP
  have f1_113 : rd h1 113 = some (.inl (AR)) := by rw [s1 _ (by omega)]; exact mAR
  have f1_114 : rd h1 114 = some (.inl (AU)) := by rw [s1 _ (by omega)]; exact mAU
  have f1_115 : rd h1 115 = some (.inl (Sz)) := by rw [s1 _ (by omega)]; exact mSz
  have f1_116 : rd h1 116 = some (.inl (It)) := by rw [s1 _ (by omega)]; exact mIt
  have f1_117 : rd h1 117 = some (.inl (IP)) := by rw [s1 _ (by omega)]; exact mIP
  have f1_118 : rd h1 118 = some (.inl (IR)) := by rw [s1 _ (by omega)]; exact mIR
  have f1_119 : rd h1 119 = some (.inl (IU)) := by rw [s1 _ (by omega)]; exact mIU
  refine g_aload_n dX9_undo_24 0 rfl ?_
  refine g_aload_n dX9_undo_25 0 rfl ?_
  refine g_getf dX9_undo_26 kX9 wfX9_26 (Nat.le_of_ble_eq_true rfl) (f1_98) rfl ?_
  refine g_aload_n dX9_undo_29 0 rfl ?_
  refine g_getf dX9_undo_30 kX9 wfX9_80 (Nat.le_of_ble_eq_true rfl) (f1_98) rfl ?_
  refine g_ialI dX9_undo_33 (f1_103) (by omega) (by omega) ?_
  refine g_top (p1) ?_
  refine g_putv dX9_undo_34 kX9 wfX9_87 (Nat.le_of_ble_eq_true rfl) rfl (fun _ _ => ⟨rfl, rfl⟩) (f1_98) (Nat.le_of_ble_eq_true rfl) (fs' := [.int (nI σ.1.1), .int (nI σ.1.2.1), .ref 99, .ref 100, .ref 101, .int (nI σ.1.2.2.2.1), .ref 102, .int (nI t0.length), .ref 103, .ref 104, .ref 105, .int fo, .int as_, .int sm, .int sk, .ref 106, .ref 107, .ref 108, .int z, .ref 109, .ref 110, .ref 111, .int (nI σ.2.1.1), .ref 112, .ref 113, .ref 114, .ref 115, .ref 116, .int (nI (bI σ.2.2.2.2.1.isSome)), .int iN, .int iM, .int iT, .ref 117, .ref 118, .ref 119]) rfl (fun h2 e2 => ?_)
  have f2_98 : rd h2 98 = some (.inr (9, [.int (nI σ.1.1), .int (nI σ.1.2.1), .ref 99, .ref 100, .ref 101, .int (nI σ.1.2.2.2.1), .ref 102, .int (nI t0.length), .ref 103, .ref 104, .ref 105, .int fo, .int as_, .int sm, .int sk, .ref 106, .ref 107, .ref 108, .int z, .ref 109, .ref 110, .ref 111, .int (nI σ.2.1.1), .ref 112, .ref 113, .ref 114, .ref 115, .ref 116, .int (nI (bI σ.2.2.2.2.1.isSome)), .int iN, .int iM, .int iT, .ref 117, .ref 118, .ref 119])) := by rw [e2]; exact rd_wr_eq (f1_98)
  have s2 : Smo 98 (98 + 1) h1 h2 := by rw [e2]; exact Smo.wr (by omega) (by omega)
  have f2_99 : rd h2 99 = some (.inl (P)) := by rw [s2 _ (by omega)]; exact f1_99
  have f2_100 : rd h2 100 = some (.inl (Ro)) := by rw [s2 _ (by omega)]; exact f1_100
  have f2_101 : rd h2 101 = some (.inl (U)) := by rw [s2 _ (by omega)]; exact f1_101
  have f2_102 : rd h2 102 = some (.inl (rf)) := by rw [s2 _ (by omega)]; exact f1_102
  have f2_103 : rd h2 103 = some (.inl (WM)) := by rw [s2 _ (by omega)]; exact f1_103
  have f2_104 : rd h2 104 = some (.inl (WP)) := by rw [s2 _ (by omega)]; exact f1_104
  have f2_105 : rd h2 105 = some (.inl (WR)) := by rw [s2 _ (by omega)]; exact f1_105
  have f2_106 : rd h2 106 = some (.inl (Tr)) := by rw [s2 _ (by omega)]; exact f1_106
  have f2_107 : rd h2 107 = some (.inl (Ke)) := by rw [s2 _ (by omega)]; exact f1_107
  have f2_108 : rd h2 108 = some (.inl (Co)) := by rw [s2 _ (by omega)]; exact f1_108
  have f2_109 : rd h2 109 = some (.inl (Th)) := by rw [s2 _ (by omega)]; exact f1_109
  have f2_110 : rd h2 110 = some (.inl (Be)) := by rw [s2 _ (by omega)]; exact f1_110
  have f2_111 : rd h2 111 = some (.inl (Le)) := by rw [s2 _ (by omega)]; exact f1_111
  have f2_112 : rd h2 112 = some (.inl (AP)) := by rw [s2 _ (by omega)]; exact f1_112
  have f2_113 : rd h2 113 = some (.inl (AR)) := by rw [s2 _ (by omega)]; exact f1_113
  have f2_114 : rd h2 114 = some (.inl (AU)) := by rw [s2 _ (by omega)]; exact f1_114
  have f2_115 : rd h2 115 = some (.inl (Sz)) := by rw [s2 _ (by omega)]; exact f1_115
  have f2_116 : rd h2 116 = some (.inl (It)) := by rw [s2 _ (by omega)]; exact f1_116
  have f2_117 : rd h2 117 = some (.inl (IP)) := by rw [s2 _ (by omega)]; exact f1_117
  have f2_118 : rd h2 118 = some (.inl (IR)) := by rw [s2 _ (by omega)]; exact f1_118
  have f2_119 : rd h2 119 = some (.inl (IU)) := by rw [s2 _ (by omega)]; exact f1_119
  refine g_aload_n dX9_undo_37 0 rfl ?_
  refine g_getf dX9_undo_38 kX9 wfX9_29 (Nat.le_of_ble_eq_true rfl) (f2_98) rfl ?_
  refine g_aload_n dX9_undo_41 0 rfl ?_
  refine g_getf dX9_undo_42 kX9 wfX9_80 (Nat.le_of_ble_eq_true rfl) (f2_98) rfl ?_
  refine g_iconst (v := nI 3) dX9_undo_45 (by decide +kernel) ?_
  refine g_imulN dX9_undo_46 ?_
  refine g_bipush (v := nI 6) dX9_undo_47 (by decide +kernel) ?_
  refine g_imulN dX9_undo_49 ?_
  refine g_aload_n dX9_undo_50 0 rfl ?_
  refine g_getf dX9_undo_51 kX9 wfX9_13 (Nat.le_of_ble_eq_true rfl) (f2_98) rfl ?_
  refine g_iconst (v := nI 0) dX9_undo_54 (by decide +kernel) ?_
  refine g_bipush (v := nI 18) dX9_undo_55 (by decide +kernel) ?_
  have la3 : (WP).length = 216 := lWP
  have lb3 : (P).length = 18 := lP
  refine g_callSq (st1 := []) dX9_undo_57 (ev_mlays (a := (t0.length * 3) * 6) (b := 0) (s := 18) (show 104 ≠ 99 by decide) (by omega) (by omega) ⟨by omega, by omega⟩ (f2_104) (f2_99)) oX9_lays wsX9_lays wmX9_83 rfl ⟨(Nat.le_of_ble_eq_true rfl), (Nat.le_of_ble_eq_true rfl)⟩ ⟨Nat.zero_le _, Nat.zero_le _⟩ (Nat.le_of_ble_eq_true rfl) rfl rfl (fun h4 q4 => ?_)
  obtain ⟨q4a, q4s⟩ := q4
  have f4_98 : rd h4 98 = some (.inr (9, [.int (nI σ.1.1), .int (nI σ.1.2.1), .ref 99, .ref 100, .ref 101, .int (nI σ.1.2.2.2.1), .ref 102, .int (nI t0.length), .ref 103, .ref 104, .ref 105, .int fo, .int as_, .int sm, .int sk, .ref 106, .ref 107, .ref 108, .int z, .ref 109, .ref 110, .ref 111, .int (nI σ.2.1.1), .ref 112, .ref 113, .ref 114, .ref 115, .ref 116, .int (nI (bI σ.2.2.2.2.1.isSome)), .int iN, .int iM, .int iT, .ref 117, .ref 118, .ref 119])) := by rw [q4s _ (by omega)]; exact f2_98
  have f4_100 : rd h4 100 = some (.inl (Ro)) := by rw [q4s _ (by omega)]; exact f2_100
  have f4_101 : rd h4 101 = some (.inl (U)) := by rw [q4s _ (by omega)]; exact f2_101
  have f4_102 : rd h4 102 = some (.inl (rf)) := by rw [q4s _ (by omega)]; exact f2_102
  have f4_103 : rd h4 103 = some (.inl (WM)) := by rw [q4s _ (by omega)]; exact f2_103
  have f4_104 : rd h4 104 = some (.inl (WP)) := by rw [q4s _ (by omega)]; exact f2_104
  have f4_105 : rd h4 105 = some (.inl (WR)) := by rw [q4s _ (by omega)]; exact f2_105
  have f4_106 : rd h4 106 = some (.inl (Tr)) := by rw [q4s _ (by omega)]; exact f2_106
  have f4_107 : rd h4 107 = some (.inl (Ke)) := by rw [q4s _ (by omega)]; exact f2_107
  have f4_108 : rd h4 108 = some (.inl (Co)) := by rw [q4s _ (by omega)]; exact f2_108
  have f4_109 : rd h4 109 = some (.inl (Th)) := by rw [q4s _ (by omega)]; exact f2_109
  have f4_110 : rd h4 110 = some (.inl (Be)) := by rw [q4s _ (by omega)]; exact f2_110
  have f4_111 : rd h4 111 = some (.inl (Le)) := by rw [q4s _ (by omega)]; exact f2_111
  have f4_112 : rd h4 112 = some (.inl (AP)) := by rw [q4s _ (by omega)]; exact f2_112
  have f4_113 : rd h4 113 = some (.inl (AR)) := by rw [q4s _ (by omega)]; exact f2_113
  have f4_114 : rd h4 114 = some (.inl (AU)) := by rw [q4s _ (by omega)]; exact f2_114
  have f4_115 : rd h4 115 = some (.inl (Sz)) := by rw [q4s _ (by omega)]; exact f2_115
  have f4_116 : rd h4 116 = some (.inl (It)) := by rw [q4s _ (by omega)]; exact f2_116
  have f4_117 : rd h4 117 = some (.inl (IP)) := by rw [q4s _ (by omega)]; exact f2_117
  have f4_118 : rd h4 118 = some (.inl (IR)) := by rw [q4s _ (by omega)]; exact f2_118
  have f4_119 : rd h4 119 = some (.inl (IU)) := by rw [q4s _ (by omega)]; exact f2_119
  refine g_aload_n dX9_undo_60 0 rfl ?_
  refine g_getf dX9_undo_61 kX9 wfX9_32 (Nat.le_of_ble_eq_true rfl) (f4_98) rfl ?_
  refine g_aload_n dX9_undo_64 0 rfl ?_
  refine g_getf dX9_undo_65 kX9 wfX9_80 (Nat.le_of_ble_eq_true rfl) (f4_98) rfl ?_
  refine g_iconst (v := nI 2) dX9_undo_68 (by decide +kernel) ?_
  refine g_imulN dX9_undo_69 ?_
  refine g_sipush (v := nI 169) dX9_undo_70 (by decide +kernel) ?_
  refine g_imulN dX9_undo_73 ?_
  refine g_aload_n dX9_undo_74 0 rfl ?_
  refine g_getf dX9_undo_75 kX9 wfX9_17 (Nat.le_of_ble_eq_true rfl) (f4_98) rfl ?_
  refine g_iconst (v := nI 0) dX9_undo_78 (by decide +kernel) ?_
  refine g_sipush (v := nI 338) dX9_undo_79 (by decide +kernel) ?_
  have la5 : (WR).length = 4056 := lWR
  have lb5 : (Ro).length = 338 := lRo
  refine g_callSq (st1 := []) dX9_undo_82 (ev_mlays (a := (t0.length * 2) * 169) (b := 0) (s := 338) (show 105 ≠ 100 by decide) (by omega) (by omega) ⟨by omega, by omega⟩ (f4_105) (f4_100)) oX9_lays wsX9_lays wmX9_83 rfl ⟨(Nat.le_of_ble_eq_true rfl), (Nat.le_of_ble_eq_true rfl)⟩ ⟨Nat.zero_le _, Nat.zero_le _⟩ (Nat.le_of_ble_eq_true rfl) rfl rfl (fun h6 q6 => ?_)
  obtain ⟨q6a, q6s⟩ := q6
  have f6_98 : rd h6 98 = some (.inr (9, [.int (nI σ.1.1), .int (nI σ.1.2.1), .ref 99, .ref 100, .ref 101, .int (nI σ.1.2.2.2.1), .ref 102, .int (nI t0.length), .ref 103, .ref 104, .ref 105, .int fo, .int as_, .int sm, .int sk, .ref 106, .ref 107, .ref 108, .int z, .ref 109, .ref 110, .ref 111, .int (nI σ.2.1.1), .ref 112, .ref 113, .ref 114, .ref 115, .ref 116, .int (nI (bI σ.2.2.2.2.1.isSome)), .int iN, .int iM, .int iT, .ref 117, .ref 118, .ref 119])) := by rw [q6s _ (by omega)]; exact f4_98
  have f6_101 : rd h6 101 = some (.inl (U)) := by rw [q6s _ (by omega)]; exact f4_101
  have f6_102 : rd h6 102 = some (.inl (rf)) := by rw [q6s _ (by omega)]; exact f4_102
  have f6_103 : rd h6 103 = some (.inl (WM)) := by rw [q6s _ (by omega)]; exact f4_103
  have f6_104 : rd h6 104 = some (.inl (WP)) := by rw [q6s _ (by omega)]; exact f4_104
  have f6_105 : rd h6 105 = some (.inl (WR)) := by rw [q6s _ (by omega)]; exact f4_105
  have f6_106 : rd h6 106 = some (.inl (Tr)) := by rw [q6s _ (by omega)]; exact f4_106
  have f6_107 : rd h6 107 = some (.inl (Ke)) := by rw [q6s _ (by omega)]; exact f4_107
  have f6_108 : rd h6 108 = some (.inl (Co)) := by rw [q6s _ (by omega)]; exact f4_108
  have f6_109 : rd h6 109 = some (.inl (Th)) := by rw [q6s _ (by omega)]; exact f4_109
  have f6_110 : rd h6 110 = some (.inl (Be)) := by rw [q6s _ (by omega)]; exact f4_110
  have f6_111 : rd h6 111 = some (.inl (Le)) := by rw [q6s _ (by omega)]; exact f4_111
  have f6_112 : rd h6 112 = some (.inl (AP)) := by rw [q6s _ (by omega)]; exact f4_112
  have f6_113 : rd h6 113 = some (.inl (AR)) := by rw [q6s _ (by omega)]; exact f4_113
  have f6_114 : rd h6 114 = some (.inl (AU)) := by rw [q6s _ (by omega)]; exact f4_114
  have f6_115 : rd h6 115 = some (.inl (Sz)) := by rw [q6s _ (by omega)]; exact f4_115
  have f6_116 : rd h6 116 = some (.inl (It)) := by rw [q6s _ (by omega)]; exact f4_116
  have f6_117 : rd h6 117 = some (.inl (IP)) := by rw [q6s _ (by omega)]; exact f4_117
  have f6_118 : rd h6 118 = some (.inl (IR)) := by rw [q6s _ (by omega)]; exact f4_118
  have f6_119 : rd h6 119 = some (.inl (IU)) := by rw [q6s _ (by omega)]; exact f4_119
  have f6_99 : rd h6 99 = some (.inl (cpL (WP) ((t0.length * 3) * 6) (P) 0 18)) := by rw [q6s _ (by omega)]; exact q4a
  refine g_aload_n dX9_undo_85 0 rfl ?_
  refine g_getf dX9_undo_86 kX9 wfX9_80 (Nat.le_of_ble_eq_true rfl) (f6_98) rfl ?_
  exact g_iret dX9_undo_89 rfl ⟨Nat.zero_le _, Nat.zero_le _⟩ (⟨rfl, ⟨_, _, _, _, _, _, _, _, _, _, _, _, _, _, _, _, _, _, _, _, _, _, _, _, _, _, _, _, _, f6_98, ⟨f6_99, ((cpL_len _ _ _ _ _).trans lb3)⟩, ⟨q6a, ((cpL_len _ _ _ _ _).trans lb5)⟩, ⟨f6_101, lU⟩, ⟨f6_102, lrf⟩, ⟨f6_103, lWM⟩, ⟨f6_104, lWP⟩, ⟨f6_105, lWR⟩, ⟨f6_106, lTr⟩, ⟨f6_107, lKe⟩, ⟨f6_108, lCo⟩, ⟨f6_109, lTh⟩, ⟨f6_110, lBe⟩, ⟨f6_111, lLe⟩, ⟨f6_112, lAP⟩, ⟨f6_113, lAR⟩, ⟨f6_114, lAU⟩, ⟨f6_115, lSz⟩, ⟨f6_116, lIt⟩, ⟨f6_117, lIP⟩, ⟨f6_118, lIR⟩, ⟨f6_119, lIU⟩, (pR_cg p2 hm6 (fun i hi => by have z := cpL_in (A := WP) (a := t0.length * 3 * 6) (B := P) (b := 0) 18 (by omega) hi; rw [show 18 * t0.length = t0.length * 3 * 6 by omega]; exact z)), (rR_cg p3 (fun i hi => by have z := cpL_in (A := WR) (a := t0.length * 2 * 169) (B := Ro) (b := 0) 338 (by omega) hi; rw [show 338 * t0.length = t0.length * 2 * 169 by omega]; exact z)), vU, vF, p4, vL, vS, vI, vG⟩, (fun q hq => by rw [q6s q (by omega), q4s q (by omega), s2 q (by omega), s1 q (by omega)])⟩)

theorem ev_y_undo {h : List aC} {σ : Sg} (H : RM h σ) (ok : okSg σ) : Ev mX9_undo 2 0 0 [.ref 98] h (spM h (oUndo σ)) := by
  rcases eh : σ.2.2.2.1 with _ | ⟨e0, t0⟩
  · exact ev_y_undo0 H ok eh
  · exact ev_y_undo1 H ok e0 t0 eh

set_option maxRecDepth 100000 in
set_option maxHeartbeats 4000000 in
theorem ev_y_image {h : List aC} {σ : Sg} (H : RM h σ) (ok : okSg σ) : Ev mX9_image 2 0 0 [.ref 98] h (spM h (oImage σ)) := by
  obtain ⟨fo, as_, sm, sk, z, iN, iM, iT, P, Ro, U, rf, WM, WP, WR, Tr, Ke, Co, Th, Be, Le, AP, AR, AU, Sz, It, IP, IR, IU, mO, mP, mRo, mU, mrf, mWM, mWP, mWR, mTr, mKe, mCo, mTh, mBe, mLe, mAP, mAR, mAU, mSz, mIt, mIP, mIR, mIU, vP, vR, vU, vF, vH, vL, vS, vI, vG⟩ := id H
  have mO : rd h 98 = some (.inr (9, [.int (nI σ.1.1), .int (nI σ.1.2.1), .ref 99, .ref 100, .ref 101, .int (nI σ.1.2.2.2.1), .ref 102, .int (nI ((σ.2.2.2.1).length)), .ref 103, .ref 104, .ref 105, .int fo, .int as_, .int sm, .int sk, .ref 106, .ref 107, .ref 108, .int z, .ref 109, .ref 110, .ref 111, .int (nI σ.2.1.1), .ref 112, .ref 113, .ref 114, .ref 115, .ref 116, .int (nI (bI σ.2.2.2.2.1.isSome)), .int iN, .int iM, .int iT, .ref 117, .ref 118, .ref 119])) := mO
  obtain ⟨mP, lP⟩ := mP
  obtain ⟨mRo, lRo⟩ := mRo
  obtain ⟨mU, lU⟩ := mU
  obtain ⟨mrf, lrf⟩ := mrf
  obtain ⟨mWM, lWM⟩ := mWM
  obtain ⟨mWP, lWP⟩ := mWP
  obtain ⟨mWR, lWR⟩ := mWR
  obtain ⟨mTr, lTr⟩ := mTr
  obtain ⟨mKe, lKe⟩ := mKe
  obtain ⟨mCo, lCo⟩ := mCo
  obtain ⟨mTh, lTh⟩ := mTh
  obtain ⟨mBe, lBe⟩ := mBe
  obtain ⟨mLe, lLe⟩ := mLe
  obtain ⟨mAP, lAP⟩ := mAP
  obtain ⟨mAR, lAR⟩ := mAR
  obtain ⟨mAU, lAU⟩ := mAU
  obtain ⟨mSz, lSz⟩ := mSz
  obtain ⟨mIt, lIt⟩ := mIt
  obtain ⟨mIP, lIP⟩ := mIP
  obtain ⟨mIR, lIR⟩ := mIR
  obtain ⟨mIU, lIU⟩ := mIU
  obtain ⟨okc, ⟨okl, okw⟩, okn, ⟨okh, oke⟩, oki, okr⟩ := id ok
  obtain ⟨k1, k2, k3, k4, k5, k6, k7, k8, k9⟩ := id okc
  have hm6 : σ.1.2.1 ≤ 6 := by omega
  refine Ev.of pX9_image (Nat.le_of_ble_eq_true rfl) ?_
  show G mX9_image (rmD 2 0 0) none _ 0 0 0 [(0, .ref 98)] [] h
  refine g_aload_n dX9_image_0 0 rfl ?_
  refine g_iconst (v := nI 1) dX9_image_1 (by decide +kernel) ?_
  refine g_putv dX9_image_2 kX9 wfX9_264 (Nat.le_of_ble_eq_true rfl) rfl (fun _ _ => ⟨rfl, rfl⟩) (mO) (Nat.le_of_ble_eq_true rfl) (fs' := [.int (nI σ.1.1), .int (nI σ.1.2.1), .ref 99, .ref 100, .ref 101, .int (nI σ.1.2.2.2.1), .ref 102, .int (nI ((σ.2.2.2.1).length)), .ref 103, .ref 104, .ref 105, .int fo, .int as_, .int sm, .int sk, .ref 106, .ref 107, .ref 108, .int z, .ref 109, .ref 110, .ref 111, .int (nI σ.2.1.1), .ref 112, .ref 113, .ref 114, .ref 115, .ref 116, .int (nI 1), .int iN, .int iM, .int iT, .ref 117, .ref 118, .ref 119]) rfl (fun h1 e1 => ?_)
  have f1_98 : rd h1 98 = some (.inr (9, [.int (nI σ.1.1), .int (nI σ.1.2.1), .ref 99, .ref 100, .ref 101, .int (nI σ.1.2.2.2.1), .ref 102, .int (nI ((σ.2.2.2.1).length)), .ref 103, .ref 104, .ref 105, .int fo, .int as_, .int sm, .int sk, .ref 106, .ref 107, .ref 108, .int z, .ref 109, .ref 110, .ref 111, .int (nI σ.2.1.1), .ref 112, .ref 113, .ref 114, .ref 115, .ref 116, .int (nI 1), .int iN, .int iM, .int iT, .ref 117, .ref 118, .ref 119])) := by rw [e1]; exact rd_wr_eq (mO)
  have s1 : Smo 98 (98 + 1) h h1 := by rw [e1]; exact Smo.wr (by omega) (by omega)
  have f1_99 : rd h1 99 = some (.inl (P)) := by rw [s1 _ (by omega)]; exact mP
  have f1_100 : rd h1 100 = some (.inl (Ro)) := by rw [s1 _ (by omega)]; exact mRo
  have f1_101 : rd h1 101 = some (.inl (U)) := by rw [s1 _ (by omega)]; exact mU
  have f1_102 : rd h1 102 = some (.inl (rf)) := by rw [s1 _ (by omega)]; exact mrf
  have f1_103 : rd h1 103 = some (.inl (WM)) := by rw [s1 _ (by omega)]; exact mWM
  have f1_104 : rd h1 104 = some (.inl (WP)) := by rw [s1 _ (by omega)]; exact mWP
  have f1_105 : rd h1 105 = some (.inl (WR)) := by rw [s1 _ (by omega)]; exact mWR
  have f1_106 : rd h1 106 = some (.inl (Tr)) := by rw [s1 _ (by omega)]; exact mTr
  have f1_107 : rd h1 107 = some (.inl (Ke)) := by rw [s1 _ (by omega)]; exact mKe
  have f1_108 : rd h1 108 = some (.inl (Co)) := by rw [s1 _ (by omega)]; exact mCo
  have f1_109 : rd h1 109 = some (.inl (Th)) := by rw [s1 _ (by omega)]; exact mTh
  have f1_110 : rd h1 110 = some (.inl (Be)) := by rw [s1 _ (by omega)]; exact mBe
  have f1_111 : rd h1 111 = some (.inl (Le)) := by rw [s1 _ (by omega)]; exact mLe
  have f1_112 : rd h1 112 = some (.inl (AP)) := by rw [s1 _ (by omega)]; exact mAP
  have f1_113 : rd h1 113 = some (.inl (AR)) := by rw [s1 _ (by omega)]; exact mAR
  have f1_114 : rd h1 114 = some (.inl (AU)) := by rw [s1 _ (by omega)]; exact mAU
  have f1_115 : rd h1 115 = some (.inl (Sz)) := by rw [s1 _ (by omega)]; exact mSz
  have f1_116 : rd h1 116 = some (.inl (It)) := by rw [s1 _ (by omega)]; exact mIt
  have f1_117 : rd h1 117 = some (.inl (IP)) := by rw [s1 _ (by omega)]; exact mIP
  have f1_118 : rd h1 118 = some (.inl (IR)) := by rw [s1 _ (by omega)]; exact mIR
  have f1_119 : rd h1 119 = some (.inl (IU)) := by rw [s1 _ (by omega)]; exact mIU
  refine g_aload_n dX9_image_5 0 rfl ?_
  refine g_aload_n dX9_image_6 0 rfl ?_
  refine g_getf dX9_image_7 kX9 wfX9_7 (Nat.le_of_ble_eq_true rfl) (f1_98) rfl ?_
  refine g_putv dX9_image_10 kX9 wfX9_268 (Nat.le_of_ble_eq_true rfl) rfl (fun _ _ => ⟨rfl, rfl⟩) (f1_98) (Nat.le_of_ble_eq_true rfl) (fs' := [.int (nI σ.1.1), .int (nI σ.1.2.1), .ref 99, .ref 100, .ref 101, .int (nI σ.1.2.2.2.1), .ref 102, .int (nI ((σ.2.2.2.1).length)), .ref 103, .ref 104, .ref 105, .int fo, .int as_, .int sm, .int sk, .ref 106, .ref 107, .ref 108, .int z, .ref 109, .ref 110, .ref 111, .int (nI σ.2.1.1), .ref 112, .ref 113, .ref 114, .ref 115, .ref 116, .int (nI 1), .int (nI σ.1.1), .int iM, .int iT, .ref 117, .ref 118, .ref 119]) rfl (fun h2 e2 => ?_)
  have f2_98 : rd h2 98 = some (.inr (9, [.int (nI σ.1.1), .int (nI σ.1.2.1), .ref 99, .ref 100, .ref 101, .int (nI σ.1.2.2.2.1), .ref 102, .int (nI ((σ.2.2.2.1).length)), .ref 103, .ref 104, .ref 105, .int fo, .int as_, .int sm, .int sk, .ref 106, .ref 107, .ref 108, .int z, .ref 109, .ref 110, .ref 111, .int (nI σ.2.1.1), .ref 112, .ref 113, .ref 114, .ref 115, .ref 116, .int (nI 1), .int (nI σ.1.1), .int iM, .int iT, .ref 117, .ref 118, .ref 119])) := by rw [e2]; exact rd_wr_eq (f1_98)
  have s2 : Smo 98 (98 + 1) h1 h2 := by rw [e2]; exact Smo.wr (by omega) (by omega)
  have f2_99 : rd h2 99 = some (.inl (P)) := by rw [s2 _ (by omega)]; exact f1_99
  have f2_100 : rd h2 100 = some (.inl (Ro)) := by rw [s2 _ (by omega)]; exact f1_100
  have f2_101 : rd h2 101 = some (.inl (U)) := by rw [s2 _ (by omega)]; exact f1_101
  have f2_102 : rd h2 102 = some (.inl (rf)) := by rw [s2 _ (by omega)]; exact f1_102
  have f2_103 : rd h2 103 = some (.inl (WM)) := by rw [s2 _ (by omega)]; exact f1_103
  have f2_104 : rd h2 104 = some (.inl (WP)) := by rw [s2 _ (by omega)]; exact f1_104
  have f2_105 : rd h2 105 = some (.inl (WR)) := by rw [s2 _ (by omega)]; exact f1_105
  have f2_106 : rd h2 106 = some (.inl (Tr)) := by rw [s2 _ (by omega)]; exact f1_106
  have f2_107 : rd h2 107 = some (.inl (Ke)) := by rw [s2 _ (by omega)]; exact f1_107
  have f2_108 : rd h2 108 = some (.inl (Co)) := by rw [s2 _ (by omega)]; exact f1_108
  have f2_109 : rd h2 109 = some (.inl (Th)) := by rw [s2 _ (by omega)]; exact f1_109
  have f2_110 : rd h2 110 = some (.inl (Be)) := by rw [s2 _ (by omega)]; exact f1_110
  have f2_111 : rd h2 111 = some (.inl (Le)) := by rw [s2 _ (by omega)]; exact f1_111
  have f2_112 : rd h2 112 = some (.inl (AP)) := by rw [s2 _ (by omega)]; exact f1_112
  have f2_113 : rd h2 113 = some (.inl (AR)) := by rw [s2 _ (by omega)]; exact f1_113
  have f2_114 : rd h2 114 = some (.inl (AU)) := by rw [s2 _ (by omega)]; exact f1_114
  have f2_115 : rd h2 115 = some (.inl (Sz)) := by rw [s2 _ (by omega)]; exact f1_115
  have f2_116 : rd h2 116 = some (.inl (It)) := by rw [s2 _ (by omega)]; exact f1_116
  have f2_117 : rd h2 117 = some (.inl (IP)) := by rw [s2 _ (by omega)]; exact f1_117
  have f2_118 : rd h2 118 = some (.inl (IR)) := by rw [s2 _ (by omega)]; exact f1_118
  have f2_119 : rd h2 119 = some (.inl (IU)) := by rw [s2 _ (by omega)]; exact f1_119
  refine g_aload_n dX9_image_13 0 rfl ?_
  refine g_aload_n dX9_image_14 0 rfl ?_
  refine g_getf dX9_image_15 kX9 wfX9_87 (Nat.le_of_ble_eq_true rfl) (f2_98) rfl ?_
  refine g_putv dX9_image_18 kX9 wfX9_271 (Nat.le_of_ble_eq_true rfl) rfl (fun _ _ => ⟨rfl, rfl⟩) (f2_98) (Nat.le_of_ble_eq_true rfl) (fs' := [.int (nI σ.1.1), .int (nI σ.1.2.1), .ref 99, .ref 100, .ref 101, .int (nI σ.1.2.2.2.1), .ref 102, .int (nI ((σ.2.2.2.1).length)), .ref 103, .ref 104, .ref 105, .int fo, .int as_, .int sm, .int sk, .ref 106, .ref 107, .ref 108, .int z, .ref 109, .ref 110, .ref 111, .int (nI σ.2.1.1), .ref 112, .ref 113, .ref 114, .ref 115, .ref 116, .int (nI 1), .int (nI σ.1.1), .int (nI σ.1.2.1), .int iT, .ref 117, .ref 118, .ref 119]) rfl (fun h3 e3 => ?_)
  have f3_98 : rd h3 98 = some (.inr (9, [.int (nI σ.1.1), .int (nI σ.1.2.1), .ref 99, .ref 100, .ref 101, .int (nI σ.1.2.2.2.1), .ref 102, .int (nI ((σ.2.2.2.1).length)), .ref 103, .ref 104, .ref 105, .int fo, .int as_, .int sm, .int sk, .ref 106, .ref 107, .ref 108, .int z, .ref 109, .ref 110, .ref 111, .int (nI σ.2.1.1), .ref 112, .ref 113, .ref 114, .ref 115, .ref 116, .int (nI 1), .int (nI σ.1.1), .int (nI σ.1.2.1), .int iT, .ref 117, .ref 118, .ref 119])) := by rw [e3]; exact rd_wr_eq (f2_98)
  have s3 : Smo 98 (98 + 1) h2 h3 := by rw [e3]; exact Smo.wr (by omega) (by omega)
  have f3_99 : rd h3 99 = some (.inl (P)) := by rw [s3 _ (by omega)]; exact f2_99
  have f3_100 : rd h3 100 = some (.inl (Ro)) := by rw [s3 _ (by omega)]; exact f2_100
  have f3_101 : rd h3 101 = some (.inl (U)) := by rw [s3 _ (by omega)]; exact f2_101
  have f3_102 : rd h3 102 = some (.inl (rf)) := by rw [s3 _ (by omega)]; exact f2_102
  have f3_103 : rd h3 103 = some (.inl (WM)) := by rw [s3 _ (by omega)]; exact f2_103
  have f3_104 : rd h3 104 = some (.inl (WP)) := by rw [s3 _ (by omega)]; exact f2_104
  have f3_105 : rd h3 105 = some (.inl (WR)) := by rw [s3 _ (by omega)]; exact f2_105
  have f3_106 : rd h3 106 = some (.inl (Tr)) := by rw [s3 _ (by omega)]; exact f2_106
  have f3_107 : rd h3 107 = some (.inl (Ke)) := by rw [s3 _ (by omega)]; exact f2_107
  have f3_108 : rd h3 108 = some (.inl (Co)) := by rw [s3 _ (by omega)]; exact f2_108
  have f3_109 : rd h3 109 = some (.inl (Th)) := by rw [s3 _ (by omega)]; exact f2_109
  have f3_110 : rd h3 110 = some (.inl (Be)) := by rw [s3 _ (by omega)]; exact f2_110
  have f3_111 : rd h3 111 = some (.inl (Le)) := by rw [s3 _ (by omega)]; exact f2_111
  have f3_112 : rd h3 112 = some (.inl (AP)) := by rw [s3 _ (by omega)]; exact f2_112
  have f3_113 : rd h3 113 = some (.inl (AR)) := by rw [s3 _ (by omega)]; exact f2_113
  have f3_114 : rd h3 114 = some (.inl (AU)) := by rw [s3 _ (by omega)]; exact f2_114
  have f3_115 : rd h3 115 = some (.inl (Sz)) := by rw [s3 _ (by omega)]; exact f2_115
  have f3_116 : rd h3 116 = some (.inl (It)) := by rw [s3 _ (by omega)]; exact f2_116
  have f3_117 : rd h3 117 = some (.inl (IP)) := by rw [s3 _ (by omega)]; exact f2_117
  have f3_118 : rd h3 118 = some (.inl (IR)) := by rw [s3 _ (by omega)]; exact f2_118
  have f3_119 : rd h3 119 = some (.inl (IU)) := by rw [s3 _ (by omega)]; exact f2_119
  refine g_aload_n dX9_image_21 0 rfl ?_
  refine g_aload_n dX9_image_22 0 rfl ?_
  refine g_getf dX9_image_23 kX9 wfX9_102 (Nat.le_of_ble_eq_true rfl) (f3_98) rfl ?_
  refine g_putv dX9_image_26 kX9 wfX9_274 (Nat.le_of_ble_eq_true rfl) rfl (fun _ _ => ⟨rfl, rfl⟩) (f3_98) (Nat.le_of_ble_eq_true rfl) (fs' := [.int (nI σ.1.1), .int (nI σ.1.2.1), .ref 99, .ref 100, .ref 101, .int (nI σ.1.2.2.2.1), .ref 102, .int (nI ((σ.2.2.2.1).length)), .ref 103, .ref 104, .ref 105, .int fo, .int as_, .int sm, .int sk, .ref 106, .ref 107, .ref 108, .int z, .ref 109, .ref 110, .ref 111, .int (nI σ.2.1.1), .ref 112, .ref 113, .ref 114, .ref 115, .ref 116, .int (nI 1), .int (nI σ.1.1), .int (nI σ.1.2.1), .int (nI σ.1.2.2.2.1), .ref 117, .ref 118, .ref 119]) rfl (fun h4 e4 => ?_)
  have f4_98 : rd h4 98 = some (.inr (9, [.int (nI σ.1.1), .int (nI σ.1.2.1), .ref 99, .ref 100, .ref 101, .int (nI σ.1.2.2.2.1), .ref 102, .int (nI ((σ.2.2.2.1).length)), .ref 103, .ref 104, .ref 105, .int fo, .int as_, .int sm, .int sk, .ref 106, .ref 107, .ref 108, .int z, .ref 109, .ref 110, .ref 111, .int (nI σ.2.1.1), .ref 112, .ref 113, .ref 114, .ref 115, .ref 116, .int (nI 1), .int (nI σ.1.1), .int (nI σ.1.2.1), .int (nI σ.1.2.2.2.1), .ref 117, .ref 118, .ref 119])) := by rw [e4]; exact rd_wr_eq (f3_98)
  have s4 : Smo 98 (98 + 1) h3 h4 := by rw [e4]; exact Smo.wr (by omega) (by omega)
  have f4_99 : rd h4 99 = some (.inl (P)) := by rw [s4 _ (by omega)]; exact f3_99
  have f4_100 : rd h4 100 = some (.inl (Ro)) := by rw [s4 _ (by omega)]; exact f3_100
  have f4_101 : rd h4 101 = some (.inl (U)) := by rw [s4 _ (by omega)]; exact f3_101
  have f4_102 : rd h4 102 = some (.inl (rf)) := by rw [s4 _ (by omega)]; exact f3_102
  have f4_103 : rd h4 103 = some (.inl (WM)) := by rw [s4 _ (by omega)]; exact f3_103
  have f4_104 : rd h4 104 = some (.inl (WP)) := by rw [s4 _ (by omega)]; exact f3_104
  have f4_105 : rd h4 105 = some (.inl (WR)) := by rw [s4 _ (by omega)]; exact f3_105
  have f4_106 : rd h4 106 = some (.inl (Tr)) := by rw [s4 _ (by omega)]; exact f3_106
  have f4_107 : rd h4 107 = some (.inl (Ke)) := by rw [s4 _ (by omega)]; exact f3_107
  have f4_108 : rd h4 108 = some (.inl (Co)) := by rw [s4 _ (by omega)]; exact f3_108
  have f4_109 : rd h4 109 = some (.inl (Th)) := by rw [s4 _ (by omega)]; exact f3_109
  have f4_110 : rd h4 110 = some (.inl (Be)) := by rw [s4 _ (by omega)]; exact f3_110
  have f4_111 : rd h4 111 = some (.inl (Le)) := by rw [s4 _ (by omega)]; exact f3_111
  have f4_112 : rd h4 112 = some (.inl (AP)) := by rw [s4 _ (by omega)]; exact f3_112
  have f4_113 : rd h4 113 = some (.inl (AR)) := by rw [s4 _ (by omega)]; exact f3_113
  have f4_114 : rd h4 114 = some (.inl (AU)) := by rw [s4 _ (by omega)]; exact f3_114
  have f4_115 : rd h4 115 = some (.inl (Sz)) := by rw [s4 _ (by omega)]; exact f3_115
  have f4_116 : rd h4 116 = some (.inl (It)) := by rw [s4 _ (by omega)]; exact f3_116
  have f4_117 : rd h4 117 = some (.inl (IP)) := by rw [s4 _ (by omega)]; exact f3_117
  have f4_118 : rd h4 118 = some (.inl (IR)) := by rw [s4 _ (by omega)]; exact f3_118
  have f4_119 : rd h4 119 = some (.inl (IU)) := by rw [s4 _ (by omega)]; exact f3_119
  refine g_aload_n dX9_image_29 0 rfl ?_
  refine g_getf dX9_image_30 kX9 wfX9_13 (Nat.le_of_ble_eq_true rfl) (f4_98) rfl ?_
  refine g_iconst (v := nI 0) dX9_image_33 (by decide +kernel) ?_
  refine g_aload_n dX9_image_34 0 rfl ?_
  refine g_getf dX9_image_35 kX9 wfX9_68 (Nat.le_of_ble_eq_true rfl) (f4_98) rfl ?_
  refine g_iconst (v := nI 0) dX9_image_38 (by decide +kernel) ?_
  refine g_bipush (v := nI 18) dX9_image_39 (by decide +kernel) ?_
  have la5 : (P).length = 18 := lP
  have lb5 : (IP).length = 18 := lIP
  refine g_callSq (st1 := []) dX9_image_41 (ev_mlays (a := 0) (b := 0) (s := 18) (show 99 ≠ 117 by decide) (by omega) (by omega) ⟨by omega, by omega⟩ (f4_99) (f4_117)) oX9_lays wsX9_lays wmX9_83 rfl ⟨(Nat.le_of_ble_eq_true rfl), (Nat.le_of_ble_eq_true rfl)⟩ ⟨Nat.zero_le _, Nat.zero_le _⟩ (Nat.le_of_ble_eq_true rfl) rfl rfl (fun h6 q6 => ?_)
  obtain ⟨q6a, q6s⟩ := q6
  have f6_98 : rd h6 98 = some (.inr (9, [.int (nI σ.1.1), .int (nI σ.1.2.1), .ref 99, .ref 100, .ref 101, .int (nI σ.1.2.2.2.1), .ref 102, .int (nI ((σ.2.2.2.1).length)), .ref 103, .ref 104, .ref 105, .int fo, .int as_, .int sm, .int sk, .ref 106, .ref 107, .ref 108, .int z, .ref 109, .ref 110, .ref 111, .int (nI σ.2.1.1), .ref 112, .ref 113, .ref 114, .ref 115, .ref 116, .int (nI 1), .int (nI σ.1.1), .int (nI σ.1.2.1), .int (nI σ.1.2.2.2.1), .ref 117, .ref 118, .ref 119])) := by rw [q6s _ (by omega)]; exact f4_98
  have f6_99 : rd h6 99 = some (.inl (P)) := by rw [q6s _ (by omega)]; exact f4_99
  have f6_100 : rd h6 100 = some (.inl (Ro)) := by rw [q6s _ (by omega)]; exact f4_100
  have f6_101 : rd h6 101 = some (.inl (U)) := by rw [q6s _ (by omega)]; exact f4_101
  have f6_102 : rd h6 102 = some (.inl (rf)) := by rw [q6s _ (by omega)]; exact f4_102
  have f6_103 : rd h6 103 = some (.inl (WM)) := by rw [q6s _ (by omega)]; exact f4_103
  have f6_104 : rd h6 104 = some (.inl (WP)) := by rw [q6s _ (by omega)]; exact f4_104
  have f6_105 : rd h6 105 = some (.inl (WR)) := by rw [q6s _ (by omega)]; exact f4_105
  have f6_106 : rd h6 106 = some (.inl (Tr)) := by rw [q6s _ (by omega)]; exact f4_106
  have f6_107 : rd h6 107 = some (.inl (Ke)) := by rw [q6s _ (by omega)]; exact f4_107
  have f6_108 : rd h6 108 = some (.inl (Co)) := by rw [q6s _ (by omega)]; exact f4_108
  have f6_109 : rd h6 109 = some (.inl (Th)) := by rw [q6s _ (by omega)]; exact f4_109
  have f6_110 : rd h6 110 = some (.inl (Be)) := by rw [q6s _ (by omega)]; exact f4_110
  have f6_111 : rd h6 111 = some (.inl (Le)) := by rw [q6s _ (by omega)]; exact f4_111
  have f6_112 : rd h6 112 = some (.inl (AP)) := by rw [q6s _ (by omega)]; exact f4_112
  have f6_113 : rd h6 113 = some (.inl (AR)) := by rw [q6s _ (by omega)]; exact f4_113
  have f6_114 : rd h6 114 = some (.inl (AU)) := by rw [q6s _ (by omega)]; exact f4_114
  have f6_115 : rd h6 115 = some (.inl (Sz)) := by rw [q6s _ (by omega)]; exact f4_115
  have f6_116 : rd h6 116 = some (.inl (It)) := by rw [q6s _ (by omega)]; exact f4_116
  have f6_118 : rd h6 118 = some (.inl (IR)) := by rw [q6s _ (by omega)]; exact f4_118
  have f6_119 : rd h6 119 = some (.inl (IU)) := by rw [q6s _ (by omega)]; exact f4_119
  refine g_aload_n dX9_image_44 0 rfl ?_
  refine g_getf dX9_image_45 kX9 wfX9_17 (Nat.le_of_ble_eq_true rfl) (f6_98) rfl ?_
  refine g_iconst (v := nI 0) dX9_image_48 (by decide +kernel) ?_
  refine g_aload_n dX9_image_49 0 rfl ?_
  refine g_getf dX9_image_50 kX9 wfX9_71 (Nat.le_of_ble_eq_true rfl) (f6_98) rfl ?_
  refine g_iconst (v := nI 0) dX9_image_53 (by decide +kernel) ?_
  refine g_sipush (v := nI 338) dX9_image_54 (by decide +kernel) ?_
  have la7 : (Ro).length = 338 := lRo
  have lb7 : (IR).length = 338 := lIR
  refine g_callSq (st1 := []) dX9_image_57 (ev_mlays (a := 0) (b := 0) (s := 338) (show 100 ≠ 118 by decide) (by omega) (by omega) ⟨by omega, by omega⟩ (f6_100) (f6_118)) oX9_lays wsX9_lays wmX9_83 rfl ⟨(Nat.le_of_ble_eq_true rfl), (Nat.le_of_ble_eq_true rfl)⟩ ⟨Nat.zero_le _, Nat.zero_le _⟩ (Nat.le_of_ble_eq_true rfl) rfl rfl (fun h8 q8 => ?_)
  obtain ⟨q8a, q8s⟩ := q8
  have f8_98 : rd h8 98 = some (.inr (9, [.int (nI σ.1.1), .int (nI σ.1.2.1), .ref 99, .ref 100, .ref 101, .int (nI σ.1.2.2.2.1), .ref 102, .int (nI ((σ.2.2.2.1).length)), .ref 103, .ref 104, .ref 105, .int fo, .int as_, .int sm, .int sk, .ref 106, .ref 107, .ref 108, .int z, .ref 109, .ref 110, .ref 111, .int (nI σ.2.1.1), .ref 112, .ref 113, .ref 114, .ref 115, .ref 116, .int (nI 1), .int (nI σ.1.1), .int (nI σ.1.2.1), .int (nI σ.1.2.2.2.1), .ref 117, .ref 118, .ref 119])) := by rw [q8s _ (by omega)]; exact f6_98
  have f8_99 : rd h8 99 = some (.inl (P)) := by rw [q8s _ (by omega)]; exact f6_99
  have f8_100 : rd h8 100 = some (.inl (Ro)) := by rw [q8s _ (by omega)]; exact f6_100
  have f8_101 : rd h8 101 = some (.inl (U)) := by rw [q8s _ (by omega)]; exact f6_101
  have f8_102 : rd h8 102 = some (.inl (rf)) := by rw [q8s _ (by omega)]; exact f6_102
  have f8_103 : rd h8 103 = some (.inl (WM)) := by rw [q8s _ (by omega)]; exact f6_103
  have f8_104 : rd h8 104 = some (.inl (WP)) := by rw [q8s _ (by omega)]; exact f6_104
  have f8_105 : rd h8 105 = some (.inl (WR)) := by rw [q8s _ (by omega)]; exact f6_105
  have f8_106 : rd h8 106 = some (.inl (Tr)) := by rw [q8s _ (by omega)]; exact f6_106
  have f8_107 : rd h8 107 = some (.inl (Ke)) := by rw [q8s _ (by omega)]; exact f6_107
  have f8_108 : rd h8 108 = some (.inl (Co)) := by rw [q8s _ (by omega)]; exact f6_108
  have f8_109 : rd h8 109 = some (.inl (Th)) := by rw [q8s _ (by omega)]; exact f6_109
  have f8_110 : rd h8 110 = some (.inl (Be)) := by rw [q8s _ (by omega)]; exact f6_110
  have f8_111 : rd h8 111 = some (.inl (Le)) := by rw [q8s _ (by omega)]; exact f6_111
  have f8_112 : rd h8 112 = some (.inl (AP)) := by rw [q8s _ (by omega)]; exact f6_112
  have f8_113 : rd h8 113 = some (.inl (AR)) := by rw [q8s _ (by omega)]; exact f6_113
  have f8_114 : rd h8 114 = some (.inl (AU)) := by rw [q8s _ (by omega)]; exact f6_114
  have f8_115 : rd h8 115 = some (.inl (Sz)) := by rw [q8s _ (by omega)]; exact f6_115
  have f8_116 : rd h8 116 = some (.inl (It)) := by rw [q8s _ (by omega)]; exact f6_116
  have f8_119 : rd h8 119 = some (.inl (IU)) := by rw [q8s _ (by omega)]; exact f6_119
  have f8_117 : rd h8 117 = some (.inl (cpL (P) 0 (IP) 0 18)) := by rw [q8s _ (by omega)]; exact q6a
  refine g_aload_n dX9_image_60 0 rfl ?_
  refine g_getf dX9_image_61 kX9 wfX9_20 (Nat.le_of_ble_eq_true rfl) (f8_98) rfl ?_
  refine g_iconst (v := nI 0) dX9_image_64 (by decide +kernel) ?_
  refine g_aload_n dX9_image_65 0 rfl ?_
  refine g_getf dX9_image_66 kX9 wfX9_74 (Nat.le_of_ble_eq_true rfl) (f8_98) rfl ?_
  refine g_iconst (v := nI 0) dX9_image_69 (by decide +kernel) ?_
  refine g_bipush (v := nI 12) dX9_image_70 (by decide +kernel) ?_
  have la9 : (U).length = 12 := lU
  have lb9 : (IU).length = 12 := lIU
  refine g_callSq (st1 := []) dX9_image_72 (ev_mlays (a := 0) (b := 0) (s := 12) (show 101 ≠ 119 by decide) (by omega) (by omega) ⟨by omega, by omega⟩ (f8_101) (f8_119)) oX9_lays wsX9_lays wmX9_83 rfl ⟨(Nat.le_of_ble_eq_true rfl), (Nat.le_of_ble_eq_true rfl)⟩ ⟨Nat.zero_le _, Nat.zero_le _⟩ (Nat.le_of_ble_eq_true rfl) rfl rfl (fun h10 q10 => ?_)
  obtain ⟨q10a, q10s⟩ := q10
  have f10_98 : rd h10 98 = some (.inr (9, [.int (nI σ.1.1), .int (nI σ.1.2.1), .ref 99, .ref 100, .ref 101, .int (nI σ.1.2.2.2.1), .ref 102, .int (nI ((σ.2.2.2.1).length)), .ref 103, .ref 104, .ref 105, .int fo, .int as_, .int sm, .int sk, .ref 106, .ref 107, .ref 108, .int z, .ref 109, .ref 110, .ref 111, .int (nI σ.2.1.1), .ref 112, .ref 113, .ref 114, .ref 115, .ref 116, .int (nI 1), .int (nI σ.1.1), .int (nI σ.1.2.1), .int (nI σ.1.2.2.2.1), .ref 117, .ref 118, .ref 119])) := by rw [q10s _ (by omega)]; exact f8_98
  have f10_99 : rd h10 99 = some (.inl (P)) := by rw [q10s _ (by omega)]; exact f8_99
  have f10_100 : rd h10 100 = some (.inl (Ro)) := by rw [q10s _ (by omega)]; exact f8_100
  have f10_101 : rd h10 101 = some (.inl (U)) := by rw [q10s _ (by omega)]; exact f8_101
  have f10_102 : rd h10 102 = some (.inl (rf)) := by rw [q10s _ (by omega)]; exact f8_102
  have f10_103 : rd h10 103 = some (.inl (WM)) := by rw [q10s _ (by omega)]; exact f8_103
  have f10_104 : rd h10 104 = some (.inl (WP)) := by rw [q10s _ (by omega)]; exact f8_104
  have f10_105 : rd h10 105 = some (.inl (WR)) := by rw [q10s _ (by omega)]; exact f8_105
  have f10_106 : rd h10 106 = some (.inl (Tr)) := by rw [q10s _ (by omega)]; exact f8_106
  have f10_107 : rd h10 107 = some (.inl (Ke)) := by rw [q10s _ (by omega)]; exact f8_107
  have f10_108 : rd h10 108 = some (.inl (Co)) := by rw [q10s _ (by omega)]; exact f8_108
  have f10_109 : rd h10 109 = some (.inl (Th)) := by rw [q10s _ (by omega)]; exact f8_109
  have f10_110 : rd h10 110 = some (.inl (Be)) := by rw [q10s _ (by omega)]; exact f8_110
  have f10_111 : rd h10 111 = some (.inl (Le)) := by rw [q10s _ (by omega)]; exact f8_111
  have f10_112 : rd h10 112 = some (.inl (AP)) := by rw [q10s _ (by omega)]; exact f8_112
  have f10_113 : rd h10 113 = some (.inl (AR)) := by rw [q10s _ (by omega)]; exact f8_113
  have f10_114 : rd h10 114 = some (.inl (AU)) := by rw [q10s _ (by omega)]; exact f8_114
  have f10_115 : rd h10 115 = some (.inl (Sz)) := by rw [q10s _ (by omega)]; exact f8_115
  have f10_116 : rd h10 116 = some (.inl (It)) := by rw [q10s _ (by omega)]; exact f8_116
  have f10_117 : rd h10 117 = some (.inl (cpL (P) 0 (IP) 0 18)) := by rw [q10s _ (by omega)]; exact f8_117
  have f10_118 : rd h10 118 = some (.inl (cpL (Ro) 0 (IR) 0 338)) := by rw [q10s _ (by omega)]; exact q8a
  refine g_aload_n dX9_image_75 0 rfl ?_
  refine g_getf dX9_image_76 kX9 wfX9_87 (Nat.le_of_ble_eq_true rfl) (f10_98) rfl ?_
  exact g_iret dX9_image_79 rfl ⟨Nat.zero_le _, Nat.zero_le _⟩ (⟨rfl, ⟨_, _, _, _, _, _, _, _, _, _, _, _, _, _, _, _, _, _, _, _, _, _, _, _, _, _, _, _, _, f10_98, ⟨f10_99, lP⟩, ⟨f10_100, lRo⟩, ⟨f10_101, lU⟩, ⟨f10_102, lrf⟩, ⟨f10_103, lWM⟩, ⟨f10_104, lWP⟩, ⟨f10_105, lWR⟩, ⟨f10_106, lTr⟩, ⟨f10_107, lKe⟩, ⟨f10_108, lCo⟩, ⟨f10_109, lTh⟩, ⟨f10_110, lBe⟩, ⟨f10_111, lLe⟩, ⟨f10_112, lAP⟩, ⟨f10_113, lAR⟩, ⟨f10_114, lAU⟩, ⟨f10_115, lSz⟩, ⟨f10_116, lIt⟩, ⟨f10_117, ((cpL_len _ _ _ _ _).trans lb5)⟩, ⟨f10_118, ((cpL_len _ _ _ _ _).trans lb7)⟩, ⟨q10a, ((cpL_len _ _ _ _ _).trans lb9)⟩, vP, vR, vU, vF, vH, vL, vS, vI, (fun c hc => by have e := Option.some.inj hc; subst e; exact ⟨rfl, rfl, rfl, pR_cg vP hm6 (fun i hi => by rw [Nat.zero_add]; exact cp0 (by omega) hi), rR_cg vR (fun i hi => by rw [Nat.zero_add]; exact cp0 (by omega) hi), tR_cg vU k6 (fun i hi => cp0 (by omega) hi)⟩)⟩, (fun q hq => by rw [q10s q (by omega), q8s q (by omega), q6s q (by omega), s4 q (by omega), s3 q (by omega), s2 q (by omega), s1 q (by omega)])⟩)
