theorem pR_cg {P P2 : List Int32} {q q2 m : Nat} {f : Nat → Pr} (h : pR P q m f) (hm : m ≤ 6) (e : ∀ i, i < 18 → P2.getD (q2 + i) 0 = P.getD (q + i) 0) : pR P2 q2 m f := fun k hk => by
  have z := h k hk
  rw [Nat.add_assoc, Nat.add_assoc] at z
  rw [Nat.add_assoc q2 (3 * k) 1, Nat.add_assoc q2 (3 * k) 2, e _ (by omega), e _ (by omega), e _ (by omega)]
  exact z
theorem rR_cg {P P2 : List Int32} {q q2 : Nat} {rm : Nat → Nat → Nat} (h : rR P q rm) (e : ∀ i, i < 338 → P2.getD (q2 + i) 0 = P.getD (q + i) 0) : rR P2 q2 rm := fun a b ha hb => by
  have z := h a b ha hb
  rw [Nat.add_assoc] at z
  rw [Nat.add_assoc q2 (2 * (13 * a + b)) 1, e _ (by omega), e _ (by omega)]
  exact z
theorem tR_cg {U U2 : List Int32} {a : Nat} {tu : Nat → Nat × Nat} (h : tR U a tu) (ha : a ≤ 6) (e : ∀ i, i < 12 → U2.getD i 0 = U.getD i 0) : tR U2 a tu := fun k hk => by
  have z := h k hk
  rw [e _ (by omega), e _ (by omega)]
  exact z
theorem cp0 {A B : List Int32} {k i : Nat} (lB : k ≤ B.length) (h : i < k) : (cpL A 0 B 0 k).getD i 0 = A.getD i 0 := by
  have z := cpL_in (A := A) (a := 0) (B := B) (b := 0) k (by omega) h
  rw [Nat.zero_add] at z
  exact z
theorem hM_push {m d : Nat} {WM WP WR P Ro : List Int32} {t : List Hs} {f : Nat → Pr} {rm : Nat → Nat → Nat} (h : hM m WM WP WR t) (hd : t.length = d) (hd2 : d ≤ 11) (hm : m ≤ 6) (lM : WM.length = 12) (lP : WP.length = 216) (lR : WR.length = 4056) (vP : pR P 0 m f) (vR : rR Ro 0 rm) : hM m (WM.set d (nI m)) (cpL P 0 WP (d * 3 * 6) 18) (cpL Ro 0 WR (d * 2 * 169) 338) ((f, rm) :: t) := fun j hj => by
  rw [List.length_cons] at hj
  cases j with
  | zero =>
    rw [List.length_cons, show t.length + 1 - 1 - 0 = d by omega, getD_set_eqI (by omega)]
    refine ⟨rfl, pR_cg vP hm (fun i hi => ?_), rR_cg vR (fun i hi => ?_)⟩
    · rw [show 18 * d = d * 3 * 6 by omega]; exact cpL_in 18 (by omega) hi
    · rw [show 338 * d = d * 2 * 169 by omega]; exact cpL_in 338 (by omega) hi
  | succ j =>
    have z := h j (by omega)
    have e : t.length + 1 - 1 - (j + 1) = t.length - 1 - j := by omega
    have lt : t.length - 1 - j < d := by omega
    rw [List.length_cons, e, getD_set_neI (by omega), List.getD_cons_succ]
    refine ⟨z.1, pR_cg z.2.1 hm (fun i hi => cpL_out 18 (by omega)), rR_cg z.2.2 (fun i hi => cpL_out 338 (by omega))⟩
theorem hM_shift {m : Nat} {WM WP WR : List Int32} {hi : List Hs} (h : hM m WM WP WR hi) (hd : hi.length = 12) (hm : m ≤ 6) (lM : WM.length = 12) (lP : WP.length = 216) (lR : WR.length = 4056) : hM m (cpL WM 1 WM 0 11) (cpL WP 18 WP 0 198) (cpL WR 338 WR 0 3718) (hi.take 11) := fun j hj => by
  have lt : (hi.take 11).length = 11 := by rw [List.length_take]; omega
  rw [lt] at hj
  have z := h j (by omega)
  rw [hd] at z
  rw [lt, getD_take hj]
  have e0 := cpL_in (A := WM) (a := 1) (B := WM) (b := 0) (i := 11 - 1 - j) 11 (by omega) (by omega)
  rw [Nat.zero_add, show 1 + (11 - 1 - j) = 12 - 1 - j by omega] at e0
  refine ⟨by rw [e0]; exact z.1, pR_cg z.2.1 hm (fun i hi => ?_), rR_cg z.2.2 (fun i hi => ?_)⟩
  · have e1 := cpL_in (A := WP) (a := 18) (B := WP) (b := 0) (i := 18 * (11 - 1 - j) + i) 198 (by omega) (by omega)
    rw [Nat.zero_add] at e1
    rw [e1, show 18 + (18 * (11 - 1 - j) + i) = 18 * (12 - 1 - j) + i by omega]
  · have e1 := cpL_in (A := WR) (a := 338) (B := WR) (b := 0) (i := 338 * (11 - 1 - j) + i) 3718 (by omega) (by omega)
    rw [Nat.zero_add] at e1
    rw [e1, show 338 + (338 * (11 - 1 - j) + i) = 338 * (12 - 1 - j) + i by omega]

set_option maxRecDepth 100000 in
set_option maxHeartbeats 4000000 in
theorem ev_rem_a {h : List aC} {σ : Sg} (H : RM h σ) (ok : okSg σ) (hl : σ.2.2.2.1.length ≤ 11) : Ev mX9_remembers 2 0 0 [.ref 98] h (pq none (fun h2 => RM h2 (σ.1, σ.2.1, σ.2.2.1, (σ.1.2.2.1, σ.1.2.2.2.2.2) :: σ.2.2.2.1.take 11, σ.2.2.2.2) ∧ Smo 98 120 h h2)) := by
  obtain ⟨fo, as_, sm, sk, z, iN, iM, iT, P, Ro, U, rf, WM, WP, WR, Tr, Ke, Co, Th, Be, Le, AP, AR, AU, Sz, It, IP, IR, IU, mO, mP, mRo, mU, mrf, mWM, mWP, mWR, mTr, mKe, mCo, mTh, mBe, mLe, mAP, mAR, mAU, mSz, mIt, mIP, mIR, mIU, vP, vR, vU, vF, vH, vL, vS, vI, vG⟩ := id H
  have mO : rd h 98 = some (.inr (9, [.int (nI σ.1.1), .int (nI σ.1.2.1), .ref 99, .ref 100, .ref 101, .int (nI σ.1.2.2.2.1), .ref 102, .int (nI ((σ.2.2.2.1).length)), .ref 103, .ref 104, .ref 105, .int fo, .int as_, .int sm, .int sk, .ref 106, .ref 107, .ref 108, .int z, .ref 109, .ref 110, .ref 111, .int (nI σ.2.1.1), .ref 112, .ref 113, .ref 114, .ref 115, .ref 116, .int (nI (bI σ.2.2.2.2.1.isSome)), .int iN, .int iM, .int iT, .ref 117, .ref 118, .ref 119])) := mO
  obtain ⟨mP, lP⟩ := mP
  obtain ⟨mRo, lRo⟩ := mRo
  obtain ⟨mU, lU⟩ := mU
  obtain ⟨mrf, lrf⟩ := mrf
  obtain ⟨mWM, lWM⟩ := mWM
  obtain ⟨mWP, lWP⟩ := mWP
  obtain ⟨mWR, lWR⟩ := mWR
  obtain ⟨mTr, lTr⟩ := mTr
  obtain ⟨mKe, lKe⟩ := mKe
  obtain ⟨mCo, lCo⟩ := mCo
  obtain ⟨mTh, lTh⟩ := mTh
  obtain ⟨mBe, lBe⟩ := mBe
  obtain ⟨mLe, lLe⟩ := mLe
  obtain ⟨mAP, lAP⟩ := mAP
  obtain ⟨mAR, lAR⟩ := mAR
  obtain ⟨mAU, lAU⟩ := mAU
  obtain ⟨mSz, lSz⟩ := mSz
  obtain ⟨mIt, lIt⟩ := mIt
  obtain ⟨mIP, lIP⟩ := mIP
  obtain ⟨mIR, lIR⟩ := mIR
  obtain ⟨mIU, lIU⟩ := mIU
  obtain ⟨okc, ⟨okl, okw⟩, okn, ⟨okh, oke⟩, oki, okr⟩ := id ok
  obtain ⟨k1, k2, k3, k4, k5, k6, k7, k8, k9⟩ := id okc
  have hm6 : σ.1.2.1 ≤ 6 := by omega
  have et : σ.2.2.2.1.take 11 = σ.2.2.2.1 := List.take_of_length_le hl
  refine Ev.of pX9_remembers (Nat.le_of_ble_eq_true rfl) ?_
  show G mX9_remembers (rmD 2 0 0) none _ 0 0 0 [(0, .ref 98)] [] h
  refine g_aload_n dX9_remembers_0 0 rfl ?_
  refine g_getf dX9_remembers_1 kX9 wfX9_80 (Nat.le_of_ble_eq_true rfl) (mO) rfl ?_
  refine g_bipush (v := nI 12) dX9_remembers_4 (by decide +kernel) ?_
  refine g_icmp_neN 69 dX9_remembers_6 (by decide) (by omega) (by omega) (fun c6 => ?_) (fun z => absurd z (by omega))
  refine g_aload_n dX9_remembers_69 0 rfl ?_
  refine g_getf dX9_remembers_70 kX9 wfX9_26 (Nat.le_of_ble_eq_true rfl) (mO) rfl ?_
  refine g_aload_n dX9_remembers_73 0 rfl ?_
  refine g_getf dX9_remembers_74 kX9 wfX9_80 (Nat.le_of_ble_eq_true rfl) (mO) rfl ?_
  refine g_aload_n dX9_remembers_77 0 rfl ?_
  refine g_getf dX9_remembers_78 kX9 wfX9_87 (Nat.le_of_ble_eq_true rfl) (mO) rfl ?_
  refine g_iasI dX9_remembers_81 (mWM) (by omega) (by omega) (fun h1 e1 => ?_)
  have f1_103 : rd h1 103 = some (.inl ((WM).set ((σ.2.2.2.1).length) (nI σ.1.2.1))) := by rw [e1]; exact rd_wr_eq (mWM)
  have lf1_103 : ((WM).set ((σ.2.2.2.1).length) (nI σ.1.2.1)).length = _ := List.length_set.trans lWM
  have s1 : Smo 103 (103 + 1) h h1 := by rw [e1]; exact Smo.wr (by omega) (by omega)
  have f1_98 : rd h1 98 = some (.inr (9, [.int (nI σ.1.1), .int (nI σ.1.2.1), .ref 99, .ref 100, .ref 101, .int (nI σ.1.2.2.2.1), .ref 102, .int (nI ((σ.2.2.2.1).length)), .ref 103, .ref 104, .ref 105, .int fo, .int as_, .int sm, .int sk, .ref 106, .ref 107, .ref 108, .int z, .ref 109, .ref 110, .ref 111, .int (nI σ.2.1.1), .ref 112, .ref 113, .ref 114, .ref 115, .ref 116, .int (nI (bI σ.2.2.2.2.1.isSome)), .int iN, .int iM, .int iT, .ref 117, .ref 118, .ref 119])) := by rw [s1 _ (by omega)]; exact mO
  have f1_99 : rd h1 99 = some (.inl (P)) := by rw [s1 _ (by omega)]; exact mP
  have f1_100 : rd h1 100 = some (.inl (Ro)) := by rw [s1 _ (by omega)]; exact mRo
  have f1_101 : rd h1 101 = some (.inl (U)) := by rw [s1 _ (by omega)]; exact mU
  have f1_102 : rd h1 102 = some (.inl (rf)) := by rw [s1 _ (by omega)]; exact mrf
  have f1_104 : rd h1 104 = some (.inl (WP)) := by rw [s1 _ (by omega)]; exact mWP
  have f1_105 : rd h1 105 = some (.inl (WR)) := by rw [s1 _ (by omega)]; exact mWR
  have f1_106 : rd h1 106 = some (.inl (Tr)) := by rw [s1 _ (by omega)]; exact mTr
  have f1_107 : rd h1 107 = some (.inl (Ke)) := by rw [s1 _ (by omega)]; exact mKe
  have f1_108 : rd h1 108 = some (.inl (Co)) := by rw [s1 _ (by omega)]; exact mCo
  have f1_109 : rd h1 109 = some (.inl (Th)) := by rw [s1 _ (by omega)]; exact mTh
  have f1_110 : rd h1 110 = some (.inl (Be)) := by rw [s1 _ (by omega)]; exact mBe
  have f1_111 : rd h1 111 = some (.inl (Le)) := by rw [s1 _ (by omega)]; exact mLe
  have f1_112 : rd h1 112 = some (.inl (AP)) := by rw [s1 _ (by omega)]; exact mAP
  have f1_113 : rd h1 113 = some (.inl (AR)) := by rw [s1 _ (by omega)]; exact mAR
  have f1_114 : rd h1 114 = some (.inl (AU)) := by rw [s1 _ (by omega)]; exact mAU
  have f1_115 : rd h1 115 = some (.inl (Sz)) := by rw [s1 _ (by omega)]; exact mSz
  have f1_116 : rd h1 116 = some (.inl (It)) := by rw [s1 _ (by omega)]; exact mIt
  have f1_117 : rd h1 117 = some (.inl (IP)) := by rw [s1 _ (by omega)]; exact mIP
  have f1_118 : rd h1 118 = some (.inl (IR)) := by rw [s1 _ (by omega)]; exact mIR
  have f1_119 : rd h1 119 = some (.inl (IU)) := by rw [s1 _ (by omega)]; exact mIU
  refine g_aload_n dX9_remembers_82 0 rfl ?_
  refine g_getf dX9_remembers_83 kX9 wfX9_13 (Nat.le_of_ble_eq_true rfl) (f1_98) rfl ?_
  refine g_iconst (v := nI 0) dX9_remembers_86 (by decide +kernel) ?_
  refine g_aload_n dX9_remembers_87 0 rfl ?_
  refine g_getf dX9_remembers_88 kX9 wfX9_29 (Nat.le_of_ble_eq_true rfl) (f1_98) rfl ?_
  refine g_aload_n dX9_remembers_91 0 rfl ?_
  refine g_getf dX9_remembers_92 kX9 wfX9_80 (Nat.le_of_ble_eq_true rfl) (f1_98) rfl ?_
  refine g_iconst (v := nI 3) dX9_remembers_95 (by decide +kernel) ?_
  refine g_imulN dX9_remembers_96 ?_
  refine g_bipush (v := nI 6) dX9_remembers_97 (by decide +kernel) ?_
  refine g_imulN dX9_remembers_99 ?_
  refine g_bipush (v := nI 18) dX9_remembers_100 (by decide +kernel) ?_
  have la2 : (P).length = 18 := lP
  have lb2 : (WP).length = 216 := lWP
  refine g_callSq (st1 := []) dX9_remembers_102 (ev_mlays (a := 0) (b := (((σ.2.2.2.1).length) * 3) * 6) (s := 18) (show 99 ≠ 104 by decide) (by omega) (by omega) ⟨by omega, by omega⟩ (f1_99) (f1_104)) oX9_lays wsX9_lays wmX9_83 rfl ⟨(Nat.le_of_ble_eq_true rfl), (Nat.le_of_ble_eq_true rfl)⟩ ⟨Nat.zero_le _, Nat.zero_le _⟩ (Nat.le_of_ble_eq_true rfl) rfl rfl (fun h3 q3 => ?_)
  obtain ⟨q3a, q3s⟩ := q3
  have f3_98 : rd h3 98 = some (.inr (9, [.int (nI σ.1.1), .int (nI σ.1.2.1), .ref 99, .ref 100, .ref 101, .int (nI σ.1.2.2.2.1), .ref 102, .int (nI ((σ.2.2.2.1).length)), .ref 103, .ref 104, .ref 105, .int fo, .int as_, .int sm, .int sk, .ref 106, .ref 107, .ref 108, .int z, .ref 109, .ref 110, .ref 111, .int (nI σ.2.1.1), .ref 112, .ref 113, .ref 114, .ref 115, .ref 116, .int (nI (bI σ.2.2.2.2.1.isSome)), .int iN, .int iM, .int iT, .ref 117, .ref 118, .ref 119])) := by rw [q3s _ (by omega)]; exact f1_98
  have f3_99 : rd h3 99 = some (.inl (P)) := by rw [q3s _ (by omega)]; exact f1_99
  have f3_100 : rd h3 100 = some (.inl (Ro)) := by rw [q3s _ (by omega)]; exact f1_100
  have f3_101 : rd h3 101 = some (.inl (U)) := by rw [q3s _ (by omega)]; exact f1_101
  have f3_102 : rd h3 102 = some (.inl (rf)) := by rw [q3s _ (by omega)]; exact f1_102
  have f3_103 : rd h3 103 = some (.inl ((WM).set ((σ.2.2.2.1).length) (nI σ.1.2.1))) := by rw [q3s _ (by omega)]; exact f1_103
  have f3_105 : rd h3 105 = some (.inl (WR)) := by rw [q3s _ (by omega)]; exact f1_105
  have f3_106 : rd h3 106 = some (.inl (Tr)) := by rw [q3s _ (by omega)]; exact f1_106
  have f3_107 : rd h3 107 = some (.inl (Ke)) := by rw [q3s _ (by omega)]; exact f1_107
  have f3_108 : rd h3 108 = some (.inl (Co)) := by rw [q3s _ (by omega)]; exact f1_108
  have f3_109 : rd h3 109 = some (.inl (Th)) := by rw [q3s _ (by omega)]; exact f1_109
  have f3_110 : rd h3 110 = some (.inl (Be)) := by rw [q3s _ (by omega)]; exact f1_110
  have f3_111 : rd h3 111 = some (.inl (Le)) := by rw [q3s _ (by omega)]; exact f1_111
  have f3_112 : rd h3 112 = some (.inl (AP)) := by rw [q3s _ (by omega)]; exact f1_112
  have f3_113 : rd h3 113 = some (.inl (AR)) := by rw [q3s _ (by omega)]; exact f1_113
  have f3_114 : rd h3 114 = some (.inl (AU)) := by rw [q3s _ (by omega)]; exact f1_114
  have f3_115 : rd h3 115 = some (.inl (Sz)) := by rw [q3s _ (by omega)]; exact f1_115
  have f3_116 : rd h3 116 = some (.inl (It)) := by rw [q3s _ (by omega)]; exact f1_116
  have f3_117 : rd h3 117 = some (.inl (IP)) := by rw [q3s _ (by omega)]; exact f1_117
  have f3_118 : rd h3 118 = some (.inl (IR)) := by rw [q3s _ (by omega)]; exact f1_118
  have f3_119 : rd h3 119 = some (.inl (IU)) := by rw [q3s _ (by omega)]; exact f1_119
  refine g_aload_n dX9_remembers_105 0 rfl ?_
  refine g_getf dX9_remembers_106 kX9 wfX9_17 (Nat.le_of_ble_eq_true rfl) (f3_98) rfl ?_
  refine g_iconst (v := nI 0) dX9_remembers_109 (by decide +kernel) ?_
  refine g_aload_n dX9_remembers_110 0 rfl ?_
  refine g_getf dX9_remembers_111 kX9 wfX9_32 (Nat.le_of_ble_eq_true rfl) (f3_98) rfl ?_
  refine g_aload_n dX9_remembers_114 0 rfl ?_
  refine g_getf dX9_remembers_115 kX9 wfX9_80 (Nat.le_of_ble_eq_true rfl) (f3_98) rfl ?_
  refine g_iconst (v := nI 2) dX9_remembers_118 (by decide +kernel) ?_
  refine g_imulN dX9_remembers_119 ?_
  refine g_sipush (v := nI 169) dX9_remembers_120 (by decide +kernel) ?_
  refine g_imulN dX9_remembers_123 ?_
  refine g_sipush (v := nI 338) dX9_remembers_124 (by decide +kernel) ?_
  have la4 : (Ro).length = 338 := lRo
  have lb4 : (WR).length = 4056 := lWR
  refine g_callSq (st1 := []) dX9_remembers_127 (ev_mlays (a := 0) (b := (((σ.2.2.2.1).length) * 2) * 169) (s := 338) (show 100 ≠ 105 by decide) (by omega) (by omega) ⟨by omega, by omega⟩ (f3_100) (f3_105)) oX9_lays wsX9_lays wmX9_83 rfl ⟨(Nat.le_of_ble_eq_true rfl), (Nat.le_of_ble_eq_true rfl)⟩ ⟨Nat.zero_le _, Nat.zero_le _⟩ (Nat.le_of_ble_eq_true rfl) rfl rfl (fun h5 q5 => ?_)
  obtain ⟨q5a, q5s⟩ := q5
  have f5_98 : rd h5 98 = some (.inr (9, [.int (nI σ.1.1), .int (nI σ.1.2.1), .ref 99, .ref 100, .ref 101, .int (nI σ.1.2.2.2.1), .ref 102, .int (nI ((σ.2.2.2.1).length)), .ref 103, .ref 104, .ref 105, .int fo, .int as_, .int sm, .int sk, .ref 106, .ref 107, .ref 108, .int z, .ref 109, .ref 110, .ref 111, .int (nI σ.2.1.1), .ref 112, .ref 113, .ref 114, .ref 115, .ref 116, .int (nI (bI σ.2.2.2.2.1.isSome)), .int iN, .int iM, .int iT, .ref 117, .ref 118, .ref 119])) := by rw [q5s _ (by omega)]; exact f3_98
  have f5_99 : rd h5 99 = some (.inl (P)) := by rw [q5s _ (by omega)]; exact f3_99
  have f5_100 : rd h5 100 = some (.inl (Ro)) := by rw [q5s _ (by omega)]; exact f3_100
  have f5_101 : rd h5 101 = some (.inl (U)) := by rw [q5s _ (by omega)]; exact f3_101
  have f5_102 : rd h5 102 = some (.inl (rf)) := by rw [q5s _ (by omega)]; exact f3_102
  have f5_103 : rd h5 103 = some (.inl ((WM).set ((σ.2.2.2.1).length) (nI σ.1.2.1))) := by rw [q5s _ (by omega)]; exact f3_103
  have f5_106 : rd h5 106 = some (.inl (Tr)) := by rw [q5s _ (by omega)]; exact f3_106
  have f5_107 : rd h5 107 = some (.inl (Ke)) := by rw [q5s _ (by omega)]; exact f3_107
  have f5_108 : rd h5 108 = some (.inl (Co)) := by rw [q5s _ (by omega)]; exact f3_108
  have f5_109 : rd h5 109 = some (.inl (Th)) := by rw [q5s _ (by omega)]; exact f3_109
  have f5_110 : rd h5 110 = some (.inl (Be)) := by rw [q5s _ (by omega)]; exact f3_110
  have f5_111 : rd h5 111 = some (.inl (Le)) := by rw [q5s _ (by omega)]; exact f3_111
  have f5_112 : rd h5 112 = some (.inl (AP)) := by rw [q5s _ (by omega)]; exact f3_112
  have f5_113 : rd h5 113 = some (.inl (AR)) := by rw [q5s _ (by omega)]; exact f3_113
  have f5_114 : rd h5 114 = some (.inl (AU)) := by rw [q5s _ (by omega)]; exact f3_114
  have f5_115 : rd h5 115 = some (.inl (Sz)) := by rw [q5s _ (by omega)]; exact f3_115
  have f5_116 : rd h5 116 = some (.inl (It)) := by rw [q5s _ (by omega)]; exact f3_116
  have f5_117 : rd h5 117 = some (.inl (IP)) := by rw [q5s _ (by omega)]; exact f3_117
  have f5_118 : rd h5 118 = some (.inl (IR)) := by rw [q5s _ (by omega)]; exact f3_118
  have f5_119 : rd h5 119 = some (.inl (IU)) := by rw [q5s _ (by omega)]; exact f3_119
  have f5_104 : rd h5 104 = some (.inl (cpL (P) 0 (WP) ((((σ.2.2.2.1).length) * 3) * 6) 18)) := by rw [q5s _ (by omega)]; exact q3a
  refine g_aload_n dX9_remembers_130 0 rfl ?_
  refine g_dup dX9_remembers_131 rfl ?_
  refine g_getf dX9_remembers_132 kX9 wfX9_80 (Nat.le_of_ble_eq_true rfl) (f5_98) rfl ?_
  refine g_iconst (v := nI 1) dX9_remembers_135 (by decide +kernel) ?_
  refine g_iaddN dX9_remembers_136 ?_
  refine g_putv dX9_remembers_137 kX9 wfX9_80 (Nat.le_of_ble_eq_true rfl) rfl (fun _ _ => ⟨rfl, rfl⟩) (f5_98) (Nat.le_of_ble_eq_true rfl) (fs' := [.int (nI σ.1.1), .int (nI σ.1.2.1), .ref 99, .ref 100, .ref 101, .int (nI σ.1.2.2.2.1), .ref 102, .int (nI (((σ.2.2.2.1).length) + 1)), .ref 103, .ref 104, .ref 105, .int fo, .int as_, .int sm, .int sk, .ref 106, .ref 107, .ref 108, .int z, .ref 109, .ref 110, .ref 111, .int (nI σ.2.1.1), .ref 112, .ref 113, .ref 114, .ref 115, .ref 116, .int (nI (bI σ.2.2.2.2.1.isSome)), .int iN, .int iM, .int iT, .ref 117, .ref 118, .ref 119]) rfl (fun h6 e6 => ?_)
  have f6_98 : rd h6 98 = some (.inr (9, [.int (nI σ.1.1), .int (nI σ.1.2.1), .ref 99, .ref 100, .ref 101, .int (nI σ.1.2.2.2.1), .ref 102, .int (nI (((σ.2.2.2.1).length) + 1)), .ref 103, .ref 104, .ref 105, .int fo, .int as_, .int sm, .int sk, .ref 106, .ref 107, .ref 108, .int z, .ref 109, .ref 110, .ref 111, .int (nI σ.2.1.1), .ref 112, .ref 113, .ref 114, .ref 115, .ref 116, .int (nI (bI σ.2.2.2.2.1.isSome)), .int iN, .int iM, .int iT, .ref 117, .ref 118, .ref 119])) := by rw [e6]; exact rd_wr_eq (f5_98)
  have s6 : Smo 98 (98 + 1) h5 h6 := by rw [e6]; exact Smo.wr (by omega) (by omega)
  have f6_99 : rd h6 99 = some (.inl (P)) := by rw [s6 _ (by omega)]; exact f5_99
  have f6_100 : rd h6 100 = some (.inl (Ro)) := by rw [s6 _ (by omega)]; exact f5_100
  have f6_101 : rd h6 101 = some (.inl (U)) := by rw [s6 _ (by omega)]; exact f5_101
  have f6_102 : rd h6 102 = some (.inl (rf)) := by rw [s6 _ (by omega)]; exact f5_102
  have f6_103 : rd h6 103 = some (.inl ((WM).set ((σ.2.2.2.1).length) (nI σ.1.2.1))) := by rw [s6 _ (by omega)]; exact f5_103
  have f6_106 : rd h6 106 = some (.inl (Tr)) := by rw [s6 _ (by omega)]; exact f5_106
  have f6_107 : rd h6 107 = some (.inl (Ke)) := by rw [s6 _ (by omega)]; exact f5_107
  have f6_108 : rd h6 108 = some (.inl (Co)) := by rw [s6 _ (by omega)]; exact f5_108
  have f6_109 : rd h6 109 = some (.inl (Th)) := by rw [s6 _ (by omega)]; exact f5_109
  have f6_110 : rd h6 110 = some (.inl (Be)) := by rw [s6 _ (by omega)]; exact f5_110
  have f6_111 : rd h6 111 = some (.inl (Le)) := by rw [s6 _ (by omega)]; exact f5_111
  have f6_112 : rd h6 112 = some (.inl (AP)) := by rw [s6 _ (by omega)]; exact f5_112
  have f6_113 : rd h6 113 = some (.inl (AR)) := by rw [s6 _ (by omega)]; exact f5_113
  have f6_114 : rd h6 114 = some (.inl (AU)) := by rw [s6 _ (by omega)]; exact f5_114
  have f6_115 : rd h6 115 = some (.inl (Sz)) := by rw [s6 _ (by omega)]; exact f5_115
  have f6_116 : rd h6 116 = some (.inl (It)) := by rw [s6 _ (by omega)]; exact f5_116
  have f6_117 : rd h6 117 = some (.inl (IP)) := by rw [s6 _ (by omega)]; exact f5_117
  have f6_118 : rd h6 118 = some (.inl (IR)) := by rw [s6 _ (by omega)]; exact f5_118
  have f6_119 : rd h6 119 = some (.inl (IU)) := by rw [s6 _ (by omega)]; exact f5_119
  have f6_104 : rd h6 104 = some (.inl (cpL (P) 0 (WP) ((((σ.2.2.2.1).length) * 3) * 6) 18)) := by rw [s6 _ (by omega)]; exact f5_104
  have f6_105 : rd h6 105 = some (.inl (cpL (Ro) 0 (WR) ((((σ.2.2.2.1).length) * 2) * 169) 338)) := by rw [s6 _ (by omega)]; exact q5a
  exact g_vret dX9_remembers_140 rfl ⟨Nat.zero_le _, Nat.zero_le _⟩ (⟨rfl, (by rw [et]; exact ⟨_, _, _, _, _, _, _, _, _, _, _, _, _, _, _, _, _, _, _, _, _, _, _, _, _, _, _, _, _, f6_98, ⟨f6_99, lP⟩, ⟨f6_100, lRo⟩, ⟨f6_101, lU⟩, ⟨f6_102, lrf⟩, ⟨f6_103, lf1_103⟩, ⟨f6_104, ((cpL_len _ _ _ _ _).trans lb2)⟩, ⟨f6_105, ((cpL_len _ _ _ _ _).trans lb4)⟩, ⟨f6_106, lTr⟩, ⟨f6_107, lKe⟩, ⟨f6_108, lCo⟩, ⟨f6_109, lTh⟩, ⟨f6_110, lBe⟩, ⟨f6_111, lLe⟩, ⟨f6_112, lAP⟩, ⟨f6_113, lAR⟩, ⟨f6_114, lAU⟩, ⟨f6_115, lSz⟩, ⟨f6_116, lIt⟩, ⟨f6_117, lIP⟩, ⟨f6_118, lIR⟩, ⟨f6_119, lIU⟩, vP, vR, vU, vF, (hM_push vH rfl (by omega) hm6 lWM lWP lWR vP vR), vL, vS, vI, vG⟩), (fun q hq => by rw [s6 q (by omega), q5s q (by omega), q3s q (by omega), s1 q (by omega)])⟩)

set_option maxRecDepth 100000 in
set_option maxHeartbeats 4000000 in
theorem ev_rem_b {h : List aC} {σ : Sg} (H : RM h σ) (ok : okSg σ) (hl : σ.2.2.2.1.length = 12) : Ev mX9_remembers 2 0 0 [.ref 98] h (pq none (fun h2 => RM h2 (σ.1, σ.2.1, σ.2.2.1, (σ.1.2.2.1, σ.1.2.2.2.2.2) :: σ.2.2.2.1.take 11, σ.2.2.2.2) ∧ Smo 98 120 h h2)) := by
  obtain ⟨fo, as_, sm, sk, z, iN, iM, iT, P, Ro, U, rf, WM, WP, WR, Tr, Ke, Co, Th, Be, Le, AP, AR, AU, Sz, It, IP, IR, IU, mO, mP, mRo, mU, mrf, mWM, mWP, mWR, mTr, mKe, mCo, mTh, mBe, mLe, mAP, mAR, mAU, mSz, mIt, mIP, mIR, mIU, vP, vR, vU, vF, vH, vL, vS, vI, vG⟩ := id H
  have mO : rd h 98 = some (.inr (9, [.int (nI σ.1.1), .int (nI σ.1.2.1), .ref 99, .ref 100, .ref 101, .int (nI σ.1.2.2.2.1), .ref 102, .int (nI ((σ.2.2.2.1).length)), .ref 103, .ref 104, .ref 105, .int fo, .int as_, .int sm, .int sk, .ref 106, .ref 107, .ref 108, .int z, .ref 109, .ref 110, .ref 111, .int (nI σ.2.1.1), .ref 112, .ref 113, .ref 114, .ref 115, .ref 116, .int (nI (bI σ.2.2.2.2.1.isSome)), .int iN, .int iM, .int iT, .ref 117, .ref 118, .ref 119])) := mO
  obtain ⟨mP, lP⟩ := mP
  obtain ⟨mRo, lRo⟩ := mRo
  obtain ⟨mU, lU⟩ := mU
  obtain ⟨mrf, lrf⟩ := mrf
  obtain ⟨mWM, lWM⟩ := mWM
  obtain ⟨mWP, lWP⟩ := mWP
  obtain ⟨mWR, lWR⟩ := mWR
  obtain ⟨mTr, lTr⟩ := mTr
  obtain ⟨mKe, lKe⟩ := mKe
  obtain ⟨mCo, lCo⟩ := mCo
  obtain ⟨mTh, lTh⟩ := mTh
  obtain ⟨mBe, lBe⟩ := mBe
  obtain ⟨mLe, lLe⟩ := mLe
  obtain ⟨mAP, lAP⟩ := mAP
  obtain ⟨mAR, lAR⟩ := mAR
  obtain ⟨mAU, lAU⟩ := mAU
  obtain ⟨mSz, lSz⟩ := mSz
  obtain ⟨mIt, lIt⟩ := mIt
  obtain ⟨mIP, lIP⟩ := mIP
  obtain ⟨mIR, lIR⟩ := mIR
  obtain ⟨mIU, lIU⟩ := mIU
  obtain ⟨okc, ⟨okl, okw⟩, okn, ⟨okh, oke⟩, oki, okr⟩ := id ok
  obtain ⟨k1, k2, k3, k4, k5, k6, k7, k8, k9⟩ := id okc
  have hm6 : σ.1.2.1 ≤ 6 := by omega
  have lz : (cpL WM 1 WM 0 11).length = 12 := (cpL_len _ _ _ _ _).trans lWM
  have lt : (σ.2.2.2.1.take 11).length = 11 := by rw [List.length_take]; omega
  refine Ev.of pX9_remembers (Nat.le_of_ble_eq_true rfl) ?_
  show G mX9_remembers (rmD 2 0 0) none _ 0 0 0 [(0, .ref 98)] [] h
  refine g_aload_n dX9_remembers_0 0 rfl ?_
  refine g_getf dX9_remembers_1 kX9 wfX9_80 (Nat.le_of_ble_eq_true rfl) (mO) rfl ?_
  refine g_bipush (v := nI 12) dX9_remembers_4 (by decide +kernel) ?_
  refine g_icmp_neN 69 dX9_remembers_6 (by decide) (by omega) (by omega) (fun z => absurd z (by omega)) (fun c6 => ?_)
  refine g_aload_n dX9_remembers_9 0 rfl ?_
  refine g_getf dX9_remembers_10 kX9 wfX9_26 (Nat.le_of_ble_eq_true rfl) (mO) rfl ?_
  refine g_iconst (v := nI 1) dX9_remembers_13 (by decide +kernel) ?_
  refine g_aload_n dX9_remembers_14 0 rfl ?_
  refine g_getf dX9_remembers_15 kX9 wfX9_26 (Nat.le_of_ble_eq_true rfl) (mO) rfl ?_
  refine g_iconst (v := nI 0) dX9_remembers_18 (by decide +kernel) ?_
  refine g_bipush (v := nI 11) dX9_remembers_19 (by decide +kernel) ?_
  have la1 : (WM).length = 12 := lWM
  have lb1 : (WM).length = 12 := lWM
  refine g_callSq (st1 := []) dX9_remembers_21 (ev_mlays1 (a := 1) (b := 0) (s := 11) (by omega) (by omega) (by omega) (by omega) (mWM)) oX9_lays wsX9_lays wmX9_83 rfl ⟨(Nat.le_of_ble_eq_true rfl), (Nat.le_of_ble_eq_true rfl)⟩ ⟨Nat.zero_le _, Nat.zero_le _⟩ (Nat.le_of_ble_eq_true rfl) rfl rfl (fun h2 q2 => ?_)
  obtain ⟨q2a, q2s⟩ := q2
  have f2_98 : rd h2 98 = some (.inr (9, [.int (nI σ.1.1), .int (nI σ.1.2.1), .ref 99, .ref 100, .ref 101, .int (nI σ.1.2.2.2.1), .ref 102, .int (nI ((σ.2.2.2.1).length)), .ref 103, .ref 104, .ref 105, .int fo, .int as_, .int sm, .int sk, .ref 106, .ref 107, .ref 108, .int z, .ref 109, .ref 110, .ref 111, .int (nI σ.2.1.1), .ref 112, .ref 113, .ref 114, .ref 115, .ref 116, .int (nI (bI σ.2.2.2.2.1.isSome)), .int iN, .int iM, .int iT, .ref 117, .ref 118, .ref 119])) := by rw [q2s _ (by omega)]; exact mO
  have f2_99 : rd h2 99 = some (.inl (P)) := by rw [q2s _ (by omega)]; exact mP
  have f2_100 : rd h2 100 = some (.inl (Ro)) := by rw [q2s _ (by omega)]; exact mRo
  have f2_101 : rd h2 101 = some (.inl (U)) := by rw [q2s _ (by omega)]; exact mU
  have f2_102 : rd h2 102 = some (.inl (rf)) := by rw [q2s _ (by omega)]; exact mrf
  have f2_104 : rd h2 104 = some (.inl (WP)) := by rw [q2s _ (by omega)]; exact mWP
  have f2_105 : rd h2 105 = some (.inl (WR)) := by rw [q2s _ (by omega)]; exact mWR
  have f2_106 : rd h2 106 = some (.inl (Tr)) := by rw [q2s _ (by omega)]; exact mTr
  have f2_107 : rd h2 107 = some (.inl (Ke)) := by rw [q2s _ (by omega)]; exact mKe
  have f2_108 : rd h2 108 = some (.inl (Co)) := by rw [q2s _ (by omega)]; exact mCo
  have f2_109 : rd h2 109 = some (.inl (Th)) := by rw [q2s _ (by omega)]; exact mTh
  have f2_110 : rd h2 110 = some (.inl (Be)) := by rw [q2s _ (by omega)]; exact mBe
  have f2_111 : rd h2 111 = some (.inl (Le)) := by rw [q2s _ (by omega)]; exact mLe
  have f2_112 : rd h2 112 = some (.inl (AP)) := by rw [q2s _ (by omega)]; exact mAP
  have f2_113 : rd h2 113 = some (.inl (AR)) := by rw [q2s _ (by omega)]; exact mAR
  have f2_114 : rd h2 114 = some (.inl (AU)) := by rw [q2s _ (by omega)]; exact mAU
  have f2_115 : rd h2 115 = some (.inl (Sz)) := by rw [q2s _ (by omega)]; exact mSz
  have f2_116 : rd h2 116 = some (.inl (It)) := by rw [q2s _ (by omega)]; exact mIt
  have f2_117 : rd h2 117 = some (.inl (IP)) := by rw [q2s _ (by omega)]; exact mIP
  have f2_118 : rd h2 118 = some (.inl (IR)) := by rw [q2s _ (by omega)]; exact mIR
  have f2_119 : rd h2 119 = some (.inl (IU)) := by rw [q2s _ (by omega)]; exact mIU
  refine g_aload_n dX9_remembers_24 0 rfl ?_
  refine g_getf dX9_remembers_25 kX9 wfX9_29 (Nat.le_of_ble_eq_true rfl) (f2_98) rfl ?_
  refine g_bipush (v := nI 18) dX9_remembers_28 (by decide +kernel) ?_
  refine g_aload_n dX9_remembers_30 0 rfl ?_
  refine g_getf dX9_remembers_31 kX9 wfX9_29 (Nat.le_of_ble_eq_true rfl) (f2_98) rfl ?_
  refine g_iconst (v := nI 0) dX9_remembers_34 (by decide +kernel) ?_
  refine g_sipush (v := nI 198) dX9_remembers_35 (by decide +kernel) ?_
  have la3 : (WP).length = 216 := lWP
  have lb3 : (WP).length = 216 := lWP
  refine g_callSq (st1 := []) dX9_remembers_38 (ev_mlays1 (a := 18) (b := 0) (s := 198) (by omega) (by omega) (by omega) (by omega) (f2_104)) oX9_lays wsX9_lays wmX9_83 rfl ⟨(Nat.le_of_ble_eq_true rfl), (Nat.le_of_ble_eq_true rfl)⟩ ⟨Nat.zero_le _, Nat.zero_le _⟩ (Nat.le_of_ble_eq_true rfl) rfl rfl (fun h4 q4 => ?_)
  obtain ⟨q4a, q4s⟩ := q4
  have f4_98 : rd h4 98 = some (.inr (9, [.int (nI σ.1.1), .int (nI σ.1.2.1), .ref 99, .ref 100, .ref 101, .int (nI σ.1.2.2.2.1), .ref 102, .int (nI ((σ.2.2.2.1).length)), .ref 103, .ref 104, .ref 105, .int fo, .int as_, .int sm, .int sk, .ref 106, .ref 107, .ref 108, .int z, .ref 109, .ref 110, .ref 111, .int (nI σ.2.1.1), .ref 112, .ref 113, .ref 114, .ref 115, .ref 116, .int (nI (bI σ.2.2.2.2.1.isSome)), .int iN, .int iM, .int iT, .ref 117, .ref 118, .ref 119])) := by rw [q4s _ (by omega)]; exact f2_98
  have f4_99 : rd h4 99 = some (.inl (P)) := by rw [q4s _ (by omega)]; exact f2_99
  have f4_100 : rd h4 100 = some (.inl (Ro)) := by rw [q4s _ (by omega)]; exact f2_100
  have f4_101 : rd h4 101 = some (.inl (U)) := by rw [q4s _ (by omega)]; exact f2_101
  have f4_102 : rd h4 102 = some (.inl (rf)) := by rw [q4s _ (by omega)]; exact f2_102
  have f4_105 : rd h4 105 = some (.inl (WR)) := by rw [q4s _ (by omega)]; exact f2_105
  have f4_106 : rd h4 106 = some (.inl (Tr)) := by rw [q4s _ (by omega)]; exact f2_106
  have f4_107 : rd h4 107 = some (.inl (Ke)) := by rw [q4s _ (by omega)]; exact f2_107
  have f4_108 : rd h4 108 = some (.inl (Co)) := by rw [q4s _ (by omega)]; exact f2_108
  have f4_109 : rd h4 109 = some (.inl (Th)) := by rw [q4s _ (by omega)]; exact f2_109
  have f4_110 : rd h4 110 = some (.inl (Be)) := by rw [q4s _ (by omega)]; exact f2_110
  have f4_111 : rd h4 111 = some (.inl (Le)) := by rw [q4s _ (by omega)]; exact f2_111
  have f4_112 : rd h4 112 = some (.inl (AP)) := by rw [q4s _ (by omega)]; exact f2_112
  have f4_113 : rd h4 113 = some (.inl (AR)) := by rw [q4s _ (by omega)]; exact f2_113
  have f4_114 : rd h4 114 = some (.inl (AU)) := by rw [q4s _ (by omega)]; exact f2_114
  have f4_115 : rd h4 115 = some (.inl (Sz)) := by rw [q4s _ (by omega)]; exact f2_115
  have f4_116 : rd h4 116 = some (.inl (It)) := by rw [q4s _ (by omega)]; exact f2_116
  have f4_117 : rd h4 117 = some (.inl (IP)) := by rw [q4s _ (by omega)]; exact f2_117
  have f4_118 : rd h4 118 = some (.inl (IR)) := by rw [q4s _ (by omega)]; exact f2_118
  have f4_119 : rd h4 119 = some (.inl (IU)) := by rw [q4s _ (by omega)]; exact f2_119
  have f4_103 : rd h4 103 = some (.inl (cpL (WM) 1 (WM) 0 11)) := by rw [q4s _ (by omega)]; exact q2a
  refine g_aload_n dX9_remembers_41 0 rfl ?_
  refine g_getf dX9_remembers_42 kX9 wfX9_32 (Nat.le_of_ble_eq_true rfl) (f4_98) rfl ?_
  refine g_sipush (v := nI 338) dX9_remembers_45 (by decide +kernel) ?_
  refine g_aload_n dX9_remembers_48 0 rfl ?_
  refine g_getf dX9_remembers_49 kX9 wfX9_32 (Nat.le_of_ble_eq_true rfl) (f4_98) rfl ?_
  refine g_iconst (v := nI 0) dX9_remembers_52 (by decide +kernel) ?_
  refine g_sipush (v := nI 3718) dX9_remembers_53 (by decide +kernel) ?_
  have la5 : (WR).length = 4056 := lWR
  have lb5 : (WR).length = 4056 := lWR
  refine g_callSq (st1 := []) dX9_remembers_56 (ev_mlays1 (a := 338) (b := 0) (s := 3718) (by omega) (by omega) (by omega) (by omega) (f4_105)) oX9_lays wsX9_lays wmX9_83 rfl ⟨(Nat.le_of_ble_eq_true rfl), (Nat.le_of_ble_eq_true rfl)⟩ ⟨Nat.zero_le _, Nat.zero_le _⟩ (Nat.le_of_ble_eq_true rfl) rfl rfl (fun h6 q6 => ?_)
  obtain ⟨q6a, q6s⟩ := q6
  have f6_98 : rd h6 98 = some (.inr (9, [.int (nI σ.1.1), .int (nI σ.1.2.1), .ref 99, .ref 100, .ref 101, .int (nI σ.1.2.2.2.1), .ref 102, .int (nI ((σ.2.2.2.1).length)), .ref 103, .ref 104, .ref 105, .int fo, .int as_, .int sm, .int sk, .ref 106, .ref 107, .ref 108, .int z, .ref 109, .ref 110, .ref 111, .int (nI σ.2.1.1), .ref 112, .ref 113, .ref 114, .ref 115, .ref 116, .int (nI (bI σ.2.2.2.2.1.isSome)), .int iN, .int iM, .int iT, .ref 117, .ref 118, .ref 119])) := by rw [q6s _ (by omega)]; exact f4_98
  have f6_99 : rd h6 99 = some (.inl (P)) := by rw [q6s _ (by omega)]; exact f4_99
  have f6_100 : rd h6 100 = some (.inl (Ro)) := by rw [q6s _ (by omega)]; exact f4_100
  have f6_101 : rd h6 101 = some (.inl (U)) := by rw [q6s _ (by omega)]; exact f4_101
  have f6_102 : rd h6 102 = some (.inl (rf)) := by rw [q6s _ (by omega)]; exact f4_102
  have f6_106 : rd h6 106 = some (.inl (Tr)) := by rw [q6s _ (by omega)]; exact f4_106
  have f6_107 : rd h6 107 = some (.inl (Ke)) := by rw [q6s _ (by omega)]; exact f4_107
  have f6_108 : rd h6 108 = some (.inl (Co)) := by rw [q6s _ (by omega)]; exact f4_108
  have f6_109 : rd h6 109 = some (.inl (Th)) := by rw [q6s _ (by omega)]; exact f4_109
  have f6_110 : rd h6 110 = some (.inl (Be)) := by rw [q6s _ (by omega)]; exact f4_110
  have f6_111 : rd h6 111 = some (.inl (Le)) := by rw [q6s _ (by omega)]; exact f4_111
  have f6_112 : rd h6 112 = some (.inl (AP)) := by rw [q6s _ (by omega)]; exact f4_112
  have f6_113 : rd h6 113 = some (.inl (AR)) := by rw [q6s _ (by omega)]; exact f4_113
  have f6_114 : rd h6 114 = some (.inl (AU)) := by rw [q6s _ (by omega)]; exact f4_114
  have f6_115 : rd h6 115 = some (.inl (Sz)) := by rw [q6s _ (by omega)]; exact f4_115
  have f6_116 : rd h6 116 = some (.inl (It)) := by rw [q6s _ (by omega)]; exact f4_116
  have f6_117 : rd h6 117 = some (.inl (IP)) := by rw [q6s _ (by omega)]; exact f4_117
  have f6_118 : rd h6 118 = some (.inl (IR)) := by rw [q6s _ (by omega)]; exact f4_118
  have f6_119 : rd h6 119 = some (.inl (IU)) := by rw [q6s _ (by omega)]; exact f4_119
  have f6_103 : rd h6 103 = some (.inl (cpL (WM) 1 (WM) 0 11)) := by rw [q6s _ (by omega)]; exact f4_103
  have f6_104 : rd h6 104 = some (.inl (cpL (WP) 18 (WP) 0 198)) := by rw [q6s _ (by omega)]; exact q4a
  refine g_aload_n dX9_remembers_59 0 rfl ?_
  refine g_dup dX9_remembers_60 rfl ?_
  refine g_getf dX9_remembers_61 kX9 wfX9_80 (Nat.le_of_ble_eq_true rfl) (f6_98) rfl ?_
  refine g_iconst (v := nI 1) dX9_remembers_64 (by decide +kernel) ?_
  refine g_isubN dX9_remembers_65 (by omega) ?_
  refine g_putv dX9_remembers_66 kX9 wfX9_80 (Nat.le_of_ble_eq_true rfl) rfl (fun _ _ => ⟨rfl, rfl⟩) (f6_98) (Nat.le_of_ble_eq_true rfl) (fs' := [.int (nI σ.1.1), .int (nI σ.1.2.1), .ref 99, .ref 100, .ref 101, .int (nI σ.1.2.2.2.1), .ref 102, .int (nI (((σ.2.2.2.1).length) - 1)), .ref 103, .ref 104, .ref 105, .int fo, .int as_, .int sm, .int sk, .ref 106, .ref 107, .ref 108, .int z, .ref 109, .ref 110, .ref 111, .int (nI σ.2.1.1), .ref 112, .ref 113, .ref 114, .ref 115, .ref 116, .int (nI (bI σ.2.2.2.2.1.isSome)), .int iN, .int iM, .int iT, .ref 117, .ref 118, .ref 119]) rfl (fun h7 e7 => ?_)
  have f7_98 : rd h7 98 = some (.inr (9, [.int (nI σ.1.1), .int (nI σ.1.2.1), .ref 99, .ref 100, .ref 101, .int (nI σ.1.2.2.2.1), .ref 102, .int (nI (((σ.2.2.2.1).length) - 1)), .ref 103, .ref 104, .ref 105, .int fo, .int as_, .int sm, .int sk, .ref 106, .ref 107, .ref 108, .int z, .ref 109, .ref 110, .ref 111, .int (nI σ.2.1.1), .ref 112, .ref 113, .ref 114, .ref 115, .ref 116, .int (nI (bI σ.2.2.2.2.1.isSome)), .int iN, .int iM, .int iT, .ref 117, .ref 118, .ref 119])) := by rw [e7]; exact rd_wr_eq (f6_98)
  have s7 : Smo 98 (98 + 1) h6 h7 := by rw [e7]; exact Smo.wr (by omega) (by omega)
  have f7_99 : rd h7 99 = some (.inl (P)) := by rw [s7 _ (by omega)]; exact f6_99
  have f7_100 : rd h7 100 = some (.inl (Ro)) := by rw [s7 _ (by omega)]; exact f6_100
  have f7_101 : rd h7 101 = some (.inl (U)) := by rw [s7 _ (by omega)]; exact f6_101
  have f7_102 : rd h7 102 = some (.inl (rf)) := by rw [s7 _ (by omega)]; exact f6_102
  have f7_106 : rd h7 106 = some (.inl (Tr)) := by rw [s7 _ (by omega)]; exact f6_106
  have f7_107 : rd h7 107 = some (.inl (Ke)) := by rw [s7 _ (by omega)]; exact f6_107
  have f7_108 : rd h7 108 = some (.inl (Co)) := by rw [s7 _ (by omega)]; exact f6_108
  have f7_109 : rd h7 109 = some (.inl (Th)) := by rw [s7 _ (by omega)]; exact f6_109
  have f7_110 : rd h7 110 = some (.inl (Be)) := by rw [s7 _ (by omega)]; exact f6_110
  have f7_111 : rd h7 111 = some (.inl (Le)) := by rw [s7 _ (by omega)]; exact f6_111
  have f7_112 : rd h7 112 = some (.inl (AP)) := by rw [s7 _ (by omega)]; exact f6_112
  have f7_113 : rd h7 113 = some (.inl (AR)) := by rw [s7 _ (by omega)]; exact f6_113
  have f7_114 : rd h7 114 = some (.inl (AU)) := by rw [s7 _ (by omega)]; exact f6_114
  have f7_115 : rd h7 115 = some (.inl (Sz)) := by rw [s7 _ (by omega)]; exact f6_115
  have f7_116 : rd h7 116 = some (.inl (It)) := by rw [s7 _ (by omega)]; exact f6_116
  have f7_117 : rd h7 117 = some (.inl (IP)) := by rw [s7 _ (by omega)]; exact f6_117
  have f7_118 : rd h7 118 = some (.inl (IR)) := by rw [s7 _ (by omega)]; exact f6_118
  have f7_119 : rd h7 119 = some (.inl (IU)) := by rw [s7 _ (by omega)]; exact f6_119
  have f7_103 : rd h7 103 = some (.inl (cpL (WM) 1 (WM) 0 11)) := by rw [s7 _ (by omega)]; exact f6_103
  have f7_104 : rd h7 104 = some (.inl (cpL (WP) 18 (WP) 0 198)) := by rw [s7 _ (by omega)]; exact f6_104
  have f7_105 : rd h7 105 = some (.inl (cpL (WR) 338 (WR) 0 3718)) := by rw [s7 _ (by omega)]; exact q6a
  have o11 : rd h7 98 = some (.inr (9, [.int (nI σ.1.1), .int (nI σ.1.2.1), .ref 99, .ref 100, .ref 101, .int (nI σ.1.2.2.2.1), .ref 102, .int (nI 11), .ref 103, .ref 104, .ref 105, .int fo, .int as_, .int sm, .int sk, .ref 106, .ref 107, .ref 108, .int z, .ref 109, .ref 110, .ref 111, .int (nI σ.2.1.1), .ref 112, .ref 113, .ref 114, .ref 115, .ref 116, .int (nI (bI σ.2.2.2.2.1.isSome)), .int iN, .int iM, .int iT, .ref 117, .ref 118, .ref 119])) := by have z := f7_98; rw [hl] at z; exact z
  refine g_aload_n dX9_remembers_69 0 rfl ?_
  refine g_getf dX9_remembers_70 kX9 wfX9_26 (Nat.le_of_ble_eq_true rfl) (o11) rfl ?_
  refine g_aload_n dX9_remembers_73 0 rfl ?_
  refine g_getf dX9_remembers_74 kX9 wfX9_80 (Nat.le_of_ble_eq_true rfl) (o11) rfl ?_
  refine g_aload_n dX9_remembers_77 0 rfl ?_
  refine g_getf dX9_remembers_78 kX9 wfX9_87 (Nat.le_of_ble_eq_true rfl) (o11) rfl ?_
  refine g_iasI dX9_remembers_81 (f7_103) (by omega) (by omega) (fun h8 e8 => ?_)
  have f8_103 : rd h8 103 = some (.inl ((cpL (WM) 1 (WM) 0 11).set 11 (nI σ.1.2.1))) := by rw [e8]; exact rd_wr_eq (f7_103)
  have lf8_103 : ((cpL (WM) 1 (WM) 0 11).set 11 (nI σ.1.2.1)).length = _ := List.length_set.trans ((cpL_len _ _ _ _ _).trans lb1)
  have s8 : Smo 103 (103 + 1) h7 h8 := by rw [e8]; exact Smo.wr (by omega) (by omega)
  have f8_98 : rd h8 98 = some (.inr (9, [.int (nI σ.1.1), .int (nI σ.1.2.1), .ref 99, .ref 100, .ref 101, .int (nI σ.1.2.2.2.1), .ref 102, .int (nI 11), .ref 103, .ref 104, .ref 105, .int fo, .int as_, .int sm, .int sk, .ref 106, .ref 107, .ref 108, .int z, .ref 109, .ref 110, .ref 111, .int (nI σ.2.1.1), .ref 112, .ref 113, .ref 114, .ref 115, .ref 116, .int (nI (bI σ.2.2.2.2.1.isSome)), .int iN, .int iM, .int iT, .ref 117, .ref 118, .ref 119])) := by rw [s8 _ (by omega)]; exact o11
  have f8_99 : rd h8 99 = some (.inl (P)) := by rw [s8 _ (by omega)]; exact f7_99
  have f8_100 : rd h8 100 = some (.inl (Ro)) := by rw [s8 _ (by omega)]; exact f7_100
  have f8_101 : rd h8 101 = some (.inl (U)) := by rw [s8 _ (by omega)]; exact f7_101
  have f8_102 : rd h8 102 = some (.inl (rf)) := by rw [s8 _ (by omega)]; exact f7_102
  have f8_106 : rd h8 106 = some (.inl (Tr)) := by rw [s8 _ (by omega)]; exact f7_106
  have f8_107 : rd h8 107 = some (.inl (Ke)) := by rw [s8 _ (by omega)]; exact f7_107
  have f8_108 : rd h8 108 = some (.inl (Co)) := by rw [s8 _ (by omega)]; exact f7_108
  have f8_109 : rd h8 109 = some (.inl (Th)) := by rw [s8 _ (by omega)]; exact f7_109
  have f8_110 : rd h8 110 = some (.inl (Be)) := by rw [s8 _ (by omega)]; exact f7_110
  have f8_111 : rd h8 111 = some (.inl (Le)) := by rw [s8 _ (by omega)]; exact f7_111
  have f8_112 : rd h8 112 = some (.inl (AP)) := by rw [s8 _ (by omega)]; exact f7_112
  have f8_113 : rd h8 113 = some (.inl (AR)) := by rw [s8 _ (by omega)]; exact f7_113
  have f8_114 : rd h8 114 = some (.inl (AU)) := by rw [s8 _ (by omega)]; exact f7_114
  have f8_115 : rd h8 115 = some (.inl (Sz)) := by rw [s8 _ (by omega)]; exact f7_115
  have f8_116 : rd h8 116 = some (.inl (It)) := by rw [s8 _ (by omega)]; exact f7_116
  have f8_117 : rd h8 117 = some (.inl (IP)) := by rw [s8 _ (by omega)]; exact f7_117
  have f8_118 : rd h8 118 = some (.inl (IR)) := by rw [s8 _ (by omega)]; exact f7_118
  have f8_119 : rd h8 119 = some (.inl (IU)) := by rw [s8 _ (by omega)]; exact f7_119
  have f8_104 : rd h8 104 = some (.inl (cpL (WP) 18 (WP) 0 198)) := by rw [s8 _ (by omega)]; exact f7_104
  have f8_105 : rd h8 105 = some (.inl (cpL (WR) 338 (WR) 0 3718)) := by rw [s8 _ (by omega)]; exact f7_105
  refine g_aload_n dX9_remembers_82 0 rfl ?_
  refine g_getf dX9_remembers_83 kX9 wfX9_13 (Nat.le_of_ble_eq_true rfl) (f8_98) rfl ?_
  refine g_iconst (v := nI 0) dX9_remembers_86 (by decide +kernel) ?_
  refine g_aload_n dX9_remembers_87 0 rfl ?_
  refine g_getf dX9_remembers_88 kX9 wfX9_29 (Nat.le_of_ble_eq_true rfl) (f8_98) rfl ?_
  refine g_aload_n dX9_remembers_91 0 rfl ?_
  refine g_getf dX9_remembers_92 kX9 wfX9_80 (Nat.le_of_ble_eq_true rfl) (f8_98) rfl ?_
  refine g_iconst (v := nI 3) dX9_remembers_95 (by decide +kernel) ?_
  refine g_imulN dX9_remembers_96 ?_
  refine g_bipush (v := nI 6) dX9_remembers_97 (by decide +kernel) ?_
  refine g_imulN dX9_remembers_99 ?_
  refine g_bipush (v := nI 18) dX9_remembers_100 (by decide +kernel) ?_
  have la9 : (P).length = 18 := lP
  have lb9 : (cpL (WP) 18 (WP) 0 198).length = 216 := ((cpL_len _ _ _ _ _).trans lb3)
  refine g_callSq (st1 := []) dX9_remembers_102 (ev_mlays (a := 0) (b := (11 * 3) * 6) (s := 18) (show 99 ≠ 104 by decide) (by omega) (by omega) ⟨by omega, by omega⟩ (f8_99) (f8_104)) oX9_lays wsX9_lays wmX9_83 rfl ⟨(Nat.le_of_ble_eq_true rfl), (Nat.le_of_ble_eq_true rfl)⟩ ⟨Nat.zero_le _, Nat.zero_le _⟩ (Nat.le_of_ble_eq_true rfl) rfl rfl (fun h10 q10 => ?_)
  obtain ⟨q10a, q10s⟩ := q10
  have f10_98 : rd h10 98 = some (.inr (9, [.int (nI σ.1.1), .int (nI σ.1.2.1), .ref 99, .ref 100, .ref 101, .int (nI σ.1.2.2.2.1), .ref 102, .int (nI 11), .ref 103, .ref 104, .ref 105, .int fo, .int as_, .int sm, .int sk, .ref 106, .ref 107, .ref 108, .int z, .ref 109, .ref 110, .ref 111, .int (nI σ.2.1.1), .ref 112, .ref 113, .ref 114, .ref 115, .ref 116, .int (nI (bI σ.2.2.2.2.1.isSome)), .int iN, .int iM, .int iT, .ref 117, .ref 118, .ref 119])) := by rw [q10s _ (by omega)]; exact f8_98
  have f10_99 : rd h10 99 = some (.inl (P)) := by rw [q10s _ (by omega)]; exact f8_99
  have f10_100 : rd h10 100 = some (.inl (Ro)) := by rw [q10s _ (by omega)]; exact f8_100
  have f10_101 : rd h10 101 = some (.inl (U)) := by rw [q10s _ (by omega)]; exact f8_101
  have f10_102 : rd h10 102 = some (.inl (rf)) := by rw [q10s _ (by omega)]; exact f8_102
  have f10_106 : rd h10 106 = some (.inl (Tr)) := by rw [q10s _ (by omega)]; exact f8_106
  have f10_107 : rd h10 107 = some (.inl (Ke)) := by rw [q10s _ (by omega)]; exact f8_107
  have f10_108 : rd h10 108 = some (.inl (Co)) := by rw [q10s _ (by omega)]; exact f8_108
  have f10_109 : rd h10 109 = some (.inl (Th)) := by rw [q10s _ (by omega)]; exact f8_109
  have f10_110 : rd h10 110 = some (.inl (Be)) := by rw [q10s _ (by omega)]; exact f8_110
  have f10_111 : rd h10 111 = some (.inl (Le)) := by rw [q10s _ (by omega)]; exact f8_111
  have f10_112 : rd h10 112 = some (.inl (AP)) := by rw [q10s _ (by omega)]; exact f8_112
  have f10_113 : rd h10 113 = some (.inl (AR)) := by rw [q10s _ (by omega)]; exact f8_113
  have f10_114 : rd h10 114 = some (.inl (AU)) := by rw [q10s _ (by omega)]; exact f8_114
  have f10_115 : rd h10 115 = some (.inl (Sz)) := by rw [q10s _ (by omega)]; exact f8_115
  have f10_116 : rd h10 116 = some (.inl (It)) := by rw [q10s _ (by omega)]; exact f8_116
  have f10_117 : rd h10 117 = some (.inl (IP)) := by rw [q10s _ (by omega)]; exact f8_117
  have f10_118 : rd h10 118 = some (.inl (IR)) := by rw [q10s _ (by omega)]; exact f8_118
  have f10_119 : rd h10 119 = some (.inl (IU)) := by rw [q10s _ (by omega)]; exact f8_119
  have f10_103 : rd h10 103 = some (.inl ((cpL (WM) 1 (WM) 0 11).set 11 (nI σ.1.2.1))) := by rw [q10s _ (by omega)]; exact f8_103
  have f10_105 : rd h10 105 = some (.inl (cpL (WR) 338 (WR) 0 3718)) := by rw [q10s _ (by omega)]; exact f8_105
  refine g_aload_n dX9_remembers_105 0 rfl ?_
  refine g_getf dX9_remembers_106 kX9 wfX9_17 (Nat.le_of_ble_eq_true rfl) (f10_98) rfl ?_
  refine g_iconst (v := nI 0) dX9_remembers_109 (by decide +kernel) ?_
  refine g_aload_n dX9_remembers_110 0 rfl ?_
  refine g_getf dX9_remembers_111 kX9 wfX9_32 (Nat.le_of_ble_eq_true rfl) (f10_98) rfl ?_
  refine g_aload_n dX9_remembers_114 0 rfl ?_
  refine g_getf dX9_remembers_115 kX9 wfX9_80 (Nat.le_of_ble_eq_true rfl) (f10_98) rfl ?_
  refine g_iconst (v := nI 2) dX9_remembers_118 (by decide +kernel) ?_
  refine g_imulN dX9_remembers_119 ?_
  refine g_sipush (v := nI 169) dX9_remembers_120 (by decide +kernel) ?_
  refine g_imulN dX9_remembers_123 ?_
  refine g_sipush (v := nI 338) dX9_remembers_124 (by decide +kernel) ?_
  have la11 : (Ro).length = 338 := lRo
  have lb11 : (cpL (WR) 338 (WR) 0 3718).length = 4056 := ((cpL_len _ _ _ _ _).trans lb5)
  refine g_callSq (st1 := []) dX9_remembers_127 (ev_mlays (a := 0) (b := (11 * 2) * 169) (s := 338) (show 100 ≠ 105 by decide) (by omega) (by omega) ⟨by omega, by omega⟩ (f10_100) (f10_105)) oX9_lays wsX9_lays wmX9_83 rfl ⟨(Nat.le_of_ble_eq_true rfl), (Nat.le_of_ble_eq_true rfl)⟩ ⟨Nat.zero_le _, Nat.zero_le _⟩ (Nat.le_of_ble_eq_true rfl) rfl rfl (fun h12 q12 => ?_)
  obtain ⟨q12a, q12s⟩ := q12
  have f12_98 : rd h12 98 = some (.inr (9, [.int (nI σ.1.1), .int (nI σ.1.2.1), .ref 99, .ref 100, .ref 101, .int (nI σ.1.2.2.2.1), .ref 102, .int (nI 11), .ref 103, .ref 104, .ref 105, .int fo, .int as_, .int sm, .int sk, .ref 106, .ref 107, .ref 108, .int z, .ref 109, .ref 110, .ref 111, .int (nI σ.2.1.1), .ref 112, .ref 113, .ref 114, .ref 115, .ref 116, .int (nI (bI σ.2.2.2.2.1.isSome)), .int iN, .int iM, .int iT, .ref 117, .ref 118, .ref 119])) := by rw [q12s _ (by omega)]; exact f10_98
  have f12_99 : rd h12 99 = some (.inl (P)) := by rw [q12s _ (by omega)]; exact f10_99
  have f12_100 : rd h12 100 = some (.inl (Ro)) := by rw [q12s _ (by omega)]; exact f10_100
  have f12_101 : rd h12 101 = some (.inl (U)) := by rw [q12s _ (by omega)]; exact f10_101
  have f12_102 : rd h12 102 = some (.inl (rf)) := by rw [q12s _ (by omega)]; exact f10_102
  have f12_106 : rd h12 106 = some (.inl (Tr)) := by rw [q12s _ (by omega)]; exact f10_106
  have f12_107 : rd h12 107 = some (.inl (Ke)) := by rw [q12s _ (by omega)]; exact f10_107
  have f12_108 : rd h12 108 = some (.inl (Co)) := by rw [q12s _ (by omega)]; exact f10_108
  have f12_109 : rd h12 109 = some (.inl (Th)) := by rw [q12s _ (by omega)]; exact f10_109
  have f12_110 : rd h12 110 = some (.inl (Be)) := by rw [q12s _ (by omega)]; exact f10_110
  have f12_111 : rd h12 111 = some (.inl (Le)) := by rw [q12s _ (by omega)]; exact f10_111
  have f12_112 : rd h12 112 = some (.inl (AP)) := by rw [q12s _ (by omega)]; exact f10_112
  have f12_113 : rd h12 113 = some (.inl (AR)) := by rw [q12s _ (by omega)]; exact f10_113
  have f12_114 : rd h12 114 = some (.inl (AU)) := by rw [q12s _ (by omega)]; exact f10_114
  have f12_115 : rd h12 115 = some (.inl (Sz)) := by rw [q12s _ (by omega)]; exact f10_115
  have f12_116 : rd h12 116 = some (.inl (It)) := by rw [q12s _ (by omega)]; exact f10_116
  have f12_117 : rd h12 117 = some (.inl (IP)) := by rw [q12s _ (by omega)]; exact f10_117
  have f12_118 : rd h12 118 = some (.inl (IR)) := by rw [q12s _ (by omega)]; exact f10_118
  have f12_119 : rd h12 119 = some (.inl (IU)) := by rw [q12s _ (by omega)]; exact f10_119
  have f12_103 : rd h12 103 = some (.inl ((cpL (WM) 1 (WM) 0 11).set 11 (nI σ.1.2.1))) := by rw [q12s _ (by omega)]; exact f10_103
  have f12_104 : rd h12 104 = some (.inl (cpL (P) 0 (cpL (WP) 18 (WP) 0 198) ((11 * 3) * 6) 18)) := by rw [q12s _ (by omega)]; exact q10a
  refine g_aload_n dX9_remembers_130 0 rfl ?_
  refine g_dup dX9_remembers_131 rfl ?_
  refine g_getf dX9_remembers_132 kX9 wfX9_80 (Nat.le_of_ble_eq_true rfl) (f12_98) rfl ?_
  refine g_iconst (v := nI 1) dX9_remembers_135 (by decide +kernel) ?_
  refine g_iaddN dX9_remembers_136 ?_
  refine g_putv dX9_remembers_137 kX9 wfX9_80 (Nat.le_of_ble_eq_true rfl) rfl (fun _ _ => ⟨rfl, rfl⟩) (f12_98) (Nat.le_of_ble_eq_true rfl) (fs' := [.int (nI σ.1.1), .int (nI σ.1.2.1), .ref 99, .ref 100, .ref 101, .int (nI σ.1.2.2.2.1), .ref 102, .int (nI (11 + 1)), .ref 103, .ref 104, .ref 105, .int fo, .int as_, .int sm, .int sk, .ref 106, .ref 107, .ref 108, .int z, .ref 109, .ref 110, .ref 111, .int (nI σ.2.1.1), .ref 112, .ref 113, .ref 114, .ref 115, .ref 116, .int (nI (bI σ.2.2.2.2.1.isSome)), .int iN, .int iM, .int iT, .ref 117, .ref 118, .ref 119]) rfl (fun h13 e13 => ?_)
  have f13_98 : rd h13 98 = some (.inr (9, [.int (nI σ.1.1), .int (nI σ.1.2.1), .ref 99, .ref 100, .ref 101, .int (nI σ.1.2.2.2.1), .ref 102, .int (nI (11 + 1)), .ref 103, .ref 104, .ref 105, .int fo, .int as_, .int sm, .int sk, .ref 106, .ref 107, .ref 108, .int z, .ref 109, .ref 110, .ref 111, .int (nI σ.2.1.1), .ref 112, .ref 113, .ref 114, .ref 115, .ref 116, .int (nI (bI σ.2.2.2.2.1.isSome)), .int iN, .int iM, .int iT, .ref 117, .ref 118, .ref 119])) := by rw [e13]; exact rd_wr_eq (f12_98)
  have s13 : Smo 98 (98 + 1) h12 h13 := by rw [e13]; exact Smo.wr (by omega) (by omega)
  have f13_99 : rd h13 99 = some (.inl (P)) := by rw [s13 _ (by omega)]; exact f12_99
  have f13_100 : rd h13 100 = some (.inl (Ro)) := by rw [s13 _ (by omega)]; exact f12_100
  have f13_101 : rd h13 101 = some (.inl (U)) := by rw [s13 _ (by omega)]; exact f12_101
  have f13_102 : rd h13 102 = some (.inl (rf)) := by rw [s13 _ (by omega)]; exact f12_102
  have f13_106 : rd h13 106 = some (.inl (Tr)) := by rw [s13 _ (by omega)]; exact f12_106
  have f13_107 : rd h13 107 = some (.inl (Ke)) := by rw [s13 _ (by omega)]; exact f12_107
  have f13_108 : rd h13 108 = some (.inl (Co)) := by rw [s13 _ (by omega)]; exact f12_108
  have f13_109 : rd h13 109 = some (.inl (Th)) := by rw [s13 _ (by omega)]; exact f12_109
  have f13_110 : rd h13 110 = some (.inl (Be)) := by rw [s13 _ (by omega)]; exact f12_110
  have f13_111 : rd h13 111 = some (.inl (Le)) := by rw [s13 _ (by omega)]; exact f12_111
  have f13_112 : rd h13 112 = some (.inl (AP)) := by rw [s13 _ (by omega)]; exact f12_112
  have f13_113 : rd h13 113 = some (.inl (AR)) := by rw [s13 _ (by omega)]; exact f12_113
  have f13_114 : rd h13 114 = some (.inl (AU)) := by rw [s13 _ (by omega)]; exact f12_114
  have f13_115 : rd h13 115 = some (.inl (Sz)) := by rw [s13 _ (by omega)]; exact f12_115
  have f13_116 : rd h13 116 = some (.inl (It)) := by rw [s13 _ (by omega)]; exact f12_116
  have f13_117 : rd h13 117 = some (.inl (IP)) := by rw [s13 _ (by omega)]; exact f12_117
  have f13_118 : rd h13 118 = some (.inl (IR)) := by rw [s13 _ (by omega)]; exact f12_118
  have f13_119 : rd h13 119 = some (.inl (IU)) := by rw [s13 _ (by omega)]; exact f12_119
  have f13_103 : rd h13 103 = some (.inl ((cpL (WM) 1 (WM) 0 11).set 11 (nI σ.1.2.1))) := by rw [s13 _ (by omega)]; exact f12_103
  have f13_104 : rd h13 104 = some (.inl (cpL (P) 0 (cpL (WP) 18 (WP) 0 198) ((11 * 3) * 6) 18)) := by rw [s13 _ (by omega)]; exact f12_104
  have f13_105 : rd h13 105 = some (.inl (cpL (Ro) 0 (cpL (WR) 338 (WR) 0 3718) ((11 * 2) * 169) 338)) := by rw [s13 _ (by omega)]; exact q12a
  exact g_vret dX9_remembers_140 rfl ⟨Nat.zero_le _, Nat.zero_le _⟩ (⟨rfl, ⟨_, _, _, _, _, _, _, _, _, _, _, _, _, _, _, _, _, _, _, _, _, _, _, _, _, _, _, _, _, (by rw [show ((σ.1.2.2.1, σ.1.2.2.2.2.2) :: σ.2.2.2.1.take 11).length = 11 + 1 from by rw [List.length_cons, lt]]; exact f13_98), ⟨f13_99, lP⟩, ⟨f13_100, lRo⟩, ⟨f13_101, lU⟩, ⟨f13_102, lrf⟩, ⟨f13_103, lf8_103⟩, ⟨f13_104, ((cpL_len _ _ _ _ _).trans lb9)⟩, ⟨f13_105, ((cpL_len _ _ _ _ _).trans lb11)⟩, ⟨f13_106, lTr⟩, ⟨f13_107, lKe⟩, ⟨f13_108, lCo⟩, ⟨f13_109, lTh⟩, ⟨f13_110, lBe⟩, ⟨f13_111, lLe⟩, ⟨f13_112, lAP⟩, ⟨f13_113, lAR⟩, ⟨f13_114, lAU⟩, ⟨f13_115, lSz⟩, ⟨f13_116, lIt⟩, ⟨f13_117, lIP⟩, ⟨f13_118, lIR⟩, ⟨f13_119, lIU⟩, vP, vR, vU, vF, (hM_push (hM_shift vH hl hm6 lWM lWP lWR) lt (by omega) hm6 ((cpL_len _ _ _ _ _).trans lWM) ((cpL_len _ _ _ _ _).trans lWP) ((cpL_len _ _ _ _ _).trans lWR) vP vR), vL, vS, vI, vG⟩, (fun q hq => by rw [s13 q (by omega), q12s q (by omega), q10s q (by omega), s8 q (by omega), s7 q (by omega), q6s q (by omega), q4s q (by omega), q2s q (by omega)])⟩)

theorem ev_remembers {h : List aC} {σ : Sg} (H : RM h σ) (ok : okSg σ) : Ev mX9_remembers 2 0 0 [.ref 98] h (pq none (fun h2 => RM h2 (σ.1, σ.2.1, σ.2.2.1, (σ.1.2.2.1, σ.1.2.2.2.2.2) :: σ.2.2.2.1.take 11, σ.2.2.2.2) ∧ Smo 98 120 h h2)) := by
  by_cases hl : σ.2.2.2.1.length ≤ 11
  · exact ev_rem_a H ok hl
  · exact ev_rem_b H ok (by have := ok.2.2.2.1.1; omega)
