def P3 (P : List Int32) (m : Nat) (x y z : Int32) : List Int32 := ((P.set (3 * m) x).set (3 * m + 1) y).set (3 * m + 2) z
theorem P3_len (P : List Int32) (m : Nat) (x y z : Int32) : (P3 P m x y z).length = P.length := by unfold P3; rw [List.length_set, List.length_set, List.length_set]
theorem P3_out {P : List Int32} {m i : Nat} {x y z : Int32} (h : i < 3 * m ∨ 3 * m + 2 < i) : (P3 P m x y z).getD i 0 = P.getD i 0 := by unfold P3; rw [getD_set_neI (by omega), getD_set_neI (by omega), getD_set_neI (by omega)]
theorem P3_0 {P : List Int32} {m : Nat} {x y z : Int32} (l : 3 * m + 2 < P.length) : (P3 P m x y z).getD (3 * m) 0 = x := by unfold P3; rw [getD_set_neI (by omega), getD_set_neI (by omega), getD_set_eqI (by omega)]
theorem P3_1 {P : List Int32} {m : Nat} {x y z : Int32} (l : 3 * m + 2 < P.length) : (P3 P m x y z).getD (3 * m + 1) 0 = y := by unfold P3; rw [getD_set_neI (by omega), getD_set_eqI (by rw [List.length_set]; omega)]
theorem P3_2 {P : List Int32} {m : Nat} {x y z : Int32} (l : 3 * m + 2 < P.length) : (P3 P m x y z).getD (3 * m + 2) 0 = z := by unfold P3; rw [getD_set_eqI (by rw [List.length_set, List.length_set]; omega)]
theorem pR_P3 {P : List Int32} {m : Nat} {f : Nat → Pr} (h : pR P 0 m f) (lP : P.length = 18) (hm : m < 6) (x y z : Nat) : pR (P3 P m (nI x) (nI y) (nI z)) 0 (m + 1) (upF f m (x, y, z)) := fun k hk => by
  rw [Nat.zero_add]
  by_cases q : k = m
  · subst q; rw [upF_eq, P3_0 (by omega), P3_1 (by omega), P3_2 (by omega)]; exact ⟨rfl, rfl, rfl⟩
  · rw [upF_ne q, P3_out (by omega), P3_out (by omega), P3_out (by omega)]
    exact ⟨pR0 h (by omega), pR1 h (by omega), pR2 h (by omega)⟩

set_option maxRecDepth 100000 in
set_option maxHeartbeats 4000000 in
theorem ev_comes {h : List aC} {n m a de : Nat} {fo as_ sm sk z : Int32} {am : Nat} {ib : Bool} {iN iM iT : Int32} (hO : MO h n m a de fo as_ sm sk z am ib iN iM iT) {P : List Int32} (lP : P.length = 18) (hP : rd h 99 = some (.inl P)) (hm : m < 6) (x y v : Int32) : Ev mX9_comes 1 0 0 [.ref 98, .int x, .int y, .int v] h (pq none (fun h2 => MO h2 n (m + 1) a de fo as_ sm sk z am ib iN iM iT ∧ rd h2 99 = some (.inl (P3 P m x y v)) ∧ Smo 98 100 h h2)) := by
  have hO : rd h 98 = some (.inr (9, [.int (nI n), .int (nI m), .ref 99, .ref 100, .ref 101, .int (nI a), .ref 102, .int (nI de), .ref 103, .ref 104, .ref 105, .int fo, .int as_, .int sm, .int sk, .ref 106, .ref 107, .ref 108, .int z, .ref 109, .ref 110, .ref 111, .int (nI am), .ref 112, .ref 113, .ref 114, .ref 115, .ref 116, .int (nI (bI ib)), .int iN, .int iM, .int iT, .ref 117, .ref 118, .ref 119])) := hO
  refine Ev.of pX9_comes (Nat.le_of_ble_eq_true rfl) ?_
  show G mX9_comes (rmD 1 0 0) none _ 0 0 0 [(0, .ref 98), (1, .int x), (2, .int y), (3, .int v)] [] h
  refine g_aload_n dX9_comes_0 0 rfl ?_
  refine g_getf dX9_comes_1 kX9 wfX9_13 (Nat.le_of_ble_eq_true rfl) (hO) rfl ?_
  refine g_iconst (v := nI 3) dX9_comes_4 (by decide +kernel) ?_
  refine g_aload_n dX9_comes_5 0 rfl ?_
  refine g_getf dX9_comes_6 kX9 wfX9_87 (Nat.le_of_ble_eq_true rfl) (hO) rfl ?_
  refine g_imulN dX9_comes_9 ?_
  refine g_iload_n dX9_comes_10 1 rfl ?_
  refine g_iasI dX9_comes_11 (hP) (by omega) (by omega) (fun h1 e1 => ?_)
  have f1_99 : rd h1 99 = some (.inl ((P).set (3 * m) x)) := by rw [e1]; exact rd_wr_eq (hP)
  have lf1_99 : ((P).set (3 * m) x).length = _ := List.length_set.trans lP
  have s1 : Smo 99 (99 + 1) h h1 := by rw [e1]; exact Smo.wr (by omega) (by omega)
  have f1_98 : rd h1 98 = some (.inr (9, [.int (nI n), .int (nI m), .ref 99, .ref 100, .ref 101, .int (nI a), .ref 102, .int (nI de), .ref 103, .ref 104, .ref 105, .int fo, .int as_, .int sm, .int sk, .ref 106, .ref 107, .ref 108, .int z, .ref 109, .ref 110, .ref 111, .int (nI am), .ref 112, .ref 113, .ref 114, .ref 115, .ref 116, .int (nI (bI ib)), .int iN, .int iM, .int iT, .ref 117, .ref 118, .ref 119])) := by rw [s1 _ (by omega)]; exact hO
  refine g_aload_n dX9_comes_12 0 rfl ?_
  refine g_getf dX9_comes_13 kX9 wfX9_13 (Nat.le_of_ble_eq_true rfl) (f1_98) rfl ?_
  refine g_iconst (v := nI 3) dX9_comes_16 (by decide +kernel) ?_
  refine g_aload_n dX9_comes_17 0 rfl ?_
  refine g_getf dX9_comes_18 kX9 wfX9_87 (Nat.le_of_ble_eq_true rfl) (f1_98) rfl ?_
  refine g_imulN dX9_comes_21 ?_
  refine g_iconst (v := nI 1) dX9_comes_22 (by decide +kernel) ?_
  refine g_iaddN dX9_comes_23 ?_
  refine g_iload_n dX9_comes_24 2 rfl ?_
  refine g_iasI dX9_comes_25 (f1_99) (by rw [List.length_set]; omega) (by simp only [List.length_set]; omega) (fun h2 e2 => ?_)
  have f2_99 : rd h2 99 = some (.inl (((P).set (3 * m) x).set ((3 * m) + 1) y)) := by rw [e2]; exact rd_wr_eq (f1_99)
  have lf2_99 : (((P).set (3 * m) x).set ((3 * m) + 1) y).length = _ := List.length_set.trans lf1_99
  have s2 : Smo 99 (99 + 1) h1 h2 := by rw [e2]; exact Smo.wr (by omega) (by omega)
  have f2_98 : rd h2 98 = some (.inr (9, [.int (nI n), .int (nI m), .ref 99, .ref 100, .ref 101, .int (nI a), .ref 102, .int (nI de), .ref 103, .ref 104, .ref 105, .int fo, .int as_, .int sm, .int sk, .ref 106, .ref 107, .ref 108, .int z, .ref 109, .ref 110, .ref 111, .int (nI am), .ref 112, .ref 113, .ref 114, .ref 115, .ref 116, .int (nI (bI ib)), .int iN, .int iM, .int iT, .ref 117, .ref 118, .ref 119])) := by rw [s2 _ (by omega)]; exact f1_98
  refine g_aload_n dX9_comes_26 0 rfl ?_
  refine g_getf dX9_comes_27 kX9 wfX9_13 (Nat.le_of_ble_eq_true rfl) (f2_98) rfl ?_
  refine g_iconst (v := nI 3) dX9_comes_30 (by decide +kernel) ?_
  refine g_aload_n dX9_comes_31 0 rfl ?_
  refine g_getf dX9_comes_32 kX9 wfX9_87 (Nat.le_of_ble_eq_true rfl) (f2_98) rfl ?_
  refine g_imulN dX9_comes_35 ?_
  refine g_iconst (v := nI 2) dX9_comes_36 (by decide +kernel) ?_
  refine g_iaddN dX9_comes_37 ?_
  refine g_iload_n dX9_comes_38 3 rfl ?_
  refine g_iasI dX9_comes_39 (f2_99) (by rw [List.length_set, List.length_set]; omega) (by simp only [List.length_set]; omega) (fun h3 e3 => ?_)
  have f3_99 : rd h3 99 = some (.inl ((((P).set (3 * m) x).set ((3 * m) + 1) y).set ((3 * m) + 2) v)) := by rw [e3]; exact rd_wr_eq (f2_99)
  have lf3_99 : ((((P).set (3 * m) x).set ((3 * m) + 1) y).set ((3 * m) + 2) v).length = _ := List.length_set.trans lf2_99
  have s3 : Smo 99 (99 + 1) h2 h3 := by rw [e3]; exact Smo.wr (by omega) (by omega)
  have f3_98 : rd h3 98 = some (.inr (9, [.int (nI n), .int (nI m), .ref 99, .ref 100, .ref 101, .int (nI a), .ref 102, .int (nI de), .ref 103, .ref 104, .ref 105, .int fo, .int as_, .int sm, .int sk, .ref 106, .ref 107, .ref 108, .int z, .ref 109, .ref 110, .ref 111, .int (nI am), .ref 112, .ref 113, .ref 114, .ref 115, .ref 116, .int (nI (bI ib)), .int iN, .int iM, .int iT, .ref 117, .ref 118, .ref 119])) := by rw [s3 _ (by omega)]; exact f2_98
  refine g_aload_n dX9_comes_40 0 rfl ?_
  refine g_dup dX9_comes_41 rfl ?_
  refine g_getf dX9_comes_42 kX9 wfX9_87 (Nat.le_of_ble_eq_true rfl) (f3_98) rfl ?_
  refine g_iconst (v := nI 1) dX9_comes_45 (by decide +kernel) ?_
  refine g_iaddN dX9_comes_46 ?_
  refine g_putv dX9_comes_47 kX9 wfX9_87 (Nat.le_of_ble_eq_true rfl) rfl (fun _ _ => ⟨rfl, rfl⟩) (f3_98) (Nat.le_of_ble_eq_true rfl) (fs' := [.int (nI n), .int (nI (m + 1)), .ref 99, .ref 100, .ref 101, .int (nI a), .ref 102, .int (nI de), .ref 103, .ref 104, .ref 105, .int fo, .int as_, .int sm, .int sk, .ref 106, .ref 107, .ref 108, .int z, .ref 109, .ref 110, .ref 111, .int (nI am), .ref 112, .ref 113, .ref 114, .ref 115, .ref 116, .int (nI (bI ib)), .int iN, .int iM, .int iT, .ref 117, .ref 118, .ref 119]) rfl (fun h4 e4 => ?_)
  have f4_98 : rd h4 98 = some (.inr (9, [.int (nI n), .int (nI (m + 1)), .ref 99, .ref 100, .ref 101, .int (nI a), .ref 102, .int (nI de), .ref 103, .ref 104, .ref 105, .int fo, .int as_, .int sm, .int sk, .ref 106, .ref 107, .ref 108, .int z, .ref 109, .ref 110, .ref 111, .int (nI am), .ref 112, .ref 113, .ref 114, .ref 115, .ref 116, .int (nI (bI ib)), .int iN, .int iM, .int iT, .ref 117, .ref 118, .ref 119])) := by rw [e4]; exact rd_wr_eq (f3_98)
  have s4 : Smo 98 (98 + 1) h3 h4 := by rw [e4]; exact Smo.wr (by omega) (by omega)
  have f4_99 : rd h4 99 = some (.inl ((((P).set (3 * m) x).set ((3 * m) + 1) y).set ((3 * m) + 2) v)) := by rw [s4 _ (by omega)]; exact f3_99
  exact g_vret dX9_comes_50 rfl ⟨Nat.zero_le _, Nat.zero_le _⟩ (⟨rfl, f4_98, f4_99, (fun q hq => by rw [s4 q (by omega), s3 q (by omega), s2 q (by omega), s1 q (by omega)])⟩)

set_option maxRecDepth 100000 in
set_option maxHeartbeats 4000000 in
theorem ev_y_pair {h : List aC} {σ : Sg} (H : RM h σ) (ok : okSg σ) (x y : Int32) : Ev mX9_pair 2 0 0 [.ref 98, .int x, .int y] h (spM h (oPair σ x y)) := by
  obtain ⟨fo, as_, sm, sk, z, iN, iM, iT, P, Ro, U, rf, WM, WP, WR, Tr, Ke, Co, Th, Be, Le, AP, AR, AU, Sz, It, IP, IR, IU, mO, mP, mRo, mU, mrf, mWM, mWP, mWR, mTr, mKe, mCo, mTh, mBe, mLe, mAP, mAR, mAU, mSz, mIt, mIP, mIR, mIU, vP, vR, vU, vF, vH, vL, vS, vI, vG⟩ := id H
  have mO : rd h 98 = some (.inr (9, [.int (nI σ.1.1), .int (nI σ.1.2.1), .ref 99, .ref 100, .ref 101, .int (nI σ.1.2.2.2.1), .ref 102, .int (nI ((σ.2.2.2.1).length)), .ref 103, .ref 104, .ref 105, .int fo, .int as_, .int sm, .int sk, .ref 106, .ref 107, .ref 108, .int z, .ref 109, .ref 110, .ref 111, .int (nI σ.2.1.1), .ref 112, .ref 113, .ref 114, .ref 115, .ref 116, .int (nI (bI σ.2.2.2.2.1.isSome)), .int iN, .int iM, .int iT, .ref 117, .ref 118, .ref 119])) := mO
  obtain ⟨mP, lP⟩ := mP
  obtain ⟨mRo, lRo⟩ := mRo
  obtain ⟨mU, lU⟩ := mU
  obtain ⟨mrf, lrf⟩ := mrf
  obtain ⟨mWM, lWM⟩ := mWM
  obtain ⟨mWP, lWP⟩ := mWP
  obtain ⟨mWR, lWR⟩ := mWR
  obtain ⟨mTr, lTr⟩ := mTr
  obtain ⟨mKe, lKe⟩ := mKe
  obtain ⟨mCo, lCo⟩ := mCo
  obtain ⟨mTh, lTh⟩ := mTh
  obtain ⟨mBe, lBe⟩ := mBe
  obtain ⟨mLe, lLe⟩ := mLe
  obtain ⟨mAP, lAP⟩ := mAP
  obtain ⟨mAR, lAR⟩ := mAR
  obtain ⟨mAU, lAU⟩ := mAU
  obtain ⟨mSz, lSz⟩ := mSz
  obtain ⟨mIt, lIt⟩ := mIt
  obtain ⟨mIP, lIP⟩ := mIP
  obtain ⟨mIR, lIR⟩ := mIR
  obtain ⟨mIU, lIU⟩ := mIU
  obtain ⟨okc, ⟨okl, okw⟩, okn, ⟨okh, oke⟩, oki, okr⟩ := id ok
  obtain ⟨k1, k2, k3, k4, k5, k6, k7, k8, k9⟩ := id okc
  refine Ev.of pX9_pair (Nat.le_of_ble_eq_true rfl) ?_
  show G mX9_pair (rmD 2 0 0) none _ 0 0 0 [(0, .ref 98), (1, .int x), (2, .int y)] [] h
  refine g_iload_n dX9_pair_0 1 rfl ?_
  refine g_iconst (v := nI 1) dX9_pair_1 (by decide +kernel) ?_
  refine g_icmp_lt 10 dX9_pair_2 (by decide) (fun c2 => ?_) (fun c2 => ?_)
  · refine g_aload_n dX9_pair_10 0 rfl ?_
    refine g_bipush (v := (-4)) dX9_pair_11 (by decide +kernel) ?_
    have er : rPair σ.1.1 σ.1.2.1 x y = -4 := if_pos (by first | exact Or.inl c2 | exact Or.inr (Int32.not_le.mp c7))
    rw [show oPair σ x y = rfS σ (rPair σ.1.1 σ.1.2.1 x y) from if_neg (by rw [er]; decide), er]
    refine g_callVq (st1 := [.int (-nI 4)]) dX9_pair_13 (ev_refused H ok 4 (by unfold noN; omega)) oX9_refused wiX9_refused weX9_refused wmX9_90 kX9 (mO) rfl ⟨(Nat.le_of_ble_eq_true rfl), (Nat.le_of_ble_eq_true rfl)⟩ ⟨Nat.zero_le _, Nat.zero_le _⟩ (Nat.le_of_ble_eq_true rfl) rfl rfl (fun h1 q1 => ?_)
    exact g_iret dX9_pair_16 rfl ⟨Nat.zero_le _, Nat.zero_le _⟩ (⟨rfl, q1⟩)
  · refine g_iload_n dX9_pair_5 2 rfl ?_
    refine g_iconst (v := nI 1) dX9_pair_6 (by decide +kernel) ?_
    refine g_icmp_ge 17 dX9_pair_7 (by decide) (fun c7 => ?_) (fun c7 => ?_)
    · have n1 : ¬ (x < 1 ∨ y < 1) := fun z => by rcases z with z | z; exact c2 z; exact absurd z (Int32.not_lt.mpr c7)
      refine g_iload_n dX9_pair_17 1 rfl ?_
      refine g_aload_n dX9_pair_18 0 rfl ?_
      refine g_getf dX9_pair_19 kX9 wfX9_7 (Nat.le_of_ble_eq_true rfl) (mO) rfl ?_
      refine g_icmp_ge 44 dX9_pair_22 (by decide) (fun c22 => ?_) (fun c22 => ?_)
      · refine g_aload_n dX9_pair_44 0 rfl ?_
        refine g_bipush (v := (-6)) dX9_pair_45 (by decide +kernel) ?_
        have er : rPair σ.1.1 σ.1.2.1 x y = -6 := (if_neg n1).trans (if_pos (by first | exact Or.inl c22 | exact Or.inr (Or.inl c30) | exact Or.inr (Or.inr c41)))
        rw [show oPair σ x y = rfS σ (rPair σ.1.1 σ.1.2.1 x y) from if_neg (by rw [er]; decide), er]
        refine g_callVq (st1 := [.int (-nI 6)]) dX9_pair_47 (ev_refused H ok 6 (by unfold noN; omega)) oX9_refused wiX9_refused weX9_refused wmX9_90 kX9 (mO) rfl ⟨(Nat.le_of_ble_eq_true rfl), (Nat.le_of_ble_eq_true rfl)⟩ ⟨Nat.zero_le _, Nat.zero_le _⟩ (Nat.le_of_ble_eq_true rfl) rfl rfl (fun h2 q2 => ?_)
        exact g_iret dX9_pair_50 rfl ⟨Nat.zero_le _, Nat.zero_le _⟩ (⟨rfl, q2⟩)
      · refine g_iload_n dX9_pair_25 2 rfl ?_
        refine g_aload_n dX9_pair_26 0 rfl ?_
        refine g_getf dX9_pair_27 kX9 wfX9_7 (Nat.le_of_ble_eq_true rfl) (mO) rfl ?_
        refine g_icmp_ge 44 dX9_pair_30 (by decide) (fun c30 => ?_) (fun c30 => ?_)
        · refine g_aload_n dX9_pair_44 0 rfl ?_
          refine g_bipush (v := (-6)) dX9_pair_45 (by decide +kernel) ?_
          have er : rPair σ.1.1 σ.1.2.1 x y = -6 := (if_neg n1).trans (if_pos (by first | exact Or.inl c22 | exact Or.inr (Or.inl c30) | exact Or.inr (Or.inr c41)))
          rw [show oPair σ x y = rfS σ (rPair σ.1.1 σ.1.2.1 x y) from if_neg (by rw [er]; decide), er]
          refine g_callVq (st1 := [.int (-nI 6)]) dX9_pair_47 (ev_refused H ok 6 (by unfold noN; omega)) oX9_refused wiX9_refused weX9_refused wmX9_90 kX9 (mO) rfl ⟨(Nat.le_of_ble_eq_true rfl), (Nat.le_of_ble_eq_true rfl)⟩ ⟨Nat.zero_le _, Nat.zero_le _⟩ (Nat.le_of_ble_eq_true rfl) rfl rfl (fun h3 q3 => ?_)
          exact g_iret dX9_pair_50 rfl ⟨Nat.zero_le _, Nat.zero_le _⟩ (⟨rfl, q3⟩)
        · refine g_aload_n dX9_pair_33 0 rfl ?_
          refine g_getf dX9_pair_34 kX9 wfX9_87 (Nat.le_of_ble_eq_true rfl) (mO) rfl ?_
          refine g_aload_n dX9_pair_37 0 rfl ?_
          refine g_callVp dX9_pair_38 (ev_half H ok) oX9_half wiX9_half weX9_half wmX9_113 kX9 (mO) rfl ⟨(Nat.le_of_ble_eq_true rfl), (Nat.le_of_ble_eq_true rfl)⟩ ⟨Nat.zero_le _, Nat.zero_le _⟩ (Nat.le_of_ble_eq_true rfl) rfl ?_
          refine g_icmp_neN 51 dX9_pair_41 (by decide) (by omega) (by omega) (fun c41 => ?_) (fun c41 => ?_)
          · have n2 : ¬ (nI σ.1.1 ≤ x ∨ nI σ.1.1 ≤ y ∨ σ.1.2.1 = (σ.1.1 - 1) / 2) := fun z => by rcases z with z | z | z; exact c22 z; exact c30 z; exact c41 z
            refine g_iload_n dX9_pair_51 1 rfl ?_
            refine g_iload_n dX9_pair_52 2 rfl ?_
            refine g_icmp_ne 63 dX9_pair_53 (by decide) (fun c53 => ?_) (fun c53 => ?_)
            · have er : rPair σ.1.1 σ.1.2.1 x y = 0 := (if_neg n1).trans ((if_neg n2).trans (if_neg c53))
              rw [show oPair σ x y = (nI σ.1.2.1, ((σ.1.1, σ.1.2.1 + 1, upF σ.1.2.2.1 σ.1.2.1 (x.toNatClampNeg, y.toNatClampNeg, 0), σ.1.2.2.2), σ.2.1, σ.2.2.1, [], σ.2.2.2.2)) from if_pos er]
              clear c53 n1 n2 c2 c7 c22 c30
              obtain ⟨b1, b2⟩ := rPair_nn er
              obtain ⟨x1, hx1, rfl⟩ := nn_of b1
              obtain ⟨y1, hy1, rfl⟩ := nn_of b2
              rw [cl_ hx1, cl_ hy1]
              refine g_aload_n dX9_pair_63 0 rfl ?_
              refine g_iload_n dX9_pair_64 1 rfl ?_
              refine g_iload_n dX9_pair_65 2 rfl ?_
              refine g_iconst (v := nI 0) dX9_pair_66 (by decide +kernel) ?_
              refine g_callVq (st1 := []) dX9_pair_67 (ev_comes (show MO h _ _ _ _ _ _ _ _ _ _ _ _ _ _ from mO) lP mP (by omega) (nI x1) (nI y1) (nI 0)) oX9_comes wiX9_comes weX9_comes wmX9_117 kX9 (mO) rfl ⟨(Nat.le_of_ble_eq_true rfl), (Nat.le_of_ble_eq_true rfl)⟩ ⟨Nat.zero_le _, Nat.zero_le _⟩ (Nat.le_of_ble_eq_true rfl) rfl rfl (fun h4 q4 => ?_)
              obtain ⟨q4o, q4p, q4s⟩ := q4
              have f4_100 : rd h4 100 = some (.inl (Ro)) := by rw [q4s _ (by omega)]; exact mRo
              have f4_101 : rd h4 101 = some (.inl (U)) := by rw [q4s _ (by omega)]; exact mU
              have f4_102 : rd h4 102 = some (.inl (rf)) := by rw [q4s _ (by omega)]; exact mrf
              have f4_103 : rd h4 103 = some (.inl (WM)) := by rw [q4s _ (by omega)]; exact mWM
              have f4_104 : rd h4 104 = some (.inl (WP)) := by rw [q4s _ (by omega)]; exact mWP
              have f4_105 : rd h4 105 = some (.inl (WR)) := by rw [q4s _ (by omega)]; exact mWR
              have f4_106 : rd h4 106 = some (.inl (Tr)) := by rw [q4s _ (by omega)]; exact mTr
              have f4_107 : rd h4 107 = some (.inl (Ke)) := by rw [q4s _ (by omega)]; exact mKe
              have f4_108 : rd h4 108 = some (.inl (Co)) := by rw [q4s _ (by omega)]; exact mCo
              have f4_109 : rd h4 109 = some (.inl (Th)) := by rw [q4s _ (by omega)]; exact mTh
              have f4_110 : rd h4 110 = some (.inl (Be)) := by rw [q4s _ (by omega)]; exact mBe
              have f4_111 : rd h4 111 = some (.inl (Le)) := by rw [q4s _ (by omega)]; exact mLe
              have f4_112 : rd h4 112 = some (.inl (AP)) := by rw [q4s _ (by omega)]; exact mAP
              have f4_113 : rd h4 113 = some (.inl (AR)) := by rw [q4s _ (by omega)]; exact mAR
              have f4_114 : rd h4 114 = some (.inl (AU)) := by rw [q4s _ (by omega)]; exact mAU
              have f4_115 : rd h4 115 = some (.inl (Sz)) := by rw [q4s _ (by omega)]; exact mSz
              have f4_116 : rd h4 116 = some (.inl (It)) := by rw [q4s _ (by omega)]; exact mIt
              have f4_117 : rd h4 117 = some (.inl (IP)) := by rw [q4s _ (by omega)]; exact mIP
              have f4_118 : rd h4 118 = some (.inl (IR)) := by rw [q4s _ (by omega)]; exact mIR
              have f4_119 : rd h4 119 = some (.inl (IU)) := by rw [q4s _ (by omega)]; exact mIU
              refine g_aload_n dX9_pair_70 0 rfl ?_
              refine g_iconst (v := nI 0) dX9_pair_71 (by decide +kernel) ?_
              refine g_putv dX9_pair_72 kX9 wfX9_80 (Nat.le_of_ble_eq_true rfl) rfl (fun _ _ => ⟨rfl, rfl⟩) (q4o) (Nat.le_of_ble_eq_true rfl) (fs' := [.int (nI σ.1.1), .int (nI (σ.1.2.1 + 1)), .ref 99, .ref 100, .ref 101, .int (nI σ.1.2.2.2.1), .ref 102, .int (nI 0), .ref 103, .ref 104, .ref 105, .int fo, .int as_, .int sm, .int sk, .ref 106, .ref 107, .ref 108, .int z, .ref 109, .ref 110, .ref 111, .int (nI σ.2.1.1), .ref 112, .ref 113, .ref 114, .ref 115, .ref 116, .int (nI (bI σ.2.2.2.2.1.isSome)), .int iN, .int iM, .int iT, .ref 117, .ref 118, .ref 119]) rfl (fun h5 e5 => ?_)
              have f5_98 : rd h5 98 = some (.inr (9, [.int (nI σ.1.1), .int (nI (σ.1.2.1 + 1)), .ref 99, .ref 100, .ref 101, .int (nI σ.1.2.2.2.1), .ref 102, .int (nI 0), .ref 103, .ref 104, .ref 105, .int fo, .int as_, .int sm, .int sk, .ref 106, .ref 107, .ref 108, .int z, .ref 109, .ref 110, .ref 111, .int (nI σ.2.1.1), .ref 112, .ref 113, .ref 114, .ref 115, .ref 116, .int (nI (bI σ.2.2.2.2.1.isSome)), .int iN, .int iM, .int iT, .ref 117, .ref 118, .ref 119])) := by rw [e5]; exact rd_wr_eq (q4o)
              have s5 : Smo 98 (98 + 1) h4 h5 := by rw [e5]; exact Smo.wr (by omega) (by omega)
              have f5_100 : rd h5 100 = some (.inl (Ro)) := by rw [s5 _ (by omega)]; exact f4_100
              have f5_101 : rd h5 101 = some (.inl (U)) := by rw [s5 _ (by omega)]; exact f4_101
              have f5_102 : rd h5 102 = some (.inl (rf)) := by rw [s5 _ (by omega)]; exact f4_102
              have f5_103 : rd h5 103 = some (.inl (WM)) := by rw [s5 _ (by omega)]; exact f4_103
              have f5_104 : rd h5 104 = some (.inl (WP)) := by rw [s5 _ (by omega)]; exact f4_104
              have f5_105 : rd h5 105 = some (.inl (WR)) := by rw [s5 _ (by omega)]; exact f4_105
              have f5_106 : rd h5 106 = some (.inl (Tr)) := by rw [s5 _ (by omega)]; exact f4_106
              have f5_107 : rd h5 107 = some (.inl (Ke)) := by rw [s5 _ (by omega)]; exact f4_107
              have f5_108 : rd h5 108 = some (.inl (Co)) := by rw [s5 _ (by omega)]; exact f4_108
              have f5_109 : rd h5 109 = some (.inl (Th)) := by rw [s5 _ (by omega)]; exact f4_109
              have f5_110 : rd h5 110 = some (.inl (Be)) := by rw [s5 _ (by omega)]; exact f4_110
              have f5_111 : rd h5 111 = some (.inl (Le)) := by rw [s5 _ (by omega)]; exact f4_111
              have f5_112 : rd h5 112 = some (.inl (AP)) := by rw [s5 _ (by omega)]; exact f4_112
              have f5_113 : rd h5 113 = some (.inl (AR)) := by rw [s5 _ (by omega)]; exact f4_113
              have f5_114 : rd h5 114 = some (.inl (AU)) := by rw [s5 _ (by omega)]; exact f4_114
              have f5_115 : rd h5 115 = some (.inl (Sz)) := by rw [s5 _ (by omega)]; exact f4_115
              have f5_116 : rd h5 116 = some (.inl (It)) := by rw [s5 _ (by omega)]; exact f4_116
              have f5_117 : rd h5 117 = some (.inl (IP)) := by rw [s5 _ (by omega)]; exact f4_117
              have f5_118 : rd h5 118 = some (.inl (IR)) := by rw [s5 _ (by omega)]; exact f4_118
              have f5_119 : rd h5 119 = some (.inl (IU)) := by rw [s5 _ (by omega)]; exact f4_119
              have f5_99 : rd h5 99 = some (.inl (P3 (P) (σ.1.2.1) (nI x1) (nI y1) (nI 0))) := by rw [s5 _ (by omega)]; exact q4p
              refine g_aload_n dX9_pair_75 0 rfl ?_
              refine g_getf dX9_pair_76 kX9 wfX9_87 (Nat.le_of_ble_eq_true rfl) (f5_98) rfl ?_
              refine g_iconst (v := nI 1) dX9_pair_79 (by decide +kernel) ?_
              refine g_isubN dX9_pair_80 (by omega) ?_
              refine g_top (congrArg nI (show σ.1.2.1 + 1 - 1 = σ.1.2.1 by omega)) ?_
              exact g_iret dX9_pair_81 rfl ⟨Nat.zero_le _, Nat.zero_le _⟩ (⟨rfl, ⟨_, _, _, _, _, _, _, _, _, _, _, _, _, _, _, _, _, _, _, _, _, _, _, _, _, _, _, _, _, f5_98, ⟨f5_99, (P3_len _ _ _ _ _).trans lP⟩, ⟨f5_100, lRo⟩, ⟨f5_101, lU⟩, ⟨f5_102, lrf⟩, ⟨f5_103, lWM⟩, ⟨f5_104, lWP⟩, ⟨f5_105, lWR⟩, ⟨f5_106, lTr⟩, ⟨f5_107, lKe⟩, ⟨f5_108, lCo⟩, ⟨f5_109, lTh⟩, ⟨f5_110, lBe⟩, ⟨f5_111, lLe⟩, ⟨f5_112, lAP⟩, ⟨f5_113, lAR⟩, ⟨f5_114, lAU⟩, ⟨f5_115, lSz⟩, ⟨f5_116, lIt⟩, ⟨f5_117, lIP⟩, ⟨f5_118, lIR⟩, ⟨f5_119, lIU⟩, (pR_P3 vP lP (by omega) x1 y1 0), vR, vU, vF, (fun j hj => absurd hj (Nat.not_lt_zero j)), vL, vS, vI, vG⟩, (fun q hq => by rw [s5 q (by omega), q4s q (by omega)])⟩)
            · refine g_aload_n dX9_pair_56 0 rfl ?_
              refine g_bipush (v := (-3)) dX9_pair_57 (by decide +kernel) ?_
              have er : rPair σ.1.1 σ.1.2.1 x y = -3 := (if_neg n1).trans ((if_neg n2).trans (if_pos c53))
              rw [show oPair σ x y = rfS σ (rPair σ.1.1 σ.1.2.1 x y) from if_neg (by rw [er]; decide), er]
              refine g_callVq (st1 := [.int (-nI 3)]) dX9_pair_59 (ev_refused H ok 3 (by unfold noN; omega)) oX9_refused wiX9_refused weX9_refused wmX9_90 kX9 (mO) rfl ⟨(Nat.le_of_ble_eq_true rfl), (Nat.le_of_ble_eq_true rfl)⟩ ⟨Nat.zero_le _, Nat.zero_le _⟩ (Nat.le_of_ble_eq_true rfl) rfl rfl (fun h6 q6 => ?_)
              exact g_iret dX9_pair_62 rfl ⟨Nat.zero_le _, Nat.zero_le _⟩ (⟨rfl, q6⟩)
          · refine g_aload_n dX9_pair_44 0 rfl ?_
            refine g_bipush (v := (-6)) dX9_pair_45 (by decide +kernel) ?_
            have er : rPair σ.1.1 σ.1.2.1 x y = -6 := (if_neg n1).trans (if_pos (by first | exact Or.inl c22 | exact Or.inr (Or.inl c30) | exact Or.inr (Or.inr c41)))
            rw [show oPair σ x y = rfS σ (rPair σ.1.1 σ.1.2.1 x y) from if_neg (by rw [er]; decide), er]
            refine g_callVq (st1 := [.int (-nI 6)]) dX9_pair_47 (ev_refused H ok 6 (by unfold noN; omega)) oX9_refused wiX9_refused weX9_refused wmX9_90 kX9 (mO) rfl ⟨(Nat.le_of_ble_eq_true rfl), (Nat.le_of_ble_eq_true rfl)⟩ ⟨Nat.zero_le _, Nat.zero_le _⟩ (Nat.le_of_ble_eq_true rfl) rfl rfl (fun h7 q7 => ?_)
            exact g_iret dX9_pair_50 rfl ⟨Nat.zero_le _, Nat.zero_le _⟩ (⟨rfl, q7⟩)
    · refine g_aload_n dX9_pair_10 0 rfl ?_
      refine g_bipush (v := (-4)) dX9_pair_11 (by decide +kernel) ?_
      have er : rPair σ.1.1 σ.1.2.1 x y = -4 := if_pos (by first | exact Or.inl c2 | exact Or.inr (Int32.not_le.mp c7))
      rw [show oPair σ x y = rfS σ (rPair σ.1.1 σ.1.2.1 x y) from if_neg (by rw [er]; decide), er]
      refine g_callVq (st1 := [.int (-nI 4)]) dX9_pair_13 (ev_refused H ok 4 (by unfold noN; omega)) oX9_refused wiX9_refused weX9_refused wmX9_90 kX9 (mO) rfl ⟨(Nat.le_of_ble_eq_true rfl), (Nat.le_of_ble_eq_true rfl)⟩ ⟨Nat.zero_le _, Nat.zero_le _⟩ (Nat.le_of_ble_eq_true rfl) rfl rfl (fun h8 q8 => ?_)
      exact g_iret dX9_pair_16 rfl ⟨Nat.zero_le _, Nat.zero_le _⟩ (⟨rfl, q8⟩)

set_option maxRecDepth 100000 in
set_option maxHeartbeats 4000000 in
theorem ev_y_drop {h : List aC} {σ : Sg} (H : RM h σ) (ok : okSg σ) : Ev mX9_drop 2 0 0 [.ref 98] h (spM h (oDrop σ)) := by
  obtain ⟨fo, as_, sm, sk, z, iN, iM, iT, P, Ro, U, rf, WM, WP, WR, Tr, Ke, Co, Th, Be, Le, AP, AR, AU, Sz, It, IP, IR, IU, mO, mP, mRo, mU, mrf, mWM, mWP, mWR, mTr, mKe, mCo, mTh, mBe, mLe, mAP, mAR, mAU, mSz, mIt, mIP, mIR, mIU, vP, vR, vU, vF, vH, vL, vS, vI, vG⟩ := id H
  have mO : rd h 98 = some (.inr (9, [.int (nI σ.1.1), .int (nI σ.1.2.1), .ref 99, .ref 100, .ref 101, .int (nI σ.1.2.2.2.1), .ref 102, .int (nI ((σ.2.2.2.1).length)), .ref 103, .ref 104, .ref 105, .int fo, .int as_, .int sm, .int sk, .ref 106, .ref 107, .ref 108, .int z, .ref 109, .ref 110, .ref 111, .int (nI σ.2.1.1), .ref 112, .ref 113, .ref 114, .ref 115, .ref 116, .int (nI (bI σ.2.2.2.2.1.isSome)), .int iN, .int iM, .int iT, .ref 117, .ref 118, .ref 119])) := mO
  obtain ⟨mP, lP⟩ := mP
  obtain ⟨mRo, lRo⟩ := mRo
  obtain ⟨mU, lU⟩ := mU
  obtain ⟨mrf, lrf⟩ := mrf
  obtain ⟨mWM, lWM⟩ := mWM
  obtain ⟨mWP, lWP⟩ := mWP
  obtain ⟨mWR, lWR⟩ := mWR
  obtain ⟨mTr, lTr⟩ := mTr
  obtain ⟨mKe, lKe⟩ := mKe
  obtain ⟨mCo, lCo⟩ := mCo
  obtain ⟨mTh, lTh⟩ := mTh
  obtain ⟨mBe, lBe⟩ := mBe
  obtain ⟨mLe, lLe⟩ := mLe
  obtain ⟨mAP, lAP⟩ := mAP
  obtain ⟨mAR, lAR⟩ := mAR
  obtain ⟨mAU, lAU⟩ := mAU
  obtain ⟨mSz, lSz⟩ := mSz
  obtain ⟨mIt, lIt⟩ := mIt
  obtain ⟨mIP, lIP⟩ := mIP
  obtain ⟨mIR, lIR⟩ := mIR
  obtain ⟨mIU, lIU⟩ := mIU
  obtain ⟨okc, ⟨okl, okw⟩, okn, ⟨okh, oke⟩, oki, okr⟩ := id ok
  obtain ⟨k1, k2, k3, k4, k5, k6, k7, k8, k9⟩ := id okc
  refine Ev.of pX9_drop (Nat.le_of_ble_eq_true rfl) ?_
  show G mX9_drop (rmD 2 0 0) none _ 0 0 0 [(0, .ref 98)] [] h
  refine g_aload_n dX9_drop_0 0 rfl ?_
  refine g_getf dX9_drop_1 kX9 wfX9_87 (Nat.le_of_ble_eq_true rfl) (mO) rfl ?_
  refine g_if_neN 14 dX9_drop_4 (by decide) (by omega) (fun c4 => ?_) (fun c4 => ?_)
  · rw [show oDrop σ = (nI (σ.1.2.1 - 1), ((σ.1.1, σ.1.2.1 - 1, σ.1.2.2.1, σ.1.2.2.2), σ.2.1, σ.2.2.1, [], σ.2.2.2.2)) from if_neg (by omega)]
    refine g_aload_n dX9_drop_14 0 rfl ?_
    refine g_dup dX9_drop_15 rfl ?_
    refine g_getf dX9_drop_16 kX9 wfX9_87 (Nat.le_of_ble_eq_true rfl) (mO) rfl ?_
    refine g_iconst (v := nI 1) dX9_drop_19 (by decide +kernel) ?_
    refine g_isubN dX9_drop_20 (by omega) ?_
    refine g_putv dX9_drop_21 kX9 wfX9_87 (Nat.le_of_ble_eq_true rfl) rfl (fun _ _ => ⟨rfl, rfl⟩) (mO) (Nat.le_of_ble_eq_true rfl) (fs' := [.int (nI σ.1.1), .int (nI (σ.1.2.1 - 1)), .ref 99, .ref 100, .ref 101, .int (nI σ.1.2.2.2.1), .ref 102, .int (nI ((σ.2.2.2.1).length)), .ref 103, .ref 104, .ref 105, .int fo, .int as_, .int sm, .int sk, .ref 106, .ref 107, .ref 108, .int z, .ref 109, .ref 110, .ref 111, .int (nI σ.2.1.1), .ref 112, .ref 113, .ref 114, .ref 115, .ref 116, .int (nI (bI σ.2.2.2.2.1.isSome)), .int iN, .int iM, .int iT, .ref 117, .ref 118, .ref 119]) rfl (fun h1 e1 => ?_)
    have f1_98 : rd h1 98 = some (.inr (9, [.int (nI σ.1.1), .int (nI (σ.1.2.1 - 1)), .ref 99, .ref 100, .ref 101, .int (nI σ.1.2.2.2.1), .ref 102, .int (nI ((σ.2.2.2.1).length)), .ref 103, .ref 104, .ref 105, .int fo, .int as_, .int sm, .int sk, .ref 106, .ref 107, .ref 108, .int z, .ref 109, .ref 110, .ref 111, .int (nI σ.2.1.1), .ref 112, .ref 113, .ref 114, .ref 115, .ref 116, .int (nI (bI σ.2.2.2.2.1.isSome)), .int iN, .int iM, .int iT, .ref 117, .ref 118, .ref 119])) := by rw [e1]; exact rd_wr_eq (mO)
    have s1 : Smo 98 (98 + 1) h h1 := by rw [e1]; exact Smo.wr (by omega) (by omega)
    have f1_99 : rd h1 99 = some (.inl (P)) := by rw [s1 _ (by omega)]; exact mP
    have f1_100 : rd h1 100 = some (.inl (Ro)) := by rw [s1 _ (by omega)]; exact mRo
    have f1_101 : rd h1 101 = some (.inl (U)) := by rw [s1 _ (by omega)]; exact mU
    have f1_102 : rd h1 102 = some (.inl (rf)) := by rw [s1 _ (by omega)]; exact mrf
    have f1_103 : rd h1 103 = some (.inl (WM)) := by rw [s1 _ (by omega)]; exact mWM
    have f1_104 : rd h1 104 = some (.inl (WP)) := by rw [s1 _ (by omega)]; exact mWP
    have f1_105 : rd h1 105 = some (.inl (WR)) := by rw [s1 _ (by omega)]; exact mWR
    have f1_106 : rd h1 106 = some (.inl (Tr)) := by rw [s1 _ (by omega)]; exact mTr
    have f1_107 : rd h1 107 = some (.inl (Ke)) := by rw [s1 _ (by omega)]; exact mKe
    have f1_108 : rd h1 108 = some (.inl (Co)) := by rw [s1 _ (by omega)]; exact mCo
    have f1_109 : rd h1 109 = some (.inl (Th)) := by rw [s1 _ (by omega)]; exact mTh
    have f1_110 : rd h1 110 = some (.inl (Be)) := by rw [s1 _ (by omega)]; exact mBe
    have f1_111 : rd h1 111 = some (.inl (Le)) := by rw [s1 _ (by omega)]; exact mLe
    have f1_112 : rd h1 112 = some (.inl (AP)) := by rw [s1 _ (by omega)]; exact mAP
    have f1_113 : rd h1 113 = some (.inl (AR)) := by rw [s1 _ (by omega)]; exact mAR
    have f1_114 : rd h1 114 = some (.inl (AU)) := by rw [s1 _ (by omega)]; exact mAU
    have f1_115 : rd h1 115 = some (.inl (Sz)) := by rw [s1 _ (by omega)]; exact mSz
    have f1_116 : rd h1 116 = some (.inl (It)) := by rw [s1 _ (by omega)]; exact mIt
    have f1_117 : rd h1 117 = some (.inl (IP)) := by rw [s1 _ (by omega)]; exact mIP
    have f1_118 : rd h1 118 = some (.inl (IR)) := by rw [s1 _ (by omega)]; exact mIR
    have f1_119 : rd h1 119 = some (.inl (IU)) := by rw [s1 _ (by omega)]; exact mIU
    refine g_aload_n dX9_drop_24 0 rfl ?_
    refine g_iconst (v := nI 0) dX9_drop_25 (by decide +kernel) ?_
    refine g_putv dX9_drop_26 kX9 wfX9_80 (Nat.le_of_ble_eq_true rfl) rfl (fun _ _ => ⟨rfl, rfl⟩) (f1_98) (Nat.le_of_ble_eq_true rfl) (fs' := [.int (nI σ.1.1), .int (nI (σ.1.2.1 - 1)), .ref 99, .ref 100, .ref 101, .int (nI σ.1.2.2.2.1), .ref 102, .int (nI 0), .ref 103, .ref 104, .ref 105, .int fo, .int as_, .int sm, .int sk, .ref 106, .ref 107, .ref 108, .int z, .ref 109, .ref 110, .ref 111, .int (nI σ.2.1.1), .ref 112, .ref 113, .ref 114, .ref 115, .ref 116, .int (nI (bI σ.2.2.2.2.1.isSome)), .int iN, .int iM, .int iT, .ref 117, .ref 118, .ref 119]) rfl (fun h2 e2 => ?_)
    have f2_98 : rd h2 98 = some (.inr (9, [.int (nI σ.1.1), .int (nI (σ.1.2.1 - 1)), .ref 99, .ref 100, .ref 101, .int (nI σ.1.2.2.2.1), .ref 102, .int (nI 0), .ref 103, .ref 104, .ref 105, .int fo, .int as_, .int sm, .int sk, .ref 106, .ref 107, .ref 108, .int z, .ref 109, .ref 110, .ref 111, .int (nI σ.2.1.1), .ref 112, .ref 113, .ref 114, .ref 115, .ref 116, .int (nI (bI σ.2.2.2.2.1.isSome)), .int iN, .int iM, .int iT, .ref 117, .ref 118, .ref 119])) := by rw [e2]; exact rd_wr_eq (f1_98)
    have s2 : Smo 98 (98 + 1) h1 h2 := by rw [e2]; exact Smo.wr (by omega) (by omega)
    have f2_99 : rd h2 99 = some (.inl (P)) := by rw [s2 _ (by omega)]; exact f1_99
    have f2_100 : rd h2 100 = some (.inl (Ro)) := by rw [s2 _ (by omega)]; exact f1_100
    have f2_101 : rd h2 101 = some (.inl (U)) := by rw [s2 _ (by omega)]; exact f1_101
    have f2_102 : rd h2 102 = some (.inl (rf)) := by rw [s2 _ (by omega)]; exact f1_102
    have f2_103 : rd h2 103 = some (.inl (WM)) := by rw [s2 _ (by omega)]; exact f1_103
    have f2_104 : rd h2 104 = some (.inl (WP)) := by rw [s2 _ (by omega)]; exact f1_104
    have f2_105 : rd h2 105 = some (.inl (WR)) := by rw [s2 _ (by omega)]; exact f1_105
    have f2_106 : rd h2 106 = some (.inl (Tr)) := by rw [s2 _ (by omega)]; exact f1_106
    have f2_107 : rd h2 107 = some (.inl (Ke)) := by rw [s2 _ (by omega)]; exact f1_107
    have f2_108 : rd h2 108 = some (.inl (Co)) := by rw [s2 _ (by omega)]; exact f1_108
    have f2_109 : rd h2 109 = some (.inl (Th)) := by rw [s2 _ (by omega)]; exact f1_109
    have f2_110 : rd h2 110 = some (.inl (Be)) := by rw [s2 _ (by omega)]; exact f1_110
    have f2_111 : rd h2 111 = some (.inl (Le)) := by rw [s2 _ (by omega)]; exact f1_111
    have f2_112 : rd h2 112 = some (.inl (AP)) := by rw [s2 _ (by omega)]; exact f1_112
    have f2_113 : rd h2 113 = some (.inl (AR)) := by rw [s2 _ (by omega)]; exact f1_113
    have f2_114 : rd h2 114 = some (.inl (AU)) := by rw [s2 _ (by omega)]; exact f1_114
    have f2_115 : rd h2 115 = some (.inl (Sz)) := by rw [s2 _ (by omega)]; exact f1_115
    have f2_116 : rd h2 116 = some (.inl (It)) := by rw [s2 _ (by omega)]; exact f1_116
    have f2_117 : rd h2 117 = some (.inl (IP)) := by rw [s2 _ (by omega)]; exact f1_117
    have f2_118 : rd h2 118 = some (.inl (IR)) := by rw [s2 _ (by omega)]; exact f1_118
    have f2_119 : rd h2 119 = some (.inl (IU)) := by rw [s2 _ (by omega)]; exact f1_119
    refine g_aload_n dX9_drop_29 0 rfl ?_
    refine g_getf dX9_drop_30 kX9 wfX9_87 (Nat.le_of_ble_eq_true rfl) (f2_98) rfl ?_
    exact g_iret dX9_drop_33 rfl ⟨Nat.zero_le _, Nat.zero_le _⟩ (⟨rfl, ⟨_, _, _, _, _, _, _, _, _, _, _, _, _, _, _, _, _, _, _, _, _, _, _, _, _, _, _, _, _, f2_98, ⟨f2_99, lP⟩, ⟨f2_100, lRo⟩, ⟨f2_101, lU⟩, ⟨f2_102, lrf⟩, ⟨f2_103, lWM⟩, ⟨f2_104, lWP⟩, ⟨f2_105, lWR⟩, ⟨f2_106, lTr⟩, ⟨f2_107, lKe⟩, ⟨f2_108, lCo⟩, ⟨f2_109, lTh⟩, ⟨f2_110, lBe⟩, ⟨f2_111, lLe⟩, ⟨f2_112, lAP⟩, ⟨f2_113, lAR⟩, ⟨f2_114, lAU⟩, ⟨f2_115, lSz⟩, ⟨f2_116, lIt⟩, ⟨f2_117, lIP⟩, ⟨f2_118, lIR⟩, ⟨f2_119, lIU⟩, (fun k hk => vP k (by have y : k < σ.1.2.1 - 1 := hk; omega)), vR, vU, vF, (fun j hj => absurd hj (Nat.not_lt_zero j)), vL, vS, vI, vG⟩, (fun q hq => by rw [s2 q (by omega), s1 q (by omega)])⟩)
  · refine g_aload_n dX9_drop_7 0 rfl ?_
    refine g_bipush (v := (-3)) dX9_drop_8 (by decide +kernel) ?_
    rw [show oDrop σ = rfS σ (-3) from if_pos (by omega)]
    refine g_callVq (st1 := [.int (-nI 3)]) dX9_drop_10 (ev_refused H ok 3 (by unfold noN; omega)) oX9_refused wiX9_refused weX9_refused wmX9_90 kX9 (mO) rfl ⟨(Nat.le_of_ble_eq_true rfl), (Nat.le_of_ble_eq_true rfl)⟩ ⟨Nat.zero_le _, Nat.zero_le _⟩ (Nat.le_of_ble_eq_true rfl) rfl rfl (fun h3 q3 => ?_)
    exact g_iret dX9_drop_13 rfl ⟨Nat.zero_le _, Nat.zero_le _⟩ (⟨rfl, q3⟩)

set_option maxRecDepth 100000 in
set_option maxHeartbeats 4000000 in
theorem ev_y_still {h : List aC} {σ : Sg} (H : RM h σ) (ok : okSg σ) : Ev mX9_still 1 0 0 [.ref 98] h (spM h (oStill σ)) := by
  obtain ⟨fo, as_, sm, sk, z, iN, iM, iT, P, Ro, U, rf, WM, WP, WR, Tr, Ke, Co, Th, Be, Le, AP, AR, AU, Sz, It, IP, IR, IU, mO, mP, mRo, mU, mrf, mWM, mWP, mWR, mTr, mKe, mCo, mTh, mBe, mLe, mAP, mAR, mAU, mSz, mIt, mIP, mIR, mIU, vP, vR, vU, vF, vH, vL, vS, vI, vG⟩ := id H
  have mO : rd h 98 = some (.inr (9, [.int (nI σ.1.1), .int (nI σ.1.2.1), .ref 99, .ref 100, .ref 101, .int (nI σ.1.2.2.2.1), .ref 102, .int (nI ((σ.2.2.2.1).length)), .ref 103, .ref 104, .ref 105, .int fo, .int as_, .int sm, .int sk, .ref 106, .ref 107, .ref 108, .int z, .ref 109, .ref 110, .ref 111, .int (nI σ.2.1.1), .ref 112, .ref 113, .ref 114, .ref 115, .ref 116, .int (nI (bI σ.2.2.2.2.1.isSome)), .int iN, .int iM, .int iT, .ref 117, .ref 118, .ref 119])) := mO
  obtain ⟨mP, lP⟩ := mP
  obtain ⟨mRo, lRo⟩ := mRo
  obtain ⟨mU, lU⟩ := mU
  obtain ⟨mrf, lrf⟩ := mrf
  obtain ⟨mWM, lWM⟩ := mWM
  obtain ⟨mWP, lWP⟩ := mWP
  obtain ⟨mWR, lWR⟩ := mWR
  obtain ⟨mTr, lTr⟩ := mTr
  obtain ⟨mKe, lKe⟩ := mKe
  obtain ⟨mCo, lCo⟩ := mCo
  obtain ⟨mTh, lTh⟩ := mTh
  obtain ⟨mBe, lBe⟩ := mBe
  obtain ⟨mLe, lLe⟩ := mLe
  obtain ⟨mAP, lAP⟩ := mAP
  obtain ⟨mAR, lAR⟩ := mAR
  obtain ⟨mAU, lAU⟩ := mAU
  obtain ⟨mSz, lSz⟩ := mSz
  obtain ⟨mIt, lIt⟩ := mIt
  obtain ⟨mIP, lIP⟩ := mIP
  obtain ⟨mIR, lIR⟩ := mIR
  obtain ⟨mIU, lIU⟩ := mIU
  obtain ⟨okc, ⟨okl, okw⟩, okn, ⟨okh, oke⟩, oki, okr⟩ := id ok
  obtain ⟨k1, k2, k3, k4, k5, k6, k7, k8, k9⟩ := id okc
  refine Ev.of pX9_still (Nat.le_of_ble_eq_true rfl) ?_
  show G mX9_still (rmD 1 0 0) none _ 0 0 0 [(0, .ref 98)] [] h
  refine g_aload_n dX9_still_0 0 rfl ?_
  refine g_getf dX9_still_1 kX9 wfX9_102 (Nat.le_of_ble_eq_true rfl) (mO) rfl ?_
  refine g_istore_n (ls' := [(1, .int (nI σ.1.2.2.2.1)), (0, .ref 98)]) dX9_still_4 (Nat.le_of_ble_eq_true rfl) rfl ?_
  refine g_aload_n dX9_still_5 1 rfl ?_
  refine g_iconst (v := nI 0) dX9_still_6 (by decide +kernel) ?_
  refine g_putv dX9_still_7 kX9 wfX9_102 (Nat.le_of_ble_eq_true rfl) rfl (fun _ _ => ⟨rfl, rfl⟩) (mO) (Nat.le_of_ble_eq_true rfl) (fs' := [.int (nI σ.1.1), .int (nI σ.1.2.1), .ref 99, .ref 100, .ref 101, .int (nI 0), .ref 102, .int (nI ((σ.2.2.2.1).length)), .ref 103, .ref 104, .ref 105, .int fo, .int as_, .int sm, .int sk, .ref 106, .ref 107, .ref 108, .int z, .ref 109, .ref 110, .ref 111, .int (nI σ.2.1.1), .ref 112, .ref 113, .ref 114, .ref 115, .ref 116, .int (nI (bI σ.2.2.2.2.1.isSome)), .int iN, .int iM, .int iT, .ref 117, .ref 118, .ref 119]) rfl (fun h1 e1 => ?_)
  have f1_98 : rd h1 98 = some (.inr (9, [.int (nI σ.1.1), .int (nI σ.1.2.1), .ref 99, .ref 100, .ref 101, .int (nI 0), .ref 102, .int (nI ((σ.2.2.2.1).length)), .ref 103, .ref 104, .ref 105, .int fo, .int as_, .int sm, .int sk, .ref 106, .ref 107, .ref 108, .int z, .ref 109, .ref 110, .ref 111, .int (nI σ.2.1.1), .ref 112, .ref 113, .ref 114, .ref 115, .ref 116, .int (nI (bI σ.2.2.2.2.1.isSome)), .int iN, .int iM, .int iT, .ref 117, .ref 118, .ref 119])) := by rw [e1]; exact rd_wr_eq (mO)
  have s1 : Smo 98 (98 + 1) h h1 := by rw [e1]; exact Smo.wr (by omega) (by omega)
  have f1_99 : rd h1 99 = some (.inl (P)) := by rw [s1 _ (by omega)]; exact mP
  have f1_100 : rd h1 100 = some (.inl (Ro)) := by rw [s1 _ (by omega)]; exact mRo
  have f1_101 : rd h1 101 = some (.inl (U)) := by rw [s1 _ (by omega)]; exact mU
  have f1_102 : rd h1 102 = some (.inl (rf)) := by rw [s1 _ (by omega)]; exact mrf
  have f1_103 : rd h1 103 = some (.inl (WM)) := by rw [s1 _ (by omega)]; exact mWM
  have f1_104 : rd h1 104 = some (.inl (WP)) := by rw [s1 _ (by omega)]; exact mWP
  have f1_105 : rd h1 105 = some (.inl (WR)) := by rw [s1 _ (by omega)]; exact mWR
  have f1_106 : rd h1 106 = some (.inl (Tr)) := by rw [s1 _ (by omega)]; exact mTr
  have f1_107 : rd h1 107 = some (.inl (Ke)) := by rw [s1 _ (by omega)]; exact mKe
  have f1_108 : rd h1 108 = some (.inl (Co)) := by rw [s1 _ (by omega)]; exact mCo
  have f1_109 : rd h1 109 = some (.inl (Th)) := by rw [s1 _ (by omega)]; exact mTh
  have f1_110 : rd h1 110 = some (.inl (Be)) := by rw [s1 _ (by omega)]; exact mBe
  have f1_111 : rd h1 111 = some (.inl (Le)) := by rw [s1 _ (by omega)]; exact mLe
  have f1_112 : rd h1 112 = some (.inl (AP)) := by rw [s1 _ (by omega)]; exact mAP
  have f1_113 : rd h1 113 = some (.inl (AR)) := by rw [s1 _ (by omega)]; exact mAR
  have f1_114 : rd h1 114 = some (.inl (AU)) := by rw [s1 _ (by omega)]; exact mAU
  have f1_115 : rd h1 115 = some (.inl (Sz)) := by rw [s1 _ (by omega)]; exact mSz
  have f1_116 : rd h1 116 = some (.inl (It)) := by rw [s1 _ (by omega)]; exact mIt
  have f1_117 : rd h1 117 = some (.inl (IP)) := by rw [s1 _ (by omega)]; exact mIP
  have f1_118 : rd h1 118 = some (.inl (IR)) := by rw [s1 _ (by omega)]; exact mIR
  have f1_119 : rd h1 119 = some (.inl (IU)) := by rw [s1 _ (by omega)]; exact mIU
  refine g_iload_n dX9_still_10 0 rfl ?_
  exact g_iret dX9_still_11 rfl ⟨Nat.zero_le _, Nat.zero_le _⟩ (⟨rfl, ⟨_, _, _, _, _, _, _, _, _, _, _, _, _, _, _, _, _, _, _, _, _, _, _, _, _, _, _, _, _, f1_98, ⟨f1_99, lP⟩, ⟨f1_100, lRo⟩, ⟨f1_101, lU⟩, ⟨f1_102, lrf⟩, ⟨f1_103, lWM⟩, ⟨f1_104, lWP⟩, ⟨f1_105, lWR⟩, ⟨f1_106, lTr⟩, ⟨f1_107, lKe⟩, ⟨f1_108, lCo⟩, ⟨f1_109, lTh⟩, ⟨f1_110, lBe⟩, ⟨f1_111, lLe⟩, ⟨f1_112, lAP⟩, ⟨f1_113, lAR⟩, ⟨f1_114, lAU⟩, ⟨f1_115, lSz⟩, ⟨f1_116, lIt⟩, ⟨f1_117, lIP⟩, ⟨f1_118, lIR⟩, ⟨f1_119, lIU⟩, vP, vR, (fun j hj => absurd hj (Nat.not_lt_zero j)), vF, vH, vL, vS, vI, vG⟩, (fun q hq => by rw [s1 q (by omega)])⟩)

set_option maxRecDepth 100000 in
set_option maxHeartbeats 4000000 in
theorem ev_y_letter {h : List aC} {σ : Sg} (H : RM h σ) (ok : okSg σ) (x : Int32) : Ev mX9_letter 2 0 0 [.ref 98, .int x] h (spM h (oLetter σ x)) := by
  obtain ⟨fo, as_, sm, sk, z, iN, iM, iT, P, Ro, U, rf, WM, WP, WR, Tr, Ke, Co, Th, Be, Le, AP, AR, AU, Sz, It, IP, IR, IU, mO, mP, mRo, mU, mrf, mWM, mWP, mWR, mTr, mKe, mCo, mTh, mBe, mLe, mAP, mAR, mAU, mSz, mIt, mIP, mIR, mIU, vP, vR, vU, vF, vH, vL, vS, vI, vG⟩ := id H
  have mO : rd h 98 = some (.inr (9, [.int (nI σ.1.1), .int (nI σ.1.2.1), .ref 99, .ref 100, .ref 101, .int (nI σ.1.2.2.2.1), .ref 102, .int (nI ((σ.2.2.2.1).length)), .ref 103, .ref 104, .ref 105, .int fo, .int as_, .int sm, .int sk, .ref 106, .ref 107, .ref 108, .int z, .ref 109, .ref 110, .ref 111, .int (nI σ.2.1.1), .ref 112, .ref 113, .ref 114, .ref 115, .ref 116, .int (nI (bI σ.2.2.2.2.1.isSome)), .int iN, .int iM, .int iT, .ref 117, .ref 118, .ref 119])) := mO
  obtain ⟨mP, lP⟩ := mP
  obtain ⟨mRo, lRo⟩ := mRo
  obtain ⟨mU, lU⟩ := mU
  obtain ⟨mrf, lrf⟩ := mrf
  obtain ⟨mWM, lWM⟩ := mWM
  obtain ⟨mWP, lWP⟩ := mWP
  obtain ⟨mWR, lWR⟩ := mWR
  obtain ⟨mTr, lTr⟩ := mTr
  obtain ⟨mKe, lKe⟩ := mKe
  obtain ⟨mCo, lCo⟩ := mCo
  obtain ⟨mTh, lTh⟩ := mTh
  obtain ⟨mBe, lBe⟩ := mBe
  obtain ⟨mLe, lLe⟩ := mLe
  obtain ⟨mAP, lAP⟩ := mAP
  obtain ⟨mAR, lAR⟩ := mAR
  obtain ⟨mAU, lAU⟩ := mAU
  obtain ⟨mSz, lSz⟩ := mSz
  obtain ⟨mIt, lIt⟩ := mIt
  obtain ⟨mIP, lIP⟩ := mIP
  obtain ⟨mIR, lIR⟩ := mIR
  obtain ⟨mIU, lIU⟩ := mIU
  obtain ⟨okc, ⟨okl, okw⟩, okn, ⟨okh, oke⟩, oki, okr⟩ := id ok
  obtain ⟨k1, k2, k3, k4, k5, k6, k7, k8, k9⟩ := id okc
  refine Ev.of pX9_letter (Nat.le_of_ble_eq_true rfl) ?_
  show G mX9_letter (rmD 2 0 0) none _ 0 0 0 [(0, .ref 98), (1, .int x)] [] h
  refine g_iload_n dX9_letter_0 1 rfl ?_
  refine g_if_ge 11 dX9_letter_1 (by decide) (fun c1 => ?_) (fun c1 => ?_)
  · refine g_iload_n dX9_letter_11 1 rfl ?_
    refine g_sipush (v := nI 255) dX9_letter_12 (by decide +kernel) ?_
    refine g_icmp_gt 27 dX9_letter_15 (by decide) (fun c15 => ?_) (fun c15 => ?_)
    · refine g_aload_n dX9_letter_27 0 rfl ?_
      refine g_bipush (v := (-6)) dX9_letter_28 (by decide +kernel) ?_
      rw [show oLetter σ x = rfS σ (-6) from (if_pos c1).trans (if_pos (by first | exact Or.inl c15 | exact Or.inr (by omega)))]
      refine g_callVq (st1 := [.int (-nI 6)]) dX9_letter_30 (ev_refused H ok 6 (by unfold noN; omega)) oX9_refused wiX9_refused weX9_refused wmX9_90 kX9 (mO) rfl ⟨(Nat.le_of_ble_eq_true rfl), (Nat.le_of_ble_eq_true rfl)⟩ ⟨Nat.zero_le _, Nat.zero_le _⟩ (Nat.le_of_ble_eq_true rfl) rfl rfl (fun h1 q1 => ?_)
      exact g_iret dX9_letter_33 rfl ⟨Nat.zero_le _, Nat.zero_le _⟩ (⟨rfl, q1⟩)
    · refine g_aload_n dX9_letter_18 0 rfl ?_
      refine g_getf dX9_letter_19 kX9 wfX9_238 (Nat.le_of_ble_eq_true rfl) (mO) rfl ?_
      refine g_bipush (v := nI 72) dX9_letter_22 (by decide +kernel) ?_
      refine g_icmp_neN 34 dX9_letter_24 (by decide) (by omega) (by omega) (fun c24 => ?_) (fun c24 => ?_)
      · rw [show oLetter σ x = (nI (σ.2.1.1 + 1), (σ.1, (σ.2.1.1 + 1, σ.2.1.2.set σ.2.1.1 x.toNatClampNeg), σ.2.2)) from (if_pos c1).trans (if_neg (fun z => by rcases z with z | z; exact c15 z; omega))]
        obtain ⟨x1, hx1, rfl⟩ := nn_of c1
        rw [cl_ hx1]
        refine g_aload_n dX9_letter_34 0 rfl ?_
        refine g_getf dX9_letter_35 kX9 wfX9_50 (Nat.le_of_ble_eq_true rfl) (mO) rfl ?_
        refine g_aload_n dX9_letter_38 0 rfl ?_
        refine g_getf dX9_letter_39 kX9 wfX9_238 (Nat.le_of_ble_eq_true rfl) (mO) rfl ?_
        refine g_iload_n dX9_letter_42 1 rfl ?_
        refine g_iasI dX9_letter_43 (mLe) (by omega) (by omega) (fun h2 e2 => ?_)
        have f2_111 : rd h2 111 = some (.inl ((Le).set σ.2.1.1 (nI x1))) := by rw [e2]; exact rd_wr_eq (mLe)
        have lf2_111 : ((Le).set σ.2.1.1 (nI x1)).length = _ := List.length_set.trans lLe
        have s2 : Smo 111 (111 + 1) h h2 := by rw [e2]; exact Smo.wr (by omega) (by omega)
        have f2_98 : rd h2 98 = some (.inr (9, [.int (nI σ.1.1), .int (nI σ.1.2.1), .ref 99, .ref 100, .ref 101, .int (nI σ.1.2.2.2.1), .ref 102, .int (nI ((σ.2.2.2.1).length)), .ref 103, .ref 104, .ref 105, .int fo, .int as_, .int sm, .int sk, .ref 106, .ref 107, .ref 108, .int z, .ref 109, .ref 110, .ref 111, .int (nI σ.2.1.1), .ref 112, .ref 113, .ref 114, .ref 115, .ref 116, .int (nI (bI σ.2.2.2.2.1.isSome)), .int iN, .int iM, .int iT, .ref 117, .ref 118, .ref 119])) := by rw [s2 _ (by omega)]; exact mO
        have f2_99 : rd h2 99 = some (.inl (P)) := by rw [s2 _ (by omega)]; exact mP
        have f2_100 : rd h2 100 = some (.inl (Ro)) := by rw [s2 _ (by omega)]; exact mRo
        have f2_101 : rd h2 101 = some (.inl (U)) := by rw [s2 _ (by omega)]; exact mU
        have f2_102 : rd h2 102 = some (.inl (rf)) := by rw [s2 _ (by omega)]; exact mrf
        have f2_103 : rd h2 103 = some (.inl (WM)) := by rw [s2 _ (by omega)]; exact mWM
        have f2_104 : rd h2 104 = some (.inl (WP)) := by rw [s2 _ (by omega)]; exact mWP
        have f2_105 : rd h2 105 = some (.inl (WR)) := by rw [s2 _ (by omega)]; exact mWR
        have f2_106 : rd h2 106 = some (.inl (Tr)) := by rw [s2 _ (by omega)]; exact mTr
        have f2_107 : rd h2 107 = some (.inl (Ke)) := by rw [s2 _ (by omega)]; exact mKe
        have f2_108 : rd h2 108 = some (.inl (Co)) := by rw [s2 _ (by omega)]; exact mCo
        have f2_109 : rd h2 109 = some (.inl (Th)) := by rw [s2 _ (by omega)]; exact mTh
        have f2_110 : rd h2 110 = some (.inl (Be)) := by rw [s2 _ (by omega)]; exact mBe
        have f2_112 : rd h2 112 = some (.inl (AP)) := by rw [s2 _ (by omega)]; exact mAP
        have f2_113 : rd h2 113 = some (.inl (AR)) := by rw [s2 _ (by omega)]; exact mAR
        have f2_114 : rd h2 114 = some (.inl (AU)) := by rw [s2 _ (by omega)]; exact mAU
        have f2_115 : rd h2 115 = some (.inl (Sz)) := by rw [s2 _ (by omega)]; exact mSz
        have f2_116 : rd h2 116 = some (.inl (It)) := by rw [s2 _ (by omega)]; exact mIt
        have f2_117 : rd h2 117 = some (.inl (IP)) := by rw [s2 _ (by omega)]; exact mIP
        have f2_118 : rd h2 118 = some (.inl (IR)) := by rw [s2 _ (by omega)]; exact mIR
        have f2_119 : rd h2 119 = some (.inl (IU)) := by rw [s2 _ (by omega)]; exact mIU
        refine g_aload_n dX9_letter_44 0 rfl ?_
        refine g_dup dX9_letter_45 rfl ?_
        refine g_getf dX9_letter_46 kX9 wfX9_238 (Nat.le_of_ble_eq_true rfl) (f2_98) rfl ?_
        refine g_iconst (v := nI 1) dX9_letter_49 (by decide +kernel) ?_
        refine g_iaddN dX9_letter_50 ?_
        refine g_putv dX9_letter_51 kX9 wfX9_238 (Nat.le_of_ble_eq_true rfl) rfl (fun _ _ => ⟨rfl, rfl⟩) (f2_98) (Nat.le_of_ble_eq_true rfl) (fs' := [.int (nI σ.1.1), .int (nI σ.1.2.1), .ref 99, .ref 100, .ref 101, .int (nI σ.1.2.2.2.1), .ref 102, .int (nI ((σ.2.2.2.1).length)), .ref 103, .ref 104, .ref 105, .int fo, .int as_, .int sm, .int sk, .ref 106, .ref 107, .ref 108, .int z, .ref 109, .ref 110, .ref 111, .int (nI (σ.2.1.1 + 1)), .ref 112, .ref 113, .ref 114, .ref 115, .ref 116, .int (nI (bI σ.2.2.2.2.1.isSome)), .int iN, .int iM, .int iT, .ref 117, .ref 118, .ref 119]) rfl (fun h3 e3 => ?_)
        have f3_98 : rd h3 98 = some (.inr (9, [.int (nI σ.1.1), .int (nI σ.1.2.1), .ref 99, .ref 100, .ref 101, .int (nI σ.1.2.2.2.1), .ref 102, .int (nI ((σ.2.2.2.1).length)), .ref 103, .ref 104, .ref 105, .int fo, .int as_, .int sm, .int sk, .ref 106, .ref 107, .ref 108, .int z, .ref 109, .ref 110, .ref 111, .int (nI (σ.2.1.1 + 1)), .ref 112, .ref 113, .ref 114, .ref 115, .ref 116, .int (nI (bI σ.2.2.2.2.1.isSome)), .int iN, .int iM, .int iT, .ref 117, .ref 118, .ref 119])) := by rw [e3]; exact rd_wr_eq (f2_98)
        have s3 : Smo 98 (98 + 1) h2 h3 := by rw [e3]; exact Smo.wr (by omega) (by omega)
        have f3_99 : rd h3 99 = some (.inl (P)) := by rw [s3 _ (by omega)]; exact f2_99
        have f3_100 : rd h3 100 = some (.inl (Ro)) := by rw [s3 _ (by omega)]; exact f2_100
        have f3_101 : rd h3 101 = some (.inl (U)) := by rw [s3 _ (by omega)]; exact f2_101
        have f3_102 : rd h3 102 = some (.inl (rf)) := by rw [s3 _ (by omega)]; exact f2_102
        have f3_103 : rd h3 103 = some (.inl (WM)) := by rw [s3 _ (by omega)]; exact f2_103
        have f3_104 : rd h3 104 = some (.inl (WP)) := by rw [s3 _ (by omega)]; exact f2_104
        have f3_105 : rd h3 105 = some (.inl (WR)) := by rw [s3 _ (by omega)]; exact f2_105
        have f3_106 : rd h3 106 = some (.inl (Tr)) := by rw [s3 _ (by omega)]; exact f2_106
        have f3_107 : rd h3 107 = some (.inl (Ke)) := by rw [s3 _ (by omega)]; exact f2_107
        have f3_108 : rd h3 108 = some (.inl (Co)) := by rw [s3 _ (by omega)]; exact f2_108
        have f3_109 : rd h3 109 = some (.inl (Th)) := by rw [s3 _ (by omega)]; exact f2_109
        have f3_110 : rd h3 110 = some (.inl (Be)) := by rw [s3 _ (by omega)]; exact f2_110
        have f3_111 : rd h3 111 = some (.inl ((Le).set σ.2.1.1 (nI x1))) := by rw [s3 _ (by omega)]; exact f2_111
        have f3_112 : rd h3 112 = some (.inl (AP)) := by rw [s3 _ (by omega)]; exact f2_112
        have f3_113 : rd h3 113 = some (.inl (AR)) := by rw [s3 _ (by omega)]; exact f2_113
        have f3_114 : rd h3 114 = some (.inl (AU)) := by rw [s3 _ (by omega)]; exact f2_114
        have f3_115 : rd h3 115 = some (.inl (Sz)) := by rw [s3 _ (by omega)]; exact f2_115
        have f3_116 : rd h3 116 = some (.inl (It)) := by rw [s3 _ (by omega)]; exact f2_116
        have f3_117 : rd h3 117 = some (.inl (IP)) := by rw [s3 _ (by omega)]; exact f2_117
        have f3_118 : rd h3 118 = some (.inl (IR)) := by rw [s3 _ (by omega)]; exact f2_118
        have f3_119 : rd h3 119 = some (.inl (IU)) := by rw [s3 _ (by omega)]; exact f2_119
        refine g_aload_n dX9_letter_54 0 rfl ?_
        refine g_getf dX9_letter_55 kX9 wfX9_238 (Nat.le_of_ble_eq_true rfl) (f3_98) rfl ?_
        exact g_iret dX9_letter_58 rfl ⟨Nat.zero_le _, Nat.zero_le _⟩ (⟨rfl, ⟨_, _, _, _, _, _, _, _, _, _, _, _, _, _, _, _, _, _, _, _, _, _, _, _, _, _, _, _, _, f3_98, ⟨f3_99, lP⟩, ⟨f3_100, lRo⟩, ⟨f3_101, lU⟩, ⟨f3_102, lrf⟩, ⟨f3_103, lWM⟩, ⟨f3_104, lWP⟩, ⟨f3_105, lWR⟩, ⟨f3_106, lTr⟩, ⟨f3_107, lKe⟩, ⟨f3_108, lCo⟩, ⟨f3_109, lTh⟩, ⟨f3_110, lBe⟩, ⟨f3_111, lf2_111⟩, ⟨f3_112, lAP⟩, ⟨f3_113, lAR⟩, ⟨f3_114, lAU⟩, ⟨f3_115, lSz⟩, ⟨f3_116, lIt⟩, ⟨f3_117, lIP⟩, ⟨f3_118, lIR⟩, ⟨f3_119, lIU⟩, vP, vR, vU, vF, vH, (by show _ = (σ.2.1.2.set σ.2.1.1 x1).map nI; rw [vL, List.map_set]), vS, vI, vG⟩, (fun q hq => by rw [s3 q (by omega), s2 q (by omega)])⟩)
      · refine g_aload_n dX9_letter_27 0 rfl ?_
        refine g_bipush (v := (-6)) dX9_letter_28 (by decide +kernel) ?_
        rw [show oLetter σ x = rfS σ (-6) from (if_pos c1).trans (if_pos (by first | exact Or.inl c15 | exact Or.inr (by omega)))]
        refine g_callVq (st1 := [.int (-nI 6)]) dX9_letter_30 (ev_refused H ok 6 (by unfold noN; omega)) oX9_refused wiX9_refused weX9_refused wmX9_90 kX9 (mO) rfl ⟨(Nat.le_of_ble_eq_true rfl), (Nat.le_of_ble_eq_true rfl)⟩ ⟨Nat.zero_le _, Nat.zero_le _⟩ (Nat.le_of_ble_eq_true rfl) rfl rfl (fun h4 q4 => ?_)
        exact g_iret dX9_letter_33 rfl ⟨Nat.zero_le _, Nat.zero_le _⟩ (⟨rfl, q4⟩)
  · refine g_aload_n dX9_letter_4 0 rfl ?_
    refine g_bipush (v := (-4)) dX9_letter_5 (by decide +kernel) ?_
    rw [show oLetter σ x = rfS σ (-4) from if_neg c1]
    refine g_callVq (st1 := [.int (-nI 4)]) dX9_letter_7 (ev_refused H ok 4 (by unfold noN; omega)) oX9_refused wiX9_refused weX9_refused wmX9_90 kX9 (mO) rfl ⟨(Nat.le_of_ble_eq_true rfl), (Nat.le_of_ble_eq_true rfl)⟩ ⟨Nat.zero_le _, Nat.zero_le _⟩ (Nat.le_of_ble_eq_true rfl) rfl rfl (fun h5 q5 => ?_)
    exact g_iret dX9_letter_10 rfl ⟨Nat.zero_le _, Nat.zero_le _⟩ (⟨rfl, q5⟩)

theorem tR_app {U : List Int32} {a : Nat} {tu : Nat → Nat × Nat} (h : tR U a tu) (lU : U.length = 12) (ha : a < 6) (x y : Nat) : tR ((U.set (2 * a) (nI x)).set (2 * a + 1) (nI y)) (a + 1) (upT tu a (x, y)) := fun i hi => by
  by_cases q : i = a
  · subst q; rw [upT_eq, getD_set_neI (by omega), getD_set_eqI (by omega), getD_set_eqI (by rw [List.length_set]; omega)]; exact ⟨rfl, rfl⟩
  · rw [upT_ne q, getD_set_neI (by omega), getD_set_neI (by omega), getD_set_neI (by omega), getD_set_neI (by omega)]; exact h i (by omega)
theorem inR_eq {x : Int32} {b : Nat} (hb : b < 2 ^ 31) : (nI 0 ≤ x ∧ x ≤ nI b) ↔ ¬ (x < 0 ∨ nI b < x) := by
  constructor
  · rintro ⟨h1, h2⟩ z
    rcases z with z | z
    · exact absurd z (Int32.not_lt.mpr h1)
    · exact absurd z (Int32.not_lt.mpr h2)
  · intro h
    exact ⟨Int32.not_lt.mp fun z => h (Or.inl z), Int32.not_lt.mp fun z => h (Or.inr z)⟩

set_option maxRecDepth 100000 in
set_option maxHeartbeats 4000000 in
theorem ev_y_turn {h : List aC} {σ : Sg} (H : RM h σ) (ok : okSg σ) (x y : Int32) : Ev mX9_turn 2 0 0 [.ref 98, .int x, .int y] h (spM h (oTurn σ x y)) := by
  obtain ⟨fo, as_, sm, sk, z, iN, iM, iT, P, Ro, U, rf, WM, WP, WR, Tr, Ke, Co, Th, Be, Le, AP, AR, AU, Sz, It, IP, IR, IU, mO, mP, mRo, mU, mrf, mWM, mWP, mWR, mTr, mKe, mCo, mTh, mBe, mLe, mAP, mAR, mAU, mSz, mIt, mIP, mIR, mIU, vP, vR, vU, vF, vH, vL, vS, vI, vG⟩ := id H
  have mO : rd h 98 = some (.inr (9, [.int (nI σ.1.1), .int (nI σ.1.2.1), .ref 99, .ref 100, .ref 101, .int (nI σ.1.2.2.2.1), .ref 102, .int (nI ((σ.2.2.2.1).length)), .ref 103, .ref 104, .ref 105, .int fo, .int as_, .int sm, .int sk, .ref 106, .ref 107, .ref 108, .int z, .ref 109, .ref 110, .ref 111, .int (nI σ.2.1.1), .ref 112, .ref 113, .ref 114, .ref 115, .ref 116, .int (nI (bI σ.2.2.2.2.1.isSome)), .int iN, .int iM, .int iT, .ref 117, .ref 118, .ref 119])) := mO
  obtain ⟨mP, lP⟩ := mP
  obtain ⟨mRo, lRo⟩ := mRo
  obtain ⟨mU, lU⟩ := mU
  obtain ⟨mrf, lrf⟩ := mrf
  obtain ⟨mWM, lWM⟩ := mWM
  obtain ⟨mWP, lWP⟩ := mWP
  obtain ⟨mWR, lWR⟩ := mWR
  obtain ⟨mTr, lTr⟩ := mTr
  obtain ⟨mKe, lKe⟩ := mKe
  obtain ⟨mCo, lCo⟩ := mCo
  obtain ⟨mTh, lTh⟩ := mTh
  obtain ⟨mBe, lBe⟩ := mBe
  obtain ⟨mLe, lLe⟩ := mLe
  obtain ⟨mAP, lAP⟩ := mAP
  obtain ⟨mAR, lAR⟩ := mAR
  obtain ⟨mAU, lAU⟩ := mAU
  obtain ⟨mSz, lSz⟩ := mSz
  obtain ⟨mIt, lIt⟩ := mIt
  obtain ⟨mIP, lIP⟩ := mIP
  obtain ⟨mIR, lIR⟩ := mIR
  obtain ⟨mIU, lIU⟩ := mIU
  obtain ⟨okc, ⟨okl, okw⟩, okn, ⟨okh, oke⟩, oki, okr⟩ := id ok
  obtain ⟨k1, k2, k3, k4, k5, k6, k7, k8, k9⟩ := id okc
  refine Ev.of pX9_turn (Nat.le_of_ble_eq_true rfl) ?_
  show G mX9_turn (rmD 2 0 0) none _ 0 0 0 [(0, .ref 98), (1, .int x), (2, .int y)] [] h
  refine g_iload_n dX9_turn_0 1 rfl ?_
  refine g_i2l dX9_turn_1 rfl ?_
  refine g_lconst (v := lN 0) dX9_turn_2 rfl ?_
  refine g_ldc2 dX9_turn_3 wlX9_229 ?_
  refine g_callSp dX9_turn_6 (ev_inN (x) (0) (5) (by omega) (by omega) _) oX9_in wsX9_in wmX9_98 rfl ⟨(Nat.le_of_ble_eq_true rfl), (Nat.le_of_ble_eq_true rfl)⟩ ⟨Nat.zero_le _, Nat.zero_le _⟩ (Nat.le_of_ble_eq_true rfl) rfl ?_
  refine g_if_neB 19 dX9_turn_9 (by decide) (fun c9 => ?_) (fun c9 => ?_)
  · have n1 : ¬ (x < 0 ∨ 5 < x) := (inR_eq (b := 5) (by omega)).mp (of_decide_eq_true c9)
    refine g_iload_n dX9_turn_19 2 rfl ?_
    refine g_if_ge 30 dX9_turn_20 (by decide) (fun c20 => ?_) (fun c20 => ?_)
    · refine g_iload_n dX9_turn_30 2 rfl ?_
      refine g_bipush (v := nI 12) dX9_turn_31 (by decide +kernel) ?_
      refine g_icmp_gt 45 dX9_turn_33 (by decide) (fun c33 => ?_) (fun c33 => ?_)
      · refine g_aload_n dX9_turn_45 0 rfl ?_
        refine g_bipush (v := (-6)) dX9_turn_46 (by decide +kernel) ?_
        have er : rTurn σ.1.2.2.2.1 x y = -6 := (if_neg n1).trans ((if_neg (Int32.not_lt.mpr c20)).trans (if_pos (by first | exact Or.inl c33 | exact Or.inr (by omega))))
        rw [show oTurn σ x y = rfS σ (rTurn σ.1.2.2.2.1 x y) from if_neg (by rw [er]; decide), er]
        refine g_callVq (st1 := [.int (-nI 6)]) dX9_turn_48 (ev_refused H ok 6 (by unfold noN; omega)) oX9_refused wiX9_refused weX9_refused wmX9_90 kX9 (mO) rfl ⟨(Nat.le_of_ble_eq_true rfl), (Nat.le_of_ble_eq_true rfl)⟩ ⟨Nat.zero_le _, Nat.zero_le _⟩ (Nat.le_of_ble_eq_true rfl) rfl rfl (fun h1 q1 => ?_)
        exact g_iret dX9_turn_51 rfl ⟨Nat.zero_le _, Nat.zero_le _⟩ (⟨rfl, q1⟩)
      · refine g_aload_n dX9_turn_36 0 rfl ?_
        refine g_getf dX9_turn_37 kX9 wfX9_102 (Nat.le_of_ble_eq_true rfl) (mO) rfl ?_
        refine g_bipush (v := nI 6) dX9_turn_40 (by decide +kernel) ?_
        refine g_icmp_neN 52 dX9_turn_42 (by decide) (by omega) (by omega) (fun c42 => ?_) (fun c42 => ?_)
        · have er : rTurn σ.1.2.2.2.1 x y = 0 := (if_neg n1).trans ((if_neg (Int32.not_lt.mpr c20)).trans (if_neg (fun z => by rcases z with z | z; exact c33 z; omega)))
          rw [show oTurn σ x y = (nI (σ.1.2.2.2.1 + 1), ((σ.1.1, σ.1.2.1, σ.1.2.2.1, σ.1.2.2.2.1 + 1, upT σ.1.2.2.2.2.1 σ.1.2.2.2.1 (x.toNatClampNeg, y.toNatClampNeg), σ.1.2.2.2.2.2), σ.2)) from if_pos er]
          clear n1 c9 c33
          obtain ⟨b1, b2⟩ := rTurn_nn er
          obtain ⟨x1, hx1, rfl⟩ := nn_of b1
          obtain ⟨y1, hy1, rfl⟩ := nn_of b2
          rw [cl_ hx1, cl_ hy1]
          refine g_aload_n dX9_turn_52 0 rfl ?_
          refine g_getf dX9_turn_53 kX9 wfX9_20 (Nat.le_of_ble_eq_true rfl) (mO) rfl ?_
          refine g_iconst (v := nI 2) dX9_turn_56 (by decide +kernel) ?_
          refine g_aload_n dX9_turn_57 0 rfl ?_
          refine g_getf dX9_turn_58 kX9 wfX9_102 (Nat.le_of_ble_eq_true rfl) (mO) rfl ?_
          refine g_imulN dX9_turn_61 ?_
          refine g_iload_n dX9_turn_62 1 rfl ?_
          refine g_iasI dX9_turn_63 (mU) (by omega) (by omega) (fun h2 e2 => ?_)
          have f2_101 : rd h2 101 = some (.inl ((U).set (2 * σ.1.2.2.2.1) (nI x1))) := by rw [e2]; exact rd_wr_eq (mU)
          have lf2_101 : ((U).set (2 * σ.1.2.2.2.1) (nI x1)).length = _ := List.length_set.trans lU
          have s2 : Smo 101 (101 + 1) h h2 := by rw [e2]; exact Smo.wr (by omega) (by omega)
          have f2_98 : rd h2 98 = some (.inr (9, [.int (nI σ.1.1), .int (nI σ.1.2.1), .ref 99, .ref 100, .ref 101, .int (nI σ.1.2.2.2.1), .ref 102, .int (nI ((σ.2.2.2.1).length)), .ref 103, .ref 104, .ref 105, .int fo, .int as_, .int sm, .int sk, .ref 106, .ref 107, .ref 108, .int z, .ref 109, .ref 110, .ref 111, .int (nI σ.2.1.1), .ref 112, .ref 113, .ref 114, .ref 115, .ref 116, .int (nI (bI σ.2.2.2.2.1.isSome)), .int iN, .int iM, .int iT, .ref 117, .ref 118, .ref 119])) := by rw [s2 _ (by omega)]; exact mO
          have f2_99 : rd h2 99 = some (.inl (P)) := by rw [s2 _ (by omega)]; exact mP
          have f2_100 : rd h2 100 = some (.inl (Ro)) := by rw [s2 _ (by omega)]; exact mRo
          have f2_102 : rd h2 102 = some (.inl (rf)) := by rw [s2 _ (by omega)]; exact mrf
          have f2_103 : rd h2 103 = some (.inl (WM)) := by rw [s2 _ (by omega)]; exact mWM
          have f2_104 : rd h2 104 = some (.inl (WP)) := by rw [s2 _ (by omega)]; exact mWP
          have f2_105 : rd h2 105 = some (.inl (WR)) := by rw [s2 _ (by omega)]; exact mWR
          have f2_106 : rd h2 106 = some (.inl (Tr)) := by rw [s2 _ (by omega)]; exact mTr
          have f2_107 : rd h2 107 = some (.inl (Ke)) := by rw [s2 _ (by omega)]; exact mKe
          have f2_108 : rd h2 108 = some (.inl (Co)) := by rw [s2 _ (by omega)]; exact mCo
          have f2_109 : rd h2 109 = some (.inl (Th)) := by rw [s2 _ (by omega)]; exact mTh
          have f2_110 : rd h2 110 = some (.inl (Be)) := by rw [s2 _ (by omega)]; exact mBe
          have f2_111 : rd h2 111 = some (.inl (Le)) := by rw [s2 _ (by omega)]; exact mLe
          have f2_112 : rd h2 112 = some (.inl (AP)) := by rw [s2 _ (by omega)]; exact mAP
          have f2_113 : rd h2 113 = some (.inl (AR)) := by rw [s2 _ (by omega)]; exact mAR
          have f2_114 : rd h2 114 = some (.inl (AU)) := by rw [s2 _ (by omega)]; exact mAU
          have f2_115 : rd h2 115 = some (.inl (Sz)) := by rw [s2 _ (by omega)]; exact mSz
          have f2_116 : rd h2 116 = some (.inl (It)) := by rw [s2 _ (by omega)]; exact mIt
          have f2_117 : rd h2 117 = some (.inl (IP)) := by rw [s2 _ (by omega)]; exact mIP
          have f2_118 : rd h2 118 = some (.inl (IR)) := by rw [s2 _ (by omega)]; exact mIR
          have f2_119 : rd h2 119 = some (.inl (IU)) := by rw [s2 _ (by omega)]; exact mIU
          refine g_aload_n dX9_turn_64 0 rfl ?_
          refine g_getf dX9_turn_65 kX9 wfX9_20 (Nat.le_of_ble_eq_true rfl) (f2_98) rfl ?_
          refine g_iconst (v := nI 2) dX9_turn_68 (by decide +kernel) ?_
          refine g_aload_n dX9_turn_69 0 rfl ?_
          refine g_getf dX9_turn_70 kX9 wfX9_102 (Nat.le_of_ble_eq_true rfl) (f2_98) rfl ?_
          refine g_imulN dX9_turn_73 ?_
          refine g_iconst (v := nI 1) dX9_turn_74 (by decide +kernel) ?_
          refine g_iaddN dX9_turn_75 ?_
          refine g_iload_n dX9_turn_76 2 rfl ?_
          refine g_iasI dX9_turn_77 (f2_101) (by rw [List.length_set]; omega) (by simp only [List.length_set]; omega) (fun h3 e3 => ?_)
          have f3_101 : rd h3 101 = some (.inl (((U).set (2 * σ.1.2.2.2.1) (nI x1)).set ((2 * σ.1.2.2.2.1) + 1) (nI y1))) := by rw [e3]; exact rd_wr_eq (f2_101)
          have lf3_101 : (((U).set (2 * σ.1.2.2.2.1) (nI x1)).set ((2 * σ.1.2.2.2.1) + 1) (nI y1)).length = _ := List.length_set.trans lf2_101
          have s3 : Smo 101 (101 + 1) h2 h3 := by rw [e3]; exact Smo.wr (by omega) (by omega)
          have f3_98 : rd h3 98 = some (.inr (9, [.int (nI σ.1.1), .int (nI σ.1.2.1), .ref 99, .ref 100, .ref 101, .int (nI σ.1.2.2.2.1), .ref 102, .int (nI ((σ.2.2.2.1).length)), .ref 103, .ref 104, .ref 105, .int fo, .int as_, .int sm, .int sk, .ref 106, .ref 107, .ref 108, .int z, .ref 109, .ref 110, .ref 111, .int (nI σ.2.1.1), .ref 112, .ref 113, .ref 114, .ref 115, .ref 116, .int (nI (bI σ.2.2.2.2.1.isSome)), .int iN, .int iM, .int iT, .ref 117, .ref 118, .ref 119])) := by rw [s3 _ (by omega)]; exact f2_98
          have f3_99 : rd h3 99 = some (.inl (P)) := by rw [s3 _ (by omega)]; exact f2_99
          have f3_100 : rd h3 100 = some (.inl (Ro)) := by rw [s3 _ (by omega)]; exact f2_100
          have f3_102 : rd h3 102 = some (.inl (rf)) := by rw [s3 _ (by omega)]; exact f2_102
          have f3_103 : rd h3 103 = some (.inl (WM)) := by rw [s3 _ (by omega)]; exact f2_103
          have f3_104 : rd h3 104 = some (.inl (WP)) := by rw [s3 _ (by omega)]; exact f2_104
          have f3_105 : rd h3 105 = some (.inl (WR)) := by rw [s3 _ (by omega)]; exact f2_105
          have f3_106 : rd h3 106 = some (.inl (Tr)) := by rw [s3 _ (by omega)]; exact f2_106
          have f3_107 : rd h3 107 = some (.inl (Ke)) := by rw [s3 _ (by omega)]; exact f2_107
          have f3_108 : rd h3 108 = some (.inl (Co)) := by rw [s3 _ (by omega)]; exact f2_108
          have f3_109 : rd h3 109 = some (.inl (Th)) := by rw [s3 _ (by omega)]; exact f2_109
          have f3_110 : rd h3 110 = some (.inl (Be)) := by rw [s3 _ (by omega)]; exact f2_110
          have f3_111 : rd h3 111 = some (.inl (Le)) := by rw [s3 _ (by omega)]; exact f2_111
          have f3_112 : rd h3 112 = some (.inl (AP)) := by rw [s3 _ (by omega)]; exact f2_112
          have f3_113 : rd h3 113 = some (.inl (AR)) := by rw [s3 _ (by omega)]; exact f2_113
          have f3_114 : rd h3 114 = some (.inl (AU)) := by rw [s3 _ (by omega)]; exact f2_114
          have f3_115 : rd h3 115 = some (.inl (Sz)) := by rw [s3 _ (by omega)]; exact f2_115
          have f3_116 : rd h3 116 = some (.inl (It)) := by rw [s3 _ (by omega)]; exact f2_116
          have f3_117 : rd h3 117 = some (.inl (IP)) := by rw [s3 _ (by omega)]; exact f2_117
          have f3_118 : rd h3 118 = some (.inl (IR)) := by rw [s3 _ (by omega)]; exact f2_118
          have f3_119 : rd h3 119 = some (.inl (IU)) := by rw [s3 _ (by omega)]; exact f2_119
          refine g_aload_n dX9_turn_78 0 rfl ?_
          refine g_dup dX9_turn_79 rfl ?_
          refine g_getf dX9_turn_80 kX9 wfX9_102 (Nat.le_of_ble_eq_true rfl) (f3_98) rfl ?_
          refine g_iconst (v := nI 1) dX9_turn_83 (by decide +kernel) ?_
          refine g_iaddN dX9_turn_84 ?_
          refine g_putv dX9_turn_85 kX9 wfX9_102 (Nat.le_of_ble_eq_true rfl) rfl (fun _ _ => ⟨rfl, rfl⟩) (f3_98) (Nat.le_of_ble_eq_true rfl) (fs' := [.int (nI σ.1.1), .int (nI σ.1.2.1), .ref 99, .ref 100, .ref 101, .int (nI (σ.1.2.2.2.1 + 1)), .ref 102, .int (nI ((σ.2.2.2.1).length)), .ref 103, .ref 104, .ref 105, .int fo, .int as_, .int sm, .int sk, .ref 106, .ref 107, .ref 108, .int z, .ref 109, .ref 110, .ref 111, .int (nI σ.2.1.1), .ref 112, .ref 113, .ref 114, .ref 115, .ref 116, .int (nI (bI σ.2.2.2.2.1.isSome)), .int iN, .int iM, .int iT, .ref 117, .ref 118, .ref 119]) rfl (fun h4 e4 => ?_)
          have f4_98 : rd h4 98 = some (.inr (9, [.int (nI σ.1.1), .int (nI σ.1.2.1), .ref 99, .ref 100, .ref 101, .int (nI (σ.1.2.2.2.1 + 1)), .ref 102, .int (nI ((σ.2.2.2.1).length)), .ref 103, .ref 104, .ref 105, .int fo, .int as_, .int sm, .int sk, .ref 106, .ref 107, .ref 108, .int z, .ref 109, .ref 110, .ref 111, .int (nI σ.2.1.1), .ref 112, .ref 113, .ref 114, .ref 115, .ref 116, .int (nI (bI σ.2.2.2.2.1.isSome)), .int iN, .int iM, .int iT, .ref 117, .ref 118, .ref 119])) := by rw [e4]; exact rd_wr_eq (f3_98)
          have s4 : Smo 98 (98 + 1) h3 h4 := by rw [e4]; exact Smo.wr (by omega) (by omega)
          have f4_99 : rd h4 99 = some (.inl (P)) := by rw [s4 _ (by omega)]; exact f3_99
          have f4_100 : rd h4 100 = some (.inl (Ro)) := by rw [s4 _ (by omega)]; exact f3_100
          have f4_101 : rd h4 101 = some (.inl (((U).set (2 * σ.1.2.2.2.1) (nI x1)).set ((2 * σ.1.2.2.2.1) + 1) (nI y1))) := by rw [s4 _ (by omega)]; exact f3_101
          have f4_102 : rd h4 102 = some (.inl (rf)) := by rw [s4 _ (by omega)]; exact f3_102
          have f4_103 : rd h4 103 = some (.inl (WM)) := by rw [s4 _ (by omega)]; exact f3_103
          have f4_104 : rd h4 104 = some (.inl (WP)) := by rw [s4 _ (by omega)]; exact f3_104
          have f4_105 : rd h4 105 = some (.inl (WR)) := by rw [s4 _ (by omega)]; exact f3_105
          have f4_106 : rd h4 106 = some (.inl (Tr)) := by rw [s4 _ (by omega)]; exact f3_106
          have f4_107 : rd h4 107 = some (.inl (Ke)) := by rw [s4 _ (by omega)]; exact f3_107
          have f4_108 : rd h4 108 = some (.inl (Co)) := by rw [s4 _ (by omega)]; exact f3_108
          have f4_109 : rd h4 109 = some (.inl (Th)) := by rw [s4 _ (by omega)]; exact f3_109
          have f4_110 : rd h4 110 = some (.inl (Be)) := by rw [s4 _ (by omega)]; exact f3_110
          have f4_111 : rd h4 111 = some (.inl (Le)) := by rw [s4 _ (by omega)]; exact f3_111
          have f4_112 : rd h4 112 = some (.inl (AP)) := by rw [s4 _ (by omega)]; exact f3_112
          have f4_113 : rd h4 113 = some (.inl (AR)) := by rw [s4 _ (by omega)]; exact f3_113
          have f4_114 : rd h4 114 = some (.inl (AU)) := by rw [s4 _ (by omega)]; exact f3_114
          have f4_115 : rd h4 115 = some (.inl (Sz)) := by rw [s4 _ (by omega)]; exact f3_115
          have f4_116 : rd h4 116 = some (.inl (It)) := by rw [s4 _ (by omega)]; exact f3_116
          have f4_117 : rd h4 117 = some (.inl (IP)) := by rw [s4 _ (by omega)]; exact f3_117
          have f4_118 : rd h4 118 = some (.inl (IR)) := by rw [s4 _ (by omega)]; exact f3_118
          have f4_119 : rd h4 119 = some (.inl (IU)) := by rw [s4 _ (by omega)]; exact f3_119
          refine g_aload_n dX9_turn_88 0 rfl ?_
          refine g_getf dX9_turn_89 kX9 wfX9_102 (Nat.le_of_ble_eq_true rfl) (f4_98) rfl ?_
          exact g_iret dX9_turn_92 rfl ⟨Nat.zero_le _, Nat.zero_le _⟩ (⟨rfl, ⟨_, _, _, _, _, _, _, _, _, _, _, _, _, _, _, _, _, _, _, _, _, _, _, _, _, _, _, _, _, f4_98, ⟨f4_99, lP⟩, ⟨f4_100, lRo⟩, ⟨f4_101, lf3_101⟩, ⟨f4_102, lrf⟩, ⟨f4_103, lWM⟩, ⟨f4_104, lWP⟩, ⟨f4_105, lWR⟩, ⟨f4_106, lTr⟩, ⟨f4_107, lKe⟩, ⟨f4_108, lCo⟩, ⟨f4_109, lTh⟩, ⟨f4_110, lBe⟩, ⟨f4_111, lLe⟩, ⟨f4_112, lAP⟩, ⟨f4_113, lAR⟩, ⟨f4_114, lAU⟩, ⟨f4_115, lSz⟩, ⟨f4_116, lIt⟩, ⟨f4_117, lIP⟩, ⟨f4_118, lIR⟩, ⟨f4_119, lIU⟩, vP, vR, (tR_app vU lU (by omega) x1 y1), vF, vH, vL, vS, vI, vG⟩, (fun q hq => by rw [s4 q (by omega), s3 q (by omega), s2 q (by omega)])⟩)
        · refine g_aload_n dX9_turn_45 0 rfl ?_
          refine g_bipush (v := (-6)) dX9_turn_46 (by decide +kernel) ?_
          have er : rTurn σ.1.2.2.2.1 x y = -6 := (if_neg n1).trans ((if_neg (Int32.not_lt.mpr c20)).trans (if_pos (by first | exact Or.inl c33 | exact Or.inr (by omega))))
          rw [show oTurn σ x y = rfS σ (rTurn σ.1.2.2.2.1 x y) from if_neg (by rw [er]; decide), er]
          refine g_callVq (st1 := [.int (-nI 6)]) dX9_turn_48 (ev_refused H ok 6 (by unfold noN; omega)) oX9_refused wiX9_refused weX9_refused wmX9_90 kX9 (mO) rfl ⟨(Nat.le_of_ble_eq_true rfl), (Nat.le_of_ble_eq_true rfl)⟩ ⟨Nat.zero_le _, Nat.zero_le _⟩ (Nat.le_of_ble_eq_true rfl) rfl rfl (fun h5 q5 => ?_)
          exact g_iret dX9_turn_51 rfl ⟨Nat.zero_le _, Nat.zero_le _⟩ (⟨rfl, q5⟩)
    · refine g_aload_n dX9_turn_23 0 rfl ?_
      refine g_bipush (v := (-4)) dX9_turn_24 (by decide +kernel) ?_
      have er : rTurn σ.1.2.2.2.1 x y = -4 := (if_neg n1).trans (if_pos (Int32.not_le.mp c20))
      rw [show oTurn σ x y = rfS σ (rTurn σ.1.2.2.2.1 x y) from if_neg (by rw [er]; decide), er]
      refine g_callVq (st1 := [.int (-nI 4)]) dX9_turn_26 (ev_refused H ok 4 (by unfold noN; omega)) oX9_refused wiX9_refused weX9_refused wmX9_90 kX9 (mO) rfl ⟨(Nat.le_of_ble_eq_true rfl), (Nat.le_of_ble_eq_true rfl)⟩ ⟨Nat.zero_le _, Nat.zero_le _⟩ (Nat.le_of_ble_eq_true rfl) rfl rfl (fun h6 q6 => ?_)
      exact g_iret dX9_turn_29 rfl ⟨Nat.zero_le _, Nat.zero_le _⟩ (⟨rfl, q6⟩)
  · refine g_aload_n dX9_turn_12 0 rfl ?_
    refine g_bipush (v := (-2)) dX9_turn_13 (by decide +kernel) ?_
    have er : rTurn σ.1.2.2.2.1 x y = -2 := if_pos (Decidable.byContradiction fun z => of_decide_eq_false c9 ((inR_eq (by omega)).mpr z))
    rw [show oTurn σ x y = rfS σ (rTurn σ.1.2.2.2.1 x y) from if_neg (by rw [er]; decide), er]
    refine g_callVq (st1 := [.int (-nI 2)]) dX9_turn_15 (ev_refused H ok 2 (by unfold noN; omega)) oX9_refused wiX9_refused weX9_refused wmX9_90 kX9 (mO) rfl ⟨(Nat.le_of_ble_eq_true rfl), (Nat.le_of_ble_eq_true rfl)⟩ ⟨Nat.zero_le _, Nat.zero_le _⟩ (Nat.le_of_ble_eq_true rfl) rfl rfl (fun h7 q7 => ?_)
    exact g_iret dX9_turn_18 rfl ⟨Nat.zero_le _, Nat.zero_le _⟩ (⟨rfl, q7⟩)
