theorem q_eq {n m : Nat} {f : Nat → Pr} (hm : m ≤ 6) {k : Nat} (hk : k < m) : (qF f).getD k 0 = (f k).1 ∧ (qS f).getD k 0 = (f k).2.1 ∧ (qA f).getD k 0 = (f k).2.2 := ⟨map6 (fun k => (f k).1) (by omega), map6 (fun k => (f k).2.1) (by omega), map6 (fun k => (f k).2.2) (by omega)⟩
theorem bnd_q {n m : Nat} {f : Nat → Pr} (hm : m ≤ 6) (k5 : ∀ k, k < m → okPr n (f k)) : bnd n m (qF f) (qS f) (qA f) := fun k hk => by
  obtain ⟨a, b, c⟩ := q_eq (n := n) (f := f) hm hk
  obtain ⟨j1, j2, j3, j4, j5, j6⟩ := k5 k hk
  rw [a, b, c]
  exact ⟨j2, j4, j6⟩
theorem pq_ {P : List Int32} {n m : Nat} {f : Nat → Pr} (vP : pR P 0 m f) (hm : m ≤ 6) {k : Nat} (hk : k < m) : P.getD (3 * k) 0 = nI ((qF f).getD k 0) ∧ P.getD (3 * k + 1) 0 = nI ((qS f).getD k 0) ∧ P.getD (3 * k + 2) 0 = nI ((qA f).getD k 0) := by
  obtain ⟨a, b, c⟩ := q_eq (n := n) (f := f) hm hk
  rw [a, b, c]
  exact ⟨pR0 vP hk, pR1 vP hk, pR2 vP hk⟩

set_option maxRecDepth 100000 in
set_option maxHeartbeats 4000000 in
theorem lp_madd {h : List aC} {P : Option Value → List aC → Prop} {n m a de : Nat} {fo as_ sm sk z : Int32} {am : Nat} {ib : Bool} {iN iM iT : Int32} (hO : MO h n m a de fo as_ sm sk z am ib iN iM iT) (n3 : n ≤ 13) (hm : m ≤ 6) {P1 : List Int32} (hP : rd h 99 = some (.inl P1)) (lP : P1.length = 18) {f : Nat → Pr} (vP : pR P1 0 m f) (k5 : ∀ k, k < m → okPr n (f k)) (K : G mX9_isAdded (rmD 4 0 0) none P 0 0 81 [(0, .ref 98), (1, .int (nI (uBits (qA f) m))), (2, .int (nI (hBits n (qF f) (qS f) (qA f) m))), (3, .int (nI m))] [] h) : ∀ j k , k + j = m → G mX9_isAdded (rmD 4 0 0) none P 0 0 6 [(3, .int (nI k)), (0, .ref 98), (1, .int (nI (uBits (qA f) k))), (2, .int (nI (hBits n (qF f) (qS f) (qA f) k)))] [] h := by
  intro j
  induction j with
  | zero =>
    intro k  hk 
    have hO : rd h 98 = some (.inr (9, [.int (nI n), .int (nI m), .ref 99, .ref 100, .ref 101, .int (nI a), .ref 102, .int (nI de), .ref 103, .ref 104, .ref 105, .int fo, .int as_, .int sm, .int sk, .ref 106, .ref 107, .ref 108, .int z, .ref 109, .ref 110, .ref 111, .int (nI am), .ref 112, .ref 113, .ref 114, .ref 115, .ref 116, .int (nI (bI ib)), .int iN, .int iM, .int iT, .ref 117, .ref 118, .ref 119])) := hO
    refine g_iload_n dX9_isAdded_6 0 rfl ?_
    refine g_aload_n dX9_isAdded_7 1 rfl ?_
    refine g_getf dX9_isAdded_8 kX9 wfX9_87 (Nat.le_of_ble_eq_true rfl) (hO) rfl ?_
    refine g_icmp_geN 81 dX9_isAdded_11 (by decide) (by omega) (by omega) (fun c11 => ?_) (fun z => absurd z (by omega))
    refine g_lsub_ (ls2 := [(0, .ref 98), (1, .int (nI (uBits (qA f) k))), (2, .int (nI (hBits n (qF f) (qS f) (qA f) k))), (3, .int (nI k))]) [1, 2, 3, 0] rfl ?_
    have ek : k = m := by omega
    subst ek
    exact K
  | succ j ih =>
    intro k  hk 
    have hO : rd h 98 = some (.inr (9, [.int (nI n), .int (nI m), .ref 99, .ref 100, .ref 101, .int (nI a), .ref 102, .int (nI de), .ref 103, .ref 104, .ref 105, .int fo, .int as_, .int sm, .int sk, .ref 106, .ref 107, .ref 108, .int z, .ref 109, .ref 110, .ref 111, .int (nI am), .ref 112, .ref 113, .ref 114, .ref 115, .ref 116, .int (nI (bI ib)), .int iN, .int iM, .int iT, .ref 117, .ref 118, .ref 119])) := hO
    obtain ⟨e1, e2, e3⟩ := pq_ (n := n) vP hm (show k < m by omega)
    obtain ⟨b1, b2, b3⟩ := bnd_q hm k5 k (by omega)
    have ml := Nat.mod_lt ((qF f).getD k 0 + (qA f).getD k 0) (show 0 < n by omega)
    have ml2 := Nat.mod_lt ((qS f).getD k 0 + (qA f).getD k 0) (show 0 < n by omega)
    refine g_iload_n dX9_isAdded_6 0 rfl ?_
    refine g_aload_n dX9_isAdded_7 1 rfl ?_
    refine g_getf dX9_isAdded_8 kX9 wfX9_87 (Nat.le_of_ble_eq_true rfl) (hO) rfl ?_
    refine g_icmp_geN 81 dX9_isAdded_11 (by decide) (by omega) (by omega) (fun z => absurd z (by omega)) (fun c11 => ?_)
    refine g_aload_n dX9_isAdded_14 1 rfl ?_
    refine g_getf dX9_isAdded_15 kX9 wfX9_13 (Nat.le_of_ble_eq_true rfl) (hO) rfl ?_
    refine g_iconst (v := nI 3) dX9_isAdded_18 (by decide +kernel) ?_
    refine g_iload_n dX9_isAdded_19 0 rfl ?_
    refine g_imulN dX9_isAdded_20 ?_
    refine g_iconst (v := nI 2) dX9_isAdded_21 (by decide +kernel) ?_
    refine g_iaddN dX9_isAdded_22 ?_
    refine g_ialI dX9_isAdded_23 (hP) (by omega) (by omega) ?_
    refine g_top (show (P1).getD ((3 * k) + 2) 0 = nI ((qA f).getD k 0) from e3) ?_
    refine g_istore (ls' := [(4, .int (nI ((qA f).getD k 0))), (3, .int (nI k)), (0, .ref 98), (1, .int (nI (uBits (qA f) k))), (2, .int (nI (hBits n (qF f) (qS f) (qA f) k)))]) dX9_isAdded_24 (Nat.le_of_ble_eq_true rfl) rfl ?_
    refine g_iload_n dX9_isAdded_26 3 rfl ?_
    refine g_iconst (v := nI 1) dX9_isAdded_27 (by decide +kernel) ?_
    refine g_iload dX9_isAdded_28 0 rfl ?_
    refine g_ishl1 dX9_isAdded_30 (by first | omega | exact Nat.lt_of_lt_of_le (Nat.mod_lt _ (by omega)) (by omega)) ?_
    refine g_iorN dX9_isAdded_31 ?_
    refine g_top (show nI ((uBits (qA f) k) ||| (2 ^ ((qA f).getD k 0))) = nI (uBits (qA f) (k + 1)) from rfl) ?_
    refine g_istore_n (ls' := [(1, .int (nI (uBits (qA f) (k + 1)))), (4, .int (nI ((qA f).getD k 0))), (3, .int (nI k)), (0, .ref 98), (2, .int (nI (hBits n (qF f) (qS f) (qA f) k)))]) dX9_isAdded_32 (Nat.le_of_ble_eq_true rfl) rfl ?_
    refine g_iload_n dX9_isAdded_33 4 rfl ?_
    refine g_iconst (v := nI 1) dX9_isAdded_34 (by decide +kernel) ?_
    refine g_aload_n dX9_isAdded_35 3 rfl ?_
    refine g_getf dX9_isAdded_36 kX9 wfX9_13 (Nat.le_of_ble_eq_true rfl) (hO) rfl ?_
    refine g_iconst (v := nI 3) dX9_isAdded_39 (by decide +kernel) ?_
    refine g_iload_n dX9_isAdded_40 2 rfl ?_
    refine g_imulN dX9_isAdded_41 ?_
    refine g_ialI dX9_isAdded_42 (hP) (by omega) (by omega) ?_
    refine g_top (show (P1).getD (3 * k) 0 = nI ((qF f).getD k 0) from e1) ?_
    refine g_iload dX9_isAdded_43 1 rfl ?_
    refine g_iaddN dX9_isAdded_45 ?_
    refine g_aload_n dX9_isAdded_46 3 rfl ?_
    refine g_getf dX9_isAdded_47 kX9 wfX9_7 (Nat.le_of_ble_eq_true rfl) (hO) rfl ?_
    refine g_iremN dX9_isAdded_50 (by omega) (by omega) (by omega) ?_
    refine g_ishl1 dX9_isAdded_51 (by first | omega | exact Nat.lt_of_lt_of_le (Nat.mod_lt _ (by omega)) (by omega)) ?_
    refine g_iconst (v := nI 1) dX9_isAdded_52 (by decide +kernel) ?_
    refine g_aload_n dX9_isAdded_53 3 rfl ?_
    refine g_getf dX9_isAdded_54 kX9 wfX9_13 (Nat.le_of_ble_eq_true rfl) (hO) rfl ?_
    refine g_iconst (v := nI 3) dX9_isAdded_57 (by decide +kernel) ?_
    refine g_iload_n dX9_isAdded_58 2 rfl ?_
    refine g_imulN dX9_isAdded_59 ?_
    refine g_iconst (v := nI 1) dX9_isAdded_60 (by decide +kernel) ?_
    refine g_iaddN dX9_isAdded_61 ?_
    refine g_ialI dX9_isAdded_62 (hP) (by omega) (by omega) ?_
    refine g_top (show (P1).getD ((3 * k) + 1) 0 = nI ((qS f).getD k 0) from e2) ?_
    refine g_iload dX9_isAdded_63 1 rfl ?_
    refine g_iaddN dX9_isAdded_65 ?_
    refine g_aload_n dX9_isAdded_66 3 rfl ?_
    refine g_getf dX9_isAdded_67 kX9 wfX9_7 (Nat.le_of_ble_eq_true rfl) (hO) rfl ?_
    refine g_iremN dX9_isAdded_70 (by omega) (by omega) (by omega) ?_
    refine g_ishl1 dX9_isAdded_71 (by first | omega | exact Nat.lt_of_lt_of_le (Nat.mod_lt _ (by omega)) (by omega)) ?_
    refine g_iorN dX9_isAdded_72 ?_
    refine g_iorN dX9_isAdded_73 ?_
    refine g_top (show nI ((hBits n (qF f) (qS f) (qA f) k) ||| ((2 ^ ((((qF f).getD k 0) + ((qA f).getD k 0)) % n)) ||| (2 ^ ((((qS f).getD k 0) + ((qA f).getD k 0)) % n)))) = nI (hBits n (qF f) (qS f) (qA f) (k + 1)) from congrArg nI (Nat.or_assoc _ _ _).symm) ?_
    refine g_istore_n (ls' := [(2, .int (nI (hBits n (qF f) (qS f) (qA f) (k + 1)))), (1, .int (nI (uBits (qA f) (k + 1)))), (4, .int (nI ((qA f).getD k 0))), (3, .int (nI k)), (0, .ref 98)]) dX9_isAdded_74 (Nat.le_of_ble_eq_true rfl) rfl ?_
    refine g_iinc (q := 3) (v := nI (k + 1)) (ls' := [(3, .int (nI (k + 1))), (2, .int (nI (hBits n (qF f) (qS f) (qA f) (k + 1)))), (1, .int (nI (uBits (qA f) (k + 1)))), (4, .int (nI ((qA f).getD k 0))), (0, .ref 98)]) dX9_isAdded_75 rfl (inc1 _) (Nat.le_of_ble_eq_true rfl) rfl ?_
    refine g_goto 6 dX9_isAdded_78 (by decide) ?_
    refine g_lsub_ (ls2 := [(3, .int (nI (k + 1))), (0, .ref 98), (1, .int (nI (uBits (qA f) (k + 1)))), (2, .int (nI (hBits n (qF f) (qS f) (qA f) (k + 1))))]) [0, 4, 2, 1] rfl ?_
    exact ih (k + 1) (by omega)

set_option maxRecDepth 100000 in
set_option maxHeartbeats 4000000 in
theorem ev_isAdded {h : List aC} {σ : Sg} (H : RM h σ) (ok : okSg σ) : Ev mX9_isAdded 4 0 0 [.ref 98] h (pv (.int (nI (bI (adS σ.1.1 σ.1.2.1 (qF σ.1.2.2.1) (qS σ.1.2.2.1) (qA σ.1.2.2.1))))) h) := by
  obtain ⟨fo, as_, sm, sk, z, iN, iM, iT, P, Ro, U, rf, WM, WP, WR, Tr, Ke, Co, Th, Be, Le, AP, AR, AU, Sz, It, IP, IR, IU, mO, mP, mRo, mU, mrf, mWM, mWP, mWR, mTr, mKe, mCo, mTh, mBe, mLe, mAP, mAR, mAU, mSz, mIt, mIP, mIR, mIU, vP, vR, vU, vF, vH, vL, vS, vI, vG⟩ := id H
  have mO : rd h 98 = some (.inr (9, [.int (nI σ.1.1), .int (nI σ.1.2.1), .ref 99, .ref 100, .ref 101, .int (nI σ.1.2.2.2.1), .ref 102, .int (nI ((σ.2.2.2.1).length)), .ref 103, .ref 104, .ref 105, .int fo, .int as_, .int sm, .int sk, .ref 106, .ref 107, .ref 108, .int z, .ref 109, .ref 110, .ref 111, .int (nI σ.2.1.1), .ref 112, .ref 113, .ref 114, .ref 115, .ref 116, .int (nI (bI σ.2.2.2.2.1.isSome)), .int iN, .int iM, .int iT, .ref 117, .ref 118, .ref 119])) := mO
  obtain ⟨mP, lP⟩ := mP
  obtain ⟨mRo, lRo⟩ := mRo
  obtain ⟨mU, lU⟩ := mU
  obtain ⟨mrf, lrf⟩ := mrf
  obtain ⟨mWM, lWM⟩ := mWM
  obtain ⟨mWP, lWP⟩ := mWP
  obtain ⟨mWR, lWR⟩ := mWR
  obtain ⟨mTr, lTr⟩ := mTr
  obtain ⟨mKe, lKe⟩ := mKe
  obtain ⟨mCo, lCo⟩ := mCo
  obtain ⟨mTh, lTh⟩ := mTh
  obtain ⟨mBe, lBe⟩ := mBe
  obtain ⟨mLe, lLe⟩ := mLe
  obtain ⟨mAP, lAP⟩ := mAP
  obtain ⟨mAR, lAR⟩ := mAR
  obtain ⟨mAU, lAU⟩ := mAU
  obtain ⟨mSz, lSz⟩ := mSz
  obtain ⟨mIt, lIt⟩ := mIt
  obtain ⟨mIP, lIP⟩ := mIP
  obtain ⟨mIR, lIR⟩ := mIR
  obtain ⟨mIU, lIU⟩ := mIU
  obtain ⟨okc, ⟨okl, okw⟩, okn, ⟨okh, oke⟩, oki, okr⟩ := id ok
  obtain ⟨k1, k2, k3, k4, k5, k6, k7, k8, k9⟩ := id okc
  refine Ev.of pX9_isAdded (Nat.le_of_ble_eq_true rfl) ?_
  show G mX9_isAdded (rmD 4 0 0) none _ 0 0 0 [(0, .ref 98)] [] h
  refine g_iconst (v := nI 0) dX9_isAdded_0 (by decide +kernel) ?_
  refine g_istore_n (ls' := [(1, .int (nI 0)), (0, .ref 98)]) dX9_isAdded_1 (Nat.le_of_ble_eq_true rfl) rfl ?_
  refine g_iconst (v := nI 0) dX9_isAdded_2 (by decide +kernel) ?_
  refine g_istore_n (ls' := [(2, .int (nI 0)), (1, .int (nI 0)), (0, .ref 98)]) dX9_isAdded_3 (Nat.le_of_ble_eq_true rfl) rfl ?_
  refine g_iconst (v := nI 0) dX9_isAdded_4 (by decide +kernel) ?_
  refine g_istore_n (ls' := [(3, .int (nI 0)), (2, .int (nI 0)), (1, .int (nI 0)), (0, .ref 98)]) dX9_isAdded_5 (Nat.le_of_ble_eq_true rfl) rfl ?_
  refine g_lsub_ (ls2 := [(3, .int (nI 0)), (0, .ref 98), (1, .int (nI 0)), (2, .int (nI 0))]) [0, 3, 2, 1] rfl ?_
  refine lp_madd (show MO h _ _ _ _ _ _ _ _ _ _ _ _ _ _ from mO) k2 (by omega) mP lP vP k5 ?_ σ.1.2.1 0 (by omega)
  have bq := bnd_q (n := σ.1.1) (m := σ.1.2.1) (by omega) k5
  have ub := uBits_lt bq k2 σ.1.2.1 (Nat.le_refl _)
  have hb := hBits_lt bq k2 σ.1.2.1 (Nat.le_refl _)
  have pw := pw13m k2
  have pw1 := pw2 (show 1 ≤ σ.1.1 by omega)
  have pl := popN_le (uBits (qA σ.1.2.2.1) σ.1.2.1) 14
  have ua : uBits (qA σ.1.2.2.1) σ.1.2.1 &&& 1 ≤ 1 := Nat.and_le_right
  refine g_aload_n dX9_isAdded_81 0 rfl ?_
  refine g_callVp dX9_isAdded_82 (ev_isOne H ok) oX9_isOne wiX9_isOne weX9_isOne wmX9_145 kX9 (mO) rfl ⟨(Nat.le_of_ble_eq_true rfl), (Nat.le_of_ble_eq_true rfl)⟩ ⟨Nat.zero_le _, Nat.zero_le _⟩ (Nat.le_of_ble_eq_true rfl) rfl ?_
  refine g_if_eqB 121 dX9_isAdded_85 (by decide) (fun c85 => ?_) (fun c85 => ?_)
  · refine g_iconst (v := nI 0) dX9_isAdded_121 (by decide +kernel) ?_
    exact g_zret dX9_isAdded_122 rfl (by decide) ⟨Nat.zero_le _, Nat.zero_le _⟩ (⟨by rw [show adS σ.1.1 σ.1.2.1 (qF σ.1.2.2.1) (qS σ.1.2.2.1) (qA σ.1.2.2.1) = false from decide_eq_false (fun z => by rw [c85] at z; exact absurd z.1 (by decide))]; rfl, rfl⟩)
  · refine g_iload_n dX9_isAdded_88 1 rfl ?_
    refine g_callSp dX9_isAdded_89 (ev_bitCount (uBits (qA σ.1.2.2.1) σ.1.2.1) (by omega) _) oJ6_bitCount_0f7a4 wsJ6_bitCount_0f7a4 wmX9_149 rfl ⟨(Nat.le_of_ble_eq_true rfl), (Nat.le_of_ble_eq_true rfl)⟩ ⟨Nat.zero_le _, Nat.zero_le _⟩ (Nat.le_of_ble_eq_true rfl) rfl ?_
    refine g_aload_n dX9_isAdded_92 0 rfl ?_
    refine g_getf dX9_isAdded_93 kX9 wfX9_87 (Nat.le_of_ble_eq_true rfl) (mO) rfl ?_
    refine g_icmp_neN 121 dX9_isAdded_96 (by decide) (by omega) (by omega) (fun c96 => ?_) (fun c96 => ?_)
    · refine g_iconst (v := nI 0) dX9_isAdded_121 (by decide +kernel) ?_
      exact g_zret dX9_isAdded_122 rfl (by decide) ⟨Nat.zero_le _, Nat.zero_le _⟩ (⟨by rw [show adS σ.1.1 σ.1.2.1 (qF σ.1.2.2.1) (qS σ.1.2.2.1) (qA σ.1.2.2.1) = false from decide_eq_false (fun z => c96 z.2.2.1)]; rfl, rfl⟩)
    · refine g_iload_n dX9_isAdded_99 1 rfl ?_
      refine g_iconst (v := nI 1) dX9_isAdded_100 (by decide +kernel) ?_
      refine g_iandN dX9_isAdded_101 ?_
      refine g_if_neN 121 dX9_isAdded_102 (by decide) (by omega) (fun c102 => ?_) (fun c102 => ?_)
      · refine g_iconst (v := nI 0) dX9_isAdded_121 (by decide +kernel) ?_
        exact g_zret dX9_isAdded_122 rfl (by decide) ⟨Nat.zero_le _, Nat.zero_le _⟩ (⟨by rw [show adS σ.1.1 σ.1.2.1 (qF σ.1.2.2.1) (qS σ.1.2.2.1) (qA σ.1.2.2.1) = false from decide_eq_false (fun z => absurd z.2.1 (by omega))]; rfl, rfl⟩)
      · refine g_iload_n dX9_isAdded_105 2 rfl ?_
        refine g_iconst (v := nI 1) dX9_isAdded_106 (by decide +kernel) ?_
        refine g_aload_n dX9_isAdded_107 0 rfl ?_
        refine g_getf dX9_isAdded_108 kX9 wfX9_7 (Nat.le_of_ble_eq_true rfl) (mO) rfl ?_
        refine g_ishl1 dX9_isAdded_111 (by first | omega | exact Nat.lt_of_lt_of_le (Nat.mod_lt _ (by omega)) (by omega)) ?_
        refine g_iconst (v := nI 2) dX9_isAdded_112 (by decide +kernel) ?_
        refine g_isubN dX9_isAdded_113 (by omega) ?_
        refine g_icmp_neN 121 dX9_isAdded_114 (by decide) (by omega) (by omega) (fun c114 => ?_) (fun c114 => ?_)
        · refine g_iconst (v := nI 0) dX9_isAdded_121 (by decide +kernel) ?_
          exact g_zret dX9_isAdded_122 rfl (by decide) ⟨Nat.zero_le _, Nat.zero_le _⟩ (⟨by rw [show adS σ.1.1 σ.1.2.1 (qF σ.1.2.2.1) (qS σ.1.2.2.1) (qA σ.1.2.2.1) = false from decide_eq_false (fun z => c114 z.2.2.2)]; rfl, rfl⟩)
        · refine g_iconst (v := nI 1) dX9_isAdded_117 (by decide +kernel) ?_
          refine g_goto 122 dX9_isAdded_118 (by decide) ?_
          exact g_zret dX9_isAdded_122 rfl (by decide) ⟨Nat.zero_le _, Nat.zero_le _⟩ (⟨by rw [show adS σ.1.1 σ.1.2.1 (qF σ.1.2.2.1) (qS σ.1.2.2.1) (qA σ.1.2.2.1) = true from decide_eq_true ⟨c85, c102, c96, c114⟩]; rfl, rfl⟩)

set_option maxRecDepth 100000 in
set_option maxHeartbeats 4000000 in
theorem ev_y_is_0 {h : List aC} {σ : Sg} (H : RM h σ) (ok : okSg σ) : Ev mX9_is 5 0 0 [.ref 98, .int (nI 0)] h (spM h (oIs σ (nI 0))) := by
  obtain ⟨fo, as_, sm, sk, z, iN, iM, iT, P, Ro, U, rf, WM, WP, WR, Tr, Ke, Co, Th, Be, Le, AP, AR, AU, Sz, It, IP, IR, IU, mO, mP, mRo, mU, mrf, mWM, mWP, mWR, mTr, mKe, mCo, mTh, mBe, mLe, mAP, mAR, mAU, mSz, mIt, mIP, mIR, mIU, vP, vR, vU, vF, vH, vL, vS, vI, vG⟩ := id H
  have mO : rd h 98 = some (.inr (9, [.int (nI σ.1.1), .int (nI σ.1.2.1), .ref 99, .ref 100, .ref 101, .int (nI σ.1.2.2.2.1), .ref 102, .int (nI ((σ.2.2.2.1).length)), .ref 103, .ref 104, .ref 105, .int fo, .int as_, .int sm, .int sk, .ref 106, .ref 107, .ref 108, .int z, .ref 109, .ref 110, .ref 111, .int (nI σ.2.1.1), .ref 112, .ref 113, .ref 114, .ref 115, .ref 116, .int (nI (bI σ.2.2.2.2.1.isSome)), .int iN, .int iM, .int iT, .ref 117, .ref 118, .ref 119])) := mO
  obtain ⟨mP, lP⟩ := mP
  obtain ⟨mRo, lRo⟩ := mRo
  obtain ⟨mU, lU⟩ := mU
  obtain ⟨mrf, lrf⟩ := mrf
  obtain ⟨mWM, lWM⟩ := mWM
  obtain ⟨mWP, lWP⟩ := mWP
  obtain ⟨mWR, lWR⟩ := mWR
  obtain ⟨mTr, lTr⟩ := mTr
  obtain ⟨mKe, lKe⟩ := mKe
  obtain ⟨mCo, lCo⟩ := mCo
  obtain ⟨mTh, lTh⟩ := mTh
  obtain ⟨mBe, lBe⟩ := mBe
  obtain ⟨mLe, lLe⟩ := mLe
  obtain ⟨mAP, lAP⟩ := mAP
  obtain ⟨mAR, lAR⟩ := mAR
  obtain ⟨mAU, lAU⟩ := mAU
  obtain ⟨mSz, lSz⟩ := mSz
  obtain ⟨mIt, lIt⟩ := mIt
  obtain ⟨mIP, lIP⟩ := mIP
  obtain ⟨mIR, lIR⟩ := mIR
  obtain ⟨mIU, lIU⟩ := mIU
  obtain ⟨okc, ⟨okl, okw⟩, okn, ⟨okh, oke⟩, oki, okr⟩ := id ok
  obtain ⟨k1, k2, k3, k4, k5, k6, k7, k8, k9⟩ := id okc
  rw [show oIs σ (nI 0) = (nI (bI (decide (σ.1.2.1 = (σ.1.1 - 1) / 2))), σ) from by unfold oIs; rw [if_neg (by decide), cl_ (by decide)]; unfold isB; rw [if_pos rfl]]
  refine Ev.of pX9_is (Nat.le_of_ble_eq_true rfl) ?_
  show G mX9_is (rmD 5 0 0) none _ 0 0 0 [(0, .ref 98), (1, .int (nI 0))] [] h
  refine g_iload_n dX9_is_0 1 rfl ?_
  refine g_tableIn 36 dX9_is_1 (by decide +kernel) (by decide +kernel) (off := 35) (by decide +kernel) (by decide) ?_
  refine g_aload_n dX9_is_36 0 rfl ?_
  refine g_getf dX9_is_37 kX9 wfX9_87 (Nat.le_of_ble_eq_true rfl) (mO) rfl ?_
  refine g_aload_n dX9_is_40 0 rfl ?_
  refine g_callVp dX9_is_41 (ev_half H ok) oX9_half wiX9_half weX9_half wmX9_113 kX9 (mO) rfl ⟨(Nat.le_of_ble_eq_true rfl), (Nat.le_of_ble_eq_true rfl)⟩ ⟨Nat.zero_le _, Nat.zero_le _⟩ (Nat.le_of_ble_eq_true rfl) rfl ?_
  refine g_icmp_neN 51 dX9_is_44 (by decide) (by omega) (by omega) (fun c44 => ?_) (fun c44 => ?_)
  · refine g_iconst (v := nI 0) dX9_is_51 (by decide +kernel) ?_
    exact g_iret dX9_is_52 rfl ⟨Nat.zero_le _, Nat.zero_le _⟩ (⟨by rw [show decide (σ.1.2.1 = (σ.1.1 - 1) / 2) = false from decide_eq_false c44]; rfl, ⟨_, _, _, _, _, _, _, _, _, _, _, _, _, _, _, _, _, _, _, _, _, _, _, _, _, _, _, _, _, mO, ⟨mP, lP⟩, ⟨mRo, lRo⟩, ⟨mU, lU⟩, ⟨mrf, lrf⟩, ⟨mWM, lWM⟩, ⟨mWP, lWP⟩, ⟨mWR, lWR⟩, ⟨mTr, lTr⟩, ⟨mKe, lKe⟩, ⟨mCo, lCo⟩, ⟨mTh, lTh⟩, ⟨mBe, lBe⟩, ⟨mLe, lLe⟩, ⟨mAP, lAP⟩, ⟨mAR, lAR⟩, ⟨mAU, lAU⟩, ⟨mSz, lSz⟩, ⟨mIt, lIt⟩, ⟨mIP, lIP⟩, ⟨mIR, lIR⟩, ⟨mIU, lIU⟩, vP, vR, vU, vF, vH, vL, vS, vI, vG⟩, Smo.rf⟩)
  · refine g_iconst (v := nI 1) dX9_is_47 (by decide +kernel) ?_
    refine g_goto 52 dX9_is_48 (by decide) ?_
    exact g_iret dX9_is_52 rfl ⟨Nat.zero_le _, Nat.zero_le _⟩ (⟨by rw [show decide (σ.1.2.1 = (σ.1.1 - 1) / 2) = true from decide_eq_true c44]; rfl, ⟨_, _, _, _, _, _, _, _, _, _, _, _, _, _, _, _, _, _, _, _, _, _, _, _, _, _, _, _, _, mO, ⟨mP, lP⟩, ⟨mRo, lRo⟩, ⟨mU, lU⟩, ⟨mrf, lrf⟩, ⟨mWM, lWM⟩, ⟨mWP, lWP⟩, ⟨mWR, lWR⟩, ⟨mTr, lTr⟩, ⟨mKe, lKe⟩, ⟨mCo, lCo⟩, ⟨mTh, lTh⟩, ⟨mBe, lBe⟩, ⟨mLe, lLe⟩, ⟨mAP, lAP⟩, ⟨mAR, lAR⟩, ⟨mAU, lAU⟩, ⟨mSz, lSz⟩, ⟨mIt, lIt⟩, ⟨mIP, lIP⟩, ⟨mIR, lIR⟩, ⟨mIU, lIU⟩, vP, vR, vU, vF, vH, vL, vS, vI, vG⟩, Smo.rf⟩)

set_option maxRecDepth 100000 in
set_option maxHeartbeats 4000000 in
theorem ev_y_is_1 {h : List aC} {σ : Sg} (H : RM h σ) (ok : okSg σ) : Ev mX9_is 5 0 0 [.ref 98, .int (nI 1)] h (spM h (oIs σ (nI 1))) := by
  obtain ⟨fo, as_, sm, sk, z, iN, iM, iT, P, Ro, U, rf, WM, WP, WR, Tr, Ke, Co, Th, Be, Le, AP, AR, AU, Sz, It, IP, IR, IU, mO, mP, mRo, mU, mrf, mWM, mWP, mWR, mTr, mKe, mCo, mTh, mBe, mLe, mAP, mAR, mAU, mSz, mIt, mIP, mIR, mIU, vP, vR, vU, vF, vH, vL, vS, vI, vG⟩ := id H
  have mO : rd h 98 = some (.inr (9, [.int (nI σ.1.1), .int (nI σ.1.2.1), .ref 99, .ref 100, .ref 101, .int (nI σ.1.2.2.2.1), .ref 102, .int (nI ((σ.2.2.2.1).length)), .ref 103, .ref 104, .ref 105, .int fo, .int as_, .int sm, .int sk, .ref 106, .ref 107, .ref 108, .int z, .ref 109, .ref 110, .ref 111, .int (nI σ.2.1.1), .ref 112, .ref 113, .ref 114, .ref 115, .ref 116, .int (nI (bI σ.2.2.2.2.1.isSome)), .int iN, .int iM, .int iT, .ref 117, .ref 118, .ref 119])) := mO
  obtain ⟨mP, lP⟩ := mP
  obtain ⟨mRo, lRo⟩ := mRo
  obtain ⟨mU, lU⟩ := mU
  obtain ⟨mrf, lrf⟩ := mrf
  obtain ⟨mWM, lWM⟩ := mWM
  obtain ⟨mWP, lWP⟩ := mWP
  obtain ⟨mWR, lWR⟩ := mWR
  obtain ⟨mTr, lTr⟩ := mTr
  obtain ⟨mKe, lKe⟩ := mKe
  obtain ⟨mCo, lCo⟩ := mCo
  obtain ⟨mTh, lTh⟩ := mTh
  obtain ⟨mBe, lBe⟩ := mBe
  obtain ⟨mLe, lLe⟩ := mLe
  obtain ⟨mAP, lAP⟩ := mAP
  obtain ⟨mAR, lAR⟩ := mAR
  obtain ⟨mAU, lAU⟩ := mAU
  obtain ⟨mSz, lSz⟩ := mSz
  obtain ⟨mIt, lIt⟩ := mIt
  obtain ⟨mIP, lIP⟩ := mIP
  obtain ⟨mIR, lIR⟩ := mIR
  obtain ⟨mIU, lIU⟩ := mIU
  obtain ⟨okc, ⟨okl, okw⟩, okn, ⟨okh, oke⟩, oki, okr⟩ := id ok
  obtain ⟨k1, k2, k3, k4, k5, k6, k7, k8, k9⟩ := id okc
  rw [show oIs σ (nI 1) = (nI (bI (isSt σ.1.1 σ.1.2.1 (qF σ.1.2.2.1) (qS σ.1.2.2.1))), σ) from by unfold oIs; rw [if_neg (by decide), cl_ (by decide)]; unfold isB; rw [if_neg (by decide), if_pos rfl]]
  refine Ev.of pX9_is (Nat.le_of_ble_eq_true rfl) ?_
  show G mX9_is (rmD 5 0 0) none _ 0 0 0 [(0, .ref 98), (1, .int (nI 1))] [] h
  refine g_iload_n dX9_is_0 1 rfl ?_
  refine g_tableIn 53 dX9_is_1 (by decide +kernel) (by decide +kernel) (off := 52) (by decide +kernel) (by decide) ?_
  refine g_aload_n dX9_is_53 0 rfl ?_
  refine g_callVp dX9_is_54 (ev_isOne H ok) oX9_isOne wiX9_isOne weX9_isOne wmX9_145 kX9 (mO) rfl ⟨(Nat.le_of_ble_eq_true rfl), (Nat.le_of_ble_eq_true rfl)⟩ ⟨Nat.zero_le _, Nat.zero_le _⟩ (Nat.le_of_ble_eq_true rfl) rfl ?_
  refine g_if_eqB 64 dX9_is_57 (by decide) (fun c57 => ?_) (fun c57 => ?_)
  · refine g_iconst (v := nI 0) dX9_is_64 (by decide +kernel) ?_
    exact g_iret dX9_is_65 rfl ⟨Nat.zero_le _, Nat.zero_le _⟩ (⟨by rw [c57] <;> rfl, ⟨_, _, _, _, _, _, _, _, _, _, _, _, _, _, _, _, _, _, _, _, _, _, _, _, _, _, _, _, _, mO, ⟨mP, lP⟩, ⟨mRo, lRo⟩, ⟨mU, lU⟩, ⟨mrf, lrf⟩, ⟨mWM, lWM⟩, ⟨mWP, lWP⟩, ⟨mWR, lWR⟩, ⟨mTr, lTr⟩, ⟨mKe, lKe⟩, ⟨mCo, lCo⟩, ⟨mTh, lTh⟩, ⟨mBe, lBe⟩, ⟨mLe, lLe⟩, ⟨mAP, lAP⟩, ⟨mAR, lAR⟩, ⟨mAU, lAU⟩, ⟨mSz, lSz⟩, ⟨mIt, lIt⟩, ⟨mIP, lIP⟩, ⟨mIR, lIR⟩, ⟨mIU, lIU⟩, vP, vR, vU, vF, vH, vL, vS, vI, vG⟩, Smo.rf⟩)
  · refine g_iconst (v := nI 1) dX9_is_60 (by decide +kernel) ?_
    refine g_goto 65 dX9_is_61 (by decide) ?_
    exact g_iret dX9_is_65 rfl ⟨Nat.zero_le _, Nat.zero_le _⟩ (⟨by rw [c57] <;> rfl, ⟨_, _, _, _, _, _, _, _, _, _, _, _, _, _, _, _, _, _, _, _, _, _, _, _, _, _, _, _, _, mO, ⟨mP, lP⟩, ⟨mRo, lRo⟩, ⟨mU, lU⟩, ⟨mrf, lrf⟩, ⟨mWM, lWM⟩, ⟨mWP, lWP⟩, ⟨mWR, lWR⟩, ⟨mTr, lTr⟩, ⟨mKe, lKe⟩, ⟨mCo, lCo⟩, ⟨mTh, lTh⟩, ⟨mBe, lBe⟩, ⟨mLe, lLe⟩, ⟨mAP, lAP⟩, ⟨mAR, lAR⟩, ⟨mAU, lAU⟩, ⟨mSz, lSz⟩, ⟨mIt, lIt⟩, ⟨mIP, lIP⟩, ⟨mIR, lIR⟩, ⟨mIU, lIU⟩, vP, vR, vU, vF, vH, vL, vS, vI, vG⟩, Smo.rf⟩)

set_option maxRecDepth 100000 in
set_option maxHeartbeats 4000000 in
theorem ev_y_is_2 {h : List aC} {σ : Sg} (H : RM h σ) (ok : okSg σ) : Ev mX9_is 5 0 0 [.ref 98, .int (nI 2)] h (spM h (oIs σ (nI 2))) := by
  obtain ⟨fo, as_, sm, sk, z, iN, iM, iT, P, Ro, U, rf, WM, WP, WR, Tr, Ke, Co, Th, Be, Le, AP, AR, AU, Sz, It, IP, IR, IU, mO, mP, mRo, mU, mrf, mWM, mWP, mWR, mTr, mKe, mCo, mTh, mBe, mLe, mAP, mAR, mAU, mSz, mIt, mIP, mIR, mIU, vP, vR, vU, vF, vH, vL, vS, vI, vG⟩ := id H
  have mO : rd h 98 = some (.inr (9, [.int (nI σ.1.1), .int (nI σ.1.2.1), .ref 99, .ref 100, .ref 101, .int (nI σ.1.2.2.2.1), .ref 102, .int (nI ((σ.2.2.2.1).length)), .ref 103, .ref 104, .ref 105, .int fo, .int as_, .int sm, .int sk, .ref 106, .ref 107, .ref 108, .int z, .ref 109, .ref 110, .ref 111, .int (nI σ.2.1.1), .ref 112, .ref 113, .ref 114, .ref 115, .ref 116, .int (nI (bI σ.2.2.2.2.1.isSome)), .int iN, .int iM, .int iT, .ref 117, .ref 118, .ref 119])) := mO
  obtain ⟨mP, lP⟩ := mP
  obtain ⟨mRo, lRo⟩ := mRo
  obtain ⟨mU, lU⟩ := mU
  obtain ⟨mrf, lrf⟩ := mrf
  obtain ⟨mWM, lWM⟩ := mWM
  obtain ⟨mWP, lWP⟩ := mWP
  obtain ⟨mWR, lWR⟩ := mWR
  obtain ⟨mTr, lTr⟩ := mTr
  obtain ⟨mKe, lKe⟩ := mKe
  obtain ⟨mCo, lCo⟩ := mCo
  obtain ⟨mTh, lTh⟩ := mTh
  obtain ⟨mBe, lBe⟩ := mBe
  obtain ⟨mLe, lLe⟩ := mLe
  obtain ⟨mAP, lAP⟩ := mAP
  obtain ⟨mAR, lAR⟩ := mAR
  obtain ⟨mAU, lAU⟩ := mAU
  obtain ⟨mSz, lSz⟩ := mSz
  obtain ⟨mIt, lIt⟩ := mIt
  obtain ⟨mIP, lIP⟩ := mIP
  obtain ⟨mIR, lIR⟩ := mIR
  obtain ⟨mIU, lIU⟩ := mIU
  obtain ⟨okc, ⟨okl, okw⟩, okn, ⟨okh, oke⟩, oki, okr⟩ := id ok
  obtain ⟨k1, k2, k3, k4, k5, k6, k7, k8, k9⟩ := id okc
  rw [show oIs σ (nI 2) = (nI (bI ((isSt σ.1.1 σ.1.2.1 (qF σ.1.2.2.1) (qS σ.1.2.2.1) && stS σ.1.1 σ.1.2.1 (qF σ.1.2.2.1) (qS σ.1.2.2.1)))), σ) from by unfold oIs; rw [if_neg (by decide), cl_ (by decide)]; unfold isB; rw [if_neg (by decide), if_neg (by decide), if_pos rfl]]
  refine Ev.of pX9_is (Nat.le_of_ble_eq_true rfl) ?_
  show G mX9_is (rmD 5 0 0) none _ 0 0 0 [(0, .ref 98), (1, .int (nI 2))] [] h
  refine g_iload_n dX9_is_0 1 rfl ?_
  refine g_tableIn 66 dX9_is_1 (by decide +kernel) (by decide +kernel) (off := 65) (by decide +kernel) (by decide) ?_
  refine g_aload_n dX9_is_66 0 rfl ?_
  refine g_callVp dX9_is_67 (ev_isOne H ok) oX9_isOne wiX9_isOne weX9_isOne wmX9_145 kX9 (mO) rfl ⟨(Nat.le_of_ble_eq_true rfl), (Nat.le_of_ble_eq_true rfl)⟩ ⟨Nat.zero_le _, Nat.zero_le _⟩ (Nat.le_of_ble_eq_true rfl) rfl ?_
  refine g_if_eqB 90 dX9_is_70 (by decide) (fun c70 => ?_) (fun c70 => ?_)
  · refine g_iconst (v := nI 0) dX9_is_90 (by decide +kernel) ?_
    exact g_iret dX9_is_91 rfl ⟨Nat.zero_le _, Nat.zero_le _⟩ (⟨by rw [c70, Bool.false_and] <;> rfl, ⟨_, _, _, _, _, _, _, _, _, _, _, _, _, _, _, _, _, _, _, _, _, _, _, _, _, _, _, _, _, mO, ⟨mP, lP⟩, ⟨mRo, lRo⟩, ⟨mU, lU⟩, ⟨mrf, lrf⟩, ⟨mWM, lWM⟩, ⟨mWP, lWP⟩, ⟨mWR, lWR⟩, ⟨mTr, lTr⟩, ⟨mKe, lKe⟩, ⟨mCo, lCo⟩, ⟨mTh, lTh⟩, ⟨mBe, lBe⟩, ⟨mLe, lLe⟩, ⟨mAP, lAP⟩, ⟨mAR, lAR⟩, ⟨mAU, lAU⟩, ⟨mSz, lSz⟩, ⟨mIt, lIt⟩, ⟨mIP, lIP⟩, ⟨mIR, lIR⟩, ⟨mIU, lIU⟩, vP, vR, vU, vF, vH, vL, vS, vI, vG⟩, Smo.rf⟩)
  · refine g_aload_n dX9_is_73 0 rfl ?_
    refine g_aload_n dX9_is_74 0 rfl ?_
    refine g_getf dX9_is_75 kX9 wfX9_13 (Nat.le_of_ble_eq_true rfl) (mO) rfl ?_
    refine g_iconst (v := nI 3) dX9_is_78 (by decide +kernel) ?_
    refine g_iconst (v := nI 0) dX9_is_79 (by decide +kernel) ?_
    have eh : σ.1.2.1 = (σ.1.1 - 1) / 2 := (of_decide_eq_true c70).1
    refine g_callVp dX9_is_80 (ev_unlike (show MO h _ _ _ _ _ _ _ _ _ _ _ _ _ _ from mO) k1 k2 (s := 3) mP (by omega) (by omega) (fun k hk => by omega) (F := qF σ.1.2.2.1) (S := qS σ.1.2.2.1) (fun k hk => ⟨(pq_ (n := σ.1.1) vP (by omega) (by omega)).1, (pq_ (n := σ.1.1) vP (by omega) (by omega)).2.1, (bnd_q (by omega) k5 k (by omega)).1, (bnd_q (by omega) k5 k (by omega)).2.1⟩) (wk := false)) oX9_areUnlike wiX9_areUnlike weX9_areUnlike wmX9_154 kX9 (mO) rfl ⟨(Nat.le_of_ble_eq_true rfl), (Nat.le_of_ble_eq_true rfl)⟩ ⟨Nat.zero_le _, Nat.zero_le _⟩ (Nat.le_of_ble_eq_true rfl) rfl ?_
    refine g_top (show nI (bI (unM σ.1.1 false (qF σ.1.2.2.1) (qS σ.1.2.2.1) ((σ.1.1 - 1) / 2))) = nI (bI (stS σ.1.1 σ.1.2.1 (qF σ.1.2.2.1) (qS σ.1.2.2.1))) from congrArg (fun z => nI (bI z)) (by rw [← eh]; exact un_st (by omega) k2)) ?_
    refine g_if_eqB 90 dX9_is_83 (by decide) (fun c83 => ?_) (fun c83 => ?_)
    · refine g_iconst (v := nI 0) dX9_is_90 (by decide +kernel) ?_
      exact g_iret dX9_is_91 rfl ⟨Nat.zero_le _, Nat.zero_le _⟩ (⟨by rw [c70, c83, Bool.and_false] <;> rfl, ⟨_, _, _, _, _, _, _, _, _, _, _, _, _, _, _, _, _, _, _, _, _, _, _, _, _, _, _, _, _, mO, ⟨mP, lP⟩, ⟨mRo, lRo⟩, ⟨mU, lU⟩, ⟨mrf, lrf⟩, ⟨mWM, lWM⟩, ⟨mWP, lWP⟩, ⟨mWR, lWR⟩, ⟨mTr, lTr⟩, ⟨mKe, lKe⟩, ⟨mCo, lCo⟩, ⟨mTh, lTh⟩, ⟨mBe, lBe⟩, ⟨mLe, lLe⟩, ⟨mAP, lAP⟩, ⟨mAR, lAR⟩, ⟨mAU, lAU⟩, ⟨mSz, lSz⟩, ⟨mIt, lIt⟩, ⟨mIP, lIP⟩, ⟨mIR, lIR⟩, ⟨mIU, lIU⟩, vP, vR, vU, vF, vH, vL, vS, vI, vG⟩, Smo.rf⟩)
    · refine g_iconst (v := nI 1) dX9_is_86 (by decide +kernel) ?_
      refine g_goto 91 dX9_is_87 (by decide) ?_
      exact g_iret dX9_is_91 rfl ⟨Nat.zero_le _, Nat.zero_le _⟩ (⟨by rw [c70, c83] <;> rfl, ⟨_, _, _, _, _, _, _, _, _, _, _, _, _, _, _, _, _, _, _, _, _, _, _, _, _, _, _, _, _, mO, ⟨mP, lP⟩, ⟨mRo, lRo⟩, ⟨mU, lU⟩, ⟨mrf, lrf⟩, ⟨mWM, lWM⟩, ⟨mWP, lWP⟩, ⟨mWR, lWR⟩, ⟨mTr, lTr⟩, ⟨mKe, lKe⟩, ⟨mCo, lCo⟩, ⟨mTh, lTh⟩, ⟨mBe, lBe⟩, ⟨mLe, lLe⟩, ⟨mAP, lAP⟩, ⟨mAR, lAR⟩, ⟨mAU, lAU⟩, ⟨mSz, lSz⟩, ⟨mIt, lIt⟩, ⟨mIP, lIP⟩, ⟨mIR, lIR⟩, ⟨mIU, lIU⟩, vP, vR, vU, vF, vH, vL, vS, vI, vG⟩, Smo.rf⟩)

set_option maxRecDepth 100000 in
set_option maxHeartbeats 4000000 in
theorem ev_y_is_3 {h : List aC} {σ : Sg} (H : RM h σ) (ok : okSg σ) : Ev mX9_is 5 0 0 [.ref 98, .int (nI 3)] h (spM h (oIs σ (nI 3))) := by
  obtain ⟨fo, as_, sm, sk, z, iN, iM, iT, P, Ro, U, rf, WM, WP, WR, Tr, Ke, Co, Th, Be, Le, AP, AR, AU, Sz, It, IP, IR, IU, mO, mP, mRo, mU, mrf, mWM, mWP, mWR, mTr, mKe, mCo, mTh, mBe, mLe, mAP, mAR, mAU, mSz, mIt, mIP, mIR, mIU, vP, vR, vU, vF, vH, vL, vS, vI, vG⟩ := id H
  have mO : rd h 98 = some (.inr (9, [.int (nI σ.1.1), .int (nI σ.1.2.1), .ref 99, .ref 100, .ref 101, .int (nI σ.1.2.2.2.1), .ref 102, .int (nI ((σ.2.2.2.1).length)), .ref 103, .ref 104, .ref 105, .int fo, .int as_, .int sm, .int sk, .ref 106, .ref 107, .ref 108, .int z, .ref 109, .ref 110, .ref 111, .int (nI σ.2.1.1), .ref 112, .ref 113, .ref 114, .ref 115, .ref 116, .int (nI (bI σ.2.2.2.2.1.isSome)), .int iN, .int iM, .int iT, .ref 117, .ref 118, .ref 119])) := mO
  obtain ⟨mP, lP⟩ := mP
  obtain ⟨mRo, lRo⟩ := mRo
  obtain ⟨mU, lU⟩ := mU
  obtain ⟨mrf, lrf⟩ := mrf
  obtain ⟨mWM, lWM⟩ := mWM
  obtain ⟨mWP, lWP⟩ := mWP
  obtain ⟨mWR, lWR⟩ := mWR
  obtain ⟨mTr, lTr⟩ := mTr
  obtain ⟨mKe, lKe⟩ := mKe
  obtain ⟨mCo, lCo⟩ := mCo
  obtain ⟨mTh, lTh⟩ := mTh
  obtain ⟨mBe, lBe⟩ := mBe
  obtain ⟨mLe, lLe⟩ := mLe
  obtain ⟨mAP, lAP⟩ := mAP
  obtain ⟨mAR, lAR⟩ := mAR
  obtain ⟨mAU, lAU⟩ := mAU
  obtain ⟨mSz, lSz⟩ := mSz
  obtain ⟨mIt, lIt⟩ := mIt
  obtain ⟨mIP, lIP⟩ := mIP
  obtain ⟨mIR, lIR⟩ := mIR
  obtain ⟨mIU, lIU⟩ := mIU
  obtain ⟨okc, ⟨okl, okw⟩, okn, ⟨okh, oke⟩, oki, okr⟩ := id ok
  obtain ⟨k1, k2, k3, k4, k5, k6, k7, k8, k9⟩ := id okc
  rw [show oIs σ (nI 3) = (nI (bI ((isSt σ.1.1 σ.1.2.1 (qF σ.1.2.2.1) (qS σ.1.2.2.1) && (stS σ.1.1 σ.1.2.1 (qF σ.1.2.2.1) (qS σ.1.2.2.1) && skS σ.1.1 σ.1.2.1 (qF σ.1.2.2.1) (qS σ.1.2.2.1))))), σ) from by unfold oIs; rw [if_neg (by decide), cl_ (by decide)]; unfold isB; rw [if_neg (by decide), if_neg (by decide), if_neg (by decide), if_pos rfl]]
  refine Ev.of pX9_is (Nat.le_of_ble_eq_true rfl) ?_
  show G mX9_is (rmD 5 0 0) none _ 0 0 0 [(0, .ref 98), (1, .int (nI 3))] [] h
  refine g_iload_n dX9_is_0 1 rfl ?_
  refine g_tableIn 92 dX9_is_1 (by decide +kernel) (by decide +kernel) (off := 91) (by decide +kernel) (by decide) ?_
  refine g_aload_n dX9_is_92 0 rfl ?_
  refine g_callVp dX9_is_93 (ev_isOne H ok) oX9_isOne wiX9_isOne weX9_isOne wmX9_145 kX9 (mO) rfl ⟨(Nat.le_of_ble_eq_true rfl), (Nat.le_of_ble_eq_true rfl)⟩ ⟨Nat.zero_le _, Nat.zero_le _⟩ (Nat.le_of_ble_eq_true rfl) rfl ?_
  refine g_if_eqB 116 dX9_is_96 (by decide) (fun c96 => ?_) (fun c96 => ?_)
  · refine g_iconst (v := nI 0) dX9_is_116 (by decide +kernel) ?_
    exact g_iret dX9_is_117 rfl ⟨Nat.zero_le _, Nat.zero_le _⟩ (⟨by rw [c96, Bool.false_and] <;> rfl, ⟨_, _, _, _, _, _, _, _, _, _, _, _, _, _, _, _, _, _, _, _, _, _, _, _, _, _, _, _, _, mO, ⟨mP, lP⟩, ⟨mRo, lRo⟩, ⟨mU, lU⟩, ⟨mrf, lrf⟩, ⟨mWM, lWM⟩, ⟨mWP, lWP⟩, ⟨mWR, lWR⟩, ⟨mTr, lTr⟩, ⟨mKe, lKe⟩, ⟨mCo, lCo⟩, ⟨mTh, lTh⟩, ⟨mBe, lBe⟩, ⟨mLe, lLe⟩, ⟨mAP, lAP⟩, ⟨mAR, lAR⟩, ⟨mAU, lAU⟩, ⟨mSz, lSz⟩, ⟨mIt, lIt⟩, ⟨mIP, lIP⟩, ⟨mIR, lIR⟩, ⟨mIU, lIU⟩, vP, vR, vU, vF, vH, vL, vS, vI, vG⟩, Smo.rf⟩)
  · refine g_aload_n dX9_is_99 0 rfl ?_
    refine g_aload_n dX9_is_100 0 rfl ?_
    refine g_getf dX9_is_101 kX9 wfX9_13 (Nat.le_of_ble_eq_true rfl) (mO) rfl ?_
    refine g_iconst (v := nI 3) dX9_is_104 (by decide +kernel) ?_
    refine g_iconst (v := nI 1) dX9_is_105 (by decide +kernel) ?_
    have eh : σ.1.2.1 = (σ.1.1 - 1) / 2 := (of_decide_eq_true c96).1
    refine g_callVp dX9_is_106 (ev_unlike (show MO h _ _ _ _ _ _ _ _ _ _ _ _ _ _ from mO) k1 k2 (s := 3) mP (by omega) (by omega) (fun k hk => by omega) (F := qF σ.1.2.2.1) (S := qS σ.1.2.2.1) (fun k hk => ⟨(pq_ (n := σ.1.1) vP (by omega) (by omega)).1, (pq_ (n := σ.1.1) vP (by omega) (by omega)).2.1, (bnd_q (by omega) k5 k (by omega)).1, (bnd_q (by omega) k5 k (by omega)).2.1⟩) (wk := true)) oX9_areUnlike wiX9_areUnlike weX9_areUnlike wmX9_154 kX9 (mO) rfl ⟨(Nat.le_of_ble_eq_true rfl), (Nat.le_of_ble_eq_true rfl)⟩ ⟨Nat.zero_le _, Nat.zero_le _⟩ (Nat.le_of_ble_eq_true rfl) rfl ?_
    refine g_top (show nI (bI (unM σ.1.1 true (qF σ.1.2.2.1) (qS σ.1.2.2.1) ((σ.1.1 - 1) / 2))) = nI (bI ((stS σ.1.1 σ.1.2.1 (qF σ.1.2.2.1) (qS σ.1.2.2.1) && skS σ.1.1 σ.1.2.1 (qF σ.1.2.2.1) (qS σ.1.2.2.1)))) from congrArg (fun z => nI (bI z)) (by rw [← eh]; exact un_sk (by omega) k2 k3)) ?_
    refine g_if_eqB 116 dX9_is_109 (by decide) (fun c109 => ?_) (fun c109 => ?_)
    · refine g_iconst (v := nI 0) dX9_is_116 (by decide +kernel) ?_
      exact g_iret dX9_is_117 rfl ⟨Nat.zero_le _, Nat.zero_le _⟩ (⟨by rw [c96, c109, Bool.and_false] <;> rfl, ⟨_, _, _, _, _, _, _, _, _, _, _, _, _, _, _, _, _, _, _, _, _, _, _, _, _, _, _, _, _, mO, ⟨mP, lP⟩, ⟨mRo, lRo⟩, ⟨mU, lU⟩, ⟨mrf, lrf⟩, ⟨mWM, lWM⟩, ⟨mWP, lWP⟩, ⟨mWR, lWR⟩, ⟨mTr, lTr⟩, ⟨mKe, lKe⟩, ⟨mCo, lCo⟩, ⟨mTh, lTh⟩, ⟨mBe, lBe⟩, ⟨mLe, lLe⟩, ⟨mAP, lAP⟩, ⟨mAR, lAR⟩, ⟨mAU, lAU⟩, ⟨mSz, lSz⟩, ⟨mIt, lIt⟩, ⟨mIP, lIP⟩, ⟨mIR, lIR⟩, ⟨mIU, lIU⟩, vP, vR, vU, vF, vH, vL, vS, vI, vG⟩, Smo.rf⟩)
    · refine g_iconst (v := nI 1) dX9_is_112 (by decide +kernel) ?_
      refine g_goto 117 dX9_is_113 (by decide) ?_
      exact g_iret dX9_is_117 rfl ⟨Nat.zero_le _, Nat.zero_le _⟩ (⟨by rw [c96, c109] <;> rfl, ⟨_, _, _, _, _, _, _, _, _, _, _, _, _, _, _, _, _, _, _, _, _, _, _, _, _, _, _, _, _, mO, ⟨mP, lP⟩, ⟨mRo, lRo⟩, ⟨mU, lU⟩, ⟨mrf, lrf⟩, ⟨mWM, lWM⟩, ⟨mWP, lWP⟩, ⟨mWR, lWR⟩, ⟨mTr, lTr⟩, ⟨mKe, lKe⟩, ⟨mCo, lCo⟩, ⟨mTh, lTh⟩, ⟨mBe, lBe⟩, ⟨mLe, lLe⟩, ⟨mAP, lAP⟩, ⟨mAR, lAR⟩, ⟨mAU, lAU⟩, ⟨mSz, lSz⟩, ⟨mIt, lIt⟩, ⟨mIP, lIP⟩, ⟨mIR, lIR⟩, ⟨mIU, lIU⟩, vP, vR, vU, vF, vH, vL, vS, vI, vG⟩, Smo.rf⟩)

set_option maxRecDepth 100000 in
set_option maxHeartbeats 4000000 in
theorem ev_y_is_4 {h : List aC} {σ : Sg} (H : RM h σ) (ok : okSg σ) : Ev mX9_is 5 0 0 [.ref 98, .int (nI 4)] h (spM h (oIs σ (nI 4))) := by
  obtain ⟨fo, as_, sm, sk, z, iN, iM, iT, P, Ro, U, rf, WM, WP, WR, Tr, Ke, Co, Th, Be, Le, AP, AR, AU, Sz, It, IP, IR, IU, mO, mP, mRo, mU, mrf, mWM, mWP, mWR, mTr, mKe, mCo, mTh, mBe, mLe, mAP, mAR, mAU, mSz, mIt, mIP, mIR, mIU, vP, vR, vU, vF, vH, vL, vS, vI, vG⟩ := id H
  have mO : rd h 98 = some (.inr (9, [.int (nI σ.1.1), .int (nI σ.1.2.1), .ref 99, .ref 100, .ref 101, .int (nI σ.1.2.2.2.1), .ref 102, .int (nI ((σ.2.2.2.1).length)), .ref 103, .ref 104, .ref 105, .int fo, .int as_, .int sm, .int sk, .ref 106, .ref 107, .ref 108, .int z, .ref 109, .ref 110, .ref 111, .int (nI σ.2.1.1), .ref 112, .ref 113, .ref 114, .ref 115, .ref 116, .int (nI (bI σ.2.2.2.2.1.isSome)), .int iN, .int iM, .int iT, .ref 117, .ref 118, .ref 119])) := mO
  obtain ⟨mP, lP⟩ := mP
  obtain ⟨mRo, lRo⟩ := mRo
  obtain ⟨mU, lU⟩ := mU
  obtain ⟨mrf, lrf⟩ := mrf
  obtain ⟨mWM, lWM⟩ := mWM
  obtain ⟨mWP, lWP⟩ := mWP
  obtain ⟨mWR, lWR⟩ := mWR
  obtain ⟨mTr, lTr⟩ := mTr
  obtain ⟨mKe, lKe⟩ := mKe
  obtain ⟨mCo, lCo⟩ := mCo
  obtain ⟨mTh, lTh⟩ := mTh
  obtain ⟨mBe, lBe⟩ := mBe
  obtain ⟨mLe, lLe⟩ := mLe
  obtain ⟨mAP, lAP⟩ := mAP
  obtain ⟨mAR, lAR⟩ := mAR
  obtain ⟨mAU, lAU⟩ := mAU
  obtain ⟨mSz, lSz⟩ := mSz
  obtain ⟨mIt, lIt⟩ := mIt
  obtain ⟨mIP, lIP⟩ := mIP
  obtain ⟨mIR, lIR⟩ := mIR
  obtain ⟨mIU, lIU⟩ := mIU
  obtain ⟨okc, ⟨okl, okw⟩, okn, ⟨okh, oke⟩, oki, okr⟩ := id ok
  obtain ⟨k1, k2, k3, k4, k5, k6, k7, k8, k9⟩ := id okc
  rw [show oIs σ (nI 4) = (nI (bI (adS σ.1.1 σ.1.2.1 (qF σ.1.2.2.1) (qS σ.1.2.2.1) (qA σ.1.2.2.1))), σ) from by unfold oIs; rw [if_neg (by decide), cl_ (by decide)]; unfold isB; rw [if_neg (by decide), if_neg (by decide), if_neg (by decide), if_neg (by decide)]]
  refine Ev.of pX9_is (Nat.le_of_ble_eq_true rfl) ?_
  show G mX9_is (rmD 5 0 0) none _ 0 0 0 [(0, .ref 98), (1, .int (nI 4))] [] h
  refine g_iload_n dX9_is_0 1 rfl ?_
  refine g_tableIn 118 dX9_is_1 (by decide +kernel) (by decide +kernel) (off := 117) (by decide +kernel) (by decide) ?_
  refine g_aload_n dX9_is_118 0 rfl ?_
  refine g_callVp dX9_is_119 (ev_isAdded H ok) oX9_isAdded wiX9_isAdded weX9_isAdded wmX9_158 kX9 (mO) rfl ⟨(Nat.le_of_ble_eq_true rfl), (Nat.le_of_ble_eq_true rfl)⟩ ⟨Nat.zero_le _, Nat.zero_le _⟩ (Nat.le_of_ble_eq_true rfl) rfl ?_
  refine g_if_eqB 129 dX9_is_122 (by decide) (fun c122 => ?_) (fun c122 => ?_)
  · refine g_iconst (v := nI 0) dX9_is_129 (by decide +kernel) ?_
    exact g_iret dX9_is_130 rfl ⟨Nat.zero_le _, Nat.zero_le _⟩ (⟨by rw [c122] <;> rfl, ⟨_, _, _, _, _, _, _, _, _, _, _, _, _, _, _, _, _, _, _, _, _, _, _, _, _, _, _, _, _, mO, ⟨mP, lP⟩, ⟨mRo, lRo⟩, ⟨mU, lU⟩, ⟨mrf, lrf⟩, ⟨mWM, lWM⟩, ⟨mWP, lWP⟩, ⟨mWR, lWR⟩, ⟨mTr, lTr⟩, ⟨mKe, lKe⟩, ⟨mCo, lCo⟩, ⟨mTh, lTh⟩, ⟨mBe, lBe⟩, ⟨mLe, lLe⟩, ⟨mAP, lAP⟩, ⟨mAR, lAR⟩, ⟨mAU, lAU⟩, ⟨mSz, lSz⟩, ⟨mIt, lIt⟩, ⟨mIP, lIP⟩, ⟨mIR, lIR⟩, ⟨mIU, lIU⟩, vP, vR, vU, vF, vH, vL, vS, vI, vG⟩, Smo.rf⟩)
  · refine g_iconst (v := nI 1) dX9_is_125 (by decide +kernel) ?_
    refine g_goto 130 dX9_is_126 (by decide) ?_
    exact g_iret dX9_is_130 rfl ⟨Nat.zero_le _, Nat.zero_le _⟩ (⟨by rw [c122] <;> rfl, ⟨_, _, _, _, _, _, _, _, _, _, _, _, _, _, _, _, _, _, _, _, _, _, _, _, _, _, _, _, _, mO, ⟨mP, lP⟩, ⟨mRo, lRo⟩, ⟨mU, lU⟩, ⟨mrf, lrf⟩, ⟨mWM, lWM⟩, ⟨mWP, lWP⟩, ⟨mWR, lWR⟩, ⟨mTr, lTr⟩, ⟨mKe, lKe⟩, ⟨mCo, lCo⟩, ⟨mTh, lTh⟩, ⟨mBe, lBe⟩, ⟨mLe, lLe⟩, ⟨mAP, lAP⟩, ⟨mAR, lAR⟩, ⟨mAU, lAU⟩, ⟨mSz, lSz⟩, ⟨mIt, lIt⟩, ⟨mIP, lIP⟩, ⟨mIR, lIR⟩, ⟨mIU, lIU⟩, vP, vR, vU, vF, vH, vL, vS, vI, vG⟩, Smo.rf⟩)

set_option maxRecDepth 100000 in
set_option maxHeartbeats 4000000 in
theorem ev_y_is_o {h : List aC} {σ : Sg} (H : RM h σ) (ok : okSg σ) (x : Int32) (h2 : x.toInt < 0 ∨ 4 < x.toInt) : Ev mX9_is 5 0 0 [.ref 98, .int x] h (spM h (oIs σ x)) := by
  obtain ⟨fo, as_, sm, sk, z, iN, iM, iT, P, Ro, U, rf, WM, WP, WR, Tr, Ke, Co, Th, Be, Le, AP, AR, AU, Sz, It, IP, IR, IU, mO, mP, mRo, mU, mrf, mWM, mWP, mWR, mTr, mKe, mCo, mTh, mBe, mLe, mAP, mAR, mAU, mSz, mIt, mIP, mIR, mIU, vP, vR, vU, vF, vH, vL, vS, vI, vG⟩ := id H
  have mO : rd h 98 = some (.inr (9, [.int (nI σ.1.1), .int (nI σ.1.2.1), .ref 99, .ref 100, .ref 101, .int (nI σ.1.2.2.2.1), .ref 102, .int (nI ((σ.2.2.2.1).length)), .ref 103, .ref 104, .ref 105, .int fo, .int as_, .int sm, .int sk, .ref 106, .ref 107, .ref 108, .int z, .ref 109, .ref 110, .ref 111, .int (nI σ.2.1.1), .ref 112, .ref 113, .ref 114, .ref 115, .ref 116, .int (nI (bI σ.2.2.2.2.1.isSome)), .int iN, .int iM, .int iT, .ref 117, .ref 118, .ref 119])) := mO
  obtain ⟨mP, lP⟩ := mP
  obtain ⟨mRo, lRo⟩ := mRo
  obtain ⟨mU, lU⟩ := mU
  obtain ⟨mrf, lrf⟩ := mrf
  obtain ⟨mWM, lWM⟩ := mWM
  obtain ⟨mWP, lWP⟩ := mWP
  obtain ⟨mWR, lWR⟩ := mWR
  obtain ⟨mTr, lTr⟩ := mTr
  obtain ⟨mKe, lKe⟩ := mKe
  obtain ⟨mCo, lCo⟩ := mCo
  obtain ⟨mTh, lTh⟩ := mTh
  obtain ⟨mBe, lBe⟩ := mBe
  obtain ⟨mLe, lLe⟩ := mLe
  obtain ⟨mAP, lAP⟩ := mAP
  obtain ⟨mAR, lAR⟩ := mAR
  obtain ⟨mAU, lAU⟩ := mAU
  obtain ⟨mSz, lSz⟩ := mSz
  obtain ⟨mIt, lIt⟩ := mIt
  obtain ⟨mIP, lIP⟩ := mIP
  obtain ⟨mIR, lIR⟩ := mIR
  obtain ⟨mIU, lIU⟩ := mIU
  obtain ⟨okc, ⟨okl, okw⟩, okn, ⟨okh, oke⟩, oki, okr⟩ := id ok
  obtain ⟨k1, k2, k3, k4, k5, k6, k7, k8, k9⟩ := id okc
  refine Ev.of pX9_is (Nat.le_of_ble_eq_true rfl) ?_
  show G mX9_is (rmD 5 0 0) none _ 0 0 0 [(0, .ref 98), (1, .int x)] [] h
  refine g_iload_n dX9_is_0 1 rfl ?_
  refine g_tableOut 131 dX9_is_1 h2 (by decide) ?_
  refine g_aload_n dX9_is_131 0 rfl ?_
  refine g_bipush (v := (-2)) dX9_is_132 (by decide +kernel) ?_
  rw [show oIs σ x = rfS σ (-2) from if_pos (by rcases h2 with z | z; exact Or.inl (Int32.lt_iff_toInt_lt.mpr z); exact Or.inr (fun w => by rw [Int32.le_iff_toInt_le, nI_toInt (by omega)] at w; omega))]
  refine g_callVq (st1 := [.int (-nI 2)]) dX9_is_134 (ev_refused H ok 2 (by unfold noN; omega)) oX9_refused wiX9_refused weX9_refused wmX9_90 kX9 (mO) rfl ⟨(Nat.le_of_ble_eq_true rfl), (Nat.le_of_ble_eq_true rfl)⟩ ⟨Nat.zero_le _, Nat.zero_le _⟩ (Nat.le_of_ble_eq_true rfl) rfl rfl (fun h1 q1 => ?_)
  exact g_iret dX9_is_137 rfl ⟨Nat.zero_le _, Nat.zero_le _⟩ (⟨rfl, q1⟩)

theorem ev_y_is {h : List aC} {σ : Sg} (H : RM h σ) (ok : okSg σ) (x : Int32) : Ev mX9_is 5 0 0 [.ref 98, .int x] h (spM h (oIs σ x)) := by
  by_cases h2 : x.toInt < 0 ∨ 4 < x.toInt
  · exact ev_y_is_o H ok x h2
  · have hx : 0 ≤ x := by rw [Int32.le_iff_toInt_le]; show (0 : Int) ≤ _; omega
    obtain ⟨x1, hx1, rfl⟩ := nn_of hx
    rw [nI_toInt hx1] at h2
    have : x1 = 0 ∨ x1 = 1 ∨ x1 = 2 ∨ x1 = 3 ∨ x1 = 4 := by omega
    rcases this with e | e | e | e | e <;> subst e
    · exact ev_y_is_0 H ok
    · exact ev_y_is_1 H ok
    · exact ev_y_is_2 H ok
    · exact ev_y_is_3 H ok
    · exact ev_y_is_4 H ok
