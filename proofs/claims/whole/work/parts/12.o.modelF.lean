def zeroL (R : List Int32) (u : Nat) : Nat → List Int32
  | 0 => R
  | k + 1 => (zeroL R u k).set (u + k) (nI 0)
theorem zeroL_len (R : List Int32) (u : Nat) : ∀ k, (zeroL R u k).length = R.length
  | 0 => rfl
  | k + 1 => List.length_set.trans (zeroL_len R u k)
theorem zeroL_out {R : List Int32} {u i : Nat} : ∀ k, (i < u ∨ u + k ≤ i) → (zeroL R u k).getD i 0 = R.getD i 0
  | 0, _ => rfl
  | k + 1, h => by
    show ((zeroL R u k).set (u + k) (nI 0)).getD i 0 = _
    rw [getD_set_neI (by omega)]; exact zeroL_out k (by omega)
theorem zeroL_at {R : List Int32} {u i : Nat} : ∀ k, u + k ≤ R.length → u ≤ i → i < u + k → (zeroL R u k).getD i 0 = nI 0
  | 0, _, h, h2 => absurd h2 (by omega)
  | k + 1, l, h, h2 => by
    show ((zeroL R u k).set (u + k) (nI 0)).getD i 0 = _
    by_cases q : u + k = i
    · subst q; rw [getD_set_eqI (by rw [zeroL_len]; omega)]
    · rw [getD_set_neI q]; exact zeroL_at k (by omega) h (by omega)
theorem iR_zero {It : List Int32} {LR : Nat → List Int32} (h : iR It LR) (l : It.length = 120) {y : Nat} (hy : y < 3) : iR (zeroL It (40 * y) 40) (upI LR y (List.replicate 40 0)) := fun a i ha hi => by
  by_cases q : a = y
  · subst q
    rw [upI_eq, zeroL_at 40 (by omega) (by omega) (by omega), List.getD_eq_getElem?_getD, List.getElem?_replicate, if_pos hi]; rfl
  · rw [upI_ne q, zeroL_out 40 (by omega)]; exact h a i ha hi
theorem iR_set {It : List Int32} {LR : Nat → List Int32} (h : iR It LR) (l : It.length = 120) {y j : Nat} (hy : y < 3) (hj : j < 40) (l4 : (LR y).length = 40) (v : Int32) : iR (It.set (40 * y + j) v) (upI LR y ((LR y).set j v)) := fun a i ha hi => by
  by_cases q : a = y
  · subst q
    rw [upI_eq]
    by_cases e : i = j
    · subst e; rw [getD_set_eqI (by omega), getD_set_eqI (by omega)]
    · rw [getD_set_neI (by omega), getD_set_neI (by omega)]; exact h a i ha hi
  · rw [upI_ne q, getD_set_neI (by omega)]; exact h a i ha hi
def layM (R : List Int32) (u : Nat) (P : List Int32) : Nat → List Int32
  | 0 => R
  | k + 1 => (layM R u P k).set (u + k) (P.getD (3 * (k / 2) + k % 2) 0)
theorem layM_len (R : List Int32) (u : Nat) (P : List Int32) : ∀ k, (layM R u P k).length = R.length
  | 0 => rfl
  | k + 1 => List.length_set.trans (layM_len R u P k)
theorem pR_na {P : List Int32} {m : Nat} {f : Nat → Pr} (h : pR P 0 m f) {k : Nat} (hk : k < 2 * m) : P.getD (3 * (k / 2) + k % 2) 0 = nI (nAf f k) := by
  unfold nAf
  by_cases q : k % 2 = 0
  · rw [if_pos q, q, Nat.add_zero]; exact pR0 h (by omega)
  · rw [if_neg q, show k % 2 = 1 by omega]; exact pR1 h (by omega)
theorem iR_lay {It P : List Int32} {LR : Nat → List Int32} {m : Nat} {f : Nat → Pr} (h : iR It LR) (l : It.length = 120) (vP : pR P 0 m f) {y j : Nat} (hy : y < 3) (l4 : (LR y).length = 40) (hj : j + 2 * m ≤ 40) : ∀ k, k ≤ 2 * m → iR (layM It (40 * y + j) P k) (upI LR y (layF (LR y) j f k))
  | 0, _ => by show iR It (upI LR y (LR y)); rw [upI_self]; exact h
  | k + 1, hk => by
    have ih := iR_lay h l vP hy l4 hj k (by omega)
    have z := iR_set ih (by rw [layM_len]; exact l) (y := y) (j := j + k) hy (by omega) (by rw [upI_eq, layF_len]; exact l4) (nI (nAf f k))
    rw [upI_eq, upI_upI] at z
    show iR ((layM It (40 * y + j) P k).set (40 * y + j + k) (P.getD (3 * (k / 2) + k % 2) 0)) (upI LR y ((layF (LR y) j f k).set (j + k) (nI (nAf f k))))
    rw [pR_na vP (by omega), show 40 * y + j + k = 40 * y + (j + k) by omega]
    exact z
theorem isQ_eq {x : Int32} {m : Nat} (hm : m ≤ 40) : decide (nI 0 ≤ x ∧ x ≤ nI m - nI 1) = decide (0 ≤ x ∧ x < nI m) := by
  congr 1
  apply propext
  have e : (nI m - nI 1).toInt = (m : Int) - 1 := by
    have z : ∀ m, m < 41 → (nI m - nI 1).toInt = (m : Int) - 1 := by decide +kernel
    exact z m (by omega)
  rw [Int32.le_iff_toInt_le, Int32.le_iff_toInt_le, Int32.le_iff_toInt_le, Int32.lt_iff_toInt_lt, e, nI_toInt (show m < 2 ^ 31 by omega), nI_toInt (show 0 < 2 ^ 31 by omega)]
  show ((0 : Int) ≤ _ ∧ _) ↔ ((0 : Int) ≤ _ ∧ _)
  omega
theorem sub_lt {m q : Nat} (hm : m ≤ 40) (hq : q ≤ 40) {i : Int32} : nI m - nI q < i ↔ (m : Int) - q < i.toInt := by
  have z : ∀ m, m < 41 → ∀ q, q < 41 → (nI m - nI q).toInt = (m : Int) - q := by decide +kernel
  rw [Int32.lt_iff_toInt_lt, z m (by omega) q (by omega)]
theorem okQ1 {σ : Sg} {y q : Nat} {i : Int32} (hy : y < 2 ^ 31) (hq : q ≤ 40) (e : σ.2.2.1.2.getD y 0 = nI q) : okQ σ (nI y) i 1 = decide (0 ≤ i ∧ i < nI q) := by
  unfold okQ
  rw [nI_clamp hy, e]
  congr 1
  apply propext
  rw [sub_lt hq (by omega), Int32.lt_iff_toInt_lt, Int32.le_iff_toInt_le, Int32.lt_iff_toInt_lt, nI_toInt (show q < 2 ^ 31 by omega)]
  show (1 < 1 ∨ ¬ i.toInt < (0 : Int) ∧ ¬ _) ↔ ((0 : Int) ≤ _ ∧ _)
  omega
theorem okL_t {σ : Sg} {y : Nat} (hy : y < 3) (h : 0 ≤ σ.2.2.1.2.getD y 0) : okL σ (nI y) = true := decide_eq_true ⟨⟨nI_pos' (by omega), (nI_ltI (by omega) (by decide)).mpr hy⟩, by rw [nI_clamp (by omega)]; exact h⟩
theorem okL_f {σ : Sg} {y : Nat} (hy : y < 3) (h : ¬ 0 ≤ σ.2.2.1.2.getD y 0) : okL σ (nI y) = false := decide_eq_false (fun z => h (by have := z.2; rw [nI_clamp (by omega)] at this; exact this))
theorem okL_o {σ : Sg} {l : Int32} (h : ¬ (0 ≤ l ∧ l < 3)) : okL σ l = false := decide_eq_false (fun z => h z.1)
theorem c4_11 : (4000000000000000000 : Int64) - Int32.toInt64 (-11) = 4000000000000000011 := by decide +kernel
theorem c4_13 : (4000000000000000000 : Int64) - Int32.toInt64 (-13) = 4000000000000000013 := by decide +kernel
theorem lnG_self (σ : Sg) (y : Nat) : lnG σ (upI σ.2.2.1.1 y (σ.2.2.1.1 y)) σ.2.2.1.2 = σ := by rw [upI_self]; rfl

set_option maxRecDepth 100000 in
set_option maxHeartbeats 4000000 in
theorem lp_mlist {h0 : List aC} {P : Option Value → List aC → Prop} {n m a de : Nat} {fo as_ sm sk z : Int32} {am : Nat} {ib : Bool} {iN iM iT : Int32} {It : List Int32} (lIt : It.length = 120) {y : Nat} (hy : y < 3) {q : Int32} (K : ∀ h', rd h' 116 = some (.inl (zeroL It (40 * y) 40)) → Smo 116 (116 + 1) h0 h' → G mX9_list (rmD 3 0 0) none P 0 0 66 [(0, .ref 98), (1, .int (nI y)), (2, .int q), (3, .int (nI 40))] [] h') : ∀ j k (h : List aC), k + j = 40 → MO h n m a de fo as_ sm sk z am ib iN iM iT → rd h 116 = some (.inl (zeroL It (40 * y) (k))) → Smo 116 (116 + 1) h0 h → G mX9_list (rmD 3 0 0) none P 0 0 42 [(3, .int (nI k)), (0, .ref 98), (1, .int (nI y)), (2, .int q)] [] h := by
  intro j
  induction j with
  | zero =>
    intro k h hk hO hR hS
    have hO : rd h 98 = some (.inr (9, [.int (nI n), .int (nI m), .ref 99, .ref 100, .ref 101, .int (nI a), .ref 102, .int (nI de), .ref 103, .ref 104, .ref 105, .int fo, .int as_, .int sm, .int sk, .ref 106, .ref 107, .ref 108, .int z, .ref 109, .ref 110, .ref 111, .int (nI am), .ref 112, .ref 113, .ref 114, .ref 115, .ref 116, .int (nI (bI ib)), .int iN, .int iM, .int iT, .ref 117, .ref 118, .ref 119])) := hO
    have lk := (zeroL_len It (40 * y) k).trans lIt
    refine g_iload_n dX9_list_42 0 rfl ?_
    refine g_bipush (v := nI 40) dX9_list_43 (by decide +kernel) ?_
    refine g_icmp_geN 66 dX9_list_45 (by decide) (by omega) (by omega) (fun c45 => ?_) (fun z => absurd z (by omega))
    refine g_lsub_ (ls2 := [(0, .ref 98), (1, .int (nI y)), (2, .int q), (3, .int (nI k))]) [1, 2, 3, 0] rfl ?_
    have ek : k = 40 := by omega
    subst ek
    exact K _ hR hS
  | succ j ih =>
    intro k h hk hO hR hS
    have hO : rd h 98 = some (.inr (9, [.int (nI n), .int (nI m), .ref 99, .ref 100, .ref 101, .int (nI a), .ref 102, .int (nI de), .ref 103, .ref 104, .ref 105, .int fo, .int as_, .int sm, .int sk, .ref 106, .ref 107, .ref 108, .int z, .ref 109, .ref 110, .ref 111, .int (nI am), .ref 112, .ref 113, .ref 114, .ref 115, .ref 116, .int (nI (bI ib)), .int iN, .int iM, .int iT, .ref 117, .ref 118, .ref 119])) := hO
    have lk := (zeroL_len It (40 * y) k).trans lIt
    refine g_iload_n dX9_list_42 0 rfl ?_
    refine g_bipush (v := nI 40) dX9_list_43 (by decide +kernel) ?_
    refine g_icmp_geN 66 dX9_list_45 (by decide) (by omega) (by omega) (fun z => absurd z (by omega)) (fun c45 => ?_)
    refine g_aload_n dX9_list_48 1 rfl ?_
    refine g_getf dX9_list_49 kX9 wfX9_65 (Nat.le_of_ble_eq_true rfl) (hO) rfl ?_
    refine g_bipush (v := nI 40) dX9_list_52 (by decide +kernel) ?_
    refine g_iload_n dX9_list_54 2 rfl ?_
    refine g_imulN dX9_list_55 ?_
    refine g_iload_n dX9_list_56 0 rfl ?_
    refine g_iaddN dX9_list_57 ?_
    refine g_iconst (v := nI 0) dX9_list_58 (by decide +kernel) ?_
    refine g_iasI dX9_list_59 (hR) (by rw [lk]; omega) (by omega) (fun h1 e1 => ?_)
    have f1_116 : rd h1 116 = some (.inl ((zeroL It (40 * y) (k)).set ((40 * y) + k) (nI 0))) := by rw [e1]; exact rd_wr_eq (hR)
    have lf1_116 : ((zeroL It (40 * y) (k)).set ((40 * y) + k) (nI 0)).length = _ := List.length_set.trans lk
    have s1 : Smo 116 (116 + 1) h h1 := by rw [e1]; exact Smo.wr (by omega) (by omega)
    have f1_98 : rd h1 98 = some (.inr (9, [.int (nI n), .int (nI m), .ref 99, .ref 100, .ref 101, .int (nI a), .ref 102, .int (nI de), .ref 103, .ref 104, .ref 105, .int fo, .int as_, .int sm, .int sk, .ref 106, .ref 107, .ref 108, .int z, .ref 109, .ref 110, .ref 111, .int (nI am), .ref 112, .ref 113, .ref 114, .ref 115, .ref 116, .int (nI (bI ib)), .int iN, .int iM, .int iT, .ref 117, .ref 118, .ref 119])) := by rw [s1 _ (by omega)]; exact hO
    refine g_iinc (q := 0) (v := nI (k + 1)) (ls' := [(3, .int (nI (k + 1))), (0, .ref 98), (1, .int (nI y)), (2, .int q)]) dX9_list_60 rfl (inc1 _) (Nat.le_of_ble_eq_true rfl) rfl ?_
    refine g_goto 42 dX9_list_63 (by decide) ?_
    exact ih (k + 1) _ (by omega) f1_98 f1_116 (hS.tr (fun q hq => by rw [s1 q (by omega)]))

set_option maxRecDepth 100000 in
set_option maxHeartbeats 4000000 in
theorem ev_y_list {h : List aC} {σ : Sg} (H : RM h σ) (ok : okSg σ) (l q : Int32) : Ev mX9_list 3 0 0 [.ref 98, .int l, .int q] h (spM h (oList σ l q)) := by
  obtain ⟨fo, as_, sm, sk, z, iN, iM, iT, P, Ro, U, rf, WM, WP, WR, Tr, Ke, Co, Th, Be, Le, AP, AR, AU, Sz, It, IP, IR, IU, mO, mP, mRo, mU, mrf, mWM, mWP, mWR, mTr, mKe, mCo, mTh, mBe, mLe, mAP, mAR, mAU, mSz, mIt, mIP, mIR, mIU, vP, vR, vU, vF, vH, vL, vS, vI, vG⟩ := id H
  have mO : rd h 98 = some (.inr (9, [.int (nI σ.1.1), .int (nI σ.1.2.1), .ref 99, .ref 100, .ref 101, .int (nI σ.1.2.2.2.1), .ref 102, .int (nI ((σ.2.2.2.1).length)), .ref 103, .ref 104, .ref 105, .int fo, .int as_, .int sm, .int sk, .ref 106, .ref 107, .ref 108, .int z, .ref 109, .ref 110, .ref 111, .int (nI σ.2.1.1), .ref 112, .ref 113, .ref 114, .ref 115, .ref 116, .int (nI (bI σ.2.2.2.2.1.isSome)), .int iN, .int iM, .int iT, .ref 117, .ref 118, .ref 119])) := mO
  obtain ⟨mP, lP⟩ := mP
  obtain ⟨mRo, lRo⟩ := mRo
  obtain ⟨mU, lU⟩ := mU
  obtain ⟨mrf, lrf⟩ := mrf
  obtain ⟨mWM, lWM⟩ := mWM
  obtain ⟨mWP, lWP⟩ := mWP
  obtain ⟨mWR, lWR⟩ := mWR
  obtain ⟨mTr, lTr⟩ := mTr
  obtain ⟨mKe, lKe⟩ := mKe
  obtain ⟨mCo, lCo⟩ := mCo
  obtain ⟨mTh, lTh⟩ := mTh
  obtain ⟨mBe, lBe⟩ := mBe
  obtain ⟨mLe, lLe⟩ := mLe
  obtain ⟨mAP, lAP⟩ := mAP
  obtain ⟨mAR, lAR⟩ := mAR
  obtain ⟨mAU, lAU⟩ := mAU
  obtain ⟨mSz, lSz⟩ := mSz
  obtain ⟨mIt, lIt⟩ := mIt
  obtain ⟨mIP, lIP⟩ := mIP
  obtain ⟨mIR, lIR⟩ := mIR
  obtain ⟨mIU, lIU⟩ := mIU
  obtain ⟨okc, ⟨okl, okw⟩, okn, ⟨okh, oke⟩, oki, okr⟩ := id ok
  obtain ⟨k1, k2, k3, k4, k5, k6, k7, k8, k9⟩ := id okc
  refine Ev.of pX9_list (Nat.le_of_ble_eq_true rfl) ?_
  show G mX9_list (rmD 3 0 0) none _ 0 0 0 [(0, .ref 98), (1, .int l), (2, .int q)] [] h
  refine g_iload_n dX9_list_0 1 rfl ?_
  refine g_callSp dX9_list_1 (ev_isList l _) oX9_isList wsX9_isList wmX9_257 rfl ⟨(Nat.le_of_ble_eq_true rfl), (Nat.le_of_ble_eq_true rfl)⟩ ⟨Nat.zero_le _, Nat.zero_le _⟩ (Nat.le_of_ble_eq_true rfl) rfl ?_
  refine g_if_neB 13 dX9_list_4 (by decide) (fun c4 => ?_) (fun c4 => ?_)
  · have n1 := of_decide_eq_true c4
    rw [show oList σ l q = _ from if_pos n1]
    refine g_iload_n dX9_list_13 2 rfl ?_
    refine g_bipush (v := nI 40) dX9_list_14 (by decide +kernel) ?_
    refine g_icmp_le 26 dX9_list_16 (by decide) (fun c16 => ?_) (fun c16 => ?_)
    · rw [if_pos c16]
      refine g_iload_n dX9_list_26 2 rfl ?_
      refine g_if_ge 33 dX9_list_27 (by decide) (fun c27 => ?_) (fun c27 => ?_)
      · rw [if_pos c27]
        obtain ⟨y, hy, rfl⟩ := nn_of n1.1
        rw [cl_ hy]
        have b1 : y < 3 := (nI_ltI hy (by decide)).mp n1.2
        refine g_aload_n dX9_list_33 0 rfl ?_
        refine g_getf dX9_list_34 kX9 wfX9_62 (Nat.le_of_ble_eq_true rfl) (mO) rfl ?_
        refine g_iload_n dX9_list_37 1 rfl ?_
        refine g_iload_n dX9_list_38 2 rfl ?_
        refine g_iasI dX9_list_39 (mSz) (by omega) (by omega) (fun h1 e1 => ?_)
        have f1_115 : rd h1 115 = some (.inl ((Sz).set y q)) := by rw [e1]; exact rd_wr_eq (mSz)
        have lf1_115 : ((Sz).set y q).length = _ := List.length_set.trans lSz
        have s1 : Smo 115 (115 + 1) h h1 := by rw [e1]; exact Smo.wr (by omega) (by omega)
        have f1_98 : rd h1 98 = some (.inr (9, [.int (nI σ.1.1), .int (nI σ.1.2.1), .ref 99, .ref 100, .ref 101, .int (nI σ.1.2.2.2.1), .ref 102, .int (nI ((σ.2.2.2.1).length)), .ref 103, .ref 104, .ref 105, .int fo, .int as_, .int sm, .int sk, .ref 106, .ref 107, .ref 108, .int z, .ref 109, .ref 110, .ref 111, .int (nI σ.2.1.1), .ref 112, .ref 113, .ref 114, .ref 115, .ref 116, .int (nI (bI σ.2.2.2.2.1.isSome)), .int iN, .int iM, .int iT, .ref 117, .ref 118, .ref 119])) := by rw [s1 _ (by omega)]; exact mO
        have f1_99 : rd h1 99 = some (.inl (P)) := by rw [s1 _ (by omega)]; exact mP
        have f1_100 : rd h1 100 = some (.inl (Ro)) := by rw [s1 _ (by omega)]; exact mRo
        have f1_101 : rd h1 101 = some (.inl (U)) := by rw [s1 _ (by omega)]; exact mU
        have f1_102 : rd h1 102 = some (.inl (rf)) := by rw [s1 _ (by omega)]; exact mrf
        have f1_103 : rd h1 103 = some (.inl (WM)) := by rw [s1 _ (by omega)]; exact mWM
        have f1_104 : rd h1 104 = some (.inl (WP)) := by rw [s1 _ (by omega)]; exact mWP
        have f1_105 : rd h1 105 = some (.inl (WR)) := by rw [s1 _ (by omega)]; exact mWR
        have f1_106 : rd h1 106 = some (.inl (Tr)) := by rw [s1 _ (by omega)]; exact mTr
        have f1_107 : rd h1 107 = some (.inl (Ke)) := by rw [s1 _ (by omega)]; exact mKe
        have f1_108 : rd h1 108 = some (.inl (Co)) := by rw [s1 _ (by omega)]; exact mCo
        have f1_109 : rd h1 109 = some (.inl (Th)) := by rw [s1 _ (by omega)]; exact mTh
        have f1_110 : rd h1 110 = some (.inl (Be)) := by rw [s1 _ (by omega)]; exact mBe
        have f1_111 : rd h1 111 = some (.inl (Le)) := by rw [s1 _ (by omega)]; exact mLe
        have f1_112 : rd h1 112 = some (.inl (AP)) := by rw [s1 _ (by omega)]; exact mAP
        have f1_113 : rd h1 113 = some (.inl (AR)) := by rw [s1 _ (by omega)]; exact mAR
        have f1_114 : rd h1 114 = some (.inl (AU)) := by rw [s1 _ (by omega)]; exact mAU
        have f1_116 : rd h1 116 = some (.inl (It)) := by rw [s1 _ (by omega)]; exact mIt
        have f1_117 : rd h1 117 = some (.inl (IP)) := by rw [s1 _ (by omega)]; exact mIP
        have f1_118 : rd h1 118 = some (.inl (IR)) := by rw [s1 _ (by omega)]; exact mIR
        have f1_119 : rd h1 119 = some (.inl (IU)) := by rw [s1 _ (by omega)]; exact mIU
        refine g_iconst (v := nI 0) dX9_list_40 (by decide +kernel) ?_
        refine g_istore_n (ls' := [(3, .int (nI 0)), (0, .ref 98), (1, .int (nI y)), (2, .int q)]) dX9_list_41 (Nat.le_of_ble_eq_true rfl) rfl ?_
        refine lp_mlist lIt b1 (fun h2 y2_0 sK2 => ?_) 40 0 _ (by omega) (show MO h1 _ _ _ _ _ _ _ _ _ _ _ _ _ _ from f1_98) (f1_116) Smo.rf
        have f2_98 : rd h2 98 = some (.inr (9, [.int (nI σ.1.1), .int (nI σ.1.2.1), .ref 99, .ref 100, .ref 101, .int (nI σ.1.2.2.2.1), .ref 102, .int (nI ((σ.2.2.2.1).length)), .ref 103, .ref 104, .ref 105, .int fo, .int as_, .int sm, .int sk, .ref 106, .ref 107, .ref 108, .int z, .ref 109, .ref 110, .ref 111, .int (nI σ.2.1.1), .ref 112, .ref 113, .ref 114, .ref 115, .ref 116, .int (nI (bI σ.2.2.2.2.1.isSome)), .int iN, .int iM, .int iT, .ref 117, .ref 118, .ref 119])) := by rw [sK2 _ (by omega)]; exact f1_98
        have f2_99 : rd h2 99 = some (.inl (P)) := by rw [sK2 _ (by omega)]; exact f1_99
        have f2_100 : rd h2 100 = some (.inl (Ro)) := by rw [sK2 _ (by omega)]; exact f1_100
        have f2_101 : rd h2 101 = some (.inl (U)) := by rw [sK2 _ (by omega)]; exact f1_101
        have f2_102 : rd h2 102 = some (.inl (rf)) := by rw [sK2 _ (by omega)]; exact f1_102
        have f2_103 : rd h2 103 = some (.inl (WM)) := by rw [sK2 _ (by omega)]; exact f1_103
        have f2_104 : rd h2 104 = some (.inl (WP)) := by rw [sK2 _ (by omega)]; exact f1_104
        have f2_105 : rd h2 105 = some (.inl (WR)) := by rw [sK2 _ (by omega)]; exact f1_105
        have f2_106 : rd h2 106 = some (.inl (Tr)) := by rw [sK2 _ (by omega)]; exact f1_106
        have f2_107 : rd h2 107 = some (.inl (Ke)) := by rw [sK2 _ (by omega)]; exact f1_107
        have f2_108 : rd h2 108 = some (.inl (Co)) := by rw [sK2 _ (by omega)]; exact f1_108
        have f2_109 : rd h2 109 = some (.inl (Th)) := by rw [sK2 _ (by omega)]; exact f1_109
        have f2_110 : rd h2 110 = some (.inl (Be)) := by rw [sK2 _ (by omega)]; exact f1_110
        have f2_111 : rd h2 111 = some (.inl (Le)) := by rw [sK2 _ (by omega)]; exact f1_111
        have f2_112 : rd h2 112 = some (.inl (AP)) := by rw [sK2 _ (by omega)]; exact f1_112
        have f2_113 : rd h2 113 = some (.inl (AR)) := by rw [sK2 _ (by omega)]; exact f1_113
        have f2_114 : rd h2 114 = some (.inl (AU)) := by rw [sK2 _ (by omega)]; exact f1_114
        have f2_115 : rd h2 115 = some (.inl ((Sz).set y q)) := by rw [sK2 _ (by omega)]; exact f1_115
        have f2_117 : rd h2 117 = some (.inl (IP)) := by rw [sK2 _ (by omega)]; exact f1_117
        have f2_118 : rd h2 118 = some (.inl (IR)) := by rw [sK2 _ (by omega)]; exact f1_118
        have f2_119 : rd h2 119 = some (.inl (IU)) := by rw [sK2 _ (by omega)]; exact f1_119
        refine g_iconst (v := nI 1) dX9_list_66 (by decide +kernel) ?_
        exact g_iret dX9_list_67 rfl ⟨Nat.zero_le _, Nat.zero_le _⟩ (⟨rfl, ⟨_, _, _, _, _, _, _, _, _, _, _, _, _, _, _, _, _, _, _, _, _, _, _, _, _, _, _, _, _, f2_98, ⟨f2_99, lP⟩, ⟨f2_100, lRo⟩, ⟨f2_101, lU⟩, ⟨f2_102, lrf⟩, ⟨f2_103, lWM⟩, ⟨f2_104, lWP⟩, ⟨f2_105, lWR⟩, ⟨f2_106, lTr⟩, ⟨f2_107, lKe⟩, ⟨f2_108, lCo⟩, ⟨f2_109, lTh⟩, ⟨f2_110, lBe⟩, ⟨f2_111, lLe⟩, ⟨f2_112, lAP⟩, ⟨f2_113, lAR⟩, ⟨f2_114, lAU⟩, ⟨f2_115, lf1_115⟩, ⟨y2_0, (zeroL_len It (40 * y) 40).trans lIt⟩, ⟨f2_117, lIP⟩, ⟨f2_118, lIR⟩, ⟨f2_119, lIU⟩, vP, vR, vU, vF, vH, vL, (by show Sz.set y q = σ.2.2.1.2.set y q; rw [vS]), (iR_zero vI lIt b1), vG⟩, (fun q hq => by rw [sK2 q (by omega), s1 q (by omega)])⟩)
      · rw [if_neg c27]
        refine g_bipush (v := (-14)) dX9_list_30 (by decide +kernel) ?_
        exact g_iret dX9_list_32 rfl ⟨Nat.zero_le _, Nat.zero_le _⟩ (⟨rfl, ⟨_, _, _, _, _, _, _, _, _, _, _, _, _, _, _, _, _, _, _, _, _, _, _, _, _, _, _, _, _, mO, ⟨mP, lP⟩, ⟨mRo, lRo⟩, ⟨mU, lU⟩, ⟨mrf, lrf⟩, ⟨mWM, lWM⟩, ⟨mWP, lWP⟩, ⟨mWR, lWR⟩, ⟨mTr, lTr⟩, ⟨mKe, lKe⟩, ⟨mCo, lCo⟩, ⟨mTh, lTh⟩, ⟨mBe, lBe⟩, ⟨mLe, lLe⟩, ⟨mAP, lAP⟩, ⟨mAR, lAR⟩, ⟨mAU, lAU⟩, ⟨mSz, lSz⟩, ⟨mIt, lIt⟩, ⟨mIP, lIP⟩, ⟨mIR, lIR⟩, ⟨mIU, lIU⟩, vP, vR, vU, vF, vH, vL, vS, vI, vG⟩, Smo.rf⟩)
    · refine g_aload_n dX9_list_19 0 rfl ?_
      refine g_bipush (v := (-6)) dX9_list_20 (by decide +kernel) ?_
      rw [if_neg c16]
      refine g_callVq (st1 := [.int (-nI 6)]) dX9_list_22 (ev_refused H ok 6 (by unfold noN; omega)) oX9_refused wiX9_refused weX9_refused wmX9_90 kX9 (mO) rfl ⟨(Nat.le_of_ble_eq_true rfl), (Nat.le_of_ble_eq_true rfl)⟩ ⟨Nat.zero_le _, Nat.zero_le _⟩ (Nat.le_of_ble_eq_true rfl) rfl rfl (fun h3 q3 => ?_)
      exact g_iret dX9_list_25 rfl ⟨Nat.zero_le _, Nat.zero_le _⟩ (⟨rfl, q3⟩)
  · refine g_aload_n dX9_list_7 0 rfl ?_
    refine g_iconst (v := (-1)) dX9_list_8 (by decide +kernel) ?_
    rw [show oList σ l q = rfS σ (-1) from if_neg (of_decide_eq_false c4)]
    refine g_callVq (st1 := [.int (-nI 1)]) dX9_list_9 (ev_refused H ok 1 (by unfold noN; omega)) oX9_refused wiX9_refused weX9_refused wmX9_90 kX9 (mO) rfl ⟨(Nat.le_of_ble_eq_true rfl), (Nat.le_of_ble_eq_true rfl)⟩ ⟨Nat.zero_le _, Nat.zero_le _⟩ (Nat.le_of_ble_eq_true rfl) rfl rfl (fun h4 q4 => ?_)
    exact g_iret dX9_list_12 rfl ⟨Nat.zero_le _, Nat.zero_le _⟩ (⟨rfl, q4⟩)

set_option maxRecDepth 100000 in
set_option maxHeartbeats 4000000 in
theorem ev_y_put {h : List aC} {σ : Sg} (H : RM h σ) (ok : okSg σ) (l4 : ∀ y, y < 3 → (σ.2.2.1.1 y).length = 40) (l i x : Int32) : Ev mX9_put 3 0 0 [.ref 98, .int l, .int i, .int x] h (spM h (oPut σ l i x)) := by
  obtain ⟨fo, as_, sm, sk, z, iN, iM, iT, P, Ro, U, rf, WM, WP, WR, Tr, Ke, Co, Th, Be, Le, AP, AR, AU, Sz, It, IP, IR, IU, mO, mP, mRo, mU, mrf, mWM, mWP, mWR, mTr, mKe, mCo, mTh, mBe, mLe, mAP, mAR, mAU, mSz, mIt, mIP, mIR, mIU, vP, vR, vU, vF, vH, vL, vS, vI, vG⟩ := id H
  have mO : rd h 98 = some (.inr (9, [.int (nI σ.1.1), .int (nI σ.1.2.1), .ref 99, .ref 100, .ref 101, .int (nI σ.1.2.2.2.1), .ref 102, .int (nI ((σ.2.2.2.1).length)), .ref 103, .ref 104, .ref 105, .int fo, .int as_, .int sm, .int sk, .ref 106, .ref 107, .ref 108, .int z, .ref 109, .ref 110, .ref 111, .int (nI σ.2.1.1), .ref 112, .ref 113, .ref 114, .ref 115, .ref 116, .int (nI (bI σ.2.2.2.2.1.isSome)), .int iN, .int iM, .int iT, .ref 117, .ref 118, .ref 119])) := mO
  obtain ⟨mP, lP⟩ := mP
  obtain ⟨mRo, lRo⟩ := mRo
  obtain ⟨mU, lU⟩ := mU
  obtain ⟨mrf, lrf⟩ := mrf
  obtain ⟨mWM, lWM⟩ := mWM
  obtain ⟨mWP, lWP⟩ := mWP
  obtain ⟨mWR, lWR⟩ := mWR
  obtain ⟨mTr, lTr⟩ := mTr
  obtain ⟨mKe, lKe⟩ := mKe
  obtain ⟨mCo, lCo⟩ := mCo
  obtain ⟨mTh, lTh⟩ := mTh
  obtain ⟨mBe, lBe⟩ := mBe
  obtain ⟨mLe, lLe⟩ := mLe
  obtain ⟨mAP, lAP⟩ := mAP
  obtain ⟨mAR, lAR⟩ := mAR
  obtain ⟨mAU, lAU⟩ := mAU
  obtain ⟨mSz, lSz⟩ := mSz
  obtain ⟨mIt, lIt⟩ := mIt
  obtain ⟨mIP, lIP⟩ := mIP
  obtain ⟨mIR, lIR⟩ := mIR
  obtain ⟨mIU, lIU⟩ := mIU
  obtain ⟨okc, ⟨okl, okw⟩, okn, ⟨okh, oke⟩, oki, okr⟩ := id ok
  obtain ⟨k1, k2, k3, k4, k5, k6, k7, k8, k9⟩ := id okc
  refine Ev.of pX9_put (Nat.le_of_ble_eq_true rfl) ?_
  show G mX9_put (rmD 3 0 0) none _ 0 0 0 [(0, .ref 98), (1, .int l), (2, .int i), (3, .int x)] [] h
  refine g_iload_n dX9_put_0 1 rfl ?_
  refine g_callSp dX9_put_1 (ev_isList l _) oX9_isList wsX9_isList wmX9_257 rfl ⟨(Nat.le_of_ble_eq_true rfl), (Nat.le_of_ble_eq_true rfl)⟩ ⟨Nat.zero_le _, Nat.zero_le _⟩ (Nat.le_of_ble_eq_true rfl) rfl ?_
  refine g_if_neB 13 dX9_put_4 (by decide) (fun c4 => ?_) (fun c4 => ?_)
  · have n1 := of_decide_eq_true c4
    obtain ⟨y, hy, rfl⟩ := nn_of n1.1
    have b1 : y < 3 := (nI_ltI hy (by decide)).mp n1.2
    refine g_aload_n dX9_put_13 0 rfl ?_
    refine g_getf dX9_put_14 kX9 wfX9_62 (Nat.le_of_ble_eq_true rfl) (mO) rfl ?_
    refine g_iload_n dX9_put_17 1 rfl ?_
    refine g_ialI dX9_put_18 (mSz) (by omega) (by omega) ?_
    refine g_top (by rw [vS]) ?_
    refine g_if_ge 25 dX9_put_19 (by decide) (fun c19 => ?_) (fun c19 => ?_)
    · obtain ⟨q, hq, eq⟩ := okL_q ok b1 c19
      rw [show oPut σ (nI y) i x = _ from if_pos (okL_t b1 c19)]
      rw [okQ1 (by omega) hq eq]
      refine g_iload_n dX9_put_25 2 rfl ?_
      refine g_i2l dX9_put_26 rfl ?_
      refine g_lconst (v := lN 0) dX9_put_27 rfl ?_
      refine g_aload_n dX9_put_28 0 rfl ?_
      refine g_getf dX9_put_29 kX9 wfX9_62 (Nat.le_of_ble_eq_true rfl) (mO) rfl ?_
      refine g_iload_n dX9_put_32 1 rfl ?_
      refine g_ialI dX9_put_33 (mSz) (by omega) (by omega) ?_
      refine g_top (by rw [vS, eq]) ?_
      refine g_iconst (v := nI 1) dX9_put_34 (by decide +kernel) ?_
      refine g_isub dX9_put_35 ?_
      refine g_i2l dX9_put_36 rfl ?_
      refine g_callSp dX9_put_37 (ev_inM i (nI q - nI 1) _) oX9_in wsX9_in wmX9_98 rfl ⟨(Nat.le_of_ble_eq_true rfl), (Nat.le_of_ble_eq_true rfl)⟩ ⟨Nat.zero_le _, Nat.zero_le _⟩ (Nat.le_of_ble_eq_true rfl) rfl ?_
      refine g_top (congrArg (fun z => nI (bI z)) (isQ_eq hq)) ?_
      refine g_if_neB 46 dX9_put_40 (by decide) (fun c40 => ?_) (fun c40 => ?_)
      · rw [if_pos c40]
        have n2 := of_decide_eq_true c40
        clear c40
        obtain ⟨i1, hi1, rfl⟩ := nn_of n2.1
        rw [cl_ hy, cl_ hi1]
        have b2 := nn_lt hi1 (by omega) n2.2
        refine g_aload_n dX9_put_46 0 rfl ?_
        refine g_getf dX9_put_47 kX9 wfX9_65 (Nat.le_of_ble_eq_true rfl) (mO) rfl ?_
        refine g_bipush (v := nI 40) dX9_put_50 (by decide +kernel) ?_
        refine g_iload_n dX9_put_52 1 rfl ?_
        refine g_imulN dX9_put_53 ?_
        refine g_iload_n dX9_put_54 2 rfl ?_
        refine g_iaddN dX9_put_55 ?_
        refine g_iload_n dX9_put_56 3 rfl ?_
        refine g_iasI dX9_put_57 (mIt) (by omega) (by omega) (fun h1 e1 => ?_)
        have f1_116 : rd h1 116 = some (.inl ((It).set ((40 * y) + i1) x)) := by rw [e1]; exact rd_wr_eq (mIt)
        have lf1_116 : ((It).set ((40 * y) + i1) x).length = _ := List.length_set.trans lIt
        have s1 : Smo 116 (116 + 1) h h1 := by rw [e1]; exact Smo.wr (by omega) (by omega)
        have f1_98 : rd h1 98 = some (.inr (9, [.int (nI σ.1.1), .int (nI σ.1.2.1), .ref 99, .ref 100, .ref 101, .int (nI σ.1.2.2.2.1), .ref 102, .int (nI ((σ.2.2.2.1).length)), .ref 103, .ref 104, .ref 105, .int fo, .int as_, .int sm, .int sk, .ref 106, .ref 107, .ref 108, .int z, .ref 109, .ref 110, .ref 111, .int (nI σ.2.1.1), .ref 112, .ref 113, .ref 114, .ref 115, .ref 116, .int (nI (bI σ.2.2.2.2.1.isSome)), .int iN, .int iM, .int iT, .ref 117, .ref 118, .ref 119])) := by rw [s1 _ (by omega)]; exact mO
        have f1_99 : rd h1 99 = some (.inl (P)) := by rw [s1 _ (by omega)]; exact mP
        have f1_100 : rd h1 100 = some (.inl (Ro)) := by rw [s1 _ (by omega)]; exact mRo
        have f1_101 : rd h1 101 = some (.inl (U)) := by rw [s1 _ (by omega)]; exact mU
        have f1_102 : rd h1 102 = some (.inl (rf)) := by rw [s1 _ (by omega)]; exact mrf
        have f1_103 : rd h1 103 = some (.inl (WM)) := by rw [s1 _ (by omega)]; exact mWM
        have f1_104 : rd h1 104 = some (.inl (WP)) := by rw [s1 _ (by omega)]; exact mWP
        have f1_105 : rd h1 105 = some (.inl (WR)) := by rw [s1 _ (by omega)]; exact mWR
        have f1_106 : rd h1 106 = some (.inl (Tr)) := by rw [s1 _ (by omega)]; exact mTr
        have f1_107 : rd h1 107 = some (.inl (Ke)) := by rw [s1 _ (by omega)]; exact mKe
        have f1_108 : rd h1 108 = some (.inl (Co)) := by rw [s1 _ (by omega)]; exact mCo
        have f1_109 : rd h1 109 = some (.inl (Th)) := by rw [s1 _ (by omega)]; exact mTh
        have f1_110 : rd h1 110 = some (.inl (Be)) := by rw [s1 _ (by omega)]; exact mBe
        have f1_111 : rd h1 111 = some (.inl (Le)) := by rw [s1 _ (by omega)]; exact mLe
        have f1_112 : rd h1 112 = some (.inl (AP)) := by rw [s1 _ (by omega)]; exact mAP
        have f1_113 : rd h1 113 = some (.inl (AR)) := by rw [s1 _ (by omega)]; exact mAR
        have f1_114 : rd h1 114 = some (.inl (AU)) := by rw [s1 _ (by omega)]; exact mAU
        have f1_115 : rd h1 115 = some (.inl (Sz)) := by rw [s1 _ (by omega)]; exact mSz
        have f1_117 : rd h1 117 = some (.inl (IP)) := by rw [s1 _ (by omega)]; exact mIP
        have f1_118 : rd h1 118 = some (.inl (IR)) := by rw [s1 _ (by omega)]; exact mIR
        have f1_119 : rd h1 119 = some (.inl (IU)) := by rw [s1 _ (by omega)]; exact mIU
        refine g_iconst (v := nI 1) dX9_put_58 (by decide +kernel) ?_
        exact g_iret dX9_put_59 rfl ⟨Nat.zero_le _, Nat.zero_le _⟩ (⟨rfl, ⟨_, _, _, _, _, _, _, _, _, _, _, _, _, _, _, _, _, _, _, _, _, _, _, _, _, _, _, _, _, f1_98, ⟨f1_99, lP⟩, ⟨f1_100, lRo⟩, ⟨f1_101, lU⟩, ⟨f1_102, lrf⟩, ⟨f1_103, lWM⟩, ⟨f1_104, lWP⟩, ⟨f1_105, lWR⟩, ⟨f1_106, lTr⟩, ⟨f1_107, lKe⟩, ⟨f1_108, lCo⟩, ⟨f1_109, lTh⟩, ⟨f1_110, lBe⟩, ⟨f1_111, lLe⟩, ⟨f1_112, lAP⟩, ⟨f1_113, lAR⟩, ⟨f1_114, lAU⟩, ⟨f1_115, lSz⟩, ⟨f1_116, lf1_116⟩, ⟨f1_117, lIP⟩, ⟨f1_118, lIR⟩, ⟨f1_119, lIU⟩, vP, vR, vU, vF, vH, vL, vS, (iR_set vI lIt b1 (by omega) (l4 y b1) x), vG⟩, (fun q hq => by rw [s1 q (by omega)])⟩)
      · rw [if_neg (by rw [c40]; decide)]
        refine g_bipush (v := (-13)) dX9_put_43 (by decide +kernel) ?_
        exact g_iret dX9_put_45 rfl ⟨Nat.zero_le _, Nat.zero_le _⟩ (⟨rfl, ⟨_, _, _, _, _, _, _, _, _, _, _, _, _, _, _, _, _, _, _, _, _, _, _, _, _, _, _, _, _, mO, ⟨mP, lP⟩, ⟨mRo, lRo⟩, ⟨mU, lU⟩, ⟨mrf, lrf⟩, ⟨mWM, lWM⟩, ⟨mWP, lWP⟩, ⟨mWR, lWR⟩, ⟨mTr, lTr⟩, ⟨mKe, lKe⟩, ⟨mCo, lCo⟩, ⟨mTh, lTh⟩, ⟨mBe, lBe⟩, ⟨mLe, lLe⟩, ⟨mAP, lAP⟩, ⟨mAR, lAR⟩, ⟨mAU, lAU⟩, ⟨mSz, lSz⟩, ⟨mIt, lIt⟩, ⟨mIP, lIP⟩, ⟨mIR, lIR⟩, ⟨mIU, lIU⟩, vP, vR, vU, vF, vH, vL, vS, vI, vG⟩, Smo.rf⟩)
    · rw [show oPut σ (nI y) i x = (-11, σ) from (if_neg (by rw [okL_f b1 c19]; decide)).trans (if_pos n1)]
      refine g_bipush (v := (-11)) dX9_put_22 (by decide +kernel) ?_
      exact g_iret dX9_put_24 rfl ⟨Nat.zero_le _, Nat.zero_le _⟩ (⟨rfl, ⟨_, _, _, _, _, _, _, _, _, _, _, _, _, _, _, _, _, _, _, _, _, _, _, _, _, _, _, _, _, mO, ⟨mP, lP⟩, ⟨mRo, lRo⟩, ⟨mU, lU⟩, ⟨mrf, lrf⟩, ⟨mWM, lWM⟩, ⟨mWP, lWP⟩, ⟨mWR, lWR⟩, ⟨mTr, lTr⟩, ⟨mKe, lKe⟩, ⟨mCo, lCo⟩, ⟨mTh, lTh⟩, ⟨mBe, lBe⟩, ⟨mLe, lLe⟩, ⟨mAP, lAP⟩, ⟨mAR, lAR⟩, ⟨mAU, lAU⟩, ⟨mSz, lSz⟩, ⟨mIt, lIt⟩, ⟨mIP, lIP⟩, ⟨mIR, lIR⟩, ⟨mIU, lIU⟩, vP, vR, vU, vF, vH, vL, vS, vI, vG⟩, Smo.rf⟩)
  · refine g_aload_n dX9_put_7 0 rfl ?_
    refine g_iconst (v := (-1)) dX9_put_8 (by decide +kernel) ?_
    rw [show oPut σ l i x = rfS σ (-1) from (if_neg (by rw [okL_o (of_decide_eq_false c4)]; decide)).trans (if_neg (of_decide_eq_false c4))]
    refine g_callVq (st1 := [.int (-nI 1)]) dX9_put_9 (ev_refused H ok 1 (by unfold noN; omega)) oX9_refused wiX9_refused weX9_refused wmX9_90 kX9 (mO) rfl ⟨(Nat.le_of_ble_eq_true rfl), (Nat.le_of_ble_eq_true rfl)⟩ ⟨Nat.zero_le _, Nat.zero_le _⟩ (Nat.le_of_ble_eq_true rfl) rfl rfl (fun h2 q2 => ?_)
    exact g_iret dX9_put_12 rfl ⟨Nat.zero_le _, Nat.zero_le _⟩ (⟨rfl, q2⟩)

set_option maxRecDepth 100000 in
set_option maxHeartbeats 4000000 in
theorem ev_y_look {h : List aC} {σ : Sg} (H : RM h σ) (ok : okSg σ) (l i : Int32) : Ev mX9_look 3 0 0 [.ref 98, .int l, .int i] h (spML h (oLook σ l i)) := by
  obtain ⟨fo, as_, sm, sk, z, iN, iM, iT, P, Ro, U, rf, WM, WP, WR, Tr, Ke, Co, Th, Be, Le, AP, AR, AU, Sz, It, IP, IR, IU, mO, mP, mRo, mU, mrf, mWM, mWP, mWR, mTr, mKe, mCo, mTh, mBe, mLe, mAP, mAR, mAU, mSz, mIt, mIP, mIR, mIU, vP, vR, vU, vF, vH, vL, vS, vI, vG⟩ := id H
  have mO : rd h 98 = some (.inr (9, [.int (nI σ.1.1), .int (nI σ.1.2.1), .ref 99, .ref 100, .ref 101, .int (nI σ.1.2.2.2.1), .ref 102, .int (nI ((σ.2.2.2.1).length)), .ref 103, .ref 104, .ref 105, .int fo, .int as_, .int sm, .int sk, .ref 106, .ref 107, .ref 108, .int z, .ref 109, .ref 110, .ref 111, .int (nI σ.2.1.1), .ref 112, .ref 113, .ref 114, .ref 115, .ref 116, .int (nI (bI σ.2.2.2.2.1.isSome)), .int iN, .int iM, .int iT, .ref 117, .ref 118, .ref 119])) := mO
  obtain ⟨mP, lP⟩ := mP
  obtain ⟨mRo, lRo⟩ := mRo
  obtain ⟨mU, lU⟩ := mU
  obtain ⟨mrf, lrf⟩ := mrf
  obtain ⟨mWM, lWM⟩ := mWM
  obtain ⟨mWP, lWP⟩ := mWP
  obtain ⟨mWR, lWR⟩ := mWR
  obtain ⟨mTr, lTr⟩ := mTr
  obtain ⟨mKe, lKe⟩ := mKe
  obtain ⟨mCo, lCo⟩ := mCo
  obtain ⟨mTh, lTh⟩ := mTh
  obtain ⟨mBe, lBe⟩ := mBe
  obtain ⟨mLe, lLe⟩ := mLe
  obtain ⟨mAP, lAP⟩ := mAP
  obtain ⟨mAR, lAR⟩ := mAR
  obtain ⟨mAU, lAU⟩ := mAU
  obtain ⟨mSz, lSz⟩ := mSz
  obtain ⟨mIt, lIt⟩ := mIt
  obtain ⟨mIP, lIP⟩ := mIP
  obtain ⟨mIR, lIR⟩ := mIR
  obtain ⟨mIU, lIU⟩ := mIU
  obtain ⟨okc, ⟨okl, okw⟩, okn, ⟨okh, oke⟩, oki, okr⟩ := id ok
  obtain ⟨k1, k2, k3, k4, k5, k6, k7, k8, k9⟩ := id okc
  refine Ev.of pX9_look (Nat.le_of_ble_eq_true rfl) ?_
  show G mX9_look (rmD 3 0 0) none _ 0 0 0 [(0, .ref 98), (1, .int l), (2, .int i)] [] h
  refine g_iload_n dX9_look_0 1 rfl ?_
  refine g_callSp dX9_look_1 (ev_isList l _) oX9_isList wsX9_isList wmX9_257 rfl ⟨(Nat.le_of_ble_eq_true rfl), (Nat.le_of_ble_eq_true rfl)⟩ ⟨Nat.zero_le _, Nat.zero_le _⟩ (Nat.le_of_ble_eq_true rfl) rfl ?_
  refine g_if_neB 18 dX9_look_4 (by decide) (fun c4 => ?_) (fun c4 => ?_)
  · have n1 := of_decide_eq_true c4
    obtain ⟨y, hy, rfl⟩ := nn_of n1.1
    have b1 : y < 3 := (nI_ltI hy (by decide)).mp n1.2
    refine g_aload_n dX9_look_18 0 rfl ?_
    refine g_getf dX9_look_19 kX9 wfX9_62 (Nat.le_of_ble_eq_true rfl) (mO) rfl ?_
    refine g_iload_n dX9_look_22 1 rfl ?_
    refine g_ialI dX9_look_23 (mSz) (by omega) (by omega) ?_
    refine g_top (by rw [vS]) ?_
    refine g_if_ge 31 dX9_look_24 (by decide) (fun c24 => ?_) (fun c24 => ?_)
    · obtain ⟨q, hq, eq⟩ := okL_q ok b1 c24
      rw [show oLook σ (nI y) i = _ from if_pos (okL_t b1 c24)]
      rw [okQ1 (by omega) hq eq]
      refine g_iload_n dX9_look_31 2 rfl ?_
      refine g_i2l dX9_look_32 rfl ?_
      refine g_lconst (v := lN 0) dX9_look_33 rfl ?_
      refine g_aload_n dX9_look_34 0 rfl ?_
      refine g_getf dX9_look_35 kX9 wfX9_62 (Nat.le_of_ble_eq_true rfl) (mO) rfl ?_
      refine g_iload_n dX9_look_38 1 rfl ?_
      refine g_ialI dX9_look_39 (mSz) (by omega) (by omega) ?_
      refine g_top (by rw [vS, eq]) ?_
      refine g_iconst (v := nI 1) dX9_look_40 (by decide +kernel) ?_
      refine g_isub dX9_look_41 ?_
      refine g_i2l dX9_look_42 rfl ?_
      refine g_callSp dX9_look_43 (ev_inM i (nI q - nI 1) _) oX9_in wsX9_in wmX9_98 rfl ⟨(Nat.le_of_ble_eq_true rfl), (Nat.le_of_ble_eq_true rfl)⟩ ⟨Nat.zero_le _, Nat.zero_le _⟩ (Nat.le_of_ble_eq_true rfl) rfl ?_
      refine g_top (congrArg (fun z => nI (bI z)) (isQ_eq hq)) ?_
      refine g_if_eqB 64 dX9_look_46 (by decide) (fun c46 => ?_) (fun c46 => ?_)
      · rw [if_neg (by rw [c46]; decide), c4_13]
        refine g_ldc2 dX9_look_64 wlX9_262 ?_
        exact g_lret dX9_look_67 rfl ⟨Nat.zero_le _, Nat.zero_le _⟩ (⟨rfl, ⟨_, _, _, _, _, _, _, _, _, _, _, _, _, _, _, _, _, _, _, _, _, _, _, _, _, _, _, _, _, mO, ⟨mP, lP⟩, ⟨mRo, lRo⟩, ⟨mU, lU⟩, ⟨mrf, lrf⟩, ⟨mWM, lWM⟩, ⟨mWP, lWP⟩, ⟨mWR, lWR⟩, ⟨mTr, lTr⟩, ⟨mKe, lKe⟩, ⟨mCo, lCo⟩, ⟨mTh, lTh⟩, ⟨mBe, lBe⟩, ⟨mLe, lLe⟩, ⟨mAP, lAP⟩, ⟨mAR, lAR⟩, ⟨mAU, lAU⟩, ⟨mSz, lSz⟩, ⟨mIt, lIt⟩, ⟨mIP, lIP⟩, ⟨mIR, lIR⟩, ⟨mIU, lIU⟩, vP, vR, vU, vF, vH, vL, vS, vI, vG⟩, Smo.rf⟩)
      · rw [if_pos c46]
        have n2 := of_decide_eq_true c46
        clear c46
        obtain ⟨i1, hi1, rfl⟩ := nn_of n2.1
        rw [cl_ hy, cl_ hi1]
        have b2 := nn_lt hi1 (by omega) n2.2
        refine g_aload_n dX9_look_49 0 rfl ?_
        refine g_getf dX9_look_50 kX9 wfX9_65 (Nat.le_of_ble_eq_true rfl) (mO) rfl ?_
        refine g_bipush (v := nI 40) dX9_look_53 (by decide +kernel) ?_
        refine g_iload_n dX9_look_55 1 rfl ?_
        refine g_imulN dX9_look_56 ?_
        refine g_iload_n dX9_look_57 2 rfl ?_
        refine g_iaddN dX9_look_58 ?_
        refine g_ialI dX9_look_59 (mIt) (by omega) (by omega) ?_
        refine g_top (vI y i1 b1 (by omega)) ?_
        refine g_i2l dX9_look_60 rfl ?_
        refine g_goto 67 dX9_look_61 (by decide) ?_
        exact g_lret dX9_look_67 rfl ⟨Nat.zero_le _, Nat.zero_le _⟩ (⟨rfl, ⟨_, _, _, _, _, _, _, _, _, _, _, _, _, _, _, _, _, _, _, _, _, _, _, _, _, _, _, _, _, mO, ⟨mP, lP⟩, ⟨mRo, lRo⟩, ⟨mU, lU⟩, ⟨mrf, lrf⟩, ⟨mWM, lWM⟩, ⟨mWP, lWP⟩, ⟨mWR, lWR⟩, ⟨mTr, lTr⟩, ⟨mKe, lKe⟩, ⟨mCo, lCo⟩, ⟨mTh, lTh⟩, ⟨mBe, lBe⟩, ⟨mLe, lLe⟩, ⟨mAP, lAP⟩, ⟨mAR, lAR⟩, ⟨mAU, lAU⟩, ⟨mSz, lSz⟩, ⟨mIt, lIt⟩, ⟨mIP, lIP⟩, ⟨mIR, lIR⟩, ⟨mIU, lIU⟩, vP, vR, vU, vF, vH, vL, vS, vI, vG⟩, Smo.rf⟩)
    · rw [show oLook σ (nI y) i = (4000000000000000011, σ) from (if_neg (by rw [okL_f b1 c24]; decide)).trans (by rw [show rfLs σ (nI y) = (-11, σ) from if_pos n1, ← c4_11])]
      refine g_ldc2 dX9_look_27 wlX9_260 ?_
      exact g_lret dX9_look_30 rfl ⟨Nat.zero_le _, Nat.zero_le _⟩ (⟨rfl, ⟨_, _, _, _, _, _, _, _, _, _, _, _, _, _, _, _, _, _, _, _, _, _, _, _, _, _, _, _, _, mO, ⟨mP, lP⟩, ⟨mRo, lRo⟩, ⟨mU, lU⟩, ⟨mrf, lrf⟩, ⟨mWM, lWM⟩, ⟨mWP, lWP⟩, ⟨mWR, lWR⟩, ⟨mTr, lTr⟩, ⟨mKe, lKe⟩, ⟨mCo, lCo⟩, ⟨mTh, lTh⟩, ⟨mBe, lBe⟩, ⟨mLe, lLe⟩, ⟨mAP, lAP⟩, ⟨mAR, lAR⟩, ⟨mAU, lAU⟩, ⟨mSz, lSz⟩, ⟨mIt, lIt⟩, ⟨mIP, lIP⟩, ⟨mIR, lIR⟩, ⟨mIU, lIU⟩, vP, vR, vU, vF, vH, vL, vS, vI, vG⟩, Smo.rf⟩)
  · refine g_ldc2 dX9_look_7 wlX9_185 ?_
    refine g_aload_n dX9_look_10 0 rfl ?_
    refine g_iconst (v := (-1)) dX9_look_11 (by decide +kernel) ?_
    rw [show oLook σ l i = (4000000000000000000 - Int32.toInt64 (-1), (rfS σ (-1)).2) from (if_neg (by rw [okL_o (of_decide_eq_false c4)]; decide)).trans (by rw [show rfLs σ l = rfS σ (-1) from if_neg (of_decide_eq_false c4)]; rfl)]
    refine g_callVq (st1 := [.int (-nI 1), .long ((4000000000000000000))]) dX9_look_12 (ev_refused H ok 1 (by unfold noN; omega)) oX9_refused wiX9_refused weX9_refused wmX9_90 kX9 (mO) rfl ⟨(Nat.le_of_ble_eq_true rfl), (Nat.le_of_ble_eq_true rfl)⟩ ⟨Nat.zero_le _, Nat.zero_le _⟩ (Nat.le_of_ble_eq_true rfl) rfl rfl (fun h1 q1 => ?_)
    refine g_i2l dX9_look_15 rfl ?_
    refine g_lsub dX9_look_16 ?_
    exact g_lret dX9_look_17 rfl ⟨Nat.zero_le _, Nat.zero_le _⟩ (⟨rfl, q1⟩)

theorem sub_toInt {q i : Nat} (hq : q < 2 ^ 31) (hi : i < 2 ^ 31) : (nI q - nI i).toInt = (q : Int) - i := by
  rw [Int32.toInt_sub, nI_toInt hq, nI_toInt hi]
  exact Int.bmod_eq_of_le (by omega) (by omega)
theorem okQ2 {σ : Sg} {y q m i : Nat} (hy : y < 2 ^ 31) (hq : q ≤ 40) (e : σ.2.2.1.2.getD y 0 = nI q) (h1 : 1 ≤ m) (h6 : m ≤ 6) (hi : i < 2 ^ 31) : okQ σ (nI y) (nI i) (2 * m) = decide (i + 2 * m ≤ q) := by
  unfold okQ
  rw [nI_clamp hy, e]
  congr 1
  apply propext
  rw [sub_lt hq (by omega), Int32.lt_iff_toInt_lt, nI_toInt hi]
  show (2 * m < 1 ∨ ¬ (i : Int) < (0 : Int) ∧ ¬ _) ↔ _
  omega
theorem le_sub {m q i : Nat} (hm : m < 2 ^ 31) (hq : q < 2 ^ 31) (hi : i < 2 ^ 31) : nI m ≤ nI q - nI i ↔ i + m ≤ q := by
  rw [Int32.le_iff_toInt_le, sub_toInt hq hi, nI_toInt hm]
  omega
theorem ot_iff {It P : List Int32} {LR : Nat → List Int32} {m : Nat} {f : Nat → Pr} (h : iR It LR) (vP : pR P 0 m f) {y k : Nat} (hy : y < 3) (hk : k < 40) (hm : m ≤ 6) : otB m (qF f) (qS f) (LR y) k = decide (¬ (k < 2 * m ∧ It.getD (40 * y + k) 0 = P.getD (3 * (k / 2) + k % 2) 0)) := by
  unfold otB
  congr 1
  apply propext
  by_cases q : k < 2 * m
  · have e : nAt (qF f) (qS f) k = nAf f k := by unfold nAt nAf; rw [show (qF f).getD (k / 2) 0 = (f (k / 2)).1 from map6 _ (by omega), show (qS f).getD (k / 2) 0 = (f (k / 2)).2.1 from map6 _ (by omega)]
    rw [e, pR_na vP q, h y k hy hk]
    constructor
    · intro z w; exact z ⟨by omega, w.2.symm⟩
    · intro z w; exact z ⟨q, w.2.symm⟩
  · constructor
    · intro _ w; exact q w.1
    · intro _ w; exact q (by omega)

set_option maxRecDepth 100000 in
set_option maxHeartbeats 4000000 in
theorem lp_mlay_ {h0 : List aC} {P : Option Value → List aC → Prop} {n m a de : Nat} {fo as_ sm sk z : Int32} {am : Nat} {ib : Bool} {iN iM iT : Int32} {It P1 : List Int32} (lIt : It.length = 120) (lP : P1.length = 18) (hP : rd h0 99 = some (.inl P1)) {y i1 : Nat} (hy : y < 3) (hm : m ≤ 6) (hj : i1 + 2 * m ≤ 40) (K : ∀ h', rd h' 116 = some (.inl (layM It (40 * y + i1) P1 (2 * m))) → Smo 116 (116 + 1) h0 h' → G mX9_lays_ (rmD 3 0 0) none P 0 0 101 [(0, .ref 98), (1, .int (nI y)), (2, .int (nI i1)), (3, .int (nI (2 * m)))] [] h') : ∀ j k (h : List aC), k + j = 2 * m → MO h n m a de fo as_ sm sk z am ib iN iM iT → rd h 116 = some (.inl (layM It (40 * y + i1) P1 (k))) → Smo 116 (116 + 1) h0 h → G mX9_lays_ (rmD 3 0 0) none P 0 0 58 [(3, .int (nI k)), (0, .ref 98), (1, .int (nI y)), (2, .int (nI i1))] [] h := by
  intro j
  induction j with
  | zero =>
    intro k h hk hO hR hS
    have hO : rd h 98 = some (.inr (9, [.int (nI n), .int (nI m), .ref 99, .ref 100, .ref 101, .int (nI a), .ref 102, .int (nI de), .ref 103, .ref 104, .ref 105, .int fo, .int as_, .int sm, .int sk, .ref 106, .ref 107, .ref 108, .int z, .ref 109, .ref 110, .ref 111, .int (nI am), .ref 112, .ref 113, .ref 114, .ref 115, .ref 116, .int (nI (bI ib)), .int iN, .int iM, .int iT, .ref 117, .ref 118, .ref 119])) := hO
    have lk := (layM_len It (40 * y + i1) P1 k).trans lIt
    refine g_iload_n dX9_lays__58 0 rfl ?_
    refine g_iconst (v := nI 2) dX9_lays__59 (by decide +kernel) ?_
    refine g_aload_n dX9_lays__60 1 rfl ?_
    refine g_getf dX9_lays__61 kX9 wfX9_87 (Nat.le_of_ble_eq_true rfl) (hO) rfl ?_
    refine g_imulN dX9_lays__64 ?_
    refine g_icmp_geN 101 dX9_lays__65 (by decide) (by omega) (by omega) (fun c65 => ?_) (fun z => absurd z (by omega))
    refine g_lsub_ (ls2 := [(0, .ref 98), (1, .int (nI y)), (2, .int (nI i1)), (3, .int (nI k))]) [1, 2, 3, 0] rfl ?_
    have ek : k = 2 * m := by omega
    subst ek
    exact K _ hR hS
  | succ j ih =>
    intro k h hk hO hR hS
    have hO : rd h 98 = some (.inr (9, [.int (nI n), .int (nI m), .ref 99, .ref 100, .ref 101, .int (nI a), .ref 102, .int (nI de), .ref 103, .ref 104, .ref 105, .int fo, .int as_, .int sm, .int sk, .ref 106, .ref 107, .ref 108, .int z, .ref 109, .ref 110, .ref 111, .int (nI am), .ref 112, .ref 113, .ref 114, .ref 115, .ref 116, .int (nI (bI ib)), .int iN, .int iM, .int iT, .ref 117, .ref 118, .ref 119])) := hO
    have lk := (layM_len It (40 * y + i1) P1 k).trans lIt
    refine g_iload_n dX9_lays__58 0 rfl ?_
    refine g_iconst (v := nI 2) dX9_lays__59 (by decide +kernel) ?_
    refine g_aload_n dX9_lays__60 1 rfl ?_
    refine g_getf dX9_lays__61 kX9 wfX9_87 (Nat.le_of_ble_eq_true rfl) (hO) rfl ?_
    refine g_imulN dX9_lays__64 ?_
    refine g_icmp_geN 101 dX9_lays__65 (by decide) (by omega) (by omega) (fun z => absurd z (by omega)) (fun c65 => ?_)
    refine g_aload_n dX9_lays__68 1 rfl ?_
    refine g_getf dX9_lays__69 kX9 wfX9_65 (Nat.le_of_ble_eq_true rfl) (hO) rfl ?_
    refine g_bipush (v := nI 40) dX9_lays__72 (by decide +kernel) ?_
    refine g_iload_n dX9_lays__74 2 rfl ?_
    refine g_imulN dX9_lays__75 ?_
    refine g_iload_n dX9_lays__76 3 rfl ?_
    refine g_iaddN dX9_lays__77 ?_
    refine g_iload_n dX9_lays__78 0 rfl ?_
    refine g_iaddN dX9_lays__79 ?_
    refine g_aload_n dX9_lays__80 1 rfl ?_
    refine g_getf dX9_lays__81 kX9 wfX9_13 (Nat.le_of_ble_eq_true rfl) (hO) rfl ?_
    refine g_iconst (v := nI 3) dX9_lays__84 (by decide +kernel) ?_
    refine g_iload_n dX9_lays__85 0 rfl ?_
    refine g_iconst (v := nI 2) dX9_lays__86 (by decide +kernel) ?_
    refine g_idivN dX9_lays__87 (by omega) (by omega) (by omega) ?_
    refine g_imulN dX9_lays__88 ?_
    refine g_iload_n dX9_lays__89 0 rfl ?_
    refine g_iconst (v := nI 2) dX9_lays__90 (by decide +kernel) ?_
    refine g_iremN dX9_lays__91 (by omega) (by omega) (by omega) ?_
    refine g_iaddN dX9_lays__92 ?_
    refine g_ialI dX9_lays__93 ((show rd h 99 = some (.inl P1) by rw [hS 99 (by omega)]; exact hP)) (by omega) (by omega) ?_
    refine g_iasI dX9_lays__94 (hR) (by rw [lk]; omega) (by omega) (fun h1 e1 => ?_)
    have f1_116 : rd h1 116 = some (.inl ((layM It (40 * y + i1) P1 (k)).set (((40 * y) + i1) + k) ((P1).getD ((3 * (k / 2)) + (k % 2)) 0))) := by rw [e1]; exact rd_wr_eq (hR)
    have lf1_116 : ((layM It (40 * y + i1) P1 (k)).set (((40 * y) + i1) + k) ((P1).getD ((3 * (k / 2)) + (k % 2)) 0)).length = _ := List.length_set.trans lk
    have s1 : Smo 116 (116 + 1) h h1 := by rw [e1]; exact Smo.wr (by omega) (by omega)
    have f1_98 : rd h1 98 = some (.inr (9, [.int (nI n), .int (nI m), .ref 99, .ref 100, .ref 101, .int (nI a), .ref 102, .int (nI de), .ref 103, .ref 104, .ref 105, .int fo, .int as_, .int sm, .int sk, .ref 106, .ref 107, .ref 108, .int z, .ref 109, .ref 110, .ref 111, .int (nI am), .ref 112, .ref 113, .ref 114, .ref 115, .ref 116, .int (nI (bI ib)), .int iN, .int iM, .int iT, .ref 117, .ref 118, .ref 119])) := by rw [s1 _ (by omega)]; exact hO
    have f1_99 : rd h1 99 = some (.inl (P1)) := by rw [s1 _ (by omega)]; exact (show rd h 99 = some (.inl P1) by rw [hS 99 (by omega)]; exact hP)
    refine g_iinc (q := 0) (v := nI (k + 1)) (ls' := [(3, .int (nI (k + 1))), (0, .ref 98), (1, .int (nI y)), (2, .int (nI i1))]) dX9_lays__95 rfl (inc1 _) (Nat.le_of_ble_eq_true rfl) rfl ?_
    refine g_goto 58 dX9_lays__98 (by decide) ?_
    exact ih (k + 1) _ (by omega) f1_98 f1_116 (hS.tr (fun q hq => by rw [s1 q (by omega)]))

set_option maxRecDepth 100000 in
set_option maxHeartbeats 4000000 in
theorem ev_y_lays0 {h : List aC} {σ : Sg} (H : RM h σ) (ok : okSg σ) (hm : σ.1.2.1 = 0) (l i : Int32) : Ev mX9_lays_ 3 0 0 [.ref 98, .int l, .int i] h (spM h (oLays σ l i)) := by
  obtain ⟨fo, as_, sm, sk, z, iN, iM, iT, P, Ro, U, rf, WM, WP, WR, Tr, Ke, Co, Th, Be, Le, AP, AR, AU, Sz, It, IP, IR, IU, mO, mP, mRo, mU, mrf, mWM, mWP, mWR, mTr, mKe, mCo, mTh, mBe, mLe, mAP, mAR, mAU, mSz, mIt, mIP, mIR, mIU, vP, vR, vU, vF, vH, vL, vS, vI, vG⟩ := id H
  have mO : rd h 98 = some (.inr (9, [.int (nI σ.1.1), .int (nI σ.1.2.1), .ref 99, .ref 100, .ref 101, .int (nI σ.1.2.2.2.1), .ref 102, .int (nI ((σ.2.2.2.1).length)), .ref 103, .ref 104, .ref 105, .int fo, .int as_, .int sm, .int sk, .ref 106, .ref 107, .ref 108, .int z, .ref 109, .ref 110, .ref 111, .int (nI σ.2.1.1), .ref 112, .ref 113, .ref 114, .ref 115, .ref 116, .int (nI (bI σ.2.2.2.2.1.isSome)), .int iN, .int iM, .int iT, .ref 117, .ref 118, .ref 119])) := mO
  obtain ⟨mP, lP⟩ := mP
  obtain ⟨mRo, lRo⟩ := mRo
  obtain ⟨mU, lU⟩ := mU
  obtain ⟨mrf, lrf⟩ := mrf
  obtain ⟨mWM, lWM⟩ := mWM
  obtain ⟨mWP, lWP⟩ := mWP
  obtain ⟨mWR, lWR⟩ := mWR
  obtain ⟨mTr, lTr⟩ := mTr
  obtain ⟨mKe, lKe⟩ := mKe
  obtain ⟨mCo, lCo⟩ := mCo
  obtain ⟨mTh, lTh⟩ := mTh
  obtain ⟨mBe, lBe⟩ := mBe
  obtain ⟨mLe, lLe⟩ := mLe
  obtain ⟨mAP, lAP⟩ := mAP
  obtain ⟨mAR, lAR⟩ := mAR
  obtain ⟨mAU, lAU⟩ := mAU
  obtain ⟨mSz, lSz⟩ := mSz
  obtain ⟨mIt, lIt⟩ := mIt
  obtain ⟨mIP, lIP⟩ := mIP
  obtain ⟨mIR, lIR⟩ := mIR
  obtain ⟨mIU, lIU⟩ := mIU
  obtain ⟨okc, ⟨okl, okw⟩, okn, ⟨okh, oke⟩, oki, okr⟩ := id ok
  obtain ⟨k1, k2, k3, k4, k5, k6, k7, k8, k9⟩ := id okc
  refine Ev.of pX9_lays_ (Nat.le_of_ble_eq_true rfl) ?_
  show G mX9_lays_ (rmD 3 0 0) none _ 0 0 0 [(0, .ref 98), (1, .int l), (2, .int i)] [] h
  refine g_iload_n dX9_lays__0 1 rfl ?_
  refine g_callSp dX9_lays__1 (ev_isList l _) oX9_isList wsX9_isList wmX9_257 rfl ⟨(Nat.le_of_ble_eq_true rfl), (Nat.le_of_ble_eq_true rfl)⟩ ⟨Nat.zero_le _, Nat.zero_le _⟩ (Nat.le_of_ble_eq_true rfl) rfl ?_
  refine g_if_neB 13 dX9_lays__4 (by decide) (fun c4 => ?_) (fun c4 => ?_)
  · have n1 := of_decide_eq_true c4
    obtain ⟨y, hy, rfl⟩ := nn_of n1.1
    have b1 : y < 3 := (nI_ltI hy (by decide)).mp n1.2
    refine g_aload_n dX9_lays__13 0 rfl ?_
    refine g_getf dX9_lays__14 kX9 wfX9_62 (Nat.le_of_ble_eq_true rfl) (mO) rfl ?_
    refine g_iload_n dX9_lays__17 1 rfl ?_
    refine g_ialI dX9_lays__18 (mSz) (by omega) (by omega) ?_
    refine g_top (by rw [vS]) ?_
    refine g_if_ge 25 dX9_lays__19 (by decide) (fun c19 => ?_) (fun c19 => ?_)
    · obtain ⟨q, hq, eq⟩ := okL_q ok b1 c19
      rw [show oLays σ (nI y) i = _ from if_pos (okL_t b1 c19)]
      rw [if_pos (show okQ σ (nI y) i (2 * σ.1.2.1) = true from decide_eq_true (Or.inl (by omega)))]
      rw [show lnG σ (upI σ.2.2.1.1 (nI y).toNatClampNeg (layF (σ.2.2.1.1 (nI y).toNatClampNeg) i.toNatClampNeg σ.1.2.2.1 (2 * σ.1.2.1))) σ.2.2.1.2 = σ from by rw [show 2 * σ.1.2.1 = 0 by omega]; exact lnG_self σ _]
      refine g_aload_n dX9_lays__25 0 rfl ?_
      refine g_getf dX9_lays__26 kX9 wfX9_87 (Nat.le_of_ble_eq_true rfl) (mO) rfl ?_
      refine g_if_leN 56 dX9_lays__29 (by decide) (by omega) (fun c29 => ?_) (fun z => absurd z (by omega))
      refine g_iconst (v := nI 0) dX9_lays__56 (by decide +kernel) ?_
      refine g_istore_n (ls' := [(3, .int (nI 0)), (0, .ref 98), (1, .int (nI y)), (2, .int i)]) dX9_lays__57 (Nat.le_of_ble_eq_true rfl) rfl ?_
      refine g_iload_n dX9_lays__58 0 rfl ?_
      refine g_iconst (v := nI 2) dX9_lays__59 (by decide +kernel) ?_
      refine g_aload_n dX9_lays__60 1 rfl ?_
      refine g_getf dX9_lays__61 kX9 wfX9_87 (Nat.le_of_ble_eq_true rfl) (mO) rfl ?_
      refine g_imulN dX9_lays__64 ?_
      refine g_icmp_geN 101 dX9_lays__65 (by decide) (by omega) (by omega) (fun c65 => ?_) (fun z => absurd z (by omega))
      refine g_iconst (v := nI 2) dX9_lays__101 (by decide +kernel) ?_
      refine g_aload_n dX9_lays__102 1 rfl ?_
      refine g_getf dX9_lays__103 kX9 wfX9_87 (Nat.le_of_ble_eq_true rfl) (mO) rfl ?_
      refine g_imulN dX9_lays__106 ?_
      exact g_iret dX9_lays__107 rfl ⟨Nat.zero_le _, Nat.zero_le _⟩ (⟨rfl, ⟨_, _, _, _, _, _, _, _, _, _, _, _, _, _, _, _, _, _, _, _, _, _, _, _, _, _, _, _, _, mO, ⟨mP, lP⟩, ⟨mRo, lRo⟩, ⟨mU, lU⟩, ⟨mrf, lrf⟩, ⟨mWM, lWM⟩, ⟨mWP, lWP⟩, ⟨mWR, lWR⟩, ⟨mTr, lTr⟩, ⟨mKe, lKe⟩, ⟨mCo, lCo⟩, ⟨mTh, lTh⟩, ⟨mBe, lBe⟩, ⟨mLe, lLe⟩, ⟨mAP, lAP⟩, ⟨mAR, lAR⟩, ⟨mAU, lAU⟩, ⟨mSz, lSz⟩, ⟨mIt, lIt⟩, ⟨mIP, lIP⟩, ⟨mIR, lIR⟩, ⟨mIU, lIU⟩, vP, vR, vU, vF, vH, vL, vS, vI, vG⟩, Smo.rf⟩)
    · rw [show oLays σ (nI y) i = (-11, σ) from (if_neg (by rw [okL_f b1 c19]; decide)).trans (if_pos n1)]
      refine g_bipush (v := (-11)) dX9_lays__22 (by decide +kernel) ?_
      exact g_iret dX9_lays__24 rfl ⟨Nat.zero_le _, Nat.zero_le _⟩ (⟨rfl, ⟨_, _, _, _, _, _, _, _, _, _, _, _, _, _, _, _, _, _, _, _, _, _, _, _, _, _, _, _, _, mO, ⟨mP, lP⟩, ⟨mRo, lRo⟩, ⟨mU, lU⟩, ⟨mrf, lrf⟩, ⟨mWM, lWM⟩, ⟨mWP, lWP⟩, ⟨mWR, lWR⟩, ⟨mTr, lTr⟩, ⟨mKe, lKe⟩, ⟨mCo, lCo⟩, ⟨mTh, lTh⟩, ⟨mBe, lBe⟩, ⟨mLe, lLe⟩, ⟨mAP, lAP⟩, ⟨mAR, lAR⟩, ⟨mAU, lAU⟩, ⟨mSz, lSz⟩, ⟨mIt, lIt⟩, ⟨mIP, lIP⟩, ⟨mIR, lIR⟩, ⟨mIU, lIU⟩, vP, vR, vU, vF, vH, vL, vS, vI, vG⟩, Smo.rf⟩)
  · refine g_aload_n dX9_lays__7 0 rfl ?_
    refine g_iconst (v := (-1)) dX9_lays__8 (by decide +kernel) ?_
    rw [show oLays σ l i = rfS σ (-1) from (if_neg (by rw [okL_o (of_decide_eq_false c4)]; decide)).trans (if_neg (of_decide_eq_false c4))]
    refine g_callVq (st1 := [.int (-nI 1)]) dX9_lays__9 (ev_refused H ok 1 (by unfold noN; omega)) oX9_refused wiX9_refused weX9_refused wmX9_90 kX9 (mO) rfl ⟨(Nat.le_of_ble_eq_true rfl), (Nat.le_of_ble_eq_true rfl)⟩ ⟨Nat.zero_le _, Nat.zero_le _⟩ (Nat.le_of_ble_eq_true rfl) rfl rfl (fun h1 q1 => ?_)
    exact g_iret dX9_lays__12 rfl ⟨Nat.zero_le _, Nat.zero_le _⟩ (⟨rfl, q1⟩)

set_option maxRecDepth 100000 in
set_option maxHeartbeats 4000000 in
theorem ev_y_lays1 {h : List aC} {σ : Sg} (H : RM h σ) (ok : okSg σ) (l4 : ∀ y, y < 3 → (σ.2.2.1.1 y).length = 40) (hm : 1 ≤ σ.1.2.1) (l i : Int32) : Ev mX9_lays_ 3 0 0 [.ref 98, .int l, .int i] h (spM h (oLays σ l i)) := by
  obtain ⟨fo, as_, sm, sk, z, iN, iM, iT, P, Ro, U, rf, WM, WP, WR, Tr, Ke, Co, Th, Be, Le, AP, AR, AU, Sz, It, IP, IR, IU, mO, mP, mRo, mU, mrf, mWM, mWP, mWR, mTr, mKe, mCo, mTh, mBe, mLe, mAP, mAR, mAU, mSz, mIt, mIP, mIR, mIU, vP, vR, vU, vF, vH, vL, vS, vI, vG⟩ := id H
  have mO : rd h 98 = some (.inr (9, [.int (nI σ.1.1), .int (nI σ.1.2.1), .ref 99, .ref 100, .ref 101, .int (nI σ.1.2.2.2.1), .ref 102, .int (nI ((σ.2.2.2.1).length)), .ref 103, .ref 104, .ref 105, .int fo, .int as_, .int sm, .int sk, .ref 106, .ref 107, .ref 108, .int z, .ref 109, .ref 110, .ref 111, .int (nI σ.2.1.1), .ref 112, .ref 113, .ref 114, .ref 115, .ref 116, .int (nI (bI σ.2.2.2.2.1.isSome)), .int iN, .int iM, .int iT, .ref 117, .ref 118, .ref 119])) := mO
  obtain ⟨mP, lP⟩ := mP
  obtain ⟨mRo, lRo⟩ := mRo
  obtain ⟨mU, lU⟩ := mU
  obtain ⟨mrf, lrf⟩ := mrf
  obtain ⟨mWM, lWM⟩ := mWM
  obtain ⟨mWP, lWP⟩ := mWP
  obtain ⟨mWR, lWR⟩ := mWR
  obtain ⟨mTr, lTr⟩ := mTr
  obtain ⟨mKe, lKe⟩ := mKe
  obtain ⟨mCo, lCo⟩ := mCo
  obtain ⟨mTh, lTh⟩ := mTh
  obtain ⟨mBe, lBe⟩ := mBe
  obtain ⟨mLe, lLe⟩ := mLe
  obtain ⟨mAP, lAP⟩ := mAP
  obtain ⟨mAR, lAR⟩ := mAR
  obtain ⟨mAU, lAU⟩ := mAU
  obtain ⟨mSz, lSz⟩ := mSz
  obtain ⟨mIt, lIt⟩ := mIt
  obtain ⟨mIP, lIP⟩ := mIP
  obtain ⟨mIR, lIR⟩ := mIR
  obtain ⟨mIU, lIU⟩ := mIU
  obtain ⟨okc, ⟨okl, okw⟩, okn, ⟨okh, oke⟩, oki, okr⟩ := id ok
  obtain ⟨k1, k2, k3, k4, k5, k6, k7, k8, k9⟩ := id okc
  refine Ev.of pX9_lays_ (Nat.le_of_ble_eq_true rfl) ?_
  show G mX9_lays_ (rmD 3 0 0) none _ 0 0 0 [(0, .ref 98), (1, .int l), (2, .int i)] [] h
  refine g_iload_n dX9_lays__0 1 rfl ?_
  refine g_callSp dX9_lays__1 (ev_isList l _) oX9_isList wsX9_isList wmX9_257 rfl ⟨(Nat.le_of_ble_eq_true rfl), (Nat.le_of_ble_eq_true rfl)⟩ ⟨Nat.zero_le _, Nat.zero_le _⟩ (Nat.le_of_ble_eq_true rfl) rfl ?_
  refine g_if_neB 13 dX9_lays__4 (by decide) (fun c4 => ?_) (fun c4 => ?_)
  · have n1 := of_decide_eq_true c4
    obtain ⟨y, hy, rfl⟩ := nn_of n1.1
    have b1 : y < 3 := (nI_ltI hy (by decide)).mp n1.2
    refine g_aload_n dX9_lays__13 0 rfl ?_
    refine g_getf dX9_lays__14 kX9 wfX9_62 (Nat.le_of_ble_eq_true rfl) (mO) rfl ?_
    refine g_iload_n dX9_lays__17 1 rfl ?_
    refine g_ialI dX9_lays__18 (mSz) (by omega) (by omega) ?_
    refine g_top (by rw [vS]) ?_
    refine g_if_ge 25 dX9_lays__19 (by decide) (fun c19 => ?_) (fun c19 => ?_)
    · obtain ⟨q, hq, eq⟩ := okL_q ok b1 c19
      rw [show oLays σ (nI y) i = _ from if_pos (okL_t b1 c19)]
      refine g_aload_n dX9_lays__25 0 rfl ?_
      refine g_getf dX9_lays__26 kX9 wfX9_87 (Nat.le_of_ble_eq_true rfl) (mO) rfl ?_
      refine g_if_leN 56 dX9_lays__29 (by decide) (by omega) (fun z => absurd z (by omega)) (fun c29 => ?_)
      refine g_iload_n dX9_lays__32 2 rfl ?_
      refine g_if_lt 53 dX9_lays__33 (by decide) (fun c33 => ?_) (fun c33 => ?_)
      · rw [if_neg (okQ_n (by omega) (by omega) (Or.inl c33))]
        refine g_bipush (v := (-13)) dX9_lays__53 (by decide +kernel) ?_
        exact g_iret dX9_lays__55 rfl ⟨Nat.zero_le _, Nat.zero_le _⟩ (⟨rfl, ⟨_, _, _, _, _, _, _, _, _, _, _, _, _, _, _, _, _, _, _, _, _, _, _, _, _, _, _, _, _, mO, ⟨mP, lP⟩, ⟨mRo, lRo⟩, ⟨mU, lU⟩, ⟨mrf, lrf⟩, ⟨mWM, lWM⟩, ⟨mWP, lWP⟩, ⟨mWR, lWR⟩, ⟨mTr, lTr⟩, ⟨mKe, lKe⟩, ⟨mCo, lCo⟩, ⟨mTh, lTh⟩, ⟨mBe, lBe⟩, ⟨mLe, lLe⟩, ⟨mAP, lAP⟩, ⟨mAR, lAR⟩, ⟨mAU, lAU⟩, ⟨mSz, lSz⟩, ⟨mIt, lIt⟩, ⟨mIP, lIP⟩, ⟨mIR, lIR⟩, ⟨mIU, lIU⟩, vP, vR, vU, vF, vH, vL, vS, vI, vG⟩, Smo.rf⟩)
      · rw [cl_ hy]
        obtain ⟨i1, hi1, rfl⟩ := nn_of (Int32.not_lt.mp c33)
        rw [okQ2 (by omega) hq eq hm (by omega) hi1]
        rw [cl_ hi1]
        refine g_iconst (v := nI 2) dX9_lays__36 (by decide +kernel) ?_
        refine g_aload_n dX9_lays__37 0 rfl ?_
        refine g_getf dX9_lays__38 kX9 wfX9_87 (Nat.le_of_ble_eq_true rfl) (mO) rfl ?_
        refine g_imulN dX9_lays__41 ?_
        refine g_aload_n dX9_lays__42 0 rfl ?_
        refine g_getf dX9_lays__43 kX9 wfX9_62 (Nat.le_of_ble_eq_true rfl) (mO) rfl ?_
        refine g_iload_n dX9_lays__46 1 rfl ?_
        refine g_ialI dX9_lays__47 (mSz) (by omega) (by omega) ?_
        refine g_top (by rw [vS, eq]) ?_
        refine g_iload_n dX9_lays__48 2 rfl ?_
        refine g_isub dX9_lays__49 ?_
        refine g_icmp_le 56 dX9_lays__50 (by decide) (fun c50 => ?_) (fun c50 => ?_)
        · have b2 := (le_sub (by omega) (by omega) hi1).mp c50
          rw [if_pos (decide_eq_true b2)]
          refine g_iconst (v := nI 0) dX9_lays__56 (by decide +kernel) ?_
          refine g_istore_n (ls' := [(3, .int (nI 0)), (0, .ref 98), (1, .int (nI y)), (2, .int (nI i1))]) dX9_lays__57 (Nat.le_of_ble_eq_true rfl) rfl ?_
          refine lp_mlay_ lIt lP (mP) b1 (by omega) (by omega) (fun h1 y1_0 sK1 => ?_) (2 * σ.1.2.1) 0 _ (by omega) (show MO h _ _ _ _ _ _ _ _ _ _ _ _ _ _ from mO) (mIt) Smo.rf
          have f1_98 : rd h1 98 = some (.inr (9, [.int (nI σ.1.1), .int (nI σ.1.2.1), .ref 99, .ref 100, .ref 101, .int (nI σ.1.2.2.2.1), .ref 102, .int (nI ((σ.2.2.2.1).length)), .ref 103, .ref 104, .ref 105, .int fo, .int as_, .int sm, .int sk, .ref 106, .ref 107, .ref 108, .int z, .ref 109, .ref 110, .ref 111, .int (nI σ.2.1.1), .ref 112, .ref 113, .ref 114, .ref 115, .ref 116, .int (nI (bI σ.2.2.2.2.1.isSome)), .int iN, .int iM, .int iT, .ref 117, .ref 118, .ref 119])) := by rw [sK1 _ (by omega)]; exact mO
          have f1_99 : rd h1 99 = some (.inl (P)) := by rw [sK1 _ (by omega)]; exact mP
          have f1_100 : rd h1 100 = some (.inl (Ro)) := by rw [sK1 _ (by omega)]; exact mRo
          have f1_101 : rd h1 101 = some (.inl (U)) := by rw [sK1 _ (by omega)]; exact mU
          have f1_102 : rd h1 102 = some (.inl (rf)) := by rw [sK1 _ (by omega)]; exact mrf
          have f1_103 : rd h1 103 = some (.inl (WM)) := by rw [sK1 _ (by omega)]; exact mWM
          have f1_104 : rd h1 104 = some (.inl (WP)) := by rw [sK1 _ (by omega)]; exact mWP
          have f1_105 : rd h1 105 = some (.inl (WR)) := by rw [sK1 _ (by omega)]; exact mWR
          have f1_106 : rd h1 106 = some (.inl (Tr)) := by rw [sK1 _ (by omega)]; exact mTr
          have f1_107 : rd h1 107 = some (.inl (Ke)) := by rw [sK1 _ (by omega)]; exact mKe
          have f1_108 : rd h1 108 = some (.inl (Co)) := by rw [sK1 _ (by omega)]; exact mCo
          have f1_109 : rd h1 109 = some (.inl (Th)) := by rw [sK1 _ (by omega)]; exact mTh
          have f1_110 : rd h1 110 = some (.inl (Be)) := by rw [sK1 _ (by omega)]; exact mBe
          have f1_111 : rd h1 111 = some (.inl (Le)) := by rw [sK1 _ (by omega)]; exact mLe
          have f1_112 : rd h1 112 = some (.inl (AP)) := by rw [sK1 _ (by omega)]; exact mAP
          have f1_113 : rd h1 113 = some (.inl (AR)) := by rw [sK1 _ (by omega)]; exact mAR
          have f1_114 : rd h1 114 = some (.inl (AU)) := by rw [sK1 _ (by omega)]; exact mAU
          have f1_115 : rd h1 115 = some (.inl (Sz)) := by rw [sK1 _ (by omega)]; exact mSz
          have f1_117 : rd h1 117 = some (.inl (IP)) := by rw [sK1 _ (by omega)]; exact mIP
          have f1_118 : rd h1 118 = some (.inl (IR)) := by rw [sK1 _ (by omega)]; exact mIR
          have f1_119 : rd h1 119 = some (.inl (IU)) := by rw [sK1 _ (by omega)]; exact mIU
          refine g_iconst (v := nI 2) dX9_lays__101 (by decide +kernel) ?_
          refine g_aload_n dX9_lays__102 0 rfl ?_
          refine g_getf dX9_lays__103 kX9 wfX9_87 (Nat.le_of_ble_eq_true rfl) (f1_98) rfl ?_
          refine g_imulN dX9_lays__106 ?_
          exact g_iret dX9_lays__107 rfl ⟨Nat.zero_le _, Nat.zero_le _⟩ (⟨rfl, ⟨_, _, _, _, _, _, _, _, _, _, _, _, _, _, _, _, _, _, _, _, _, _, _, _, _, _, _, _, _, f1_98, ⟨f1_99, lP⟩, ⟨f1_100, lRo⟩, ⟨f1_101, lU⟩, ⟨f1_102, lrf⟩, ⟨f1_103, lWM⟩, ⟨f1_104, lWP⟩, ⟨f1_105, lWR⟩, ⟨f1_106, lTr⟩, ⟨f1_107, lKe⟩, ⟨f1_108, lCo⟩, ⟨f1_109, lTh⟩, ⟨f1_110, lBe⟩, ⟨f1_111, lLe⟩, ⟨f1_112, lAP⟩, ⟨f1_113, lAR⟩, ⟨f1_114, lAU⟩, ⟨f1_115, lSz⟩, ⟨y1_0, (layM_len It (40 * y + i1) P (2 * σ.1.2.1)).trans lIt⟩, ⟨f1_117, lIP⟩, ⟨f1_118, lIR⟩, ⟨f1_119, lIU⟩, vP, vR, vU, vF, vH, vL, vS, (iR_lay vI lIt vP b1 (l4 y b1) (by omega) _ (Nat.le_refl _)), vG⟩, (fun q hq => by rw [sK1 q (by omega)])⟩)
        · rw [if_neg (show ¬ decide (i1 + 2 * σ.1.2.1 ≤ q) = true from fun z => c50 ((le_sub (by omega) (by omega) hi1).mpr (of_decide_eq_true z)))]
          refine g_bipush (v := (-13)) dX9_lays__53 (by decide +kernel) ?_
          exact g_iret dX9_lays__55 rfl ⟨Nat.zero_le _, Nat.zero_le _⟩ (⟨rfl, ⟨_, _, _, _, _, _, _, _, _, _, _, _, _, _, _, _, _, _, _, _, _, _, _, _, _, _, _, _, _, mO, ⟨mP, lP⟩, ⟨mRo, lRo⟩, ⟨mU, lU⟩, ⟨mrf, lrf⟩, ⟨mWM, lWM⟩, ⟨mWP, lWP⟩, ⟨mWR, lWR⟩, ⟨mTr, lTr⟩, ⟨mKe, lKe⟩, ⟨mCo, lCo⟩, ⟨mTh, lTh⟩, ⟨mBe, lBe⟩, ⟨mLe, lLe⟩, ⟨mAP, lAP⟩, ⟨mAR, lAR⟩, ⟨mAU, lAU⟩, ⟨mSz, lSz⟩, ⟨mIt, lIt⟩, ⟨mIP, lIP⟩, ⟨mIR, lIR⟩, ⟨mIU, lIU⟩, vP, vR, vU, vF, vH, vL, vS, vI, vG⟩, Smo.rf⟩)
    · rw [show oLays σ (nI y) i = (-11, σ) from (if_neg (by rw [okL_f b1 c19]; decide)).trans (if_pos n1)]
      refine g_bipush (v := (-11)) dX9_lays__22 (by decide +kernel) ?_
      exact g_iret dX9_lays__24 rfl ⟨Nat.zero_le _, Nat.zero_le _⟩ (⟨rfl, ⟨_, _, _, _, _, _, _, _, _, _, _, _, _, _, _, _, _, _, _, _, _, _, _, _, _, _, _, _, _, mO, ⟨mP, lP⟩, ⟨mRo, lRo⟩, ⟨mU, lU⟩, ⟨mrf, lrf⟩, ⟨mWM, lWM⟩, ⟨mWP, lWP⟩, ⟨mWR, lWR⟩, ⟨mTr, lTr⟩, ⟨mKe, lKe⟩, ⟨mCo, lCo⟩, ⟨mTh, lTh⟩, ⟨mBe, lBe⟩, ⟨mLe, lLe⟩, ⟨mAP, lAP⟩, ⟨mAR, lAR⟩, ⟨mAU, lAU⟩, ⟨mSz, lSz⟩, ⟨mIt, lIt⟩, ⟨mIP, lIP⟩, ⟨mIR, lIR⟩, ⟨mIU, lIU⟩, vP, vR, vU, vF, vH, vL, vS, vI, vG⟩, Smo.rf⟩)
  · refine g_aload_n dX9_lays__7 0 rfl ?_
    refine g_iconst (v := (-1)) dX9_lays__8 (by decide +kernel) ?_
    rw [show oLays σ l i = rfS σ (-1) from (if_neg (by rw [okL_o (of_decide_eq_false c4)]; decide)).trans (if_neg (of_decide_eq_false c4))]
    refine g_callVq (st1 := [.int (-nI 1)]) dX9_lays__9 (ev_refused H ok 1 (by unfold noN; omega)) oX9_refused wiX9_refused weX9_refused wmX9_90 kX9 (mO) rfl ⟨(Nat.le_of_ble_eq_true rfl), (Nat.le_of_ble_eq_true rfl)⟩ ⟨Nat.zero_le _, Nat.zero_le _⟩ (Nat.le_of_ble_eq_true rfl) rfl rfl (fun h2 q2 => ?_)
    exact g_iret dX9_lays__12 rfl ⟨Nat.zero_le _, Nat.zero_le _⟩ (⟨rfl, q2⟩)

theorem ev_y_lays {h : List aC} {σ : Sg} (H : RM h σ) (ok : okSg σ) (l4 : ∀ y, y < 3 → (σ.2.2.1.1 y).length = 40) (l i : Int32) : Ev mX9_lays_ 3 0 0 [.ref 98, .int l, .int i] h (spM h (oLays σ l i)) := by
  by_cases hm : σ.1.2.1 = 0
  · exact ev_y_lays0 H ok hm l i
  · exact ev_y_lays1 H ok l4 (by omega) l i

set_option maxRecDepth 100000 in
set_option maxHeartbeats 4000000 in
theorem lp_mjudge {h : List aC} {n m a de : Nat} {fo as_ sm sk z : Int32} {am : Nat} {ib : Bool} {iN iM iT : Int32} (hO : MO h n m a de fo as_ sm sk z am ib iN iM iT) {Sz It P1 : List Int32} (hZ : rd h 115 = some (.inl Sz)) (lZ : Sz.length = 3) (hI : rd h 116 = some (.inl It)) (lI : It.length = 120) (hP : rd h 99 = some (.inl P1)) (lP : P1.length = 18) {y q : Nat} (hy : y < 3) (hq : q ≤ 40) (eq : Sz.getD y 0 = nI q) {LR : Nat → List Int32} {f : Nat → Pr} (vI : iR It LR) (vP : pR P1 0 m f) (hm : m ≤ 6) : ∀ j k , k + j = q → G mX9_judge (rmD 3 0 0) none (pv (.int (oI (sc1 (otB m (qF f) (qS f) (LR y)) 0 j k))) h) 0 0 27 [(2, .int (nI k)), (0, .ref 98), (1, .int (nI y))] [] h := by
  intro j
  induction j with
  | zero =>
    intro k  hk 
    have hO : rd h 98 = some (.inr (9, [.int (nI n), .int (nI m), .ref 99, .ref 100, .ref 101, .int (nI a), .ref 102, .int (nI de), .ref 103, .ref 104, .ref 105, .int fo, .int as_, .int sm, .int sk, .ref 106, .ref 107, .ref 108, .int z, .ref 109, .ref 110, .ref 111, .int (nI am), .ref 112, .ref 113, .ref 114, .ref 115, .ref 116, .int (nI (bI ib)), .int iN, .int iM, .int iT, .ref 117, .ref 118, .ref 119])) := hO
    refine g_iload_n dX9_judge_27 0 rfl ?_
    refine g_aload_n dX9_judge_28 1 rfl ?_
    refine g_getf dX9_judge_29 kX9 wfX9_62 (Nat.le_of_ble_eq_true rfl) (hO) rfl ?_
    refine g_iload_n dX9_judge_32 2 rfl ?_
    refine g_ialI dX9_judge_33 (hZ) (by omega) (by omega) ?_
    refine g_top (eq) ?_
    refine g_icmp_geN 83 dX9_judge_34 (by decide) (by omega) (by omega) (fun c34 => ?_) (fun z => absurd z (by omega))
    refine g_bipush (v := (-9)) dX9_judge_83 (by decide +kernel) ?_
    exact g_iret dX9_judge_85 rfl ⟨Nat.zero_le _, Nat.zero_le _⟩ (⟨rfl, rfl⟩)
  | succ j ih =>
    intro k  hk 
    have hO : rd h 98 = some (.inr (9, [.int (nI n), .int (nI m), .ref 99, .ref 100, .ref 101, .int (nI a), .ref 102, .int (nI de), .ref 103, .ref 104, .ref 105, .int fo, .int as_, .int sm, .int sk, .ref 106, .ref 107, .ref 108, .int z, .ref 109, .ref 110, .ref 111, .int (nI am), .ref 112, .ref 113, .ref 114, .ref 115, .ref 116, .int (nI (bI ib)), .int iN, .int iM, .int iT, .ref 117, .ref 118, .ref 119])) := hO
    refine g_iload_n dX9_judge_27 0 rfl ?_
    refine g_aload_n dX9_judge_28 1 rfl ?_
    refine g_getf dX9_judge_29 kX9 wfX9_62 (Nat.le_of_ble_eq_true rfl) (hO) rfl ?_
    refine g_iload_n dX9_judge_32 2 rfl ?_
    refine g_ialI dX9_judge_33 (hZ) (by omega) (by omega) ?_
    refine g_top (eq) ?_
    refine g_icmp_geN 83 dX9_judge_34 (by decide) (by omega) (by omega) (fun z => absurd z (by omega)) (fun c34 => ?_)
    refine g_iload_n dX9_judge_37 0 rfl ?_
    refine g_iconst (v := nI 2) dX9_judge_38 (by decide +kernel) ?_
    refine g_aload_n dX9_judge_39 1 rfl ?_
    refine g_getf dX9_judge_40 kX9 wfX9_87 (Nat.le_of_ble_eq_true rfl) (hO) rfl ?_
    refine g_imulN dX9_judge_43 ?_
    refine g_icmp_geN 75 dX9_judge_44 (by decide) (by omega) (by omega) (fun c44 => ?_) (fun c44 => ?_)
    · refine g_iload_n dX9_judge_75 0 rfl ?_
      exact g_iret dX9_judge_76 rfl ⟨Nat.zero_le _, Nat.zero_le _⟩ (⟨by rw [sc1_t (by rw [ot_iff vI vP hy (by omega) hm]; exact decide_eq_true (fun z => absurd z.1 (by omega))), Nat.zero_add]; rfl, rfl⟩)
    · refine g_aload_n dX9_judge_47 1 rfl ?_
      refine g_getf dX9_judge_48 kX9 wfX9_65 (Nat.le_of_ble_eq_true rfl) (hO) rfl ?_
      refine g_bipush (v := nI 40) dX9_judge_51 (by decide +kernel) ?_
      refine g_iload_n dX9_judge_53 2 rfl ?_
      refine g_imulN dX9_judge_54 ?_
      refine g_iload_n dX9_judge_55 0 rfl ?_
      refine g_iaddN dX9_judge_56 ?_
      refine g_ialI dX9_judge_57 (hI) (by omega) (by omega) ?_
      refine g_aload_n dX9_judge_58 1 rfl ?_
      refine g_getf dX9_judge_59 kX9 wfX9_13 (Nat.le_of_ble_eq_true rfl) (hO) rfl ?_
      refine g_iconst (v := nI 3) dX9_judge_62 (by decide +kernel) ?_
      refine g_iload_n dX9_judge_63 0 rfl ?_
      refine g_iconst (v := nI 2) dX9_judge_64 (by decide +kernel) ?_
      refine g_idivN dX9_judge_65 (by omega) (by omega) (by omega) ?_
      refine g_imulN dX9_judge_66 ?_
      refine g_iload_n dX9_judge_67 0 rfl ?_
      refine g_iconst (v := nI 2) dX9_judge_68 (by decide +kernel) ?_
      refine g_iremN dX9_judge_69 (by omega) (by omega) (by omega) ?_
      refine g_iaddN dX9_judge_70 ?_
      refine g_ialI dX9_judge_71 (hP) (by omega) (by omega) ?_
      refine g_icmp_eq 77 dX9_judge_72 (by decide) (fun c72 => ?_) (fun c72 => ?_)
      · refine g_iinc (q := 0) (v := nI (k + 1)) (ls' := [(2, .int (nI (k + 1))), (0, .ref 98), (1, .int (nI y))]) dX9_judge_77 rfl (inc1 _) (Nat.le_of_ble_eq_true rfl) rfl ?_
        refine g_goto 27 dX9_judge_80 (by decide) ?_
        rw [sc1_f (by rw [ot_iff vI vP hy (by omega) hm]; exact fun z => of_decide_eq_true z ⟨by omega, c72⟩)]
        exact ih (k + 1) (by omega)
      · refine g_iload_n dX9_judge_75 0 rfl ?_
        exact g_iret dX9_judge_76 rfl ⟨Nat.zero_le _, Nat.zero_le _⟩ (⟨by rw [sc1_t (by rw [ot_iff vI vP hy (by omega) hm]; exact decide_eq_true (fun z => c72 z.2)), Nat.zero_add]; rfl, rfl⟩)

set_option maxRecDepth 100000 in
set_option maxHeartbeats 4000000 in
theorem ev_y_judge {h : List aC} {σ : Sg} (H : RM h σ) (ok : okSg σ) (l : Int32) : Ev mX9_judge 3 0 0 [.ref 98, .int l] h (spM h (oJudge σ l)) := by
  obtain ⟨fo, as_, sm, sk, z, iN, iM, iT, P, Ro, U, rf, WM, WP, WR, Tr, Ke, Co, Th, Be, Le, AP, AR, AU, Sz, It, IP, IR, IU, mO, mP, mRo, mU, mrf, mWM, mWP, mWR, mTr, mKe, mCo, mTh, mBe, mLe, mAP, mAR, mAU, mSz, mIt, mIP, mIR, mIU, vP, vR, vU, vF, vH, vL, vS, vI, vG⟩ := id H
  have mO : rd h 98 = some (.inr (9, [.int (nI σ.1.1), .int (nI σ.1.2.1), .ref 99, .ref 100, .ref 101, .int (nI σ.1.2.2.2.1), .ref 102, .int (nI ((σ.2.2.2.1).length)), .ref 103, .ref 104, .ref 105, .int fo, .int as_, .int sm, .int sk, .ref 106, .ref 107, .ref 108, .int z, .ref 109, .ref 110, .ref 111, .int (nI σ.2.1.1), .ref 112, .ref 113, .ref 114, .ref 115, .ref 116, .int (nI (bI σ.2.2.2.2.1.isSome)), .int iN, .int iM, .int iT, .ref 117, .ref 118, .ref 119])) := mO
  obtain ⟨mP, lP⟩ := mP
  obtain ⟨mRo, lRo⟩ := mRo
  obtain ⟨mU, lU⟩ := mU
  obtain ⟨mrf, lrf⟩ := mrf
  obtain ⟨mWM, lWM⟩ := mWM
  obtain ⟨mWP, lWP⟩ := mWP
  obtain ⟨mWR, lWR⟩ := mWR
  obtain ⟨mTr, lTr⟩ := mTr
  obtain ⟨mKe, lKe⟩ := mKe
  obtain ⟨mCo, lCo⟩ := mCo
  obtain ⟨mTh, lTh⟩ := mTh
  obtain ⟨mBe, lBe⟩ := mBe
  obtain ⟨mLe, lLe⟩ := mLe
  obtain ⟨mAP, lAP⟩ := mAP
  obtain ⟨mAR, lAR⟩ := mAR
  obtain ⟨mAU, lAU⟩ := mAU
  obtain ⟨mSz, lSz⟩ := mSz
  obtain ⟨mIt, lIt⟩ := mIt
  obtain ⟨mIP, lIP⟩ := mIP
  obtain ⟨mIR, lIR⟩ := mIR
  obtain ⟨mIU, lIU⟩ := mIU
  obtain ⟨okc, ⟨okl, okw⟩, okn, ⟨okh, oke⟩, oki, okr⟩ := id ok
  obtain ⟨k1, k2, k3, k4, k5, k6, k7, k8, k9⟩ := id okc
  refine Ev.of pX9_judge (Nat.le_of_ble_eq_true rfl) ?_
  show G mX9_judge (rmD 3 0 0) none _ 0 0 0 [(0, .ref 98), (1, .int l)] [] h
  refine g_iload_n dX9_judge_0 1 rfl ?_
  refine g_callSp dX9_judge_1 (ev_isList l _) oX9_isList wsX9_isList wmX9_257 rfl ⟨(Nat.le_of_ble_eq_true rfl), (Nat.le_of_ble_eq_true rfl)⟩ ⟨Nat.zero_le _, Nat.zero_le _⟩ (Nat.le_of_ble_eq_true rfl) rfl ?_
  refine g_if_neB 13 dX9_judge_4 (by decide) (fun c4 => ?_) (fun c4 => ?_)
  · have n1 := of_decide_eq_true c4
    obtain ⟨y, hy, rfl⟩ := nn_of n1.1
    have b1 : y < 3 := (nI_ltI hy (by decide)).mp n1.2
    refine g_aload_n dX9_judge_13 0 rfl ?_
    refine g_getf dX9_judge_14 kX9 wfX9_62 (Nat.le_of_ble_eq_true rfl) (mO) rfl ?_
    refine g_iload_n dX9_judge_17 1 rfl ?_
    refine g_ialI dX9_judge_18 (mSz) (by omega) (by omega) ?_
    refine g_top (by rw [vS]) ?_
    refine g_if_ge 25 dX9_judge_19 (by decide) (fun c19 => ?_) (fun c19 => ?_)
    · obtain ⟨q, hq, eq⟩ := okL_q ok b1 c19
      rw [show oJudge σ (nI y) = _ from if_pos (okL_t b1 c19)]
      rw [cl_ hy, eq, cl_ (show q < 2 ^ 31 by omega)]
      refine g_iconst (v := nI 0) dX9_judge_25 (by decide +kernel) ?_
      refine g_istore_n (ls' := [(2, .int (nI 0)), (0, .ref 98), (1, .int (nI y))]) dX9_judge_26 (Nat.le_of_ble_eq_true rfl) rfl ?_
      exact (lp_mjudge (show MO h _ _ _ _ _ _ _ _ _ _ _ _ _ _ from mO) mSz (by omega) mIt lIt mP lP b1 hq (by rw [vS]; exact eq) vI vP (by omega) q 0 (by omega)).mono (fun w h1 hw => by obtain ⟨rfl, rfl⟩ := hw; exact ⟨rfl, H, Smo.rf⟩)
    · rw [show oJudge σ (nI y) = (-11, σ) from (if_neg (by rw [okL_f b1 c19]; decide)).trans (if_pos n1)]
      refine g_bipush (v := (-11)) dX9_judge_22 (by decide +kernel) ?_
      exact g_iret dX9_judge_24 rfl ⟨Nat.zero_le _, Nat.zero_le _⟩ (⟨rfl, ⟨_, _, _, _, _, _, _, _, _, _, _, _, _, _, _, _, _, _, _, _, _, _, _, _, _, _, _, _, _, mO, ⟨mP, lP⟩, ⟨mRo, lRo⟩, ⟨mU, lU⟩, ⟨mrf, lrf⟩, ⟨mWM, lWM⟩, ⟨mWP, lWP⟩, ⟨mWR, lWR⟩, ⟨mTr, lTr⟩, ⟨mKe, lKe⟩, ⟨mCo, lCo⟩, ⟨mTh, lTh⟩, ⟨mBe, lBe⟩, ⟨mLe, lLe⟩, ⟨mAP, lAP⟩, ⟨mAR, lAR⟩, ⟨mAU, lAU⟩, ⟨mSz, lSz⟩, ⟨mIt, lIt⟩, ⟨mIP, lIP⟩, ⟨mIR, lIR⟩, ⟨mIU, lIU⟩, vP, vR, vU, vF, vH, vL, vS, vI, vG⟩, Smo.rf⟩)
  · refine g_aload_n dX9_judge_7 0 rfl ?_
    refine g_iconst (v := (-1)) dX9_judge_8 (by decide +kernel) ?_
    rw [show oJudge σ l = rfS σ (-1) from (if_neg (by rw [okL_o (of_decide_eq_false c4)]; decide)).trans (if_neg (of_decide_eq_false c4))]
    refine g_callVq (st1 := [.int (-nI 1)]) dX9_judge_9 (ev_refused H ok 1 (by unfold noN; omega)) oX9_refused wiX9_refused weX9_refused wmX9_90 kX9 (mO) rfl ⟨(Nat.le_of_ble_eq_true rfl), (Nat.le_of_ble_eq_true rfl)⟩ ⟨Nat.zero_le _, Nat.zero_le _⟩ (Nat.le_of_ble_eq_true rfl) rfl rfl (fun h1 q1 => ?_)
    exact g_iret dX9_judge_12 rfl ⟨Nat.zero_le _, Nat.zero_le _⟩ (⟨rfl, q1⟩)
