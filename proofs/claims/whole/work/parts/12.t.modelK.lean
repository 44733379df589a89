theorem kn_f {k : Int32} {b : Nat} (h : decide (0 ≤ k ∧ k < nI b) = false) : k < 0 ∨ ¬ k < nI b := by
  by_cases q : k < 0
  · exact Or.inl q
  · exact Or.inr fun z => of_decide_eq_false h ⟨Int32.not_lt.mp q, z⟩
theorem kn_t {k : Int32} {b : Nat} (h : decide (0 ≤ k ∧ k < nI b) = true) : ¬ (k < 0 ∨ ¬ k < nI b) := fun z => by
  have q := of_decide_eq_true h
  rcases z with z | z
  · exact absurd z (Int32.not_lt.mpr q.1)
  · exact z q.2
theorem lnF_gW (n w u : Nat) (rm : Nat → Nat → Nat) : (if w = 0 then lnF n (fun j => rm u j) else lnF n (fun j => rm j u)) = lnF n (gW w u rm) := by
  by_cases q : w = 0
  · rw [if_pos q]; exact congrArg (lnF n) (funext fun j => (if_pos q).symm)
  · rw [if_neg q]; exact congrArg (lnF n) (funext fun j => (if_neg q).symm)
theorem sumN_z {f : Nat → Nat} : ∀ k, sumN f k = 0 → ∀ i, i < k → f i = 0
  | 0, _, i, hi => absurd hi (Nat.not_lt_zero i)
  | k + 1, h, i, hi => by
    have h : sumN f k + f k = 0 := h
    by_cases q : i = k
    · subst q; omega
    · exact sumN_z k (by omega) i (by omega)
def sIn (n : Nat) (rm : Nat → Nat → Nat) : Nat → Nat := sumN (fun i => lnF n (gW 0 i rm) + lnF n (gW 1 i rm))
theorem sIn_le (n : Nat) (rm : Nat → Nat → Nat) (k : Nat) : sIn n rm k ≤ k * (2 * (n + 1)) := sumN_le _ k fun i _ => by
  have a := lnF_le n (gW 0 i rm)
  have b := lnF_le n (gW 1 i rm)
  omega
theorem in_link {n : Nat} {rm : Nat → Nat → Nat} (hn : n ≤ 13) (k8 : ∀ a b, a < n → b < n → okC n (rm a b)) : inR n rm = decide (pfM n rm + sIn n rm n = 0) := by
  obtain ⟨e, l⟩ := pfM_eq hn k8
  unfold inR
  congr 1
  apply propext
  rw [e]
  have z : nI (pfM n rm) = 0 ↔ pfM n rm = 0 := nI_eq (b := 0) (by omega) (by omega)
  rw [z]
  constructor
  · rintro ⟨a, b⟩
    rw [b]
    show 0 + sIn n rm n = 0
    rw [Nat.zero_add]
    exact sumN_zero n fun i hi => by
      have a1 : lnF n (gW 0 i rm) = 0 := (a i hi).1
      have a2 : lnF n (gW 1 i rm) = 0 := (a i hi).2
      rw [a1, a2]
  · intro h
    refine ⟨fun i hi => ?_, by omega⟩
    have a := sumN_z n (show sIn n rm n = 0 by omega) i hi
    have a : lnF n (gW 0 i rm) + lnF n (gW 1 i rm) = 0 := a
    exact ⟨show lnF n (gW 0 i rm) = 0 by omega, show lnF n (gW 1 i rm) = 0 by omega⟩

set_option maxRecDepth 100000 in
set_option maxHeartbeats 4000000 in
theorem ev_y_faults {h : List aC} {σ : Sg} (H : RM h σ) (ok : okSg σ) (w k : Int32) : Ev mX9_faults 3 0 0 [.ref 98, .int w, .int k] h (spM h (oFaults σ w k)) := by
  obtain ⟨fo, as_, sm, sk, z, iN, iM, iT, P, Ro, U, rf, WM, WP, WR, Tr, Ke, Co, Th, Be, Le, AP, AR, AU, Sz, It, IP, IR, IU, mO, mP, mRo, mU, mrf, mWM, mWP, mWR, mTr, mKe, mCo, mTh, mBe, mLe, mAP, mAR, mAU, mSz, mIt, mIP, mIR, mIU, vP, vR, vU, vF, vH, vL, vS, vI, vG⟩ := id H
  have mO : rd h 98 = some (.inr (9, [.int (nI σ.1.1), .int (nI σ.1.2.1), .ref 99, .ref 100, .ref 101, .int (nI σ.1.2.2.2.1), .ref 102, .int (nI ((σ.2.2.2.1).length)), .ref 103, .ref 104, .ref 105, .int fo, .int as_, .int sm, .int sk, .ref 106, .ref 107, .ref 108, .int z, .ref 109, .ref 110, .ref 111, .int (nI σ.2.1.1), .ref 112, .ref 113, .ref 114, .ref 115, .ref 116, .int (nI (bI σ.2.2.2.2.1.isSome)), .int iN, .int iM, .int iT, .ref 117, .ref 118, .ref 119])) := mO
  obtain ⟨mP, lP⟩ := mP
  obtain ⟨mRo, lRo⟩ := mRo
  obtain ⟨mU, lU⟩ := mU
  obtain ⟨mrf, lrf⟩ := mrf
  obtain ⟨mWM, lWM⟩ := mWM
  obtain ⟨mWP, lWP⟩ := mWP
  obtain ⟨mWR, lWR⟩ := mWR
  obtain ⟨mTr, lTr⟩ := mTr
  obtain ⟨mKe, lKe⟩ := mKe
  obtain ⟨mCo, lCo⟩ := mCo
  obtain ⟨mTh, lTh⟩ := mTh
  obtain ⟨mBe, lBe⟩ := mBe
  obtain ⟨mLe, lLe⟩ := mLe
  obtain ⟨mAP, lAP⟩ := mAP
  obtain ⟨mAR, lAR⟩ := mAR
  obtain ⟨mAU, lAU⟩ := mAU
  obtain ⟨mSz, lSz⟩ := mSz
  obtain ⟨mIt, lIt⟩ := mIt
  obtain ⟨mIP, lIP⟩ := mIP
  obtain ⟨mIR, lIR⟩ := mIR
  obtain ⟨mIU, lIU⟩ := mIU
  obtain ⟨okc, ⟨okl, okw⟩, okn, ⟨okh, oke⟩, oki, okr⟩ := id ok
  obtain ⟨k1, k2, k3, k4, k5, k6, k7, k8, k9⟩ := id okc
  refine Ev.of pX9_faults (Nat.le_of_ble_eq_true rfl) ?_
  show G mX9_faults (rmD 3 0 0) none _ 0 0 0 [(0, .ref 98), (1, .int w), (2, .int k)] [] h
  refine g_iload_n dX9_faults_0 1 rfl ?_
  refine g_i2l dX9_faults_1 rfl ?_
  refine g_lconst (v := lN 0) dX9_faults_2 rfl ?_
  refine g_ldc2 dX9_faults_3 wlX9_207 ?_
  refine g_callSp dX9_faults_6 (ev_inN (w) (0) (2) (by omega) (by omega) _) oX9_in wsX9_in wmX9_98 rfl ⟨(Nat.le_of_ble_eq_true rfl), (Nat.le_of_ble_eq_true rfl)⟩ ⟨Nat.zero_le _, Nat.zero_le _⟩ (Nat.le_of_ble_eq_true rfl) rfl ?_
  refine g_if_neB 19 dX9_faults_9 (by decide) (fun c9 => ?_) (fun c9 => ?_)
  · rw [show oFaults σ w k = _ from if_neg (in4_t c9)]
    have n1 := of_decide_eq_true c9
    obtain ⟨w1, hw1, rfl⟩ := nn_of n1.1
    rw [cl_ hw1]
    have b2 : w1 ≤ 2 := (nI_leI hw1 (by omega)).mp n1.2
    refine g_iload_n dX9_faults_19 1 rfl ?_
    refine g_iconst (v := nI 2) dX9_faults_20 (by decide +kernel) ?_
    refine g_icmp_geN 46 dX9_faults_21 (by decide) (by omega) (by omega) (fun c21 => ?_) (fun c21 => ?_)
    · refine g_iload_n dX9_faults_46 1 rfl ?_
      refine g_iconst (v := nI 2) dX9_faults_47 (by decide +kernel) ?_
      refine g_icmp_neN 58 dX9_faults_48 (by decide) (by omega) (by omega) (fun z => absurd z (by omega)) (fun c48 => ?_)
      rw [if_pos c48, show pfR σ.1.1 σ.1.2.2.2.2.2 = nI (pfM σ.1.1 σ.1.2.2.2.2.2) from (pfM_eq k2 k8).1]
      refine g_aload_n dX9_faults_51 0 rfl ?_
      refine g_callVp dX9_faults_52 (ev_mpf (show MO h _ _ _ _ _ _ _ _ _ _ _ _ _ _ from mO) mRo lRo vR k2 k8 k1) oX9_pairFaults wiX9_pairFaults weX9_pairFaults wmX9_209 kX9 (mO) rfl ⟨(Nat.le_of_ble_eq_true rfl), (Nat.le_of_ble_eq_true rfl)⟩ ⟨Nat.zero_le _, Nat.zero_le _⟩ (Nat.le_of_ble_eq_true rfl) rfl ?_
      refine g_goto 64 dX9_faults_55 (by decide) ?_
      exact g_iret dX9_faults_64 rfl ⟨Nat.zero_le _, Nat.zero_le _⟩ (⟨rfl, ⟨_, _, _, _, _, _, _, _, _, _, _, _, _, _, _, _, _, _, _, _, _, _, _, _, _, _, _, _, _, mO, ⟨mP, lP⟩, ⟨mRo, lRo⟩, ⟨mU, lU⟩, ⟨mrf, lrf⟩, ⟨mWM, lWM⟩, ⟨mWP, lWP⟩, ⟨mWR, lWR⟩, ⟨mTr, lTr⟩, ⟨mKe, lKe⟩, ⟨mCo, lCo⟩, ⟨mTh, lTh⟩, ⟨mBe, lBe⟩, ⟨mLe, lLe⟩, ⟨mAP, lAP⟩, ⟨mAR, lAR⟩, ⟨mAU, lAU⟩, ⟨mSz, lSz⟩, ⟨mIt, lIt⟩, ⟨mIP, lIP⟩, ⟨mIR, lIR⟩, ⟨mIU, lIU⟩, vP, vR, vU, vF, vH, vL, vS, vI, vG⟩, Smo.rf⟩)
    · refine g_iload_n dX9_faults_24 2 rfl ?_
      refine g_i2l dX9_faults_25 rfl ?_
      refine g_lconst (v := lN 0) dX9_faults_26 rfl ?_
      refine g_aload_n dX9_faults_27 0 rfl ?_
      refine g_getf dX9_faults_28 kX9 wfX9_7 (Nat.le_of_ble_eq_true rfl) (mO) rfl ?_
      refine g_iconst (v := nI 1) dX9_faults_31 (by decide +kernel) ?_
      refine g_isubN dX9_faults_32 (by omega) ?_
      refine g_i2l (v := lN (σ.1.1 - 1)) dX9_faults_33 (nI_l (by omega)) ?_
      refine g_callSp dX9_faults_34 (ev_inN k 0 (σ.1.1 - 1) (by decide) (by omega) _) oX9_in wsX9_in wmX9_98 rfl ⟨(Nat.le_of_ble_eq_true rfl), (Nat.le_of_ble_eq_true rfl)⟩ ⟨Nat.zero_le _, Nat.zero_le _⟩ (Nat.le_of_ble_eq_true rfl) rfl ?_
      refine g_top (congrArg (fun z => nI (bI z)) (isN_eq (by omega) k2)) ?_
      refine g_if_neB 46 dX9_faults_37 (by decide) (fun c37 => ?_) (fun c37 => ?_)
      · refine g_iload_n dX9_faults_46 1 rfl ?_
        refine g_iconst (v := nI 2) dX9_faults_47 (by decide +kernel) ?_
        refine g_icmp_neN 58 dX9_faults_48 (by decide) (by omega) (by omega) (fun c48 => ?_) (fun z => absurd z (by omega))
        rw [if_neg c48, if_neg (kn_t c37)]
        have n2 := of_decide_eq_true c37
        clear c37
        obtain ⟨x1, hx1, rfl⟩ := nn_of n2.1
        rw [cl_ hx1, lnF_gW]
        have b3 := nn_lt hx1 (by omega) n2.2
        refine g_aload_n dX9_faults_58 0 rfl ?_
        refine g_iload_n dX9_faults_59 1 rfl ?_
        refine g_iload_n dX9_faults_60 2 rfl ?_
        refine g_callVq (st1 := [.int (nI (lnF σ.1.1 (gW w1 x1 σ.1.2.2.2.2.2)))]) dX9_faults_61 (ev_mline (show MO h _ _ _ _ _ _ _ _ _ _ _ _ _ _ from mO) mRo lRo vR k2 k8 mCo lCo (w := w1) (u := x1) (by omega) (by omega)) oX9_lineFaults wiX9_lineFaults weX9_lineFaults wmX9_212 kX9 (mO) rfl ⟨(Nat.le_of_ble_eq_true rfl), (Nat.le_of_ble_eq_true rfl)⟩ ⟨Nat.zero_le _, Nat.zero_le _⟩ (Nat.le_of_ble_eq_true rfl) rfl rfl (fun h1 q1 => ?_)
        obtain ⟨Cx, q1a, q1l, q1s⟩ := q1
        have f1_98 : rd h1 98 = some (.inr (9, [.int (nI σ.1.1), .int (nI σ.1.2.1), .ref 99, .ref 100, .ref 101, .int (nI σ.1.2.2.2.1), .ref 102, .int (nI ((σ.2.2.2.1).length)), .ref 103, .ref 104, .ref 105, .int fo, .int as_, .int sm, .int sk, .ref 106, .ref 107, .ref 108, .int z, .ref 109, .ref 110, .ref 111, .int (nI σ.2.1.1), .ref 112, .ref 113, .ref 114, .ref 115, .ref 116, .int (nI (bI σ.2.2.2.2.1.isSome)), .int iN, .int iM, .int iT, .ref 117, .ref 118, .ref 119])) := by rw [q1s _ (by omega)]; exact mO
        have f1_99 : rd h1 99 = some (.inl (P)) := by rw [q1s _ (by omega)]; exact mP
        have f1_100 : rd h1 100 = some (.inl (Ro)) := by rw [q1s _ (by omega)]; exact mRo
        have f1_101 : rd h1 101 = some (.inl (U)) := by rw [q1s _ (by omega)]; exact mU
        have f1_102 : rd h1 102 = some (.inl (rf)) := by rw [q1s _ (by omega)]; exact mrf
        have f1_103 : rd h1 103 = some (.inl (WM)) := by rw [q1s _ (by omega)]; exact mWM
        have f1_104 : rd h1 104 = some (.inl (WP)) := by rw [q1s _ (by omega)]; exact mWP
        have f1_105 : rd h1 105 = some (.inl (WR)) := by rw [q1s _ (by omega)]; exact mWR
        have f1_106 : rd h1 106 = some (.inl (Tr)) := by rw [q1s _ (by omega)]; exact mTr
        have f1_107 : rd h1 107 = some (.inl (Ke)) := by rw [q1s _ (by omega)]; exact mKe
        have f1_109 : rd h1 109 = some (.inl (Th)) := by rw [q1s _ (by omega)]; exact mTh
        have f1_110 : rd h1 110 = some (.inl (Be)) := by rw [q1s _ (by omega)]; exact mBe
        have f1_111 : rd h1 111 = some (.inl (Le)) := by rw [q1s _ (by omega)]; exact mLe
        have f1_112 : rd h1 112 = some (.inl (AP)) := by rw [q1s _ (by omega)]; exact mAP
        have f1_113 : rd h1 113 = some (.inl (AR)) := by rw [q1s _ (by omega)]; exact mAR
        have f1_114 : rd h1 114 = some (.inl (AU)) := by rw [q1s _ (by omega)]; exact mAU
        have f1_115 : rd h1 115 = some (.inl (Sz)) := by rw [q1s _ (by omega)]; exact mSz
        have f1_116 : rd h1 116 = some (.inl (It)) := by rw [q1s _ (by omega)]; exact mIt
        have f1_117 : rd h1 117 = some (.inl (IP)) := by rw [q1s _ (by omega)]; exact mIP
        have f1_118 : rd h1 118 = some (.inl (IR)) := by rw [q1s _ (by omega)]; exact mIR
        have f1_119 : rd h1 119 = some (.inl (IU)) := by rw [q1s _ (by omega)]; exact mIU
        exact g_iret dX9_faults_64 rfl ⟨Nat.zero_le _, Nat.zero_le _⟩ (⟨rfl, ⟨_, _, _, _, _, _, _, _, _, _, _, _, _, _, _, _, _, _, _, _, _, _, _, _, _, _, _, _, _, f1_98, ⟨f1_99, lP⟩, ⟨f1_100, lRo⟩, ⟨f1_101, lU⟩, ⟨f1_102, lrf⟩, ⟨f1_103, lWM⟩, ⟨f1_104, lWP⟩, ⟨f1_105, lWR⟩, ⟨f1_106, lTr⟩, ⟨f1_107, lKe⟩, ⟨q1a, q1l⟩, ⟨f1_109, lTh⟩, ⟨f1_110, lBe⟩, ⟨f1_111, lLe⟩, ⟨f1_112, lAP⟩, ⟨f1_113, lAR⟩, ⟨f1_114, lAU⟩, ⟨f1_115, lSz⟩, ⟨f1_116, lIt⟩, ⟨f1_117, lIP⟩, ⟨f1_118, lIR⟩, ⟨f1_119, lIU⟩, vP, vR, vU, vF, vH, vL, vS, vI, vG⟩, (fun q hq => by rw [q1s q (by omega)])⟩)
      · refine g_aload_n dX9_faults_40 0 rfl ?_
        refine g_iconst (v := (-1)) dX9_faults_41 (by decide +kernel) ?_
        rw [if_neg (show ¬ w1 = 2 by omega), if_pos (kn_f c37)]
        refine g_callVq (st1 := [.int (-nI 1)]) dX9_faults_42 (ev_refused H ok 1 (by unfold noN; omega)) oX9_refused wiX9_refused weX9_refused wmX9_90 kX9 (mO) rfl ⟨(Nat.le_of_ble_eq_true rfl), (Nat.le_of_ble_eq_true rfl)⟩ ⟨Nat.zero_le _, Nat.zero_le _⟩ (Nat.le_of_ble_eq_true rfl) rfl rfl (fun h2 q2 => ?_)
        exact g_iret dX9_faults_45 rfl ⟨Nat.zero_le _, Nat.zero_le _⟩ (⟨rfl, q2⟩)
  · refine g_aload_n dX9_faults_12 0 rfl ?_
    refine g_bipush (v := (-2)) dX9_faults_13 (by decide +kernel) ?_
    rw [show oFaults σ w k = rfS σ (-2) from if_pos (in4_f c9)]
    refine g_callVq (st1 := [.int (-nI 2)]) dX9_faults_15 (ev_refused H ok 2 (by unfold noN; omega)) oX9_refused wiX9_refused weX9_refused wmX9_90 kX9 (mO) rfl ⟨(Nat.le_of_ble_eq_true rfl), (Nat.le_of_ble_eq_true rfl)⟩ ⟨Nat.zero_le _, Nat.zero_le _⟩ (Nat.le_of_ble_eq_true rfl) rfl rfl (fun h3 q3 => ?_)
    exact g_iret dX9_faults_18 rfl ⟨Nat.zero_le _, Nat.zero_le _⟩ (⟨rfl, q3⟩)

set_option maxRecDepth 100000 in
set_option maxHeartbeats 4000000 in
theorem lp_mindeed {h0 : List aC} {n m a de : Nat} {fo as_ sm sk z : Int32} {am : Nat} {ib : Bool} {iN iM iT : Int32} (n3 : n ≤ 13) {Ro : List Int32} (hRo : rd h0 100 = some (.inl Ro)) (lRo : Ro.length = 338) {rm : Nat → Nat → Nat} (vRo : rR Ro 0 rm) (k8 : ∀ a b, a < n → b < n → okC n (rm a b)) (pl : pfM n rm ≤ 91) : ∀ j k (h : List aC) (R : List Int32), k + j = n → MO h n m a de fo as_ sm sk z am ib iN iM iT → rd h 108 = some (.inl R) → R.length = 196 → Smo 108 109 h0 h → G mX9_indeed (rmD 3 0 0) none (pq (some (.int (nI (bI (decide (pfM n rm + sIn n rm n = 0)))))) (fun h2 => ∃ C2, rd h2 108 = some (.inl C2) ∧ C2.length = 196 ∧ Smo 108 109 h0 h2)) 0 0 7 [(2, .int (nI k)), (1, .int (nI (pfM n rm + sIn n rm k))), (0, .ref 98)] [] h := by
  intro j
  induction j with
  | zero =>
    intro k h R hk hO hR lR hS
    have hO : rd h 98 = some (.inr (9, [.int (nI n), .int (nI m), .ref 99, .ref 100, .ref 101, .int (nI a), .ref 102, .int (nI de), .ref 103, .ref 104, .ref 105, .int fo, .int as_, .int sm, .int sk, .ref 106, .ref 107, .ref 108, .int z, .ref 109, .ref 110, .ref 111, .int (nI am), .ref 112, .ref 113, .ref 114, .ref 115, .ref 116, .int (nI (bI ib)), .int iN, .int iM, .int iT, .ref 117, .ref 118, .ref 119])) := hO
    have sl := sIn_le n rm k
    have sl2 : k * (2 * (n + 1)) ≤ 13 * 28 := Nat.mul_le_mul (by omega) (by omega)
    have a0 := lnF_le n (gW 0 k rm)
    have a1 := lnF_le n (gW 1 k rm)
    refine g_iload_n dX9_indeed_7 0 rfl ?_
    refine g_aload_n dX9_indeed_8 2 rfl ?_
    refine g_getf dX9_indeed_9 kX9 wfX9_7 (Nat.le_of_ble_eq_true rfl) (hO) rfl ?_
    refine g_icmp_geN 37 dX9_indeed_12 (by decide) (by omega) (by omega) (fun c12 => ?_) (fun z => absurd z (by omega))
    refine g_iload_n dX9_indeed_37 1 rfl ?_
    refine g_if_neN 45 dX9_indeed_38 (by decide) (by omega) (fun c38 => ?_) (fun c38 => ?_)
    · refine g_iconst (v := nI 0) dX9_indeed_45 (by decide +kernel) ?_
      exact g_iret dX9_indeed_46 rfl ⟨Nat.zero_le _, Nat.zero_le _⟩ (by obtain rfl : k = n := (by omega); exact ⟨by rw [decide_eq_false (by omega)]; rfl, _, hR, lR, hS⟩)
    · refine g_iconst (v := nI 1) dX9_indeed_41 (by decide +kernel) ?_
      refine g_goto 46 dX9_indeed_42 (by decide) ?_
      exact g_iret dX9_indeed_46 rfl ⟨Nat.zero_le _, Nat.zero_le _⟩ (by obtain rfl : k = n := (by omega); exact ⟨by rw [decide_eq_true c38]; rfl, _, hR, lR, hS⟩)
  | succ j ih =>
    intro k h R hk hO hR lR hS
    have hO : rd h 98 = some (.inr (9, [.int (nI n), .int (nI m), .ref 99, .ref 100, .ref 101, .int (nI a), .ref 102, .int (nI de), .ref 103, .ref 104, .ref 105, .int fo, .int as_, .int sm, .int sk, .ref 106, .ref 107, .ref 108, .int z, .ref 109, .ref 110, .ref 111, .int (nI am), .ref 112, .ref 113, .ref 114, .ref 115, .ref 116, .int (nI (bI ib)), .int iN, .int iM, .int iT, .ref 117, .ref 118, .ref 119])) := hO
    have sl := sIn_le n rm k
    have sl2 : k * (2 * (n + 1)) ≤ 13 * 28 := Nat.mul_le_mul (by omega) (by omega)
    have a0 := lnF_le n (gW 0 k rm)
    have a1 := lnF_le n (gW 1 k rm)
    refine g_iload_n dX9_indeed_7 0 rfl ?_
    refine g_aload_n dX9_indeed_8 2 rfl ?_
    refine g_getf dX9_indeed_9 kX9 wfX9_7 (Nat.le_of_ble_eq_true rfl) (hO) rfl ?_
    refine g_icmp_geN 37 dX9_indeed_12 (by decide) (by omega) (by omega) (fun z => absurd z (by omega)) (fun c12 => ?_)
    refine g_iload_n dX9_indeed_15 1 rfl ?_
    refine g_aload_n dX9_indeed_16 2 rfl ?_
    refine g_iconst (v := nI 0) dX9_indeed_17 (by decide +kernel) ?_
    refine g_iload_n dX9_indeed_18 0 rfl ?_
    refine g_callVq (st1 := [.int (nI (lnF n (gW 0 k rm))), .int (nI (pfM n rm + sIn n rm k))]) dX9_indeed_19 (ev_mline (show MO h _ _ _ _ _ _ _ _ _ _ _ _ _ _ from hO) ((show rd h 100 = some (.inl Ro) by rw [hS 100 (by omega)]; exact hRo)) lRo vRo n3 k8 hR lR (w := 0) (u := k) (by omega) (by omega)) oX9_lineFaults wiX9_lineFaults weX9_lineFaults wmX9_212 kX9 (hO) rfl ⟨(Nat.le_of_ble_eq_true rfl), (Nat.le_of_ble_eq_true rfl)⟩ ⟨Nat.zero_le _, Nat.zero_le _⟩ (Nat.le_of_ble_eq_true rfl) rfl rfl (fun h1 q1 => ?_)
    obtain ⟨C1, q1a, q1l, q1s⟩ := q1
    have f1_98 : rd h1 98 = some (.inr (9, [.int (nI n), .int (nI m), .ref 99, .ref 100, .ref 101, .int (nI a), .ref 102, .int (nI de), .ref 103, .ref 104, .ref 105, .int fo, .int as_, .int sm, .int sk, .ref 106, .ref 107, .ref 108, .int z, .ref 109, .ref 110, .ref 111, .int (nI am), .ref 112, .ref 113, .ref 114, .ref 115, .ref 116, .int (nI (bI ib)), .int iN, .int iM, .int iT, .ref 117, .ref 118, .ref 119])) := by rw [q1s _ (by omega)]; exact hO
    have f1_100 : rd h1 100 = some (.inl (Ro)) := by rw [q1s _ (by omega)]; exact (show rd h 100 = some (.inl Ro) by rw [hS 100 (by omega)]; exact hRo)
    refine g_aload_n dX9_indeed_22 2 rfl ?_
    refine g_iconst (v := nI 1) dX9_indeed_23 (by decide +kernel) ?_
    refine g_iload_n dX9_indeed_24 0 rfl ?_
    refine g_callVq (st1 := [.int (nI (lnF n (gW 1 k rm))), .int (nI (lnF n (gW 0 k rm))), .int (nI (pfM n rm + sIn n rm k))]) dX9_indeed_25 (ev_mline (show MO h1 _ _ _ _ _ _ _ _ _ _ _ _ _ _ from f1_98) (f1_100) lRo vRo n3 k8 q1a q1l (w := 1) (u := k) (by omega) (by omega)) oX9_lineFaults wiX9_lineFaults weX9_lineFaults wmX9_212 kX9 (f1_98) rfl ⟨(Nat.le_of_ble_eq_true rfl), (Nat.le_of_ble_eq_true rfl)⟩ ⟨Nat.zero_le _, Nat.zero_le _⟩ (Nat.le_of_ble_eq_true rfl) rfl rfl (fun h2 q2 => ?_)
    obtain ⟨C2, q2a, q2l, q2s⟩ := q2
    have f2_98 : rd h2 98 = some (.inr (9, [.int (nI n), .int (nI m), .ref 99, .ref 100, .ref 101, .int (nI a), .ref 102, .int (nI de), .ref 103, .ref 104, .ref 105, .int fo, .int as_, .int sm, .int sk, .ref 106, .ref 107, .ref 108, .int z, .ref 109, .ref 110, .ref 111, .int (nI am), .ref 112, .ref 113, .ref 114, .ref 115, .ref 116, .int (nI (bI ib)), .int iN, .int iM, .int iT, .ref 117, .ref 118, .ref 119])) := by rw [q2s _ (by omega)]; exact f1_98
    have f2_100 : rd h2 100 = some (.inl (Ro)) := by rw [q2s _ (by omega)]; exact f1_100
    refine g_iaddN dX9_indeed_28 ?_
    refine g_iaddN dX9_indeed_29 ?_
    refine g_top (show nI ((pfM n rm + sIn n rm k) + ((lnF n (gW 0 k rm)) + (lnF n (gW 1 k rm)))) = nI (pfM n rm + sIn n rm (k + 1)) from congrArg nI (by show (pfM n rm + sIn n rm k) + (lnF n (gW 0 k rm) + lnF n (gW 1 k rm)) = pfM n rm + (sIn n rm k + (lnF n (gW 0 k rm) + lnF n (gW 1 k rm))); omega)) ?_
    refine g_istore_n (ls' := [(1, .int (nI (pfM n rm + sIn n rm (k + 1)))), (2, .int (nI k)), (0, .ref 98)]) dX9_indeed_30 (Nat.le_of_ble_eq_true rfl) rfl ?_
    refine g_iinc (q := 1) (v := nI (k + 1)) (ls' := [(2, .int (nI (k + 1))), (1, .int (nI (pfM n rm + sIn n rm (k + 1)))), (0, .ref 98)]) dX9_indeed_31 rfl (inc1 _) (Nat.le_of_ble_eq_true rfl) rfl ?_
    refine g_goto 7 dX9_indeed_34 (by decide) ?_
    exact ih (k + 1) _ _ (by omega) f2_98 q2a (q2l) (hS.tr (fun q hq => by rw [q2s q (by omega), q1s q (by omega)]))

set_option maxRecDepth 100000 in
set_option maxHeartbeats 4000000 in
theorem ev_y_indeed {h : List aC} {σ : Sg} (H : RM h σ) (ok : okSg σ) : Ev mX9_indeed 3 0 0 [.ref 98] h (spM h (oIndeed σ)) := by
  obtain ⟨fo, as_, sm, sk, z, iN, iM, iT, P, Ro, U, rf, WM, WP, WR, Tr, Ke, Co, Th, Be, Le, AP, AR, AU, Sz, It, IP, IR, IU, mO, mP, mRo, mU, mrf, mWM, mWP, mWR, mTr, mKe, mCo, mTh, mBe, mLe, mAP, mAR, mAU, mSz, mIt, mIP, mIR, mIU, vP, vR, vU, vF, vH, vL, vS, vI, vG⟩ := id H
  have mO : rd h 98 = some (.inr (9, [.int (nI σ.1.1), .int (nI σ.1.2.1), .ref 99, .ref 100, .ref 101, .int (nI σ.1.2.2.2.1), .ref 102, .int (nI ((σ.2.2.2.1).length)), .ref 103, .ref 104, .ref 105, .int fo, .int as_, .int sm, .int sk, .ref 106, .ref 107, .ref 108, .int z, .ref 109, .ref 110, .ref 111, .int (nI σ.2.1.1), .ref 112, .ref 113, .ref 114, .ref 115, .ref 116, .int (nI (bI σ.2.2.2.2.1.isSome)), .int iN, .int iM, .int iT, .ref 117, .ref 118, .ref 119])) := mO
  obtain ⟨mP, lP⟩ := mP
  obtain ⟨mRo, lRo⟩ := mRo
  obtain ⟨mU, lU⟩ := mU
  obtain ⟨mrf, lrf⟩ := mrf
  obtain ⟨mWM, lWM⟩ := mWM
  obtain ⟨mWP, lWP⟩ := mWP
  obtain ⟨mWR, lWR⟩ := mWR
  obtain ⟨mTr, lTr⟩ := mTr
  obtain ⟨mKe, lKe⟩ := mKe
  obtain ⟨mCo, lCo⟩ := mCo
  obtain ⟨mTh, lTh⟩ := mTh
  obtain ⟨mBe, lBe⟩ := mBe
  obtain ⟨mLe, lLe⟩ := mLe
  obtain ⟨mAP, lAP⟩ := mAP
  obtain ⟨mAR, lAR⟩ := mAR
  obtain ⟨mAU, lAU⟩ := mAU
  obtain ⟨mSz, lSz⟩ := mSz
  obtain ⟨mIt, lIt⟩ := mIt
  obtain ⟨mIP, lIP⟩ := mIP
  obtain ⟨mIR, lIR⟩ := mIR
  obtain ⟨mIU, lIU⟩ := mIU
  obtain ⟨okc, ⟨okl, okw⟩, okn, ⟨okh, oke⟩, oki, okr⟩ := id ok
  obtain ⟨k1, k2, k3, k4, k5, k6, k7, k8, k9⟩ := id okc
  refine Ev.of pX9_indeed (Nat.le_of_ble_eq_true rfl) ?_
  show G mX9_indeed (rmD 3 0 0) none _ 0 0 0 [(0, .ref 98)] [] h
  refine g_aload_n dX9_indeed_0 0 rfl ?_
  refine g_callVp dX9_indeed_1 (ev_mpf (show MO h _ _ _ _ _ _ _ _ _ _ _ _ _ _ from mO) mRo lRo vR k2 k8 k1) oX9_pairFaults wiX9_pairFaults weX9_pairFaults wmX9_209 kX9 (mO) rfl ⟨(Nat.le_of_ble_eq_true rfl), (Nat.le_of_ble_eq_true rfl)⟩ ⟨Nat.zero_le _, Nat.zero_le _⟩ (Nat.le_of_ble_eq_true rfl) rfl ?_
  refine g_istore_n (ls' := [(1, .int (nI (pfM σ.1.1 σ.1.2.2.2.2.2))), (0, .ref 98)]) dX9_indeed_4 (Nat.le_of_ble_eq_true rfl) rfl ?_
  refine g_iconst (v := nI 0) dX9_indeed_5 (by decide +kernel) ?_
  refine g_istore_n (ls' := [(2, .int (nI 0)), (1, .int (nI (pfM σ.1.1 σ.1.2.2.2.2.2))), (0, .ref 98)]) dX9_indeed_6 (Nat.le_of_ble_eq_true rfl) rfl ?_
  refine (lp_mindeed k2 mRo lRo vR k8 (pfM_eq k2 k8).2 σ.1.1 0 _ _ (by omega) (show MO h _ _ _ _ _ _ _ _ _ _ _ _ _ _ from mO) mCo lCo Smo.rf).mono ?_
  rintro w h1 ⟨rfl, C2, q8, l8, s8⟩
  have f8_98 : rd h1 98 = some (.inr (9, [.int (nI σ.1.1), .int (nI σ.1.2.1), .ref 99, .ref 100, .ref 101, .int (nI σ.1.2.2.2.1), .ref 102, .int (nI ((σ.2.2.2.1).length)), .ref 103, .ref 104, .ref 105, .int fo, .int as_, .int sm, .int sk, .ref 106, .ref 107, .ref 108, .int z, .ref 109, .ref 110, .ref 111, .int (nI σ.2.1.1), .ref 112, .ref 113, .ref 114, .ref 115, .ref 116, .int (nI (bI σ.2.2.2.2.1.isSome)), .int iN, .int iM, .int iT, .ref 117, .ref 118, .ref 119])) := by rw [s8 _ (by omega)]; exact mO
  have f8_99 : rd h1 99 = some (.inl (P)) := by rw [s8 _ (by omega)]; exact mP
  have f8_100 : rd h1 100 = some (.inl (Ro)) := by rw [s8 _ (by omega)]; exact mRo
  have f8_101 : rd h1 101 = some (.inl (U)) := by rw [s8 _ (by omega)]; exact mU
  have f8_102 : rd h1 102 = some (.inl (rf)) := by rw [s8 _ (by omega)]; exact mrf
  have f8_103 : rd h1 103 = some (.inl (WM)) := by rw [s8 _ (by omega)]; exact mWM
  have f8_104 : rd h1 104 = some (.inl (WP)) := by rw [s8 _ (by omega)]; exact mWP
  have f8_105 : rd h1 105 = some (.inl (WR)) := by rw [s8 _ (by omega)]; exact mWR
  have f8_106 : rd h1 106 = some (.inl (Tr)) := by rw [s8 _ (by omega)]; exact mTr
  have f8_107 : rd h1 107 = some (.inl (Ke)) := by rw [s8 _ (by omega)]; exact mKe
  have f8_109 : rd h1 109 = some (.inl (Th)) := by rw [s8 _ (by omega)]; exact mTh
  have f8_110 : rd h1 110 = some (.inl (Be)) := by rw [s8 _ (by omega)]; exact mBe
  have f8_111 : rd h1 111 = some (.inl (Le)) := by rw [s8 _ (by omega)]; exact mLe
  have f8_112 : rd h1 112 = some (.inl (AP)) := by rw [s8 _ (by omega)]; exact mAP
  have f8_113 : rd h1 113 = some (.inl (AR)) := by rw [s8 _ (by omega)]; exact mAR
  have f8_114 : rd h1 114 = some (.inl (AU)) := by rw [s8 _ (by omega)]; exact mAU
  have f8_115 : rd h1 115 = some (.inl (Sz)) := by rw [s8 _ (by omega)]; exact mSz
  have f8_116 : rd h1 116 = some (.inl (It)) := by rw [s8 _ (by omega)]; exact mIt
  have f8_117 : rd h1 117 = some (.inl (IP)) := by rw [s8 _ (by omega)]; exact mIP
  have f8_118 : rd h1 118 = some (.inl (IR)) := by rw [s8 _ (by omega)]; exact mIR
  have f8_119 : rd h1 119 = some (.inl (IU)) := by rw [s8 _ (by omega)]; exact mIU
  exact ⟨by show some (Value.int _) = some (Value.int (nI (bI (inR σ.1.1 σ.1.2.2.2.2.2)))); rw [in_link k2 k8], ⟨_, _, _, _, _, _, _, _, _, _, _, _, _, _, _, _, _, _, _, _, _, _, _, _, _, _, _, _, _, f8_98, ⟨f8_99, lP⟩, ⟨f8_100, lRo⟩, ⟨f8_101, lU⟩, ⟨f8_102, lrf⟩, ⟨f8_103, lWM⟩, ⟨f8_104, lWP⟩, ⟨f8_105, lWR⟩, ⟨f8_106, lTr⟩, ⟨f8_107, lKe⟩, ⟨q8, l8⟩, ⟨f8_109, lTh⟩, ⟨f8_110, lBe⟩, ⟨f8_111, lLe⟩, ⟨f8_112, lAP⟩, ⟨f8_113, lAR⟩, ⟨f8_114, lAU⟩, ⟨f8_115, lSz⟩, ⟨f8_116, lIt⟩, ⟨f8_117, lIP⟩, ⟨f8_118, lIR⟩, ⟨f8_119, lIU⟩, vP, vR, vU, vF, vH, vL, vS, vI, vG⟩, (fun q hq => by rw [s8 q (by omega)])⟩
