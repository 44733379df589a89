theorem neg1_ne {k : Nat} (h : k < 2 ^ 31) : ¬ (-1 : Int32) = nI k := fun e => by
  have z := congrArg Int32.toInt e
  rw [nI_toInt h, show (-1 : Int32).toInt = -1 by decide] at z
  omega
theorem cod_iff {v x y : Nat} (hv : v < 196) (hx : x ≤ 13) (hy : y ≤ 13) (ne : x ≠ y) : v = cod x y ↔ (xV v = nI (min x y) ∧ yV v = nI (max x y)) := by
  unfold xV yV
  by_cases q : v = 0
  · rw [if_pos q]
    constructor
    · intro e; unfold cod at e; omega
    · intro e; exact absurd e.1 (neg1_ne (by omega))
  · rw [if_neg q, if_neg q, nI_eq (by omega) (by omega), nI_eq (by omega) (by omega)]
    unfold cod
    omega

set_option maxRecDepth 100000 in
set_option maxHeartbeats 4000000 in
theorem lp_mwhI {h : List aC} {P : Option Value → List aC → Prop} {n m a de : Nat} {fo as_ sm sk z : Int32} {am : Nat} {ib : Bool} {iN iM iT : Int32} (hO : MO h n m a de fo as_ sm sk z am ib iN iM iT) {Ro : List Int32} (hR : rd h 100 = some (.inl Ro)) (lR : Ro.length = 338) {rm : Nat → Nat → Nat} (vR : rR Ro 0 rm) (n3 : n ≤ 13) (lt : ∀ a b, a < n → b < n → rm a b < 196) {x y : Nat} (hx : x ≤ n) (hy : y ≤ n) (ne : x ≠ y) (r : Nat) (hr : r < n) : ∀ j k , k + j = n → (sc1 ((fun a b => decide (rm a b = cod x y)) r) (100 * r) j k = none → G mX9_where (rmD 3 0 0) none P 0 0 128 [(4, .int (nI n)), (3, .int (nI r)), (0, .ref 98), (1, .int (nI x)), (2, .int (nI y))] [] h) → (∀ v, sc1 ((fun a b => decide (rm a b = cod x y)) r) (100 * r) j k = some v → P (some (.int (nI v))) h) → G mX9_where (rmD 3 0 0) none P 0 0 63 [(4, .int (nI k)), (3, .int (nI r)), (0, .ref 98), (1, .int (nI x)), (2, .int (nI y))] [] h := by
  intro j
  induction j with
  | zero =>
    intro k  hk KN KS
    have hO : rd h 98 = some (.inr (9, [.int (nI n), .int (nI m), .ref 99, .ref 100, .ref 101, .int (nI a), .ref 102, .int (nI de), .ref 103, .ref 104, .ref 105, .int fo, .int as_, .int sm, .int sk, .ref 106, .ref 107, .ref 108, .int z, .ref 109, .ref 110, .ref 111, .int (nI am), .ref 112, .ref 113, .ref 114, .ref 115, .ref 116, .int (nI (bI ib)), .int iN, .int iM, .int iT, .ref 117, .ref 118, .ref 119])) := hO
    refine g_iload dX9_where_63 0 rfl ?_
    refine g_aload_n dX9_where_65 2 rfl ?_
    refine g_getf dX9_where_66 kX9 wfX9_7 (Nat.le_of_ble_eq_true rfl) (hO) rfl ?_
    refine g_icmp_geN 128 dX9_where_69 (by decide) (by omega) (by omega) (fun c69 => ?_) (fun z => absurd z (by omega))
    have ek : k = n := by omega
    subst ek
    exact KN rfl
  | succ j ih =>
    intro k  hk KN KS
    have hO : rd h 98 = some (.inr (9, [.int (nI n), .int (nI m), .ref 99, .ref 100, .ref 101, .int (nI a), .ref 102, .int (nI de), .ref 103, .ref 104, .ref 105, .int fo, .int as_, .int sm, .int sk, .ref 106, .ref 107, .ref 108, .int z, .ref 109, .ref 110, .ref 111, .int (nI am), .ref 112, .ref 113, .ref 114, .ref 115, .ref 116, .int (nI (bI ib)), .int iN, .int iM, .int iT, .ref 117, .ref 118, .ref 119])) := hO
    refine g_iload dX9_where_63 0 rfl ?_
    refine g_aload_n dX9_where_65 2 rfl ?_
    refine g_getf dX9_where_66 kX9 wfX9_7 (Nat.le_of_ble_eq_true rfl) (hO) rfl ?_
    refine g_icmp_geN 128 dX9_where_69 (by decide) (by omega) (by omega) (fun z => absurd z (by omega)) (fun c69 => ?_)
    refine g_aload_n dX9_where_72 2 rfl ?_
    refine g_getf dX9_where_73 kX9 wfX9_17 (Nat.le_of_ble_eq_true rfl) (hO) rfl ?_
    refine g_aload_n dX9_where_76 2 rfl ?_
    refine g_iload_n dX9_where_77 1 rfl ?_
    refine g_iload dX9_where_78 0 rfl ?_
    refine g_callVp dX9_where_80 (ev_cAt (r) (k)) oX9_cellAt wiX9_cellAt weX9_cellAt wmX9_194 kX9 (hO) rfl ⟨(Nat.le_of_ble_eq_true rfl), (Nat.le_of_ble_eq_true rfl)⟩ ⟨Nat.zero_le _, Nat.zero_le _⟩ (Nat.le_of_ble_eq_true rfl) rfl ?_
    refine g_ialI dX9_where_83 (hR) (by omega) (by omega) ?_
    refine g_top (rRx vR (by omega) (by omega)) ?_
    refine g_iload_n dX9_where_84 3 rfl ?_
    refine g_iload_n dX9_where_85 4 rfl ?_
    refine g_callSp dX9_where_86 (ev_min (x) (y) (by omega) (by omega) _) oJ9_min_7cf53 wsJ9_min_7cf53 wmX9_135 rfl ⟨(Nat.le_of_ble_eq_true rfl), (Nat.le_of_ble_eq_true rfl)⟩ ⟨Nat.zero_le _, Nat.zero_le _⟩ (Nat.le_of_ble_eq_true rfl) rfl ?_
    refine g_icmp_ne 122 dX9_where_89 (by decide) (fun c89 => ?_) (fun c89 => ?_)
    · refine g_iinc (q := 0) (v := nI (k + 1)) (ls' := [(4, .int (nI (k + 1))), (3, .int (nI r)), (0, .ref 98), (1, .int (nI x)), (2, .int (nI y))]) dX9_where_122 rfl (inc1 _) (Nat.le_of_ble_eq_true rfl) rfl ?_
      refine g_goto 63 dX9_where_125 (by decide) ?_
      have hn : ¬ ((fun a b => decide (rm a b = cod x y)) r k) = true := fun z => by have z2 := (cod_iff (lt r k (by omega) (by omega)) (show x ≤ 13 by omega) (show y ≤ 13 by omega) ne).mp (of_decide_eq_true z); first | exact c89 z2.1 | exact c111 z2.2
      exact ih (k + 1) (by omega) (fun e => KN (by rw [sc1_f hn]; exact e)) (fun v e => KS v (by rw [sc1_f hn]; exact e))
    · refine g_aload_n dX9_where_92 2 rfl ?_
      refine g_getf dX9_where_93 kX9 wfX9_17 (Nat.le_of_ble_eq_true rfl) (hO) rfl ?_
      refine g_aload_n dX9_where_96 2 rfl ?_
      refine g_iload_n dX9_where_97 1 rfl ?_
      refine g_iload dX9_where_98 0 rfl ?_
      refine g_callVp dX9_where_100 (ev_cAt (r) (k)) oX9_cellAt wiX9_cellAt weX9_cellAt wmX9_194 kX9 (hO) rfl ⟨(Nat.le_of_ble_eq_true rfl), (Nat.le_of_ble_eq_true rfl)⟩ ⟨Nat.zero_le _, Nat.zero_le _⟩ (Nat.le_of_ble_eq_true rfl) rfl ?_
      refine g_iconst (v := nI 1) dX9_where_103 (by decide +kernel) ?_
      refine g_iaddN dX9_where_104 ?_
      refine g_ialI dX9_where_105 (hR) (by omega) (by omega) ?_
      refine g_top (rRy vR (by omega) (by omega)) ?_
      refine g_iload_n dX9_where_106 3 rfl ?_
      refine g_iload_n dX9_where_107 4 rfl ?_
      refine g_callSp dX9_where_108 (ev_max (x) (y) (by omega) (by omega) _) oJ9_max_7cf53 wsJ9_max_7cf53 wmX9_215 rfl ⟨(Nat.le_of_ble_eq_true rfl), (Nat.le_of_ble_eq_true rfl)⟩ ⟨Nat.zero_le _, Nat.zero_le _⟩ (Nat.le_of_ble_eq_true rfl) rfl ?_
      refine g_icmp_ne 122 dX9_where_111 (by decide) (fun c111 => ?_) (fun c111 => ?_)
      · refine g_iinc (q := 0) (v := nI (k + 1)) (ls' := [(4, .int (nI (k + 1))), (3, .int (nI r)), (0, .ref 98), (1, .int (nI x)), (2, .int (nI y))]) dX9_where_122 rfl (inc1 _) (Nat.le_of_ble_eq_true rfl) rfl ?_
        refine g_goto 63 dX9_where_125 (by decide) ?_
        have hn : ¬ ((fun a b => decide (rm a b = cod x y)) r k) = true := fun z => by have z2 := (cod_iff (lt r k (by omega) (by omega)) (show x ≤ 13 by omega) (show y ≤ 13 by omega) ne).mp (of_decide_eq_true z); first | exact c89 z2.1 | exact c111 z2.2
        exact ih (k + 1) (by omega) (fun e => KN (by rw [sc1_f hn]; exact e)) (fun v e => KS v (by rw [sc1_f hn]; exact e))
      · refine g_bipush (v := nI 100) dX9_where_114 (by decide +kernel) ?_
        refine g_iload_n dX9_where_116 1 rfl ?_
        refine g_imulN dX9_where_117 ?_
        refine g_iload dX9_where_118 0 rfl ?_
        refine g_iaddN dX9_where_120 ?_
        exact g_iret dX9_where_121 rfl ⟨Nat.zero_le _, Nat.zero_le _⟩ (KS _ (sc1_t (decide_eq_true ((cod_iff (lt r k (by omega) (by omega)) (show x ≤ 13 by omega) (show y ≤ 13 by omega) ne).mpr ⟨c89, c111⟩))))

set_option maxRecDepth 100000 in
set_option maxHeartbeats 4000000 in
theorem lp_mwhO {h : List aC} {n m a de : Nat} {fo as_ sm sk z : Int32} {am : Nat} {ib : Bool} {iN iM iT : Int32} (hO : MO h n m a de fo as_ sm sk z am ib iN iM iT) {Ro : List Int32} (hR : rd h 100 = some (.inl Ro)) (lR : Ro.length = 338) {rm : Nat → Nat → Nat} (vR : rR Ro 0 rm) (n3 : n ≤ 13) (lt : ∀ a b, a < n → b < n → rm a b < 196) {x y : Nat} (hx : x ≤ n) (hy : y ≤ n) (ne : x ≠ y) : ∀ j k , k + j = n → G mX9_where (rmD 3 0 0) none (pv (.int (oI (sc2 (fun a b => decide (rm a b = cod x y)) n j k))) h) 0 0 52 [(3, .int (nI k)), (0, .ref 98), (1, .int (nI x)), (2, .int (nI y))] [] h := by
  intro j
  induction j with
  | zero =>
    intro k  hk 
    have hO : rd h 98 = some (.inr (9, [.int (nI n), .int (nI m), .ref 99, .ref 100, .ref 101, .int (nI a), .ref 102, .int (nI de), .ref 103, .ref 104, .ref 105, .int fo, .int as_, .int sm, .int sk, .ref 106, .ref 107, .ref 108, .int z, .ref 109, .ref 110, .ref 111, .int (nI am), .ref 112, .ref 113, .ref 114, .ref 115, .ref 116, .int (nI (bI ib)), .int iN, .int iM, .int iT, .ref 117, .ref 118, .ref 119])) := hO
    refine g_iload_n dX9_where_52 0 rfl ?_
    refine g_aload_n dX9_where_53 1 rfl ?_
    refine g_getf dX9_where_54 kX9 wfX9_7 (Nat.le_of_ble_eq_true rfl) (hO) rfl ?_
    refine g_icmp_geN 134 dX9_where_57 (by decide) (by omega) (by omega) (fun c57 => ?_) (fun z => absurd z (by omega))
    refine g_bipush (v := (-9)) dX9_where_134 (by decide +kernel) ?_
    exact g_iret dX9_where_136 rfl ⟨Nat.zero_le _, Nat.zero_le _⟩ (⟨rfl, rfl⟩)
  | succ j ih =>
    intro k  hk 
    have hO : rd h 98 = some (.inr (9, [.int (nI n), .int (nI m), .ref 99, .ref 100, .ref 101, .int (nI a), .ref 102, .int (nI de), .ref 103, .ref 104, .ref 105, .int fo, .int as_, .int sm, .int sk, .ref 106, .ref 107, .ref 108, .int z, .ref 109, .ref 110, .ref 111, .int (nI am), .ref 112, .ref 113, .ref 114, .ref 115, .ref 116, .int (nI (bI ib)), .int iN, .int iM, .int iT, .ref 117, .ref 118, .ref 119])) := hO
    refine g_iload_n dX9_where_52 0 rfl ?_
    refine g_aload_n dX9_where_53 1 rfl ?_
    refine g_getf dX9_where_54 kX9 wfX9_7 (Nat.le_of_ble_eq_true rfl) (hO) rfl ?_
    refine g_icmp_geN 134 dX9_where_57 (by decide) (by omega) (by omega) (fun z => absurd z (by omega)) (fun c57 => ?_)
    refine g_iconst (v := nI 0) dX9_where_60 (by decide +kernel) ?_
    refine g_istore (ls' := [(4, .int (nI 0)), (3, .int (nI k)), (0, .ref 98), (1, .int (nI x)), (2, .int (nI y))]) dX9_where_61 (Nat.le_of_ble_eq_true rfl) rfl ?_
    refine lp_mwhI hO hR lR vR n3 lt hx hy ne k (by omega) n 0 (by omega) (fun eN => ?_) (fun v eS => ⟨by rw [sc2_t eS]; rfl, rfl⟩)
    rw [sc2_f eN]
    refine g_iinc (q := 1) (v := nI (k + 1)) (ls' := [(3, .int (nI (k + 1))), (4, .int (nI n)), (0, .ref 98), (1, .int (nI x)), (2, .int (nI y))]) dX9_where_128 rfl (inc1 _) (Nat.le_of_ble_eq_true rfl) rfl ?_
    refine g_goto 52 dX9_where_131 (by decide) ?_
    refine g_lsub_ (ls2 := [(3, .int (nI (k + 1))), (0, .ref 98), (1, .int (nI x)), (2, .int (nI y))]) [0, 2, 3, 4] rfl ?_
    exact ih (k + 1) (by omega)

set_option maxRecDepth 100000 in
set_option maxHeartbeats 4000000 in
theorem ev_y_where {h : List aC} {σ : Sg} (H : RM h σ) (ok : okSg σ) (x y : Int32) : Ev mX9_where 3 0 0 [.ref 98, .int x, .int y] h (spM h (oWhere σ x y)) := by
  obtain ⟨fo, as_, sm, sk, z, iN, iM, iT, P, Ro, U, rf, WM, WP, WR, Tr, Ke, Co, Th, Be, Le, AP, AR, AU, Sz, It, IP, IR, IU, mO, mP, mRo, mU, mrf, mWM, mWP, mWR, mTr, mKe, mCo, mTh, mBe, mLe, mAP, mAR, mAU, mSz, mIt, mIP, mIR, mIU, vP, vR, vU, vF, vH, vL, vS, vI, vG⟩ := id H
  have mO : rd h 98 = some (.inr (9, [.int (nI σ.1.1), .int (nI σ.1.2.1), .ref 99, .ref 100, .ref 101, .int (nI σ.1.2.2.2.1), .ref 102, .int (nI ((σ.2.2.2.1).length)), .ref 103, .ref 104, .ref 105, .int fo, .int as_, .int sm, .int sk, .ref 106, .ref 107, .ref 108, .int z, .ref 109, .ref 110, .ref 111, .int (nI σ.2.1.1), .ref 112, .ref 113, .ref 114, .ref 115, .ref 116, .int (nI (bI σ.2.2.2.2.1.isSome)), .int iN, .int iM, .int iT, .ref 117, .ref 118, .ref 119])) := mO
  obtain ⟨mP, lP⟩ := mP
  obtain ⟨mRo, lRo⟩ := mRo
  obtain ⟨mU, lU⟩ := mU
  obtain ⟨mrf, lrf⟩ := mrf
  obtain ⟨mWM, lWM⟩ := mWM
  obtain ⟨mWP, lWP⟩ := mWP
  obtain ⟨mWR, lWR⟩ := mWR
  obtain ⟨mTr, lTr⟩ := mTr
  obtain ⟨mKe, lKe⟩ := mKe
  obtain ⟨mCo, lCo⟩ := mCo
  obtain ⟨mTh, lTh⟩ := mTh
  obtain ⟨mBe, lBe⟩ := mBe
  obtain ⟨mLe, lLe⟩ := mLe
  obtain ⟨mAP, lAP⟩ := mAP
  obtain ⟨mAR, lAR⟩ := mAR
  obtain ⟨mAU, lAU⟩ := mAU
  obtain ⟨mSz, lSz⟩ := mSz
  obtain ⟨mIt, lIt⟩ := mIt
  obtain ⟨mIP, lIP⟩ := mIP
  obtain ⟨mIR, lIR⟩ := mIR
  obtain ⟨mIU, lIU⟩ := mIU
  obtain ⟨okc, ⟨okl, okw⟩, okn, ⟨okh, oke⟩, oki, okr⟩ := id ok
  obtain ⟨k1, k2, k3, k4, k5, k6, k7, k8, k9⟩ := id okc
  refine Ev.of pX9_where (Nat.le_of_ble_eq_true rfl) ?_
  show G mX9_where (rmD 3 0 0) none _ 0 0 0 [(0, .ref 98), (1, .int x), (2, .int y)] [] h
  refine g_iload_n dX9_where_0 1 rfl ?_
  refine g_if_lt 8 dX9_where_1 (by decide) (fun c1 => ?_) (fun c1 => ?_)
  · refine g_aload_n dX9_where_8 0 rfl ?_
    refine g_bipush (v := (-4)) dX9_where_9 (by decide +kernel) ?_
    rw [show oWhere σ x y = rfS σ (-4) from if_pos (by first | exact Or.inl c1 | exact Or.inr c5)]
    refine g_callVq (st1 := [.int (-nI 4)]) dX9_where_11 (ev_refused H ok 4 (by unfold noN; omega)) oX9_refused wiX9_refused weX9_refused wmX9_90 kX9 (mO) rfl ⟨(Nat.le_of_ble_eq_true rfl), (Nat.le_of_ble_eq_true rfl)⟩ ⟨Nat.zero_le _, Nat.zero_le _⟩ (Nat.le_of_ble_eq_true rfl) rfl rfl (fun h1 q1 => ?_)
    exact g_iret dX9_where_14 rfl ⟨Nat.zero_le _, Nat.zero_le _⟩ (⟨rfl, q1⟩)
  · refine g_iload_n dX9_where_4 2 rfl ?_
    refine g_if_ge 15 dX9_where_5 (by decide) (fun c5 => ?_) (fun c5 => ?_)
    · rw [show oWhere σ x y = _ from if_neg (show ¬ (x < 0 ∨ ¬ 0 ≤ y) from fun z => by rcases z with z | z; exact c1 z; exact z c5)]
      refine g_iload_n dX9_where_15 1 rfl ?_
      refine g_aload_n dX9_where_16 0 rfl ?_
      refine g_getf dX9_where_17 kX9 wfX9_7 (Nat.le_of_ble_eq_true rfl) (mO) rfl ?_
      refine g_icmp_gt 31 dX9_where_20 (by decide) (fun c20 => ?_) (fun c20 => ?_)
      · refine g_aload_n dX9_where_31 0 rfl ?_
        refine g_bipush (v := (-6)) dX9_where_32 (by decide +kernel) ?_
        rw [if_pos (by first | exact Or.inl c20 | exact Or.inr c28)]
        refine g_callVq (st1 := [.int (-nI 6)]) dX9_where_34 (ev_refused H ok 6 (by unfold noN; omega)) oX9_refused wiX9_refused weX9_refused wmX9_90 kX9 (mO) rfl ⟨(Nat.le_of_ble_eq_true rfl), (Nat.le_of_ble_eq_true rfl)⟩ ⟨Nat.zero_le _, Nat.zero_le _⟩ (Nat.le_of_ble_eq_true rfl) rfl rfl (fun h2 q2 => ?_)
        exact g_iret dX9_where_37 rfl ⟨Nat.zero_le _, Nat.zero_le _⟩ (⟨rfl, q2⟩)
      · refine g_iload_n dX9_where_23 2 rfl ?_
        refine g_aload_n dX9_where_24 0 rfl ?_
        refine g_getf dX9_where_25 kX9 wfX9_7 (Nat.le_of_ble_eq_true rfl) (mO) rfl ?_
        refine g_icmp_le 38 dX9_where_28 (by decide) (fun c28 => ?_) (fun c28 => ?_)
        · rw [if_neg (show ¬ (nI σ.1.1 < x ∨ ¬ y ≤ nI σ.1.1) from fun z => by rcases z with z | z; exact c20 z; exact z c28)]
          refine g_iload_n dX9_where_38 1 rfl ?_
          refine g_iload_n dX9_where_39 2 rfl ?_
          refine g_icmp_ne 50 dX9_where_40 (by decide) (fun c40 => ?_) (fun c40 => ?_)
          · rw [if_neg c40]
            obtain ⟨x1, hx1, rfl⟩ := nn_of (Int32.not_lt.mp c1)
            obtain ⟨y1, hy1, rfl⟩ := nn_of c5
            rw [cl_ hx1, cl_ hy1]
            have bx : x1 ≤ σ.1.1 := (nI_leI hx1 (by omega)).mp (Int32.not_lt.mp c20)
            have by_ : y1 ≤ σ.1.1 := (nI_leI hy1 (by omega)).mp c28
            have ne : x1 ≠ y1 := fun e => c40 (congrArg nI e)
            refine g_iconst (v := nI 0) dX9_where_50 (by decide +kernel) ?_
            refine g_istore_n (ls' := [(3, .int (nI 0)), (0, .ref 98), (1, .int (nI x1)), (2, .int (nI y1))]) dX9_where_51 (Nat.le_of_ble_eq_true rfl) rfl ?_
            exact (lp_mwhO (show MO h _ _ _ _ _ _ _ _ _ _ _ _ _ _ from mO) mRo lRo vR k2 (fun a b ha hb => okC_lt k2 (k8 a b ha hb)) bx by_ ne σ.1.1 0 (by omega)).mono (fun w h1 hw => by obtain ⟨rfl, rfl⟩ := hw; exact ⟨rfl, H, Smo.rf⟩)
          · refine g_aload_n dX9_where_43 0 rfl ?_
            refine g_bipush (v := (-3)) dX9_where_44 (by decide +kernel) ?_
            rw [if_pos c40]
            refine g_callVq (st1 := [.int (-nI 3)]) dX9_where_46 (ev_refused H ok 3 (by unfold noN; omega)) oX9_refused wiX9_refused weX9_refused wmX9_90 kX9 (mO) rfl ⟨(Nat.le_of_ble_eq_true rfl), (Nat.le_of_ble_eq_true rfl)⟩ ⟨Nat.zero_le _, Nat.zero_le _⟩ (Nat.le_of_ble_eq_true rfl) rfl rfl (fun h3 q3 => ?_)
            exact g_iret dX9_where_49 rfl ⟨Nat.zero_le _, Nat.zero_le _⟩ (⟨rfl, q3⟩)
        · refine g_aload_n dX9_where_31 0 rfl ?_
          refine g_bipush (v := (-6)) dX9_where_32 (by decide +kernel) ?_
          rw [if_pos (by first | exact Or.inl c20 | exact Or.inr c28)]
          refine g_callVq (st1 := [.int (-nI 6)]) dX9_where_34 (ev_refused H ok 6 (by unfold noN; omega)) oX9_refused wiX9_refused weX9_refused wmX9_90 kX9 (mO) rfl ⟨(Nat.le_of_ble_eq_true rfl), (Nat.le_of_ble_eq_true rfl)⟩ ⟨Nat.zero_le _, Nat.zero_le _⟩ (Nat.le_of_ble_eq_true rfl) rfl rfl (fun h4 q4 => ?_)
          exact g_iret dX9_where_37 rfl ⟨Nat.zero_le _, Nat.zero_le _⟩ (⟨rfl, q4⟩)
    · refine g_aload_n dX9_where_8 0 rfl ?_
      refine g_bipush (v := (-4)) dX9_where_9 (by decide +kernel) ?_
      rw [show oWhere σ x y = rfS σ (-4) from if_pos (by first | exact Or.inl c1 | exact Or.inr c5)]
      refine g_callVq (st1 := [.int (-nI 4)]) dX9_where_11 (ev_refused H ok 4 (by unfold noN; omega)) oX9_refused wiX9_refused weX9_refused wmX9_90 kX9 (mO) rfl ⟨(Nat.le_of_ble_eq_true rfl), (Nat.le_of_ble_eq_true rfl)⟩ ⟨Nat.zero_le _, Nat.zero_le _⟩ (Nat.le_of_ble_eq_true rfl) rfl rfl (fun h5 q5 => ?_)
      exact g_iret dX9_where_14 rfl ⟨Nat.zero_le _, Nat.zero_le _⟩ (⟨rfl, q5⟩)

theorem FR_t {rm : Nat → Nat → Nat} {a b : Nat} (h : a ≠ b) (e : (rm a b = 0 ↔ rm b a = 0)) : bI (FRb rm a b) = 1 := by
  unfold FRb
  rw [decide_eq_true (⟨h, ?_⟩ : a ≠ b ∧ _)]
  · rfl
  · by_cases q : rm a b = 0
    · rw [decide_eq_false (not_not_intro q), decide_eq_false (not_not_intro (e.mp q))]
    · rw [decide_eq_true q, decide_eq_true (show rm b a ≠ 0 from fun z => q (e.mpr z))]
theorem FR_f {rm : Nat → Nat → Nat} {a b : Nat} (h : a = b ∨ ¬ (rm a b = 0 ↔ rm b a = 0)) : bI (FRb rm a b) = 0 := by
  unfold FRb
  rw [decide_eq_false]
  · rfl
  · rintro ⟨z1, z2⟩
    rcases h with h | h
    · exact z1 h
    · apply h
      by_cases q : rm a b = 0
      · by_cases q2 : rm b a = 0
        · exact ⟨fun _ => q2, fun _ => q⟩
        · rw [decide_eq_false (not_not_intro q), decide_eq_true q2] at z2; exact absurd z2 (by decide)
      · by_cases q2 : rm b a = 0
        · rw [decide_eq_true q, decide_eq_false (not_not_intro q2)] at z2; exact absurd z2 (by decide)
        · exact ⟨fun z => absurd z q, fun z => absurd z q2⟩

set_option maxRecDepth 100000 in
set_option maxHeartbeats 4000000 in
theorem lp_mfaI {h : List aC} {P : Option Value → List aC → Prop} {n m a de : Nat} {fo as_ sm sk z : Int32} {am : Nat} {ib : Bool} {iN iM iT : Int32} (hO : MO h n m a de fo as_ sm sk z am ib iN iM iT) {Ro : List Int32} (hR : rd h 100 = some (.inl Ro)) (lR : Ro.length = 338) {rm : Nat → Nat → Nat} (vR : rR Ro 0 rm) (n3 : n ≤ 13) (lt : ∀ a b, a < n → b < n → rm a b < 196) (r S : Nat) (hr : r < n) (K : G mX9_faced (rmD 2 0 0) none P 0 0 82 [(3, .int (nI n)), (2, .int (nI r)), (1, .int (nI (S + sumN (fun b => bI (FRb rm r b)) n))), (0, .ref 98)] [] h) : ∀ j k , k + j = n → G mX9_faced (rmD 2 0 0) none P 0 0 14 [(3, .int (nI k)), (2, .int (nI r)), (1, .int (nI (S + sumN (fun b => bI (FRb rm r b)) k))), (0, .ref 98)] [] h := by
  intro j
  induction j with
  | zero =>
    intro k  hk 
    have hO : rd h 98 = some (.inr (9, [.int (nI n), .int (nI m), .ref 99, .ref 100, .ref 101, .int (nI a), .ref 102, .int (nI de), .ref 103, .ref 104, .ref 105, .int fo, .int as_, .int sm, .int sk, .ref 106, .ref 107, .ref 108, .int z, .ref 109, .ref 110, .ref 111, .int (nI am), .ref 112, .ref 113, .ref 114, .ref 115, .ref 116, .int (nI (bI ib)), .int iN, .int iM, .int iT, .ref 117, .ref 118, .ref 119])) := hO
    refine g_iload_n dX9_faced_14 0 rfl ?_
    refine g_aload_n dX9_faced_15 3 rfl ?_
    refine g_getf dX9_faced_16 kX9 wfX9_7 (Nat.le_of_ble_eq_true rfl) (hO) rfl ?_
    refine g_icmp_geN 82 dX9_faced_19 (by decide) (by omega) (by omega) (fun c19 => ?_) (fun z => absurd z (by omega))
    have ek : k = n := by omega
    subst ek
    exact K
  | succ j ih =>
    intro k  hk 
    have hO : rd h 98 = some (.inr (9, [.int (nI n), .int (nI m), .ref 99, .ref 100, .ref 101, .int (nI a), .ref 102, .int (nI de), .ref 103, .ref 104, .ref 105, .int fo, .int as_, .int sm, .int sk, .ref 106, .ref 107, .ref 108, .int z, .ref 109, .ref 110, .ref 111, .int (nI am), .ref 112, .ref 113, .ref 114, .ref 115, .ref 116, .int (nI (bI ib)), .int iN, .int iM, .int iT, .ref 117, .ref 118, .ref 119])) := hO
    refine g_iload_n dX9_faced_14 0 rfl ?_
    refine g_aload_n dX9_faced_15 3 rfl ?_
    refine g_getf dX9_faced_16 kX9 wfX9_7 (Nat.le_of_ble_eq_true rfl) (hO) rfl ?_
    refine g_icmp_geN 82 dX9_faced_19 (by decide) (by omega) (by omega) (fun z => absurd z (by omega)) (fun c19 => ?_)
    refine g_iload_n dX9_faced_22 2 rfl ?_
    refine g_iload_n dX9_faced_23 1 rfl ?_
    refine g_iload_n dX9_faced_24 0 rfl ?_
    refine g_icmp_eqN 73 dX9_faced_25 (by decide) (by omega) (by omega) (fun c25 => ?_) (fun c25 => ?_)
    · refine g_iconst (v := nI 0) dX9_faced_73 (by decide +kernel) ?_
      refine g_iaddN dX9_faced_74 ?_
      refine g_top (show nI ((S + sumN (fun b => bI (FRb rm r b)) k) + 0) = nI (S + sumN (fun b => bI (FRb rm r b)) (k + 1)) from congrArg nI (by show (S + sumN (fun b => bI (FRb rm r b)) k) + 0 = S + (sumN (fun b => bI (FRb rm r b)) k + bI (FRb rm r k)); rw [FR_f (Or.inl c25)]; omega)) ?_
      refine g_istore_n (ls' := [(1, .int (nI (S + sumN (fun b => bI (FRb rm r b)) (k + 1)))), (3, .int (nI k)), (2, .int (nI r)), (0, .ref 98)]) dX9_faced_75 (Nat.le_of_ble_eq_true rfl) rfl ?_
      refine g_iinc (q := 1) (v := nI (k + 1)) (ls' := [(3, .int (nI (k + 1))), (1, .int (nI (S + sumN (fun b => bI (FRb rm r b)) (k + 1)))), (2, .int (nI r)), (0, .ref 98)]) dX9_faced_76 rfl (inc1 _) (Nat.le_of_ble_eq_true rfl) rfl ?_
      refine g_goto 14 dX9_faced_79 (by decide) ?_
      refine g_lsub_ (ls2 := [(3, .int (nI (k + 1))), (2, .int (nI r)), (1, .int (nI (S + sumN (fun b => bI (FRb rm r b)) (k + 1)))), (0, .ref 98)]) [0, 2, 1, 3] rfl ?_
      exact ih (k + 1) (by omega)
    · refine g_aload_n dX9_faced_28 3 rfl ?_
      refine g_getf dX9_faced_29 kX9 wfX9_17 (Nat.le_of_ble_eq_true rfl) (hO) rfl ?_
      refine g_aload_n dX9_faced_32 3 rfl ?_
      refine g_iload_n dX9_faced_33 1 rfl ?_
      refine g_iload_n dX9_faced_34 0 rfl ?_
      refine g_callVp dX9_faced_35 (ev_cAt (r) (k)) oX9_cellAt wiX9_cellAt weX9_cellAt wmX9_194 kX9 (hO) rfl ⟨(Nat.le_of_ble_eq_true rfl), (Nat.le_of_ble_eq_true rfl)⟩ ⟨Nat.zero_le _, Nat.zero_le _⟩ (Nat.le_of_ble_eq_true rfl) rfl ?_
      refine g_ialI dX9_faced_38 (hR) (by omega) (by omega) ?_
      refine g_top (rRx vR (by omega) (by omega)) ?_
      refine g_if_ge 46 dX9_faced_39 (by decide) (fun c39 => ?_) (fun c39 => ?_)
      · refine g_iconst (v := nI 0) dX9_faced_46 (by decide +kernel) ?_
        refine g_aload_n dX9_faced_47 3 rfl ?_
        refine g_getf dX9_faced_48 kX9 wfX9_17 (Nat.le_of_ble_eq_true rfl) (hO) rfl ?_
        refine g_aload_n dX9_faced_51 3 rfl ?_
        refine g_iload_n dX9_faced_52 0 rfl ?_
        refine g_iload_n dX9_faced_53 1 rfl ?_
        refine g_callVp dX9_faced_54 (ev_cAt (k) (r)) oX9_cellAt wiX9_cellAt weX9_cellAt wmX9_194 kX9 (hO) rfl ⟨(Nat.le_of_ble_eq_true rfl), (Nat.le_of_ble_eq_true rfl)⟩ ⟨Nat.zero_le _, Nat.zero_le _⟩ (Nat.le_of_ble_eq_true rfl) rfl ?_
        refine g_ialI dX9_faced_57 (hR) (by omega) (by omega) ?_
        refine g_top (rRx vR (by omega) (by omega)) ?_
        refine g_if_ge 65 dX9_faced_58 (by decide) (fun c58 => ?_) (fun c58 => ?_)
        · refine g_iconst (v := nI 0) dX9_faced_65 (by decide +kernel) ?_
          refine g_icmp_neN 73 dX9_faced_66 (by decide) (by omega) (by omega) (fun z => absurd z (by omega)) (fun c66 => ?_)
          refine g_iconst (v := nI 1) dX9_faced_69 (by decide +kernel) ?_
          refine g_goto 74 dX9_faced_70 (by decide) ?_
          refine g_iaddN dX9_faced_74 ?_
          refine g_top (show nI ((S + sumN (fun b => bI (FRb rm r b)) k) + 1) = nI (S + sumN (fun b => bI (FRb rm r b)) (k + 1)) from congrArg nI (by show (S + sumN (fun b => bI (FRb rm r b)) k) + 1 = S + (sumN (fun b => bI (FRb rm r b)) k + bI (FRb rm r k)); rw [FR_t c25 ⟨fun q => absurd q ((xV_i _ (lt r k (by omega) (by omega))).mp c39), fun q => absurd q ((xV_i _ (lt k r (by omega) (by omega))).mp c58)⟩]; omega)) ?_
          refine g_istore_n (ls' := [(1, .int (nI (S + sumN (fun b => bI (FRb rm r b)) (k + 1)))), (3, .int (nI k)), (2, .int (nI r)), (0, .ref 98)]) dX9_faced_75 (Nat.le_of_ble_eq_true rfl) rfl ?_
          refine g_iinc (q := 1) (v := nI (k + 1)) (ls' := [(3, .int (nI (k + 1))), (1, .int (nI (S + sumN (fun b => bI (FRb rm r b)) (k + 1)))), (2, .int (nI r)), (0, .ref 98)]) dX9_faced_76 rfl (inc1 _) (Nat.le_of_ble_eq_true rfl) rfl ?_
          refine g_goto 14 dX9_faced_79 (by decide) ?_
          refine g_lsub_ (ls2 := [(3, .int (nI (k + 1))), (2, .int (nI r)), (1, .int (nI (S + sumN (fun b => bI (FRb rm r b)) (k + 1)))), (0, .ref 98)]) [0, 2, 1, 3] rfl ?_
          exact ih (k + 1) (by omega)
        · refine g_iconst (v := nI 1) dX9_faced_61 (by decide +kernel) ?_
          refine g_goto 66 dX9_faced_62 (by decide) ?_
          refine g_icmp_neN 73 dX9_faced_66 (by decide) (by omega) (by omega) (fun c66 => ?_) (fun z => absurd z (by omega))
          refine g_iconst (v := nI 0) dX9_faced_73 (by decide +kernel) ?_
          refine g_iaddN dX9_faced_74 ?_
          refine g_top (show nI ((S + sumN (fun b => bI (FRb rm r b)) k) + 0) = nI (S + sumN (fun b => bI (FRb rm r b)) (k + 1)) from congrArg nI (by show (S + sumN (fun b => bI (FRb rm r b)) k) + 0 = S + (sumN (fun b => bI (FRb rm r b)) k + bI (FRb rm r k)); rw [FR_f (Or.inr (fun q => ((xV_i _ (lt r k (by omega) (by omega))).mp c39) (q.mpr (Decidable.byContradiction fun q => c58 ((xV_i _ (lt k r (by omega) (by omega))).mpr q)))))]; omega)) ?_
          refine g_istore_n (ls' := [(1, .int (nI (S + sumN (fun b => bI (FRb rm r b)) (k + 1)))), (3, .int (nI k)), (2, .int (nI r)), (0, .ref 98)]) dX9_faced_75 (Nat.le_of_ble_eq_true rfl) rfl ?_
          refine g_iinc (q := 1) (v := nI (k + 1)) (ls' := [(3, .int (nI (k + 1))), (1, .int (nI (S + sumN (fun b => bI (FRb rm r b)) (k + 1)))), (2, .int (nI r)), (0, .ref 98)]) dX9_faced_76 rfl (inc1 _) (Nat.le_of_ble_eq_true rfl) rfl ?_
          refine g_goto 14 dX9_faced_79 (by decide) ?_
          refine g_lsub_ (ls2 := [(3, .int (nI (k + 1))), (2, .int (nI r)), (1, .int (nI (S + sumN (fun b => bI (FRb rm r b)) (k + 1)))), (0, .ref 98)]) [0, 2, 1, 3] rfl ?_
          exact ih (k + 1) (by omega)
      · refine g_iconst (v := nI 1) dX9_faced_42 (by decide +kernel) ?_
        refine g_goto 47 dX9_faced_43 (by decide) ?_
        refine g_aload_n dX9_faced_47 3 rfl ?_
        refine g_getf dX9_faced_48 kX9 wfX9_17 (Nat.le_of_ble_eq_true rfl) (hO) rfl ?_
        refine g_aload_n dX9_faced_51 3 rfl ?_
        refine g_iload_n dX9_faced_52 0 rfl ?_
        refine g_iload_n dX9_faced_53 1 rfl ?_
        refine g_callVp dX9_faced_54 (ev_cAt (k) (r)) oX9_cellAt wiX9_cellAt weX9_cellAt wmX9_194 kX9 (hO) rfl ⟨(Nat.le_of_ble_eq_true rfl), (Nat.le_of_ble_eq_true rfl)⟩ ⟨Nat.zero_le _, Nat.zero_le _⟩ (Nat.le_of_ble_eq_true rfl) rfl ?_
        refine g_ialI dX9_faced_57 (hR) (by omega) (by omega) ?_
        refine g_top (rRx vR (by omega) (by omega)) ?_
        refine g_if_ge 65 dX9_faced_58 (by decide) (fun c58 => ?_) (fun c58 => ?_)
        · refine g_iconst (v := nI 0) dX9_faced_65 (by decide +kernel) ?_
          refine g_icmp_neN 73 dX9_faced_66 (by decide) (by omega) (by omega) (fun c66 => ?_) (fun z => absurd z (by omega))
          refine g_iconst (v := nI 0) dX9_faced_73 (by decide +kernel) ?_
          refine g_iaddN dX9_faced_74 ?_
          refine g_top (show nI ((S + sumN (fun b => bI (FRb rm r b)) k) + 0) = nI (S + sumN (fun b => bI (FRb rm r b)) (k + 1)) from congrArg nI (by show (S + sumN (fun b => bI (FRb rm r b)) k) + 0 = S + (sumN (fun b => bI (FRb rm r b)) k + bI (FRb rm r k)); rw [FR_f (Or.inr (fun q => ((xV_i _ (lt k r (by omega) (by omega))).mp c58) (q.mp (Decidable.byContradiction fun q => c39 ((xV_i _ (lt r k (by omega) (by omega))).mpr q)))))]; omega)) ?_
          refine g_istore_n (ls' := [(1, .int (nI (S + sumN (fun b => bI (FRb rm r b)) (k + 1)))), (3, .int (nI k)), (2, .int (nI r)), (0, .ref 98)]) dX9_faced_75 (Nat.le_of_ble_eq_true rfl) rfl ?_
          refine g_iinc (q := 1) (v := nI (k + 1)) (ls' := [(3, .int (nI (k + 1))), (1, .int (nI (S + sumN (fun b => bI (FRb rm r b)) (k + 1)))), (2, .int (nI r)), (0, .ref 98)]) dX9_faced_76 rfl (inc1 _) (Nat.le_of_ble_eq_true rfl) rfl ?_
          refine g_goto 14 dX9_faced_79 (by decide) ?_
          refine g_lsub_ (ls2 := [(3, .int (nI (k + 1))), (2, .int (nI r)), (1, .int (nI (S + sumN (fun b => bI (FRb rm r b)) (k + 1)))), (0, .ref 98)]) [0, 2, 1, 3] rfl ?_
          exact ih (k + 1) (by omega)
        · refine g_iconst (v := nI 1) dX9_faced_61 (by decide +kernel) ?_
          refine g_goto 66 dX9_faced_62 (by decide) ?_
          refine g_icmp_neN 73 dX9_faced_66 (by decide) (by omega) (by omega) (fun z => absurd z (by omega)) (fun c66 => ?_)
          refine g_iconst (v := nI 1) dX9_faced_69 (by decide +kernel) ?_
          refine g_goto 74 dX9_faced_70 (by decide) ?_
          refine g_iaddN dX9_faced_74 ?_
          refine g_top (show nI ((S + sumN (fun b => bI (FRb rm r b)) k) + 1) = nI (S + sumN (fun b => bI (FRb rm r b)) (k + 1)) from congrArg nI (by show (S + sumN (fun b => bI (FRb rm r b)) k) + 1 = S + (sumN (fun b => bI (FRb rm r b)) k + bI (FRb rm r k)); rw [FR_t c25 ⟨fun _ => Decidable.byContradiction fun q => c58 ((xV_i _ (lt k r (by omega) (by omega))).mpr q), fun _ => Decidable.byContradiction fun q => c39 ((xV_i _ (lt r k (by omega) (by omega))).mpr q)⟩]; omega)) ?_
          refine g_istore_n (ls' := [(1, .int (nI (S + sumN (fun b => bI (FRb rm r b)) (k + 1)))), (3, .int (nI k)), (2, .int (nI r)), (0, .ref 98)]) dX9_faced_75 (Nat.le_of_ble_eq_true rfl) rfl ?_
          refine g_iinc (q := 1) (v := nI (k + 1)) (ls' := [(3, .int (nI (k + 1))), (1, .int (nI (S + sumN (fun b => bI (FRb rm r b)) (k + 1)))), (2, .int (nI r)), (0, .ref 98)]) dX9_faced_76 rfl (inc1 _) (Nat.le_of_ble_eq_true rfl) rfl ?_
          refine g_goto 14 dX9_faced_79 (by decide) ?_
          refine g_lsub_ (ls2 := [(3, .int (nI (k + 1))), (2, .int (nI r)), (1, .int (nI (S + sumN (fun b => bI (FRb rm r b)) (k + 1)))), (0, .ref 98)]) [0, 2, 1, 3] rfl ?_
          exact ih (k + 1) (by omega)

set_option maxRecDepth 100000 in
set_option maxHeartbeats 4000000 in
theorem lp_mfaO {h : List aC} {n m a de : Nat} {fo as_ sm sk z : Int32} {am : Nat} {ib : Bool} {iN iM iT : Int32} (hO : MO h n m a de fo as_ sm sk z am ib iN iM iT) {Ro : List Int32} (hR : rd h 100 = some (.inl Ro)) (lR : Ro.length = 338) {rm : Nat → Nat → Nat} (vR : rR Ro 0 rm) (n3 : n ≤ 13) (lt : ∀ a b, a < n → b < n → rm a b < 196) : ∀ j k , k + j = n → G mX9_faced (rmD 2 0 0) none (pv (.int (nI (sumN (fun a => sumN (fun b => bI (FRb rm a b)) n) n))) h) 0 0 4 [(2, .int (nI k)), (1, .int (nI (sumN (fun a => sumN (fun b => bI (FRb rm a b)) n) k))), (0, .ref 98)] [] h := by
  intro j
  induction j with
  | zero =>
    intro k  hk 
    have hO : rd h 98 = some (.inr (9, [.int (nI n), .int (nI m), .ref 99, .ref 100, .ref 101, .int (nI a), .ref 102, .int (nI de), .ref 103, .ref 104, .ref 105, .int fo, .int as_, .int sm, .int sk, .ref 106, .ref 107, .ref 108, .int z, .ref 109, .ref 110, .ref 111, .int (nI am), .ref 112, .ref 113, .ref 114, .ref 115, .ref 116, .int (nI (bI ib)), .int iN, .int iM, .int iT, .ref 117, .ref 118, .ref 119])) := hO
    refine g_iload_n dX9_faced_4 0 rfl ?_
    refine g_aload_n dX9_faced_5 2 rfl ?_
    refine g_getf dX9_faced_6 kX9 wfX9_7 (Nat.le_of_ble_eq_true rfl) (hO) rfl ?_
    refine g_icmp_geN 88 dX9_faced_9 (by decide) (by omega) (by omega) (fun c9 => ?_) (fun z => absurd z (by omega))
    refine g_iload_n dX9_faced_88 1 rfl ?_
    exact g_iret dX9_faced_89 rfl ⟨Nat.zero_le _, Nat.zero_le _⟩ (⟨by rw [show k = n by omega], rfl⟩)
  | succ j ih =>
    intro k  hk 
    have hO : rd h 98 = some (.inr (9, [.int (nI n), .int (nI m), .ref 99, .ref 100, .ref 101, .int (nI a), .ref 102, .int (nI de), .ref 103, .ref 104, .ref 105, .int fo, .int as_, .int sm, .int sk, .ref 106, .ref 107, .ref 108, .int z, .ref 109, .ref 110, .ref 111, .int (nI am), .ref 112, .ref 113, .ref 114, .ref 115, .ref 116, .int (nI (bI ib)), .int iN, .int iM, .int iT, .ref 117, .ref 118, .ref 119])) := hO
    refine g_iload_n dX9_faced_4 0 rfl ?_
    refine g_aload_n dX9_faced_5 2 rfl ?_
    refine g_getf dX9_faced_6 kX9 wfX9_7 (Nat.le_of_ble_eq_true rfl) (hO) rfl ?_
    refine g_icmp_geN 88 dX9_faced_9 (by decide) (by omega) (by omega) (fun z => absurd z (by omega)) (fun c9 => ?_)
    refine g_iconst (v := nI 0) dX9_faced_12 (by decide +kernel) ?_
    refine g_istore_n (ls' := [(3, .int (nI 0)), (2, .int (nI k)), (1, .int (nI (sumN (fun a => sumN (fun b => bI (FRb rm a b)) n) k))), (0, .ref 98)]) dX9_faced_13 (Nat.le_of_ble_eq_true rfl) rfl ?_
    refine lp_mfaI hO hR lR vR n3 lt k (sumN (fun a => sumN (fun b => bI (FRb rm a b)) n) k) (by omega) ?_ n 0 (by omega)
    show G mX9_faced (rmD 2 0 0) none (pv (.int (nI (sumN (fun a => sumN (fun b => bI (FRb rm a b)) n) n))) h) 0 0 82 [(3, .int (nI n)), (2, .int (nI k)), (1, .int (nI (sumN (fun a => sumN (fun b => bI (FRb rm a b)) n) (k + 1)))), (0, .ref 98)] [] h
    refine g_iinc (q := 1) (v := nI (k + 1)) (ls' := [(2, .int (nI (k + 1))), (3, .int (nI n)), (1, .int (nI (sumN (fun a => sumN (fun b => bI (FRb rm a b)) n) (k + 1)))), (0, .ref 98)]) dX9_faced_82 rfl (inc1 _) (Nat.le_of_ble_eq_true rfl) rfl ?_
    refine g_goto 4 dX9_faced_85 (by decide) ?_
    refine g_lsub_ (ls2 := [(2, .int (nI (k + 1))), (1, .int (nI (sumN (fun a => sumN (fun b => bI (FRb rm a b)) n) (k + 1)))), (0, .ref 98)]) [0, 2, 3] rfl ?_
    exact ih (k + 1) (by omega)

set_option maxRecDepth 100000 in
set_option maxHeartbeats 4000000 in
theorem ev_y_faced {h : List aC} {σ : Sg} (H : RM h σ) (ok : okSg σ) : Ev mX9_faced 2 0 0 [.ref 98] h (spM h (oFaced σ)) := by
  obtain ⟨fo, as_, sm, sk, z, iN, iM, iT, P, Ro, U, rf, WM, WP, WR, Tr, Ke, Co, Th, Be, Le, AP, AR, AU, Sz, It, IP, IR, IU, mO, mP, mRo, mU, mrf, mWM, mWP, mWR, mTr, mKe, mCo, mTh, mBe, mLe, mAP, mAR, mAU, mSz, mIt, mIP, mIR, mIU, vP, vR, vU, vF, vH, vL, vS, vI, vG⟩ := id H
  have mO : rd h 98 = some (.inr (9, [.int (nI σ.1.1), .int (nI σ.1.2.1), .ref 99, .ref 100, .ref 101, .int (nI σ.1.2.2.2.1), .ref 102, .int (nI ((σ.2.2.2.1).length)), .ref 103, .ref 104, .ref 105, .int fo, .int as_, .int sm, .int sk, .ref 106, .ref 107, .ref 108, .int z, .ref 109, .ref 110, .ref 111, .int (nI σ.2.1.1), .ref 112, .ref 113, .ref 114, .ref 115, .ref 116, .int (nI (bI σ.2.2.2.2.1.isSome)), .int iN, .int iM, .int iT, .ref 117, .ref 118, .ref 119])) := mO
  obtain ⟨mP, lP⟩ := mP
  obtain ⟨mRo, lRo⟩ := mRo
  obtain ⟨mU, lU⟩ := mU
  obtain ⟨mrf, lrf⟩ := mrf
  obtain ⟨mWM, lWM⟩ := mWM
  obtain ⟨mWP, lWP⟩ := mWP
  obtain ⟨mWR, lWR⟩ := mWR
  obtain ⟨mTr, lTr⟩ := mTr
  obtain ⟨mKe, lKe⟩ := mKe
  obtain ⟨mCo, lCo⟩ := mCo
  obtain ⟨mTh, lTh⟩ := mTh
  obtain ⟨mBe, lBe⟩ := mBe
  obtain ⟨mLe, lLe⟩ := mLe
  obtain ⟨mAP, lAP⟩ := mAP
  obtain ⟨mAR, lAR⟩ := mAR
  obtain ⟨mAU, lAU⟩ := mAU
  obtain ⟨mSz, lSz⟩ := mSz
  obtain ⟨mIt, lIt⟩ := mIt
  obtain ⟨mIP, lIP⟩ := mIP
  obtain ⟨mIR, lIR⟩ := mIR
  obtain ⟨mIU, lIU⟩ := mIU
  obtain ⟨okc, ⟨okl, okw⟩, okn, ⟨okh, oke⟩, oki, okr⟩ := id ok
  obtain ⟨k1, k2, k3, k4, k5, k6, k7, k8, k9⟩ := id okc
  refine Ev.of pX9_faced (Nat.le_of_ble_eq_true rfl) ?_
  show G mX9_faced (rmD 2 0 0) none _ 0 0 0 [(0, .ref 98)] [] h
  refine g_iconst (v := nI 0) dX9_faced_0 (by decide +kernel) ?_
  refine g_istore_n (ls' := [(1, .int (nI 0)), (0, .ref 98)]) dX9_faced_1 (Nat.le_of_ble_eq_true rfl) rfl ?_
  refine g_iconst (v := nI 0) dX9_faced_2 (by decide +kernel) ?_
  refine g_istore_n (ls' := [(2, .int (nI 0)), (1, .int (nI 0)), (0, .ref 98)]) dX9_faced_3 (Nat.le_of_ble_eq_true rfl) rfl ?_
  exact (lp_mfaO (show MO h _ _ _ _ _ _ _ _ _ _ _ _ _ _ from mO) mRo lRo vR k2 (fun a b ha hb => okC_lt k2 (k8 a b ha hb)) σ.1.1 0 (by omega)).mono (fun w h1 hw => by obtain ⟨rfl, rfl⟩ := hw; exact ⟨rfl, H, Smo.rf⟩)
