def fl2 (R : List Int32) (c x y : Nat) : List Int32 := (R.set c (nI (min x y))).set (c + 1) (nI (max x y))
theorem fl2_len (R : List Int32) (c x y : Nat) : (fl2 R c x y).length = R.length := by unfold fl2; rw [List.length_set, List.length_set]
theorem rRx {R : List Int32} {rm : Nat → Nat → Nat} (h : rR R 0 rm) {a b : Nat} (ha : a < 13) (hb : b < 13) : R.getD (2 * (13 * a + b)) 0 = xV (rm a b) := by
  have := (h a b ha hb).1
  rwa [Nat.zero_add] at this
theorem rRy {R : List Int32} {rm : Nat → Nat → Nat} (h : rR R 0 rm) {a b : Nat} (ha : a < 13) (hb : b < 13) : R.getD (2 * (13 * a + b) + 1) 0 = yV (rm a b) := by
  have := (h a b ha hb).2
  rwa [Nat.zero_add] at this
theorem rR_set {R : List Int32} {rm : Nat → Nat → Nat} (h : rR R 0 rm) (l : R.length = 338) {a b v : Nat} (ha : a < 13) (hb : b < 13) {xv yv : Int32} (ex : xv = xV v) (ey : yv = yV v) : rR ((R.set (2 * (13 * a + b)) xv).set (2 * (13 * a + b) + 1) yv) 0 (u2 rm a b v) := fun a' b' ha' hb' => by
  rw [Nat.zero_add]
  by_cases q : a' = a ∧ b' = b
  · obtain ⟨rfl, rfl⟩ := q
    rw [u2_eq, getD_set_neI (by omega), getD_set_eqI (by omega), getD_set_eqI (by rw [List.length_set]; omega)]
    exact ⟨ex, ey⟩
  · rw [u2_ne q, getD_set_neI (by omega), getD_set_neI (by omega), getD_set_neI (by omega), getD_set_neI (by omega)]
    exact ⟨rRx h ha' hb', rRy h ha' hb'⟩
theorem xV_cod {x y : Nat} (hx : x ≤ 13) (hy : y ≤ 13) (ne : x ≠ y) : nI (min x y) = xV (cod x y) := by
  unfold xV cod
  rw [if_neg (by omega)]
  exact congrArg nI (by omega)
theorem yV_cod {x y : Nat} (hx : x ≤ 13) (hy : y ≤ 13) (ne : x ≠ y) : nI (max x y) = yV (cod x y) := by
  unfold yV cod
  rw [if_neg (by omega)]
  exact congrArg nI (by omega)
theorem rR_fl2 {R : List Int32} {rm : Nat → Nat → Nat} (h : rR R 0 rm) (l : R.length = 338) {a b : Nat} (ha : a < 13) (hb : b < 13) {x y : Nat} (hx : x ≤ 13) (hy : y ≤ 13) (ne : x ≠ y) : rR (fl2 R (2 * (13 * a + b)) x y) 0 (u2 rm a b (cod x y)) := rR_set h l ha hb (xV_cod hx hy ne) (yV_cod hx hy ne)
theorem xV_i (v : Nat) (h : v < 196) : 0 ≤ xV v ↔ v ≠ 0 := by
  have z := xV_neg h
  constructor
  · intro w e; exact (z.mpr e) w
  · intro w; exact Decidable.byContradiction fun q => w (z.mp q)

set_option maxRecDepth 100000 in
set_option maxHeartbeats 4000000 in
theorem ev_fills {h : List aC} {n m a de : Nat} {fo as_ sm sk z : Int32} {am : Nat} {ib : Bool} {iN iM iT : Int32} (hO : MO h n m a de fo as_ sm sk z am ib iN iM iT) {Ro : List Int32} (hR : rd h 100 = some (.inl Ro)) (lR : Ro.length = 338) (c x y : Nat) (hc : c + 1 < 338) (hx : x < 2 ^ 31) (hy : y < 2 ^ 31) : Ev mX9_fills 1 0 0 [.ref 98, .int (nI c), .int (nI x), .int (nI y)] h (pq none (fun h2 => rd h2 100 = some (.inl (fl2 Ro c x y)) ∧ Smo 100 101 h h2)) := by
  have hO : rd h 98 = some (.inr (9, [.int (nI n), .int (nI m), .ref 99, .ref 100, .ref 101, .int (nI a), .ref 102, .int (nI de), .ref 103, .ref 104, .ref 105, .int fo, .int as_, .int sm, .int sk, .ref 106, .ref 107, .ref 108, .int z, .ref 109, .ref 110, .ref 111, .int (nI am), .ref 112, .ref 113, .ref 114, .ref 115, .ref 116, .int (nI (bI ib)), .int iN, .int iM, .int iT, .ref 117, .ref 118, .ref 119])) := hO
  refine Ev.of pX9_fills (Nat.le_of_ble_eq_true rfl) ?_
  show G mX9_fills (rmD 1 0 0) none _ 0 0 0 [(0, .ref 98), (1, .int (nI c)), (2, .int (nI x)), (3, .int (nI y))] [] h
  refine g_aload_n dX9_fills_0 0 rfl ?_
  refine g_getf dX9_fills_1 kX9 wfX9_17 (Nat.le_of_ble_eq_true rfl) (hO) rfl ?_
  refine g_iload_n dX9_fills_4 1 rfl ?_
  refine g_iload_n dX9_fills_5 2 rfl ?_
  refine g_iload_n dX9_fills_6 3 rfl ?_
  refine g_icmp_geN 14 dX9_fills_7 (by decide) (by omega) (by omega) (fun c7 => ?_) (fun c7 => ?_)
  · refine g_iload_n dX9_fills_14 3 rfl ?_
    refine g_top (show nI y = nI (min x y) from congrArg nI (by omega)) ?_
    refine g_iasI dX9_fills_15 (hR) (by omega) (by omega) (fun h1 e1 => ?_)
    have f1_100 : rd h1 100 = some (.inl ((Ro).set c (nI (min x y)))) := by rw [e1]; exact rd_wr_eq (hR)
    have lf1_100 : ((Ro).set c (nI (min x y))).length = _ := List.length_set.trans lR
    have s1 : Smo 100 (100 + 1) h h1 := by rw [e1]; exact Smo.wr (by omega) (by omega)
    have f1_98 : rd h1 98 = some (.inr (9, [.int (nI n), .int (nI m), .ref 99, .ref 100, .ref 101, .int (nI a), .ref 102, .int (nI de), .ref 103, .ref 104, .ref 105, .int fo, .int as_, .int sm, .int sk, .ref 106, .ref 107, .ref 108, .int z, .ref 109, .ref 110, .ref 111, .int (nI am), .ref 112, .ref 113, .ref 114, .ref 115, .ref 116, .int (nI (bI ib)), .int iN, .int iM, .int iT, .ref 117, .ref 118, .ref 119])) := by rw [s1 _ (by omega)]; exact hO
    refine g_aload_n dX9_fills_16 0 rfl ?_
    refine g_getf dX9_fills_17 kX9 wfX9_17 (Nat.le_of_ble_eq_true rfl) (f1_98) rfl ?_
    refine g_iload_n dX9_fills_20 1 rfl ?_
    refine g_iconst (v := nI 1) dX9_fills_21 (by decide +kernel) ?_
    refine g_iaddN dX9_fills_22 ?_
    refine g_iload_n dX9_fills_23 2 rfl ?_
    refine g_iload_n dX9_fills_24 3 rfl ?_
    refine g_icmp_geN 32 dX9_fills_25 (by decide) (by omega) (by omega) (fun c25 => ?_) (fun c25 => ?_)
    · refine g_iload_n dX9_fills_32 2 rfl ?_
      refine g_top (show nI x = nI (max x y) from congrArg nI (by omega)) ?_
      refine g_iasI dX9_fills_33 (f1_100) (by rw [List.length_set]; omega) (by simp only [List.length_set]; omega) (fun h2 e2 => ?_)
      have f2_100 : rd h2 100 = some (.inl (((Ro).set c (nI (min x y))).set (c + 1) (nI (max x y)))) := by rw [e2]; exact rd_wr_eq (f1_100)
      have lf2_100 : (((Ro).set c (nI (min x y))).set (c + 1) (nI (max x y))).length = _ := List.length_set.trans lf1_100
      have s2 : Smo 100 (100 + 1) h1 h2 := by rw [e2]; exact Smo.wr (by omega) (by omega)
      have f2_98 : rd h2 98 = some (.inr (9, [.int (nI n), .int (nI m), .ref 99, .ref 100, .ref 101, .int (nI a), .ref 102, .int (nI de), .ref 103, .ref 104, .ref 105, .int fo, .int as_, .int sm, .int sk, .ref 106, .ref 107, .ref 108, .int z, .ref 109, .ref 110, .ref 111, .int (nI am), .ref 112, .ref 113, .ref 114, .ref 115, .ref 116, .int (nI (bI ib)), .int iN, .int iM, .int iT, .ref 117, .ref 118, .ref 119])) := by rw [s2 _ (by omega)]; exact f1_98
      exact g_vret dX9_fills_34 rfl ⟨Nat.zero_le _, Nat.zero_le _⟩ (⟨rfl, f2_100, (fun q hq => by rw [s2 q (by omega), s1 q (by omega)])⟩)
    · refine g_iload_n dX9_fills_28 3 rfl ?_
      refine g_goto 33 dX9_fills_29 (by decide) ?_
      refine g_top (show nI y = nI (max x y) from congrArg nI (by omega)) ?_
      refine g_iasI dX9_fills_33 (f1_100) (by rw [List.length_set]; omega) (by simp only [List.length_set]; omega) (fun h3 e3 => ?_)
      have f3_100 : rd h3 100 = some (.inl (((Ro).set c (nI (min x y))).set (c + 1) (nI (max x y)))) := by rw [e3]; exact rd_wr_eq (f1_100)
      have lf3_100 : (((Ro).set c (nI (min x y))).set (c + 1) (nI (max x y))).length = _ := List.length_set.trans lf1_100
      have s3 : Smo 100 (100 + 1) h1 h3 := by rw [e3]; exact Smo.wr (by omega) (by omega)
      have f3_98 : rd h3 98 = some (.inr (9, [.int (nI n), .int (nI m), .ref 99, .ref 100, .ref 101, .int (nI a), .ref 102, .int (nI de), .ref 103, .ref 104, .ref 105, .int fo, .int as_, .int sm, .int sk, .ref 106, .ref 107, .ref 108, .int z, .ref 109, .ref 110, .ref 111, .int (nI am), .ref 112, .ref 113, .ref 114, .ref 115, .ref 116, .int (nI (bI ib)), .int iN, .int iM, .int iT, .ref 117, .ref 118, .ref 119])) := by rw [s3 _ (by omega)]; exact f1_98
      exact g_vret dX9_fills_34 rfl ⟨Nat.zero_le _, Nat.zero_le _⟩ (⟨rfl, f3_100, (fun q hq => by rw [s3 q (by omega), s1 q (by omega)])⟩)
  · refine g_iload_n dX9_fills_10 2 rfl ?_
    refine g_goto 15 dX9_fills_11 (by decide) ?_
    refine g_top (show nI x = nI (min x y) from congrArg nI (by omega)) ?_
    refine g_iasI dX9_fills_15 (hR) (by omega) (by omega) (fun h4 e4 => ?_)
    have f4_100 : rd h4 100 = some (.inl ((Ro).set c (nI (min x y)))) := by rw [e4]; exact rd_wr_eq (hR)
    have lf4_100 : ((Ro).set c (nI (min x y))).length = _ := List.length_set.trans lR
    have s4 : Smo 100 (100 + 1) h h4 := by rw [e4]; exact Smo.wr (by omega) (by omega)
    have f4_98 : rd h4 98 = some (.inr (9, [.int (nI n), .int (nI m), .ref 99, .ref 100, .ref 101, .int (nI a), .ref 102, .int (nI de), .ref 103, .ref 104, .ref 105, .int fo, .int as_, .int sm, .int sk, .ref 106, .ref 107, .ref 108, .int z, .ref 109, .ref 110, .ref 111, .int (nI am), .ref 112, .ref 113, .ref 114, .ref 115, .ref 116, .int (nI (bI ib)), .int iN, .int iM, .int iT, .ref 117, .ref 118, .ref 119])) := by rw [s4 _ (by omega)]; exact hO
    refine g_aload_n dX9_fills_16 0 rfl ?_
    refine g_getf dX9_fills_17 kX9 wfX9_17 (Nat.le_of_ble_eq_true rfl) (f4_98) rfl ?_
    refine g_iload_n dX9_fills_20 1 rfl ?_
    refine g_iconst (v := nI 1) dX9_fills_21 (by decide +kernel) ?_
    refine g_iaddN dX9_fills_22 ?_
    refine g_iload_n dX9_fills_23 2 rfl ?_
    refine g_iload_n dX9_fills_24 3 rfl ?_
    refine g_icmp_geN 32 dX9_fills_25 (by decide) (by omega) (by omega) (fun c25 => ?_) (fun c25 => ?_)
    · refine g_iload_n dX9_fills_32 2 rfl ?_
      refine g_top (show nI x = nI (max x y) from congrArg nI (by omega)) ?_
      refine g_iasI dX9_fills_33 (f4_100) (by rw [List.length_set]; omega) (by simp only [List.length_set]; omega) (fun h5 e5 => ?_)
      have f5_100 : rd h5 100 = some (.inl (((Ro).set c (nI (min x y))).set (c + 1) (nI (max x y)))) := by rw [e5]; exact rd_wr_eq (f4_100)
      have lf5_100 : (((Ro).set c (nI (min x y))).set (c + 1) (nI (max x y))).length = _ := List.length_set.trans lf4_100
      have s5 : Smo 100 (100 + 1) h4 h5 := by rw [e5]; exact Smo.wr (by omega) (by omega)
      have f5_98 : rd h5 98 = some (.inr (9, [.int (nI n), .int (nI m), .ref 99, .ref 100, .ref 101, .int (nI a), .ref 102, .int (nI de), .ref 103, .ref 104, .ref 105, .int fo, .int as_, .int sm, .int sk, .ref 106, .ref 107, .ref 108, .int z, .ref 109, .ref 110, .ref 111, .int (nI am), .ref 112, .ref 113, .ref 114, .ref 115, .ref 116, .int (nI (bI ib)), .int iN, .int iM, .int iT, .ref 117, .ref 118, .ref 119])) := by rw [s5 _ (by omega)]; exact f4_98
      exact g_vret dX9_fills_34 rfl ⟨Nat.zero_le _, Nat.zero_le _⟩ (⟨rfl, f5_100, (fun q hq => by rw [s5 q (by omega), s4 q (by omega)])⟩)
    · refine g_iload_n dX9_fills_28 3 rfl ?_
      refine g_goto 33 dX9_fills_29 (by decide) ?_
      refine g_top (show nI y = nI (max x y) from congrArg nI (by omega)) ?_
      refine g_iasI dX9_fills_33 (f4_100) (by rw [List.length_set]; omega) (by simp only [List.length_set]; omega) (fun h6 e6 => ?_)
      have f6_100 : rd h6 100 = some (.inl (((Ro).set c (nI (min x y))).set (c + 1) (nI (max x y)))) := by rw [e6]; exact rd_wr_eq (f4_100)
      have lf6_100 : (((Ro).set c (nI (min x y))).set (c + 1) (nI (max x y))).length = _ := List.length_set.trans lf4_100
      have s6 : Smo 100 (100 + 1) h4 h6 := by rw [e6]; exact Smo.wr (by omega) (by omega)
      have f6_98 : rd h6 98 = some (.inr (9, [.int (nI n), .int (nI m), .ref 99, .ref 100, .ref 101, .int (nI a), .ref 102, .int (nI de), .ref 103, .ref 104, .ref 105, .int fo, .int as_, .int sm, .int sk, .ref 106, .ref 107, .ref 108, .int z, .ref 109, .ref 110, .ref 111, .int (nI am), .ref 112, .ref 113, .ref 114, .ref 115, .ref 116, .int (nI (bI ib)), .int iN, .int iM, .int iT, .ref 117, .ref 118, .ref 119])) := by rw [s6 _ (by omega)]; exact f4_98
      exact g_vret dX9_fills_34 rfl ⟨Nat.zero_le _, Nat.zero_le _⟩ (⟨rfl, f6_100, (fun q hq => by rw [s6 q (by omega), s4 q (by omega)])⟩)

set_option maxRecDepth 100000 in
set_option maxHeartbeats 4000000 in
theorem ev_cAt {h : List aC} (a b : Nat) : Ev mX9_cellAt 1 0 0 [.ref 98, .int (nI a), .int (nI b)] h (pv (.int (nI (2 * (13 * a + b)))) h) := by
  refine Ev.of pX9_cellAt (Nat.le_of_ble_eq_true rfl) ?_
  show G mX9_cellAt (rmD 1 0 0) none _ 0 0 0 [(0, .ref 98), (1, .int (nI a)), (2, .int (nI b))] [] h
  refine g_iconst (v := nI 2) dX9_cellAt_0 (by decide +kernel) ?_
  refine g_bipush (v := nI 13) dX9_cellAt_1 (by decide +kernel) ?_
  refine g_iload_n dX9_cellAt_3 1 rfl ?_
  refine g_imulN dX9_cellAt_4 ?_
  refine g_iload_n dX9_cellAt_5 2 rfl ?_
  refine g_iaddN dX9_cellAt_6 ?_
  refine g_imulN dX9_cellAt_7 ?_
  exact g_iret dX9_cellAt_8 rfl ⟨Nat.zero_le _, Nat.zero_le _⟩ (⟨rfl, rfl⟩)

theorem at_v {R : List Int32} {rm : Nat → Nat → Nat} (h : rR R 0 rm) {a b w : Nat} (ha : a < 13) (hb : b < 13) (nz : rm a b ≠ 0) (hw : w ≤ 1) : R.getD (2 * (13 * a + b) + w) 0 = nI (if w = 0 then rm a b / 14 else rm a b % 14) := by
  have e : w = 0 ∨ w = 1 := by omega
  rcases e with rfl | rfl
  · rw [if_pos rfl, Nat.add_zero, rRx h ha hb]; exact if_neg nz
  · rw [if_neg (by omega), rRy h ha hb]; exact if_neg nz

set_option maxRecDepth 100000 in
set_option maxHeartbeats 4000000 in
theorem ev_y_cell_a {h : List aC} {σ : Sg} (H : RM h σ) (ok : okSg σ) (r c x y : Int32) (hx : x < -1) : Ev mX9_cell 3 0 0 [.ref 98, .int r, .int c, .int x, .int y] h (spM h (oCell σ r c x y)) := by
  obtain ⟨fo, as_, sm, sk, z, iN, iM, iT, P, Ro, U, rf, WM, WP, WR, Tr, Ke, Co, Th, Be, Le, AP, AR, AU, Sz, It, IP, IR, IU, mO, mP, mRo, mU, mrf, mWM, mWP, mWR, mTr, mKe, mCo, mTh, mBe, mLe, mAP, mAR, mAU, mSz, mIt, mIP, mIR, mIU, vP, vR, vU, vF, vH, vL, vS, vI, vG⟩ := id H
  have mO : rd h 98 = some (.inr (9, [.int (nI σ.1.1), .int (nI σ.1.2.1), .ref 99, .ref 100, .ref 101, .int (nI σ.1.2.2.2.1), .ref 102, .int (nI ((σ.2.2.2.1).length)), .ref 103, .ref 104, .ref 105, .int fo, .int as_, .int sm, .int sk, .ref 106, .ref 107, .ref 108, .int z, .ref 109, .ref 110, .ref 111, .int (nI σ.2.1.1), .ref 112, .ref 113, .ref 114, .ref 115, .ref 116, .int (nI (bI σ.2.2.2.2.1.isSome)), .int iN, .int iM, .int iT, .ref 117, .ref 118, .ref 119])) := mO
  obtain ⟨mP, lP⟩ := mP
  obtain ⟨mRo, lRo⟩ := mRo
  obtain ⟨mU, lU⟩ := mU
  obtain ⟨mrf, lrf⟩ := mrf
  obtain ⟨mWM, lWM⟩ := mWM
  obtain ⟨mWP, lWP⟩ := mWP
  obtain ⟨mWR, lWR⟩ := mWR
  obtain ⟨mTr, lTr⟩ := mTr
  obtain ⟨mKe, lKe⟩ := mKe
  obtain ⟨mCo, lCo⟩ := mCo
  obtain ⟨mTh, lTh⟩ := mTh
  obtain ⟨mBe, lBe⟩ := mBe
  obtain ⟨mLe, lLe⟩ := mLe
  obtain ⟨mAP, lAP⟩ := mAP
  obtain ⟨mAR, lAR⟩ := mAR
  obtain ⟨mAU, lAU⟩ := mAU
  obtain ⟨mSz, lSz⟩ := mSz
  obtain ⟨mIt, lIt⟩ := mIt
  obtain ⟨mIP, lIP⟩ := mIP
  obtain ⟨mIR, lIR⟩ := mIR
  obtain ⟨mIU, lIU⟩ := mIU
  obtain ⟨okc, ⟨okl, okw⟩, okn, ⟨okh, oke⟩, oki, okr⟩ := id ok
  obtain ⟨k1, k2, k3, k4, k5, k6, k7, k8, k9⟩ := id okc
  refine Ev.of pX9_cell (Nat.le_of_ble_eq_true rfl) ?_
  show G mX9_cell (rmD 3 0 0) none _ 0 0 0 [(0, .ref 98), (1, .int r), (2, .int c), (3, .int x), (4, .int y)] [] h
  refine g_aload_n dX9_cell_0 0 rfl ?_
  refine g_iload_n dX9_cell_1 1 rfl ?_
  refine g_iload_n dX9_cell_2 2 rfl ?_
  refine g_callVp dX9_cell_3 (ev_isCell H ok r c) oX9_isCell wiX9_isCell weX9_isCell wmX9_200 kX9 (mO) rfl ⟨(Nat.le_of_ble_eq_true rfl), (Nat.le_of_ble_eq_true rfl)⟩ ⟨Nat.zero_le _, Nat.zero_le _⟩ (Nat.le_of_ble_eq_true rfl) rfl ?_
  refine g_if_neB 15 dX9_cell_6 (by decide) (fun c6 => ?_) (fun c6 => ?_)
  · have n1 := of_decide_eq_true c6
    have nx : ¬ x = -1 := fun e => absurd hx (by rw [e]; decide)
    refine g_iload_n dX9_cell_15 3 rfl ?_
    refine g_iconst (v := (-1)) dX9_cell_16 (by decide +kernel) ?_
    refine g_icmp_lt 29 dX9_cell_17 (by decide) (fun c17 => ?_) (fun z => absurd z (not_not_intro hx))
    refine g_aload_n dX9_cell_29 0 rfl ?_
    refine g_bipush (v := (-4)) dX9_cell_30 (by decide +kernel) ?_
    have er : rCell σ.1.1 r c x y = -4 := (if_neg (not_not_intro n1)).trans ((if_neg nx).trans (if_pos (Or.inl hx)))
    rw [show oCell σ r c x y = rfS σ (rCell σ.1.1 r c x y) from if_neg (by rw [er]; decide), er]
    refine g_callVq (st1 := [.int (-nI 4)]) dX9_cell_32 (ev_refused H ok 4 (by unfold noN; omega)) oX9_refused wiX9_refused weX9_refused wmX9_90 kX9 (mO) rfl ⟨(Nat.le_of_ble_eq_true rfl), (Nat.le_of_ble_eq_true rfl)⟩ ⟨Nat.zero_le _, Nat.zero_le _⟩ (Nat.le_of_ble_eq_true rfl) rfl rfl (fun h1 q1 => ?_)
    exact g_iret dX9_cell_35 rfl ⟨Nat.zero_le _, Nat.zero_le _⟩ (⟨rfl, q1⟩)
  · refine g_aload_n dX9_cell_9 0 rfl ?_
    refine g_iconst (v := (-1)) dX9_cell_10 (by decide +kernel) ?_
    have er : rCell σ.1.1 r c x y = -1 := if_pos (of_decide_eq_false c6)
    rw [show oCell σ r c x y = rfS σ (rCell σ.1.1 r c x y) from if_neg (by rw [er]; decide), er]
    refine g_callVq (st1 := [.int (-nI 1)]) dX9_cell_11 (ev_refused H ok 1 (by unfold noN; omega)) oX9_refused wiX9_refused weX9_refused wmX9_90 kX9 (mO) rfl ⟨(Nat.le_of_ble_eq_true rfl), (Nat.le_of_ble_eq_true rfl)⟩ ⟨Nat.zero_le _, Nat.zero_le _⟩ (Nat.le_of_ble_eq_true rfl) rfl rfl (fun h2 q2 => ?_)
    exact g_iret dX9_cell_14 rfl ⟨Nat.zero_le _, Nat.zero_le _⟩ (⟨rfl, q2⟩)

set_option maxRecDepth 100000 in
set_option maxHeartbeats 4000000 in
theorem ev_y_cell_b {h : List aC} {σ : Sg} (H : RM h σ) (ok : okSg σ) (r c x y : Int32) (hx : x = -1) : Ev mX9_cell 3 0 0 [.ref 98, .int r, .int c, .int x, .int y] h (spM h (oCell σ r c x y)) := by
  obtain ⟨fo, as_, sm, sk, z, iN, iM, iT, P, Ro, U, rf, WM, WP, WR, Tr, Ke, Co, Th, Be, Le, AP, AR, AU, Sz, It, IP, IR, IU, mO, mP, mRo, mU, mrf, mWM, mWP, mWR, mTr, mKe, mCo, mTh, mBe, mLe, mAP, mAR, mAU, mSz, mIt, mIP, mIR, mIU, vP, vR, vU, vF, vH, vL, vS, vI, vG⟩ := id H
  have mO : rd h 98 = some (.inr (9, [.int (nI σ.1.1), .int (nI σ.1.2.1), .ref 99, .ref 100, .ref 101, .int (nI σ.1.2.2.2.1), .ref 102, .int (nI ((σ.2.2.2.1).length)), .ref 103, .ref 104, .ref 105, .int fo, .int as_, .int sm, .int sk, .ref 106, .ref 107, .ref 108, .int z, .ref 109, .ref 110, .ref 111, .int (nI σ.2.1.1), .ref 112, .ref 113, .ref 114, .ref 115, .ref 116, .int (nI (bI σ.2.2.2.2.1.isSome)), .int iN, .int iM, .int iT, .ref 117, .ref 118, .ref 119])) := mO
  obtain ⟨mP, lP⟩ := mP
  obtain ⟨mRo, lRo⟩ := mRo
  obtain ⟨mU, lU⟩ := mU
  obtain ⟨mrf, lrf⟩ := mrf
  obtain ⟨mWM, lWM⟩ := mWM
  obtain ⟨mWP, lWP⟩ := mWP
  obtain ⟨mWR, lWR⟩ := mWR
  obtain ⟨mTr, lTr⟩ := mTr
  obtain ⟨mKe, lKe⟩ := mKe
  obtain ⟨mCo, lCo⟩ := mCo
  obtain ⟨mTh, lTh⟩ := mTh
  obtain ⟨mBe, lBe⟩ := mBe
  obtain ⟨mLe, lLe⟩ := mLe
  obtain ⟨mAP, lAP⟩ := mAP
  obtain ⟨mAR, lAR⟩ := mAR
  obtain ⟨mAU, lAU⟩ := mAU
  obtain ⟨mSz, lSz⟩ := mSz
  obtain ⟨mIt, lIt⟩ := mIt
  obtain ⟨mIP, lIP⟩ := mIP
  obtain ⟨mIR, lIR⟩ := mIR
  obtain ⟨mIU, lIU⟩ := mIU
  obtain ⟨okc, ⟨okl, okw⟩, okn, ⟨okh, oke⟩, oki, okr⟩ := id ok
  obtain ⟨k1, k2, k3, k4, k5, k6, k7, k8, k9⟩ := id okc
  refine Ev.of pX9_cell (Nat.le_of_ble_eq_true rfl) ?_
  show G mX9_cell (rmD 3 0 0) none _ 0 0 0 [(0, .ref 98), (1, .int r), (2, .int c), (3, .int x), (4, .int y)] [] h
  refine g_aload_n dX9_cell_0 0 rfl ?_
  refine g_iload_n dX9_cell_1 1 rfl ?_
  refine g_iload_n dX9_cell_2 2 rfl ?_
  refine g_callVp dX9_cell_3 (ev_isCell H ok r c) oX9_isCell wiX9_isCell weX9_isCell wmX9_200 kX9 (mO) rfl ⟨(Nat.le_of_ble_eq_true rfl), (Nat.le_of_ble_eq_true rfl)⟩ ⟨Nat.zero_le _, Nat.zero_le _⟩ (Nat.le_of_ble_eq_true rfl) rfl ?_
  refine g_if_neB 15 dX9_cell_6 (by decide) (fun c6 => ?_) (fun c6 => ?_)
  · have n1 := of_decide_eq_true c6
    have er : rCell σ.1.1 r c x y = 0 := (if_neg (not_not_intro n1)).trans (if_pos hx)
    rw [show oCell σ r c x y = (nI (if σ.1.2.2.2.2.2 r.toNatClampNeg c.toNatClampNeg = 0 then 0 else 1), ((σ.1.1, σ.1.2.1, σ.1.2.2.1, σ.1.2.2.2.1, σ.1.2.2.2.2.1, u2 σ.1.2.2.2.2.2 r.toNatClampNeg c.toNatClampNeg (0)), σ.2.1, σ.2.2.1, (σ.1.2.2.1, σ.1.2.2.2.2.2) :: σ.2.2.2.1.take 11, σ.2.2.2.2)) from (if_pos er).trans (by rw [show vC x y = 0 from if_neg (by rw [hx]; decide)])]
    clear c6 er
    obtain ⟨r1, hr1, rfl⟩ := nn_of n1.1
    obtain ⟨c1, hc1, rfl⟩ := nn_of n1.2.2.1
    rw [cl_ hr1, cl_ hc1]
    have br := nn_lt hr1 (by omega) n1.2.1
    have bc := nn_lt hc1 (by omega) n1.2.2.2
    have vl : σ.1.2.2.2.2.2 r1 c1 < 196 := okC_lt k2 (k8 r1 c1 br bc)
    refine g_iload_n dX9_cell_15 3 rfl ?_
    refine g_iconst (v := (-1)) dX9_cell_16 (by decide +kernel) ?_
    refine g_icmp_lt 29 dX9_cell_17 (by decide) (fun z => absurd z (by rw [hx]; decide)) (fun c17 => ?_)
    refine g_iload_n dX9_cell_20 3 rfl ?_
    refine g_if_lt 36 dX9_cell_21 (by decide) (fun c21 => ?_) (fun z => absurd z (not_not_intro (show x < 0 by rw [hx]; decide)))
    refine g_iload_n dX9_cell_36 3 rfl ?_
    refine g_aload_n dX9_cell_37 0 rfl ?_
    refine g_getf dX9_cell_38 kX9 wfX9_7 (Nat.le_of_ble_eq_true rfl) (mO) rfl ?_
    refine g_icmp_gt 57 dX9_cell_41 (by decide) (fun z => absurd z (by rw [hx]; exact Int32.not_lt.mpr (Int32.le_trans (show (-1 : Int32) ≤ nI 0 by decide) ((nI_leI (by omega) (by omega)).mpr (Nat.zero_le _))))) (fun c41 => ?_)
    refine g_iload_n dX9_cell_44 3 rfl ?_
    refine g_if_lt 64 dX9_cell_45 (by decide) (fun c45 => ?_) (fun z => absurd z (not_not_intro (show x < 0 by rw [hx]; decide)))
    refine g_iload_n dX9_cell_64 3 rfl ?_
    refine g_if_lt 81 dX9_cell_65 (by decide) (fun c65 => ?_) (fun z => absurd z (not_not_intro (show x < 0 by rw [hx]; decide)))
    refine g_aload_n dX9_cell_81 0 rfl ?_
    refine g_callVq (st1 := []) dX9_cell_82 (ev_remembers H ok) oX9_remembers wiX9_remembers weX9_remembers wmX9_124 kX9 (mO) rfl ⟨(Nat.le_of_ble_eq_true rfl), (Nat.le_of_ble_eq_true rfl)⟩ ⟨Nat.zero_le _, Nat.zero_le _⟩ (Nat.le_of_ble_eq_true rfl) rfl rfl (fun h1 q1 => ?_)
    have hS0 := q1.2
    obtain ⟨fo, as_, sm, sk, z, iN, iM, iT, P, Ro, U, rf, WM, WP, WR, Tr, Ke, Co, Th, Be, Le, AP, AR, AU, Sz, It, IP, IR, IU, mO, mP, mRo, mU, mrf, mWM, mWP, mWR, mTr, mKe, mCo, mTh, mBe, mLe, mAP, mAR, mAU, mSz, mIt, mIP, mIR, mIU, vP, vR, vU, vF, vH, vL, vS, vI, vG⟩ := q1.1
    have mO : rd h1 98 = some (.inr (9, [.int (nI σ.1.1), .int (nI σ.1.2.1), .ref 99, .ref 100, .ref 101, .int (nI σ.1.2.2.2.1), .ref 102, .int (nI (((σ.1.2.2.1, σ.1.2.2.2.2.2) :: σ.2.2.2.1.take 11).length)), .ref 103, .ref 104, .ref 105, .int fo, .int as_, .int sm, .int sk, .ref 106, .ref 107, .ref 108, .int z, .ref 109, .ref 110, .ref 111, .int (nI σ.2.1.1), .ref 112, .ref 113, .ref 114, .ref 115, .ref 116, .int (nI (bI σ.2.2.2.2.1.isSome)), .int iN, .int iM, .int iT, .ref 117, .ref 118, .ref 119])) := mO
    obtain ⟨mP, lP⟩ := mP
    obtain ⟨mRo, lRo⟩ := mRo
    obtain ⟨mU, lU⟩ := mU
    obtain ⟨mrf, lrf⟩ := mrf
    obtain ⟨mWM, lWM⟩ := mWM
    obtain ⟨mWP, lWP⟩ := mWP
    obtain ⟨mWR, lWR⟩ := mWR
    obtain ⟨mTr, lTr⟩ := mTr
    obtain ⟨mKe, lKe⟩ := mKe
    obtain ⟨mCo, lCo⟩ := mCo
    obtain ⟨mTh, lTh⟩ := mTh
    obtain ⟨mBe, lBe⟩ := mBe
    obtain ⟨mLe, lLe⟩ := mLe
    obtain ⟨mAP, lAP⟩ := mAP
    obtain ⟨mAR, lAR⟩ := mAR
    obtain ⟨mAU, lAU⟩ := mAU
    obtain ⟨mSz, lSz⟩ := mSz
    obtain ⟨mIt, lIt⟩ := mIt
    obtain ⟨mIP, lIP⟩ := mIP
    obtain ⟨mIR, lIR⟩ := mIR
    obtain ⟨mIU, lIU⟩ := mIU
    have vP : pR P 0 σ.1.2.1 σ.1.2.2.1 := vP
    have vR : rR Ro 0 σ.1.2.2.2.2.2 := vR
    have vU : tR U σ.1.2.2.2.1 σ.1.2.2.2.2.1 := vU
    refine g_aload_n dX9_cell_85 0 rfl ?_
    refine g_iload_n dX9_cell_86 1 rfl ?_
    refine g_iload_n dX9_cell_87 2 rfl ?_
    refine g_callVp dX9_cell_88 (ev_cAt (r1) (c1)) oX9_cellAt wiX9_cellAt weX9_cellAt wmX9_194 kX9 (mO) rfl ⟨(Nat.le_of_ble_eq_true rfl), (Nat.le_of_ble_eq_true rfl)⟩ ⟨Nat.zero_le _, Nat.zero_le _⟩ (Nat.le_of_ble_eq_true rfl) rfl ?_
    refine g_istore (ls' := [(5, .int (nI (2 * (13 * r1 + c1)))), (0, .ref 98), (1, .int (nI r1)), (2, .int (nI c1)), (3, .int x), (4, .int y)]) dX9_cell_91 (Nat.le_of_ble_eq_true rfl) rfl ?_
    refine g_aload_n dX9_cell_93 1 rfl ?_
    refine g_getf dX9_cell_94 kX9 wfX9_17 (Nat.le_of_ble_eq_true rfl) (mO) rfl ?_
    refine g_iload dX9_cell_97 0 rfl ?_
    refine g_ialI dX9_cell_99 (mRo) (by omega) (by omega) ?_
    refine g_top (rRx vR (by omega) (by omega)) ?_
    refine g_if_ge 107 dX9_cell_100 (by decide) (fun c100 => ?_) (fun c100 => ?_)
    · refine g_iconst (v := nI 1) dX9_cell_107 (by decide +kernel) ?_
      refine g_top (show nI 1 = nI (if σ.1.2.2.2.2.2 r1 c1 = 0 then 0 else 1) from congrArg nI ((if_neg ((xV_i _ vl).mp c100)).symm)) ?_
      refine g_istore (ls' := [(6, .int (nI (if σ.1.2.2.2.2.2 r1 c1 = 0 then 0 else 1))), (5, .int (nI (2 * (13 * r1 + c1)))), (0, .ref 98), (1, .int (nI r1)), (2, .int (nI c1)), (3, .int x), (4, .int y)]) dX9_cell_108 (Nat.le_of_ble_eq_true rfl) rfl ?_
      refine g_iload_n dX9_cell_110 5 rfl ?_
      refine g_if_ge 135 dX9_cell_111 (by decide) (fun z => absurd z (by rw [hx]; decide)) (fun c111 => ?_)
      refine g_aload_n dX9_cell_114 2 rfl ?_
      refine g_getf dX9_cell_115 kX9 wfX9_17 (Nat.le_of_ble_eq_true rfl) (mO) rfl ?_
      refine g_iload dX9_cell_118 1 rfl ?_
      refine g_iconst (v := (-1)) dX9_cell_120 (by decide +kernel) ?_
      refine g_iasI dX9_cell_121 (mRo) (by omega) (by omega) (fun h2 e2 => ?_)
      have f2_100 : rd h2 100 = some (.inl ((Ro).set (2 * (13 * r1 + c1)) (-1))) := by rw [e2]; exact rd_wr_eq (mRo)
      have lf2_100 : ((Ro).set (2 * (13 * r1 + c1)) (-1)).length = _ := List.length_set.trans lRo
      have s2 : Smo 100 (100 + 1) h1 h2 := by rw [e2]; exact Smo.wr (by omega) (by omega)
      have f2_98 : rd h2 98 = some (.inr (9, [.int (nI σ.1.1), .int (nI σ.1.2.1), .ref 99, .ref 100, .ref 101, .int (nI σ.1.2.2.2.1), .ref 102, .int (nI (((σ.1.2.2.1, σ.1.2.2.2.2.2) :: σ.2.2.2.1.take 11).length)), .ref 103, .ref 104, .ref 105, .int fo, .int as_, .int sm, .int sk, .ref 106, .ref 107, .ref 108, .int z, .ref 109, .ref 110, .ref 111, .int (nI σ.2.1.1), .ref 112, .ref 113, .ref 114, .ref 115, .ref 116, .int (nI (bI σ.2.2.2.2.1.isSome)), .int iN, .int iM, .int iT, .ref 117, .ref 118, .ref 119])) := by rw [s2 _ (by omega)]; exact mO
      have f2_99 : rd h2 99 = some (.inl (P)) := by rw [s2 _ (by omega)]; exact mP
      have f2_101 : rd h2 101 = some (.inl (U)) := by rw [s2 _ (by omega)]; exact mU
      have f2_102 : rd h2 102 = some (.inl (rf)) := by rw [s2 _ (by omega)]; exact mrf
      have f2_103 : rd h2 103 = some (.inl (WM)) := by rw [s2 _ (by omega)]; exact mWM
      have f2_104 : rd h2 104 = some (.inl (WP)) := by rw [s2 _ (by omega)]; exact mWP
      have f2_105 : rd h2 105 = some (.inl (WR)) := by rw [s2 _ (by omega)]; exact mWR
      have f2_106 : rd h2 106 = some (.inl (Tr)) := by rw [s2 _ (by omega)]; exact mTr
      have f2_107 : rd h2 107 = some (.inl (Ke)) := by rw [s2 _ (by omega)]; exact mKe
      have f2_108 : rd h2 108 = some (.inl (Co)) := by rw [s2 _ (by omega)]; exact mCo
      have f2_109 : rd h2 109 = some (.inl (Th)) := by rw [s2 _ (by omega)]; exact mTh
      have f2_110 : rd h2 110 = some (.inl (Be)) := by rw [s2 _ (by omega)]; exact mBe
      have f2_111 : rd h2 111 = some (.inl (Le)) := by rw [s2 _ (by omega)]; exact mLe
      have f2_112 : rd h2 112 = some (.inl (AP)) := by rw [s2 _ (by omega)]; exact mAP
      have f2_113 : rd h2 113 = some (.inl (AR)) := by rw [s2 _ (by omega)]; exact mAR
      have f2_114 : rd h2 114 = some (.inl (AU)) := by rw [s2 _ (by omega)]; exact mAU
      have f2_115 : rd h2 115 = some (.inl (Sz)) := by rw [s2 _ (by omega)]; exact mSz
      have f2_116 : rd h2 116 = some (.inl (It)) := by rw [s2 _ (by omega)]; exact mIt
      have f2_117 : rd h2 117 = some (.inl (IP)) := by rw [s2 _ (by omega)]; exact mIP
      have f2_118 : rd h2 118 = some (.inl (IR)) := by rw [s2 _ (by omega)]; exact mIR
      have f2_119 : rd h2 119 = some (.inl (IU)) := by rw [s2 _ (by omega)]; exact mIU
      refine g_aload_n dX9_cell_122 2 rfl ?_
      refine g_getf dX9_cell_123 kX9 wfX9_17 (Nat.le_of_ble_eq_true rfl) (f2_98) rfl ?_
      refine g_iload dX9_cell_126 1 rfl ?_
      refine g_iconst (v := nI 1) dX9_cell_128 (by decide +kernel) ?_
      refine g_iaddN dX9_cell_129 ?_
      refine g_iconst (v := (-1)) dX9_cell_130 (by decide +kernel) ?_
      refine g_iasI dX9_cell_131 (f2_100) (by rw [List.length_set]; omega) (by simp only [List.length_set]; omega) (fun h3 e3 => ?_)
      have f3_100 : rd h3 100 = some (.inl (((Ro).set (2 * (13 * r1 + c1)) (-1)).set ((2 * (13 * r1 + c1)) + 1) (-1))) := by rw [e3]; exact rd_wr_eq (f2_100)
      have lf3_100 : (((Ro).set (2 * (13 * r1 + c1)) (-1)).set ((2 * (13 * r1 + c1)) + 1) (-1)).length = _ := List.length_set.trans lf2_100
      have s3 : Smo 100 (100 + 1) h2 h3 := by rw [e3]; exact Smo.wr (by omega) (by omega)
      have f3_98 : rd h3 98 = some (.inr (9, [.int (nI σ.1.1), .int (nI σ.1.2.1), .ref 99, .ref 100, .ref 101, .int (nI σ.1.2.2.2.1), .ref 102, .int (nI (((σ.1.2.2.1, σ.1.2.2.2.2.2) :: σ.2.2.2.1.take 11).length)), .ref 103, .ref 104, .ref 105, .int fo, .int as_, .int sm, .int sk, .ref 106, .ref 107, .ref 108, .int z, .ref 109, .ref 110, .ref 111, .int (nI σ.2.1.1), .ref 112, .ref 113, .ref 114, .ref 115, .ref 116, .int (nI (bI σ.2.2.2.2.1.isSome)), .int iN, .int iM, .int iT, .ref 117, .ref 118, .ref 119])) := by rw [s3 _ (by omega)]; exact f2_98
      have f3_99 : rd h3 99 = some (.inl (P)) := by rw [s3 _ (by omega)]; exact f2_99
      have f3_101 : rd h3 101 = some (.inl (U)) := by rw [s3 _ (by omega)]; exact f2_101
      have f3_102 : rd h3 102 = some (.inl (rf)) := by rw [s3 _ (by omega)]; exact f2_102
      have f3_103 : rd h3 103 = some (.inl (WM)) := by rw [s3 _ (by omega)]; exact f2_103
      have f3_104 : rd h3 104 = some (.inl (WP)) := by rw [s3 _ (by omega)]; exact f2_104
      have f3_105 : rd h3 105 = some (.inl (WR)) := by rw [s3 _ (by omega)]; exact f2_105
      have f3_106 : rd h3 106 = some (.inl (Tr)) := by rw [s3 _ (by omega)]; exact f2_106
      have f3_107 : rd h3 107 = some (.inl (Ke)) := by rw [s3 _ (by omega)]; exact f2_107
      have f3_108 : rd h3 108 = some (.inl (Co)) := by rw [s3 _ (by omega)]; exact f2_108
      have f3_109 : rd h3 109 = some (.inl (Th)) := by rw [s3 _ (by omega)]; exact f2_109
      have f3_110 : rd h3 110 = some (.inl (Be)) := by rw [s3 _ (by omega)]; exact f2_110
      have f3_111 : rd h3 111 = some (.inl (Le)) := by rw [s3 _ (by omega)]; exact f2_111
      have f3_112 : rd h3 112 = some (.inl (AP)) := by rw [s3 _ (by omega)]; exact f2_112
      have f3_113 : rd h3 113 = some (.inl (AR)) := by rw [s3 _ (by omega)]; exact f2_113
      have f3_114 : rd h3 114 = some (.inl (AU)) := by rw [s3 _ (by omega)]; exact f2_114
      have f3_115 : rd h3 115 = some (.inl (Sz)) := by rw [s3 _ (by omega)]; exact f2_115
      have f3_116 : rd h3 116 = some (.inl (It)) := by rw [s3 _ (by omega)]; exact f2_116
      have f3_117 : rd h3 117 = some (.inl (IP)) := by rw [s3 _ (by omega)]; exact f2_117
      have f3_118 : rd h3 118 = some (.inl (IR)) := by rw [s3 _ (by omega)]; exact f2_118
      have f3_119 : rd h3 119 = some (.inl (IU)) := by rw [s3 _ (by omega)]; exact f2_119
      refine g_goto 144 dX9_cell_132 (by decide) ?_
      refine g_iload dX9_cell_144 0 rfl ?_
      exact g_iret dX9_cell_146 rfl ⟨Nat.zero_le _, Nat.zero_le _⟩ (⟨rfl, ⟨_, _, _, _, _, _, _, _, _, _, _, _, _, _, _, _, _, _, _, _, _, _, _, _, _, _, _, _, _, f3_98, ⟨f3_99, lP⟩, ⟨f3_100, lf3_100⟩, ⟨f3_101, lU⟩, ⟨f3_102, lrf⟩, ⟨f3_103, lWM⟩, ⟨f3_104, lWP⟩, ⟨f3_105, lWR⟩, ⟨f3_106, lTr⟩, ⟨f3_107, lKe⟩, ⟨f3_108, lCo⟩, ⟨f3_109, lTh⟩, ⟨f3_110, lBe⟩, ⟨f3_111, lLe⟩, ⟨f3_112, lAP⟩, ⟨f3_113, lAR⟩, ⟨f3_114, lAU⟩, ⟨f3_115, lSz⟩, ⟨f3_116, lIt⟩, ⟨f3_117, lIP⟩, ⟨f3_118, lIR⟩, ⟨f3_119, lIU⟩, vP, (rR_set vR lRo (v := 0) (by omega) (by omega) rfl rfl), vU, vF, vH, vL, vS, vI, vG⟩, (fun q hq => by rw [s3 q (by omega), s2 q (by omega), hS0 q (by omega)])⟩)
    · refine g_iconst (v := nI 0) dX9_cell_103 (by decide +kernel) ?_
      refine g_goto 108 dX9_cell_104 (by decide) ?_
      refine g_top (show nI 0 = nI (if σ.1.2.2.2.2.2 r1 c1 = 0 then 0 else 1) from congrArg nI ((if_pos (Decidable.byContradiction fun z => c100 ((xV_i _ vl).mpr z))).symm)) ?_
      refine g_istore (ls' := [(6, .int (nI (if σ.1.2.2.2.2.2 r1 c1 = 0 then 0 else 1))), (5, .int (nI (2 * (13 * r1 + c1)))), (0, .ref 98), (1, .int (nI r1)), (2, .int (nI c1)), (3, .int x), (4, .int y)]) dX9_cell_108 (Nat.le_of_ble_eq_true rfl) rfl ?_
      refine g_iload_n dX9_cell_110 5 rfl ?_
      refine g_if_ge 135 dX9_cell_111 (by decide) (fun z => absurd z (by rw [hx]; decide)) (fun c111 => ?_)
      refine g_aload_n dX9_cell_114 2 rfl ?_
      refine g_getf dX9_cell_115 kX9 wfX9_17 (Nat.le_of_ble_eq_true rfl) (mO) rfl ?_
      refine g_iload dX9_cell_118 1 rfl ?_
      refine g_iconst (v := (-1)) dX9_cell_120 (by decide +kernel) ?_
      refine g_iasI dX9_cell_121 (mRo) (by omega) (by omega) (fun h4 e4 => ?_)
      have f4_100 : rd h4 100 = some (.inl ((Ro).set (2 * (13 * r1 + c1)) (-1))) := by rw [e4]; exact rd_wr_eq (mRo)
      have lf4_100 : ((Ro).set (2 * (13 * r1 + c1)) (-1)).length = _ := List.length_set.trans lRo
      have s4 : Smo 100 (100 + 1) h1 h4 := by rw [e4]; exact Smo.wr (by omega) (by omega)
      have f4_98 : rd h4 98 = some (.inr (9, [.int (nI σ.1.1), .int (nI σ.1.2.1), .ref 99, .ref 100, .ref 101, .int (nI σ.1.2.2.2.1), .ref 102, .int (nI (((σ.1.2.2.1, σ.1.2.2.2.2.2) :: σ.2.2.2.1.take 11).length)), .ref 103, .ref 104, .ref 105, .int fo, .int as_, .int sm, .int sk, .ref 106, .ref 107, .ref 108, .int z, .ref 109, .ref 110, .ref 111, .int (nI σ.2.1.1), .ref 112, .ref 113, .ref 114, .ref 115, .ref 116, .int (nI (bI σ.2.2.2.2.1.isSome)), .int iN, .int iM, .int iT, .ref 117, .ref 118, .ref 119])) := by rw [s4 _ (by omega)]; exact mO
      have f4_99 : rd h4 99 = some (.inl (P)) := by rw [s4 _ (by omega)]; exact mP
      have f4_101 : rd h4 101 = some (.inl (U)) := by rw [s4 _ (by omega)]; exact mU
      have f4_102 : rd h4 102 = some (.inl (rf)) := by rw [s4 _ (by omega)]; exact mrf
      have f4_103 : rd h4 103 = some (.inl (WM)) := by rw [s4 _ (by omega)]; exact mWM
      have f4_104 : rd h4 104 = some (.inl (WP)) := by rw [s4 _ (by omega)]; exact mWP
      have f4_105 : rd h4 105 = some (.inl (WR)) := by rw [s4 _ (by omega)]; exact mWR
      have f4_106 : rd h4 106 = some (.inl (Tr)) := by rw [s4 _ (by omega)]; exact mTr
      have f4_107 : rd h4 107 = some (.inl (Ke)) := by rw [s4 _ (by omega)]; exact mKe
      have f4_108 : rd h4 108 = some (.inl (Co)) := by rw [s4 _ (by omega)]; exact mCo
      have f4_109 : rd h4 109 = some (.inl (Th)) := by rw [s4 _ (by omega)]; exact mTh
      have f4_110 : rd h4 110 = some (.inl (Be)) := by rw [s4 _ (by omega)]; exact mBe
      have f4_111 : rd h4 111 = some (.inl (Le)) := by rw [s4 _ (by omega)]; exact mLe
      have f4_112 : rd h4 112 = some (.inl (AP)) := by rw [s4 _ (by omega)]; exact mAP
      have f4_113 : rd h4 113 = some (.inl (AR)) := by rw [s4 _ (by omega)]; exact mAR
      have f4_114 : rd h4 114 = some (.inl (AU)) := by rw [s4 _ (by omega)]; exact mAU
      have f4_115 : rd h4 115 = some (.inl (Sz)) := by rw [s4 _ (by omega)]; exact mSz
      have f4_116 : rd h4 116 = some (.inl (It)) := by rw [s4 _ (by omega)]; exact mIt
      have f4_117 : rd h4 117 = some (.inl (IP)) := by rw [s4 _ (by omega)]; exact mIP
      have f4_118 : rd h4 118 = some (.inl (IR)) := by rw [s4 _ (by omega)]; exact mIR
      have f4_119 : rd h4 119 = some (.inl (IU)) := by rw [s4 _ (by omega)]; exact mIU
      refine g_aload_n dX9_cell_122 2 rfl ?_
      refine g_getf dX9_cell_123 kX9 wfX9_17 (Nat.le_of_ble_eq_true rfl) (f4_98) rfl ?_
      refine g_iload dX9_cell_126 1 rfl ?_
      refine g_iconst (v := nI 1) dX9_cell_128 (by decide +kernel) ?_
      refine g_iaddN dX9_cell_129 ?_
      refine g_iconst (v := (-1)) dX9_cell_130 (by decide +kernel) ?_
      refine g_iasI dX9_cell_131 (f4_100) (by rw [List.length_set]; omega) (by simp only [List.length_set]; omega) (fun h5 e5 => ?_)
      have f5_100 : rd h5 100 = some (.inl (((Ro).set (2 * (13 * r1 + c1)) (-1)).set ((2 * (13 * r1 + c1)) + 1) (-1))) := by rw [e5]; exact rd_wr_eq (f4_100)
      have lf5_100 : (((Ro).set (2 * (13 * r1 + c1)) (-1)).set ((2 * (13 * r1 + c1)) + 1) (-1)).length = _ := List.length_set.trans lf4_100
      have s5 : Smo 100 (100 + 1) h4 h5 := by rw [e5]; exact Smo.wr (by omega) (by omega)
      have f5_98 : rd h5 98 = some (.inr (9, [.int (nI σ.1.1), .int (nI σ.1.2.1), .ref 99, .ref 100, .ref 101, .int (nI σ.1.2.2.2.1), .ref 102, .int (nI (((σ.1.2.2.1, σ.1.2.2.2.2.2) :: σ.2.2.2.1.take 11).length)), .ref 103, .ref 104, .ref 105, .int fo, .int as_, .int sm, .int sk, .ref 106, .ref 107, .ref 108, .int z, .ref 109, .ref 110, .ref 111, .int (nI σ.2.1.1), .ref 112, .ref 113, .ref 114, .ref 115, .ref 116, .int (nI (bI σ.2.2.2.2.1.isSome)), .int iN, .int iM, .int iT, .ref 117, .ref 118, .ref 119])) := by rw [s5 _ (by omega)]; exact f4_98
      have f5_99 : rd h5 99 = some (.inl (P)) := by rw [s5 _ (by omega)]; exact f4_99
      have f5_101 : rd h5 101 = some (.inl (U)) := by rw [s5 _ (by omega)]; exact f4_101
      have f5_102 : rd h5 102 = some (.inl (rf)) := by rw [s5 _ (by omega)]; exact f4_102
      have f5_103 : rd h5 103 = some (.inl (WM)) := by rw [s5 _ (by omega)]; exact f4_103
      have f5_104 : rd h5 104 = some (.inl (WP)) := by rw [s5 _ (by omega)]; exact f4_104
      have f5_105 : rd h5 105 = some (.inl (WR)) := by rw [s5 _ (by omega)]; exact f4_105
      have f5_106 : rd h5 106 = some (.inl (Tr)) := by rw [s5 _ (by omega)]; exact f4_106
      have f5_107 : rd h5 107 = some (.inl (Ke)) := by rw [s5 _ (by omega)]; exact f4_107
      have f5_108 : rd h5 108 = some (.inl (Co)) := by rw [s5 _ (by omega)]; exact f4_108
      have f5_109 : rd h5 109 = some (.inl (Th)) := by rw [s5 _ (by omega)]; exact f4_109
      have f5_110 : rd h5 110 = some (.inl (Be)) := by rw [s5 _ (by omega)]; exact f4_110
      have f5_111 : rd h5 111 = some (.inl (Le)) := by rw [s5 _ (by omega)]; exact f4_111
      have f5_112 : rd h5 112 = some (.inl (AP)) := by rw [s5 _ (by omega)]; exact f4_112
      have f5_113 : rd h5 113 = some (.inl (AR)) := by rw [s5 _ (by omega)]; exact f4_113
      have f5_114 : rd h5 114 = some (.inl (AU)) := by rw [s5 _ (by omega)]; exact f4_114
      have f5_115 : rd h5 115 = some (.inl (Sz)) := by rw [s5 _ (by omega)]; exact f4_115
      have f5_116 : rd h5 116 = some (.inl (It)) := by rw [s5 _ (by omega)]; exact f4_116
      have f5_117 : rd h5 117 = some (.inl (IP)) := by rw [s5 _ (by omega)]; exact f4_117
      have f5_118 : rd h5 118 = some (.inl (IR)) := by rw [s5 _ (by omega)]; exact f4_118
      have f5_119 : rd h5 119 = some (.inl (IU)) := by rw [s5 _ (by omega)]; exact f4_119
      refine g_goto 144 dX9_cell_132 (by decide) ?_
      refine g_iload dX9_cell_144 0 rfl ?_
      exact g_iret dX9_cell_146 rfl ⟨Nat.zero_le _, Nat.zero_le _⟩ (⟨rfl, ⟨_, _, _, _, _, _, _, _, _, _, _, _, _, _, _, _, _, _, _, _, _, _, _, _, _, _, _, _, _, f5_98, ⟨f5_99, lP⟩, ⟨f5_100, lf5_100⟩, ⟨f5_101, lU⟩, ⟨f5_102, lrf⟩, ⟨f5_103, lWM⟩, ⟨f5_104, lWP⟩, ⟨f5_105, lWR⟩, ⟨f5_106, lTr⟩, ⟨f5_107, lKe⟩, ⟨f5_108, lCo⟩, ⟨f5_109, lTh⟩, ⟨f5_110, lBe⟩, ⟨f5_111, lLe⟩, ⟨f5_112, lAP⟩, ⟨f5_113, lAR⟩, ⟨f5_114, lAU⟩, ⟨f5_115, lSz⟩, ⟨f5_116, lIt⟩, ⟨f5_117, lIP⟩, ⟨f5_118, lIR⟩, ⟨f5_119, lIU⟩, vP, (rR_set vR lRo (v := 0) (by omega) (by omega) rfl rfl), vU, vF, vH, vL, vS, vI, vG⟩, (fun q hq => by rw [s5 q (by omega), s4 q (by omega), hS0 q (by omega)])⟩)
  · refine g_aload_n dX9_cell_9 0 rfl ?_
    refine g_iconst (v := (-1)) dX9_cell_10 (by decide +kernel) ?_
    have er : rCell σ.1.1 r c x y = -1 := if_pos (of_decide_eq_false c6)
    rw [show oCell σ r c x y = rfS σ (rCell σ.1.1 r c x y) from if_neg (by rw [er]; decide), er]
    refine g_callVq (st1 := [.int (-nI 1)]) dX9_cell_11 (ev_refused H ok 1 (by unfold noN; omega)) oX9_refused wiX9_refused weX9_refused wmX9_90 kX9 (mO) rfl ⟨(Nat.le_of_ble_eq_true rfl), (Nat.le_of_ble_eq_true rfl)⟩ ⟨Nat.zero_le _, Nat.zero_le _⟩ (Nat.le_of_ble_eq_true rfl) rfl rfl (fun h6 q6 => ?_)
    exact g_iret dX9_cell_14 rfl ⟨Nat.zero_le _, Nat.zero_le _⟩ (⟨rfl, q6⟩)

set_option maxRecDepth 100000 in
set_option maxHeartbeats 4000000 in
theorem ev_y_cell_c {h : List aC} {σ : Sg} (H : RM h σ) (ok : okSg σ) (r c y : Int32) (x1 : Nat) (hx1 : x1 < 2 ^ 31) : Ev mX9_cell 3 0 0 [.ref 98, .int r, .int c, .int (nI x1), .int y] h (spM h (oCell σ r c (nI x1) y)) := by
  obtain ⟨fo, as_, sm, sk, z, iN, iM, iT, P, Ro, U, rf, WM, WP, WR, Tr, Ke, Co, Th, Be, Le, AP, AR, AU, Sz, It, IP, IR, IU, mO, mP, mRo, mU, mrf, mWM, mWP, mWR, mTr, mKe, mCo, mTh, mBe, mLe, mAP, mAR, mAU, mSz, mIt, mIP, mIR, mIU, vP, vR, vU, vF, vH, vL, vS, vI, vG⟩ := id H
  have mO : rd h 98 = some (.inr (9, [.int (nI σ.1.1), .int (nI σ.1.2.1), .ref 99, .ref 100, .ref 101, .int (nI σ.1.2.2.2.1), .ref 102, .int (nI ((σ.2.2.2.1).length)), .ref 103, .ref 104, .ref 105, .int fo, .int as_, .int sm, .int sk, .ref 106, .ref 107, .ref 108, .int z, .ref 109, .ref 110, .ref 111, .int (nI σ.2.1.1), .ref 112, .ref 113, .ref 114, .ref 115, .ref 116, .int (nI (bI σ.2.2.2.2.1.isSome)), .int iN, .int iM, .int iT, .ref 117, .ref 118, .ref 119])) := mO
  obtain ⟨mP, lP⟩ := mP
  obtain ⟨mRo, lRo⟩ := mRo
  obtain ⟨mU, lU⟩ := mU
  obtain ⟨mrf, lrf⟩ := mrf
  obtain ⟨mWM, lWM⟩ := mWM
  obtain ⟨mWP, lWP⟩ := mWP
  obtain ⟨mWR, lWR⟩ := mWR
  obtain ⟨mTr, lTr⟩ := mTr
  obtain ⟨mKe, lKe⟩ := mKe
  obtain ⟨mCo, lCo⟩ := mCo
  obtain ⟨mTh, lTh⟩ := mTh
  obtain ⟨mBe, lBe⟩ := mBe
  obtain ⟨mLe, lLe⟩ := mLe
  obtain ⟨mAP, lAP⟩ := mAP
  obtain ⟨mAR, lAR⟩ := mAR
  obtain ⟨mAU, lAU⟩ := mAU
  obtain ⟨mSz, lSz⟩ := mSz
  obtain ⟨mIt, lIt⟩ := mIt
  obtain ⟨mIP, lIP⟩ := mIP
  obtain ⟨mIR, lIR⟩ := mIR
  obtain ⟨mIU, lIU⟩ := mIU
  obtain ⟨okc, ⟨okl, okw⟩, okn, ⟨okh, oke⟩, oki, okr⟩ := id ok
  obtain ⟨k1, k2, k3, k4, k5, k6, k7, k8, k9⟩ := id okc
  refine Ev.of pX9_cell (Nat.le_of_ble_eq_true rfl) ?_
  show G mX9_cell (rmD 3 0 0) none _ 0 0 0 [(0, .ref 98), (1, .int r), (2, .int c), (3, .int (nI x1)), (4, .int y)] [] h
  refine g_aload_n dX9_cell_0 0 rfl ?_
  refine g_iload_n dX9_cell_1 1 rfl ?_
  refine g_iload_n dX9_cell_2 2 rfl ?_
  refine g_callVp dX9_cell_3 (ev_isCell H ok r c) oX9_isCell wiX9_isCell weX9_isCell wmX9_200 kX9 (mO) rfl ⟨(Nat.le_of_ble_eq_true rfl), (Nat.le_of_ble_eq_true rfl)⟩ ⟨Nat.zero_le _, Nat.zero_le _⟩ (Nat.le_of_ble_eq_true rfl) rfl ?_
  refine g_if_neB 15 dX9_cell_6 (by decide) (fun c6 => ?_) (fun c6 => ?_)
  · have n1 := of_decide_eq_true c6
    have nx : ¬ nI x1 = -1 := fun e => absurd (nI_pos' hx1) (by rw [e]; decide)
    have nx2 : ¬ nI x1 < -1 := fun e => absurd (nI_pos' hx1) (Int32.not_le.mpr (Int32.lt_trans e (by decide)))
    refine g_iload_n dX9_cell_15 3 rfl ?_
    refine g_iconst (v := (-1)) dX9_cell_16 (by decide +kernel) ?_
    refine g_icmp_lt 29 dX9_cell_17 (by decide) (fun z => absurd z nx2) (fun c17 => ?_)
    refine g_iload_n dX9_cell_20 3 rfl ?_
    refine g_if_ltN 36 dX9_cell_21 (by decide) (by omega) ?_
    refine g_iload dX9_cell_24 4 rfl ?_
    refine g_if_ge 36 dX9_cell_26 (by decide) (fun c26 => ?_) (fun c26 => ?_)
    · have n2 : ¬ (nI x1 < -1 ∨ y < 0) := fun z => by rcases z with z | z; exact nx2 z; exact absurd z (Int32.not_lt.mpr c26)
      obtain ⟨y1, hy1, rfl⟩ := nn_of c26
      refine g_iload_n dX9_cell_36 3 rfl ?_
      refine g_aload_n dX9_cell_37 0 rfl ?_
      refine g_getf dX9_cell_38 kX9 wfX9_7 (Nat.le_of_ble_eq_true rfl) (mO) rfl ?_
      refine g_icmp_gtN 57 dX9_cell_41 (by decide) (by omega) (by omega) (fun c41 => ?_) (fun c41 => ?_)
      · refine g_aload_n dX9_cell_57 0 rfl ?_
        refine g_bipush (v := (-6)) dX9_cell_58 (by decide +kernel) ?_
        have er : rCell σ.1.1 r c (nI x1) (nI y1) = -6 := (if_neg (not_not_intro n1)).trans ((if_neg nx).trans ((if_neg n2).trans (if_pos (by first | exact Or.inl ((nI_ltI (by omega) hx1).mpr c41) | exact Or.inr ((nI_ltI (by omega) hy1).mpr c54)))))
        rw [show oCell σ r c (nI x1) (nI y1) = rfS σ (rCell σ.1.1 r c (nI x1) (nI y1)) from if_neg (by rw [er]; decide), er]
        refine g_callVq (st1 := [.int (-nI 6)]) dX9_cell_60 (ev_refused H ok 6 (by unfold noN; omega)) oX9_refused wiX9_refused weX9_refused wmX9_90 kX9 (mO) rfl ⟨(Nat.le_of_ble_eq_true rfl), (Nat.le_of_ble_eq_true rfl)⟩ ⟨Nat.zero_le _, Nat.zero_le _⟩ (Nat.le_of_ble_eq_true rfl) rfl rfl (fun h1 q1 => ?_)
        exact g_iret dX9_cell_63 rfl ⟨Nat.zero_le _, Nat.zero_le _⟩ (⟨rfl, q1⟩)
      · refine g_iload_n dX9_cell_44 3 rfl ?_
        refine g_if_ltN 64 dX9_cell_45 (by decide) (by omega) ?_
        refine g_iload dX9_cell_48 4 rfl ?_
        refine g_aload_n dX9_cell_50 0 rfl ?_
        refine g_getf dX9_cell_51 kX9 wfX9_7 (Nat.le_of_ble_eq_true rfl) (mO) rfl ?_
        refine g_icmp_leN 64 dX9_cell_54 (by decide) (by omega) (by omega) (fun c54 => ?_) (fun c54 => ?_)
        · have n3 : ¬ (nI σ.1.1 < nI x1 ∨ nI σ.1.1 < nI y1) := fun z => by rcases z with z | z; exact absurd (nn_lt (by omega) hx1 z) (by omega); exact absurd (nn_lt (by omega) hy1 z) (by omega)
          refine g_iload_n dX9_cell_64 3 rfl ?_
          refine g_if_ltN 81 dX9_cell_65 (by decide) (by omega) ?_
          refine g_iload_n dX9_cell_68 3 rfl ?_
          refine g_iload dX9_cell_69 4 rfl ?_
          refine g_icmp_neN 81 dX9_cell_71 (by decide) (by omega) (by omega) (fun c71 => ?_) (fun c71 => ?_)
          · have er : rCell σ.1.1 r c (nI x1) (nI y1) = 0 := (if_neg (not_not_intro n1)).trans ((if_neg nx).trans ((if_neg n2).trans ((if_neg n3).trans (if_neg (fun z => c71 ((nI_eq hx1 hy1).mp z))))))
            rw [show oCell σ r c (nI x1) (nI y1) = (nI (if σ.1.2.2.2.2.2 r.toNatClampNeg c.toNatClampNeg = 0 then 0 else 1), ((σ.1.1, σ.1.2.1, σ.1.2.2.1, σ.1.2.2.2.1, σ.1.2.2.2.2.1, u2 σ.1.2.2.2.2.2 r.toNatClampNeg c.toNatClampNeg (cod x1 y1)), σ.2.1, σ.2.2.1, (σ.1.2.2.1, σ.1.2.2.2.2.2) :: σ.2.2.2.1.take 11, σ.2.2.2.2)) from (if_pos er).trans (by rw [show vC (nI x1) (nI y1) = cod x1 y1 from (if_pos (nI_pos' hx1)).trans (by rw [cl_ hx1, cl_ hy1])])]
            clear c6 er n2 n3
            obtain ⟨r1, hr1, rfl⟩ := nn_of n1.1
            obtain ⟨c1, hc1, rfl⟩ := nn_of n1.2.2.1
            rw [cl_ hr1, cl_ hc1]
            have br := nn_lt hr1 (by omega) n1.2.1
            have bc := nn_lt hc1 (by omega) n1.2.2.2
            have vl : σ.1.2.2.2.2.2 r1 c1 < 196 := okC_lt k2 (k8 r1 c1 br bc)
            refine g_aload_n dX9_cell_81 0 rfl ?_
            refine g_callVq (st1 := []) dX9_cell_82 (ev_remembers H ok) oX9_remembers wiX9_remembers weX9_remembers wmX9_124 kX9 (mO) rfl ⟨(Nat.le_of_ble_eq_true rfl), (Nat.le_of_ble_eq_true rfl)⟩ ⟨Nat.zero_le _, Nat.zero_le _⟩ (Nat.le_of_ble_eq_true rfl) rfl rfl (fun h2 q2 => ?_)
            have hS0 := q2.2
            obtain ⟨fo, as_, sm, sk, z, iN, iM, iT, P, Ro, U, rf, WM, WP, WR, Tr, Ke, Co, Th, Be, Le, AP, AR, AU, Sz, It, IP, IR, IU, mO, mP, mRo, mU, mrf, mWM, mWP, mWR, mTr, mKe, mCo, mTh, mBe, mLe, mAP, mAR, mAU, mSz, mIt, mIP, mIR, mIU, vP, vR, vU, vF, vH, vL, vS, vI, vG⟩ := q2.1
            have mO : rd h2 98 = some (.inr (9, [.int (nI σ.1.1), .int (nI σ.1.2.1), .ref 99, .ref 100, .ref 101, .int (nI σ.1.2.2.2.1), .ref 102, .int (nI (((σ.1.2.2.1, σ.1.2.2.2.2.2) :: σ.2.2.2.1.take 11).length)), .ref 103, .ref 104, .ref 105, .int fo, .int as_, .int sm, .int sk, .ref 106, .ref 107, .ref 108, .int z, .ref 109, .ref 110, .ref 111, .int (nI σ.2.1.1), .ref 112, .ref 113, .ref 114, .ref 115, .ref 116, .int (nI (bI σ.2.2.2.2.1.isSome)), .int iN, .int iM, .int iT, .ref 117, .ref 118, .ref 119])) := mO
            obtain ⟨mP, lP⟩ := mP
            obtain ⟨mRo, lRo⟩ := mRo
            obtain ⟨mU, lU⟩ := mU
            obtain ⟨mrf, lrf⟩ := mrf
            obtain ⟨mWM, lWM⟩ := mWM
            obtain ⟨mWP, lWP⟩ := mWP
            obtain ⟨mWR, lWR⟩ := mWR
            obtain ⟨mTr, lTr⟩ := mTr
            obtain ⟨mKe, lKe⟩ := mKe
            obtain ⟨mCo, lCo⟩ := mCo
            obtain ⟨mTh, lTh⟩ := mTh
            obtain ⟨mBe, lBe⟩ := mBe
            obtain ⟨mLe, lLe⟩ := mLe
            obtain ⟨mAP, lAP⟩ := mAP
            obtain ⟨mAR, lAR⟩ := mAR
            obtain ⟨mAU, lAU⟩ := mAU
            obtain ⟨mSz, lSz⟩ := mSz
            obtain ⟨mIt, lIt⟩ := mIt
            obtain ⟨mIP, lIP⟩ := mIP
            obtain ⟨mIR, lIR⟩ := mIR
            obtain ⟨mIU, lIU⟩ := mIU
            have vP : pR P 0 σ.1.2.1 σ.1.2.2.1 := vP
            have vR : rR Ro 0 σ.1.2.2.2.2.2 := vR
            have vU : tR U σ.1.2.2.2.1 σ.1.2.2.2.2.1 := vU
            refine g_aload_n dX9_cell_85 0 rfl ?_
            refine g_iload_n dX9_cell_86 1 rfl ?_
            refine g_iload_n dX9_cell_87 2 rfl ?_
            refine g_callVp dX9_cell_88 (ev_cAt (r1) (c1)) oX9_cellAt wiX9_cellAt weX9_cellAt wmX9_194 kX9 (mO) rfl ⟨(Nat.le_of_ble_eq_true rfl), (Nat.le_of_ble_eq_true rfl)⟩ ⟨Nat.zero_le _, Nat.zero_le _⟩ (Nat.le_of_ble_eq_true rfl) rfl ?_
            refine g_istore (ls' := [(5, .int (nI (2 * (13 * r1 + c1)))), (0, .ref 98), (1, .int (nI r1)), (2, .int (nI c1)), (3, .int (nI x1)), (4, .int (nI y1))]) dX9_cell_91 (Nat.le_of_ble_eq_true rfl) rfl ?_
            refine g_aload_n dX9_cell_93 1 rfl ?_
            refine g_getf dX9_cell_94 kX9 wfX9_17 (Nat.le_of_ble_eq_true rfl) (mO) rfl ?_
            refine g_iload dX9_cell_97 0 rfl ?_
            refine g_ialI dX9_cell_99 (mRo) (by omega) (by omega) ?_
            refine g_top (rRx vR (by omega) (by omega)) ?_
            refine g_if_ge 107 dX9_cell_100 (by decide) (fun c100 => ?_) (fun c100 => ?_)
            · refine g_iconst (v := nI 1) dX9_cell_107 (by decide +kernel) ?_
              refine g_top (show nI 1 = nI (if σ.1.2.2.2.2.2 r1 c1 = 0 then 0 else 1) from congrArg nI ((if_neg ((xV_i _ vl).mp c100)).symm)) ?_
              refine g_istore (ls' := [(6, .int (nI (if σ.1.2.2.2.2.2 r1 c1 = 0 then 0 else 1))), (5, .int (nI (2 * (13 * r1 + c1)))), (0, .ref 98), (1, .int (nI r1)), (2, .int (nI c1)), (3, .int (nI x1)), (4, .int (nI y1))]) dX9_cell_108 (Nat.le_of_ble_eq_true rfl) rfl ?_
              refine g_iload_n dX9_cell_110 5 rfl ?_
              refine g_if_geN 135 dX9_cell_111 (by decide) (by omega) ?_
              refine g_aload_n dX9_cell_135 2 rfl ?_
              refine g_iload dX9_cell_136 1 rfl ?_
              refine g_iload_n dX9_cell_138 5 rfl ?_
              refine g_iload dX9_cell_139 6 rfl ?_
              refine g_callVq (st1 := []) dX9_cell_141 (ev_fills (show MO h2 _ _ _ _ _ _ _ _ _ _ _ _ _ _ from mO) mRo lRo (2 * (13 * r1 + c1)) (x1) (y1) (by omega) (by omega) (by omega)) oX9_fills wiX9_fills weX9_fills wmX9_197 kX9 (mO) rfl ⟨(Nat.le_of_ble_eq_true rfl), (Nat.le_of_ble_eq_true rfl)⟩ ⟨Nat.zero_le _, Nat.zero_le _⟩ (Nat.le_of_ble_eq_true rfl) rfl rfl (fun h3 q3 => ?_)
              obtain ⟨q3a, q3s⟩ := q3
              have f3_98 : rd h3 98 = some (.inr (9, [.int (nI σ.1.1), .int (nI σ.1.2.1), .ref 99, .ref 100, .ref 101, .int (nI σ.1.2.2.2.1), .ref 102, .int (nI (((σ.1.2.2.1, σ.1.2.2.2.2.2) :: σ.2.2.2.1.take 11).length)), .ref 103, .ref 104, .ref 105, .int fo, .int as_, .int sm, .int sk, .ref 106, .ref 107, .ref 108, .int z, .ref 109, .ref 110, .ref 111, .int (nI σ.2.1.1), .ref 112, .ref 113, .ref 114, .ref 115, .ref 116, .int (nI (bI σ.2.2.2.2.1.isSome)), .int iN, .int iM, .int iT, .ref 117, .ref 118, .ref 119])) := by rw [q3s _ (by omega)]; exact mO
              have f3_99 : rd h3 99 = some (.inl (P)) := by rw [q3s _ (by omega)]; exact mP
              have f3_101 : rd h3 101 = some (.inl (U)) := by rw [q3s _ (by omega)]; exact mU
              have f3_102 : rd h3 102 = some (.inl (rf)) := by rw [q3s _ (by omega)]; exact mrf
              have f3_103 : rd h3 103 = some (.inl (WM)) := by rw [q3s _ (by omega)]; exact mWM
              have f3_104 : rd h3 104 = some (.inl (WP)) := by rw [q3s _ (by omega)]; exact mWP
              have f3_105 : rd h3 105 = some (.inl (WR)) := by rw [q3s _ (by omega)]; exact mWR
              have f3_106 : rd h3 106 = some (.inl (Tr)) := by rw [q3s _ (by omega)]; exact mTr
              have f3_107 : rd h3 107 = some (.inl (Ke)) := by rw [q3s _ (by omega)]; exact mKe
              have f3_108 : rd h3 108 = some (.inl (Co)) := by rw [q3s _ (by omega)]; exact mCo
              have f3_109 : rd h3 109 = some (.inl (Th)) := by rw [q3s _ (by omega)]; exact mTh
              have f3_110 : rd h3 110 = some (.inl (Be)) := by rw [q3s _ (by omega)]; exact mBe
              have f3_111 : rd h3 111 = some (.inl (Le)) := by rw [q3s _ (by omega)]; exact mLe
              have f3_112 : rd h3 112 = some (.inl (AP)) := by rw [q3s _ (by omega)]; exact mAP
              have f3_113 : rd h3 113 = some (.inl (AR)) := by rw [q3s _ (by omega)]; exact mAR
              have f3_114 : rd h3 114 = some (.inl (AU)) := by rw [q3s _ (by omega)]; exact mAU
              have f3_115 : rd h3 115 = some (.inl (Sz)) := by rw [q3s _ (by omega)]; exact mSz
              have f3_116 : rd h3 116 = some (.inl (It)) := by rw [q3s _ (by omega)]; exact mIt
              have f3_117 : rd h3 117 = some (.inl (IP)) := by rw [q3s _ (by omega)]; exact mIP
              have f3_118 : rd h3 118 = some (.inl (IR)) := by rw [q3s _ (by omega)]; exact mIR
              have f3_119 : rd h3 119 = some (.inl (IU)) := by rw [q3s _ (by omega)]; exact mIU
              refine g_iload dX9_cell_144 0 rfl ?_
              exact g_iret dX9_cell_146 rfl ⟨Nat.zero_le _, Nat.zero_le _⟩ (⟨rfl, ⟨_, _, _, _, _, _, _, _, _, _, _, _, _, _, _, _, _, _, _, _, _, _, _, _, _, _, _, _, _, f3_98, ⟨f3_99, lP⟩, ⟨q3a, ((fl2_len _ _ _ _).trans lRo)⟩, ⟨f3_101, lU⟩, ⟨f3_102, lrf⟩, ⟨f3_103, lWM⟩, ⟨f3_104, lWP⟩, ⟨f3_105, lWR⟩, ⟨f3_106, lTr⟩, ⟨f3_107, lKe⟩, ⟨f3_108, lCo⟩, ⟨f3_109, lTh⟩, ⟨f3_110, lBe⟩, ⟨f3_111, lLe⟩, ⟨f3_112, lAP⟩, ⟨f3_113, lAR⟩, ⟨f3_114, lAU⟩, ⟨f3_115, lSz⟩, ⟨f3_116, lIt⟩, ⟨f3_117, lIP⟩, ⟨f3_118, lIR⟩, ⟨f3_119, lIU⟩, vP, (rR_fl2 vR lRo (by omega) (by omega) (by omega) (by omega) c71), vU, vF, vH, vL, vS, vI, vG⟩, (fun q hq => by rw [q3s q (by omega), hS0 q (by omega)])⟩)
            · refine g_iconst (v := nI 0) dX9_cell_103 (by decide +kernel) ?_
              refine g_goto 108 dX9_cell_104 (by decide) ?_
              refine g_top (show nI 0 = nI (if σ.1.2.2.2.2.2 r1 c1 = 0 then 0 else 1) from congrArg nI ((if_pos (Decidable.byContradiction fun z => c100 ((xV_i _ vl).mpr z))).symm)) ?_
              refine g_istore (ls' := [(6, .int (nI (if σ.1.2.2.2.2.2 r1 c1 = 0 then 0 else 1))), (5, .int (nI (2 * (13 * r1 + c1)))), (0, .ref 98), (1, .int (nI r1)), (2, .int (nI c1)), (3, .int (nI x1)), (4, .int (nI y1))]) dX9_cell_108 (Nat.le_of_ble_eq_true rfl) rfl ?_
              refine g_iload_n dX9_cell_110 5 rfl ?_
              refine g_if_geN 135 dX9_cell_111 (by decide) (by omega) ?_
              refine g_aload_n dX9_cell_135 2 rfl ?_
              refine g_iload dX9_cell_136 1 rfl ?_
              refine g_iload_n dX9_cell_138 5 rfl ?_
              refine g_iload dX9_cell_139 6 rfl ?_
              refine g_callVq (st1 := []) dX9_cell_141 (ev_fills (show MO h2 _ _ _ _ _ _ _ _ _ _ _ _ _ _ from mO) mRo lRo (2 * (13 * r1 + c1)) (x1) (y1) (by omega) (by omega) (by omega)) oX9_fills wiX9_fills weX9_fills wmX9_197 kX9 (mO) rfl ⟨(Nat.le_of_ble_eq_true rfl), (Nat.le_of_ble_eq_true rfl)⟩ ⟨Nat.zero_le _, Nat.zero_le _⟩ (Nat.le_of_ble_eq_true rfl) rfl rfl (fun h4 q4 => ?_)
              obtain ⟨q4a, q4s⟩ := q4
              have f4_98 : rd h4 98 = some (.inr (9, [.int (nI σ.1.1), .int (nI σ.1.2.1), .ref 99, .ref 100, .ref 101, .int (nI σ.1.2.2.2.1), .ref 102, .int (nI (((σ.1.2.2.1, σ.1.2.2.2.2.2) :: σ.2.2.2.1.take 11).length)), .ref 103, .ref 104, .ref 105, .int fo, .int as_, .int sm, .int sk, .ref 106, .ref 107, .ref 108, .int z, .ref 109, .ref 110, .ref 111, .int (nI σ.2.1.1), .ref 112, .ref 113, .ref 114, .ref 115, .ref 116, .int (nI (bI σ.2.2.2.2.1.isSome)), .int iN, .int iM, .int iT, .ref 117, .ref 118, .ref 119])) := by rw [q4s _ (by omega)]; exact mO
              have f4_99 : rd h4 99 = some (.inl (P)) := by rw [q4s _ (by omega)]; exact mP
              have f4_101 : rd h4 101 = some (.inl (U)) := by rw [q4s _ (by omega)]; exact mU
              have f4_102 : rd h4 102 = some (.inl (rf)) := by rw [q4s _ (by omega)]; exact mrf
              have f4_103 : rd h4 103 = some (.inl (WM)) := by rw [q4s _ (by omega)]; exact mWM
              have f4_104 : rd h4 104 = some (.inl (WP)) := by rw [q4s _ (by omega)]; exact mWP
              have f4_105 : rd h4 105 = some (.inl (WR)) := by rw [q4s _ (by omega)]; exact mWR
              have f4_106 : rd h4 106 = some (.inl (Tr)) := by rw [q4s _ (by omega)]; exact mTr
              have f4_107 : rd h4 107 = some (.inl (Ke)) := by rw [q4s _ (by omega)]; exact mKe
              have f4_108 : rd h4 108 = some (.inl (Co)) := by rw [q4s _ (by omega)]; exact mCo
              have f4_109 : rd h4 109 = some (.inl (Th)) := by rw [q4s _ (by omega)]; exact mTh
              have f4_110 : rd h4 110 = some (.inl (Be)) := by rw [q4s _ (by omega)]; exact mBe
              have f4_111 : rd h4 111 = some (.inl (Le)) := by rw [q4s _ (by omega)]; exact mLe
              have f4_112 : rd h4 112 = some (.inl (AP)) := by rw [q4s _ (by omega)]; exact mAP
              have f4_113 : rd h4 113 = some (.inl (AR)) := by rw [q4s _ (by omega)]; exact mAR
              have f4_114 : rd h4 114 = some (.inl (AU)) := by rw [q4s _ (by omega)]; exact mAU
              have f4_115 : rd h4 115 = some (.inl (Sz)) := by rw [q4s _ (by omega)]; exact mSz
              have f4_116 : rd h4 116 = some (.inl (It)) := by rw [q4s _ (by omega)]; exact mIt
              have f4_117 : rd h4 117 = some (.inl (IP)) := by rw [q4s _ (by omega)]; exact mIP
              have f4_118 : rd h4 118 = some (.inl (IR)) := by rw [q4s _ (by omega)]; exact mIR
              have f4_119 : rd h4 119 = some (.inl (IU)) := by rw [q4s _ (by omega)]; exact mIU
              refine g_iload dX9_cell_144 0 rfl ?_
              exact g_iret dX9_cell_146 rfl ⟨Nat.zero_le _, Nat.zero_le _⟩ (⟨rfl, ⟨_, _, _, _, _, _, _, _, _, _, _, _, _, _, _, _, _, _, _, _, _, _, _, _, _, _, _, _, _, f4_98, ⟨f4_99, lP⟩, ⟨q4a, ((fl2_len _ _ _ _).trans lRo)⟩, ⟨f4_101, lU⟩, ⟨f4_102, lrf⟩, ⟨f4_103, lWM⟩, ⟨f4_104, lWP⟩, ⟨f4_105, lWR⟩, ⟨f4_106, lTr⟩, ⟨f4_107, lKe⟩, ⟨f4_108, lCo⟩, ⟨f4_109, lTh⟩, ⟨f4_110, lBe⟩, ⟨f4_111, lLe⟩, ⟨f4_112, lAP⟩, ⟨f4_113, lAR⟩, ⟨f4_114, lAU⟩, ⟨f4_115, lSz⟩, ⟨f4_116, lIt⟩, ⟨f4_117, lIP⟩, ⟨f4_118, lIR⟩, ⟨f4_119, lIU⟩, vP, (rR_fl2 vR lRo (by omega) (by omega) (by omega) (by omega) c71), vU, vF, vH, vL, vS, vI, vG⟩, (fun q hq => by rw [q4s q (by omega), hS0 q (by omega)])⟩)
          · refine g_aload_n dX9_cell_74 0 rfl ?_
            refine g_bipush (v := (-3)) dX9_cell_75 (by decide +kernel) ?_
            have er : rCell σ.1.1 r c (nI x1) (nI y1) = -3 := (if_neg (not_not_intro n1)).trans ((if_neg nx).trans ((if_neg n2).trans ((if_neg n3).trans (if_pos (congrArg nI c71)))))
            rw [show oCell σ r c (nI x1) (nI y1) = rfS σ (rCell σ.1.1 r c (nI x1) (nI y1)) from if_neg (by rw [er]; decide), er]
            refine g_callVq (st1 := [.int (-nI 3)]) dX9_cell_77 (ev_refused H ok 3 (by unfold noN; omega)) oX9_refused wiX9_refused weX9_refused wmX9_90 kX9 (mO) rfl ⟨(Nat.le_of_ble_eq_true rfl), (Nat.le_of_ble_eq_true rfl)⟩ ⟨Nat.zero_le _, Nat.zero_le _⟩ (Nat.le_of_ble_eq_true rfl) rfl rfl (fun h5 q5 => ?_)
            exact g_iret dX9_cell_80 rfl ⟨Nat.zero_le _, Nat.zero_le _⟩ (⟨rfl, q5⟩)
        · refine g_aload_n dX9_cell_57 0 rfl ?_
          refine g_bipush (v := (-6)) dX9_cell_58 (by decide +kernel) ?_
          have er : rCell σ.1.1 r c (nI x1) (nI y1) = -6 := (if_neg (not_not_intro n1)).trans ((if_neg nx).trans ((if_neg n2).trans (if_pos (by first | exact Or.inl ((nI_ltI (by omega) hx1).mpr c41) | exact Or.inr ((nI_ltI (by omega) hy1).mpr c54)))))
          rw [show oCell σ r c (nI x1) (nI y1) = rfS σ (rCell σ.1.1 r c (nI x1) (nI y1)) from if_neg (by rw [er]; decide), er]
          refine g_callVq (st1 := [.int (-nI 6)]) dX9_cell_60 (ev_refused H ok 6 (by unfold noN; omega)) oX9_refused wiX9_refused weX9_refused wmX9_90 kX9 (mO) rfl ⟨(Nat.le_of_ble_eq_true rfl), (Nat.le_of_ble_eq_true rfl)⟩ ⟨Nat.zero_le _, Nat.zero_le _⟩ (Nat.le_of_ble_eq_true rfl) rfl rfl (fun h6 q6 => ?_)
          exact g_iret dX9_cell_63 rfl ⟨Nat.zero_le _, Nat.zero_le _⟩ (⟨rfl, q6⟩)
    · refine g_aload_n dX9_cell_29 0 rfl ?_
      refine g_bipush (v := (-4)) dX9_cell_30 (by decide +kernel) ?_
      have er : rCell σ.1.1 r c (nI x1) y = -4 := (if_neg (not_not_intro n1)).trans ((if_neg nx).trans (if_pos (Or.inr (Int32.not_le.mp c26))))
      rw [show oCell σ r c (nI x1) y = rfS σ (rCell σ.1.1 r c (nI x1) y) from if_neg (by rw [er]; decide), er]
      refine g_callVq (st1 := [.int (-nI 4)]) dX9_cell_32 (ev_refused H ok 4 (by unfold noN; omega)) oX9_refused wiX9_refused weX9_refused wmX9_90 kX9 (mO) rfl ⟨(Nat.le_of_ble_eq_true rfl), (Nat.le_of_ble_eq_true rfl)⟩ ⟨Nat.zero_le _, Nat.zero_le _⟩ (Nat.le_of_ble_eq_true rfl) rfl rfl (fun h7 q7 => ?_)
      exact g_iret dX9_cell_35 rfl ⟨Nat.zero_le _, Nat.zero_le _⟩ (⟨rfl, q7⟩)
  · refine g_aload_n dX9_cell_9 0 rfl ?_
    refine g_iconst (v := (-1)) dX9_cell_10 (by decide +kernel) ?_
    have er : rCell σ.1.1 r c (nI x1) y = -1 := if_pos (of_decide_eq_false c6)
    rw [show oCell σ r c (nI x1) y = rfS σ (rCell σ.1.1 r c (nI x1) y) from if_neg (by rw [er]; decide), er]
    refine g_callVq (st1 := [.int (-nI 1)]) dX9_cell_11 (ev_refused H ok 1 (by unfold noN; omega)) oX9_refused wiX9_refused weX9_refused wmX9_90 kX9 (mO) rfl ⟨(Nat.le_of_ble_eq_true rfl), (Nat.le_of_ble_eq_true rfl)⟩ ⟨Nat.zero_le _, Nat.zero_le _⟩ (Nat.le_of_ble_eq_true rfl) rfl rfl (fun h8 q8 => ?_)
    exact g_iret dX9_cell_14 rfl ⟨Nat.zero_le _, Nat.zero_le _⟩ (⟨rfl, q8⟩)

theorem ev_y_cell {h : List aC} {σ : Sg} (H : RM h σ) (ok : okSg σ) (r c x y : Int32) : Ev mX9_cell 3 0 0 [.ref 98, .int r, .int c, .int x, .int y] h (spM h (oCell σ r c x y)) := by
  by_cases h1 : x < -1
  · exact ev_y_cell_a H ok r c x y h1
  · by_cases h2 : x = -1
    · exact ev_y_cell_b H ok r c x y h2
    · have hx : 0 ≤ x := by
        rw [Int32.le_iff_toInt_le]
        rw [Int32.lt_iff_toInt_lt] at h1
        have h3 : x.toInt ≠ -1 := fun e => h2 (Int32.toInt_inj.mp (e.trans (by decide)))
        rw [show (-1 : Int32).toInt = -1 by decide] at h1
        rw [show (0 : Int32).toInt = 0 by decide]
        omega
      obtain ⟨x1, hx1, rfl⟩ := nn_of hx
      exact ev_y_cell_c H ok r c y x1 hx1

set_option maxRecDepth 100000 in
set_option maxHeartbeats 4000000 in
theorem ev_y_at {h : List aC} {σ : Sg} (H : RM h σ) (ok : okSg σ) (r c y : Int32) : Ev mX9_at 3 0 0 [.ref 98, .int r, .int c, .int y] h (spM h (oAt σ r c y)) := by
  obtain ⟨fo, as_, sm, sk, z, iN, iM, iT, P, Ro, U, rf, WM, WP, WR, Tr, Ke, Co, Th, Be, Le, AP, AR, AU, Sz, It, IP, IR, IU, mO, mP, mRo, mU, mrf, mWM, mWP, mWR, mTr, mKe, mCo, mTh, mBe, mLe, mAP, mAR, mAU, mSz, mIt, mIP, mIR, mIU, vP, vR, vU, vF, vH, vL, vS, vI, vG⟩ := id H
  have mO : rd h 98 = some (.inr (9, [.int (nI σ.1.1), .int (nI σ.1.2.1), .ref 99, .ref 100, .ref 101, .int (nI σ.1.2.2.2.1), .ref 102, .int (nI ((σ.2.2.2.1).length)), .ref 103, .ref 104, .ref 105, .int fo, .int as_, .int sm, .int sk, .ref 106, .ref 107, .ref 108, .int z, .ref 109, .ref 110, .ref 111, .int (nI σ.2.1.1), .ref 112, .ref 113, .ref 114, .ref 115, .ref 116, .int (nI (bI σ.2.2.2.2.1.isSome)), .int iN, .int iM, .int iT, .ref 117, .ref 118, .ref 119])) := mO
  obtain ⟨mP, lP⟩ := mP
  obtain ⟨mRo, lRo⟩ := mRo
  obtain ⟨mU, lU⟩ := mU
  obtain ⟨mrf, lrf⟩ := mrf
  obtain ⟨mWM, lWM⟩ := mWM
  obtain ⟨mWP, lWP⟩ := mWP
  obtain ⟨mWR, lWR⟩ := mWR
  obtain ⟨mTr, lTr⟩ := mTr
  obtain ⟨mKe, lKe⟩ := mKe
  obtain ⟨mCo, lCo⟩ := mCo
  obtain ⟨mTh, lTh⟩ := mTh
  obtain ⟨mBe, lBe⟩ := mBe
  obtain ⟨mLe, lLe⟩ := mLe
  obtain ⟨mAP, lAP⟩ := mAP
  obtain ⟨mAR, lAR⟩ := mAR
  obtain ⟨mAU, lAU⟩ := mAU
  obtain ⟨mSz, lSz⟩ := mSz
  obtain ⟨mIt, lIt⟩ := mIt
  obtain ⟨mIP, lIP⟩ := mIP
  obtain ⟨mIR, lIR⟩ := mIR
  obtain ⟨mIU, lIU⟩ := mIU
  obtain ⟨okc, ⟨okl, okw⟩, okn, ⟨okh, oke⟩, oki, okr⟩ := id ok
  obtain ⟨k1, k2, k3, k4, k5, k6, k7, k8, k9⟩ := id okc
  refine Ev.of pX9_at (Nat.le_of_ble_eq_true rfl) ?_
  show G mX9_at (rmD 3 0 0) none _ 0 0 0 [(0, .ref 98), (1, .int r), (2, .int c), (3, .int y)] [] h
  refine g_aload_n dX9_at_0 0 rfl ?_
  refine g_iload_n dX9_at_1 1 rfl ?_
  refine g_iload_n dX9_at_2 2 rfl ?_
  refine g_callVp dX9_at_3 (ev_isCell H ok r c) oX9_isCell wiX9_isCell weX9_isCell wmX9_200 kX9 (mO) rfl ⟨(Nat.le_of_ble_eq_true rfl), (Nat.le_of_ble_eq_true rfl)⟩ ⟨Nat.zero_le _, Nat.zero_le _⟩ (Nat.le_of_ble_eq_true rfl) rfl ?_
  refine g_if_neB 15 dX9_at_6 (by decide) (fun c6 => ?_) (fun c6 => ?_)
  · have n1 := of_decide_eq_true c6
    rw [show oAt σ r c y = _ from if_pos n1]
    refine g_iload_n dX9_at_15 3 rfl ?_
    refine g_i2l dX9_at_16 rfl ?_
    refine g_lconst (v := lN 0) dX9_at_17 rfl ?_
    refine g_lconst (v := lN 1) dX9_at_18 rfl ?_
    refine g_callSp dX9_at_19 (ev_inN (y) (0) (1) (by omega) (by omega) _) oX9_in wsX9_in wmX9_98 rfl ⟨(Nat.le_of_ble_eq_true rfl), (Nat.le_of_ble_eq_true rfl)⟩ ⟨Nat.zero_le _, Nat.zero_le _⟩ (Nat.le_of_ble_eq_true rfl) rfl ?_
    refine g_if_neB 32 dX9_at_22 (by decide) (fun c22 => ?_) (fun c22 => ?_)
    · rw [if_neg (in4_t c22)]
      have n2 := of_decide_eq_true c22
      clear c6 c22
      obtain ⟨r1, hr1, rfl⟩ := nn_of n1.1
      obtain ⟨c1, hc1, rfl⟩ := nn_of n1.2.2.1
      rw [cl_ hr1, cl_ hc1]
      have br := nn_lt hr1 (by omega) n1.2.1
      have bc := nn_lt hc1 (by omega) n1.2.2.2
      have vl : σ.1.2.2.2.2.2 r1 c1 < 196 := okC_lt k2 (k8 r1 c1 br bc)
      obtain ⟨y1, hy1, rfl⟩ := nn_of n2.1
      rw [cl_ hy1]
      have b2 : y1 ≤ 1 := (nI_leI hy1 (by omega)).mp n2.2
      refine g_aload_n dX9_at_32 0 rfl ?_
      refine g_getf dX9_at_33 kX9 wfX9_17 (Nat.le_of_ble_eq_true rfl) (mO) rfl ?_
      refine g_aload_n dX9_at_36 0 rfl ?_
      refine g_iload_n dX9_at_37 1 rfl ?_
      refine g_iload_n dX9_at_38 2 rfl ?_
      refine g_callVp dX9_at_39 (ev_cAt (r1) (c1)) oX9_cellAt wiX9_cellAt weX9_cellAt wmX9_194 kX9 (mO) rfl ⟨(Nat.le_of_ble_eq_true rfl), (Nat.le_of_ble_eq_true rfl)⟩ ⟨Nat.zero_le _, Nat.zero_le _⟩ (Nat.le_of_ble_eq_true rfl) rfl ?_
      refine g_ialI dX9_at_42 (mRo) (by omega) (by omega) ?_
      refine g_top (rRx vR (by omega) (by omega)) ?_
      refine g_if_ge 51 dX9_at_43 (by decide) (fun c43 => ?_) (fun c43 => ?_)
      · refine g_aload_n dX9_at_51 0 rfl ?_
        refine g_getf dX9_at_52 kX9 wfX9_17 (Nat.le_of_ble_eq_true rfl) (mO) rfl ?_
        refine g_aload_n dX9_at_55 0 rfl ?_
        refine g_iload_n dX9_at_56 1 rfl ?_
        refine g_iload_n dX9_at_57 2 rfl ?_
        refine g_callVp dX9_at_58 (ev_cAt (r1) (c1)) oX9_cellAt wiX9_cellAt weX9_cellAt wmX9_194 kX9 (mO) rfl ⟨(Nat.le_of_ble_eq_true rfl), (Nat.le_of_ble_eq_true rfl)⟩ ⟨Nat.zero_le _, Nat.zero_le _⟩ (Nat.le_of_ble_eq_true rfl) rfl ?_
        refine g_iload_n dX9_at_61 3 rfl ?_
        refine g_iaddN dX9_at_62 ?_
        refine g_ialI dX9_at_63 (mRo) (by omega) (by omega) ?_
        exact g_iret dX9_at_64 rfl ⟨Nat.zero_le _, Nat.zero_le _⟩ (⟨congrArg some (congrArg Value.int (by rw [if_neg ((xV_i _ vl).mp c43)]; exact at_v vR (by omega) (by omega) ((xV_i _ vl).mp c43) b2)), ⟨_, _, _, _, _, _, _, _, _, _, _, _, _, _, _, _, _, _, _, _, _, _, _, _, _, _, _, _, _, mO, ⟨mP, lP⟩, ⟨mRo, lRo⟩, ⟨mU, lU⟩, ⟨mrf, lrf⟩, ⟨mWM, lWM⟩, ⟨mWP, lWP⟩, ⟨mWR, lWR⟩, ⟨mTr, lTr⟩, ⟨mKe, lKe⟩, ⟨mCo, lCo⟩, ⟨mTh, lTh⟩, ⟨mBe, lBe⟩, ⟨mLe, lLe⟩, ⟨mAP, lAP⟩, ⟨mAR, lAR⟩, ⟨mAU, lAU⟩, ⟨mSz, lSz⟩, ⟨mIt, lIt⟩, ⟨mIP, lIP⟩, ⟨mIR, lIR⟩, ⟨mIU, lIU⟩, vP, vR, vU, vF, vH, vL, vS, vI, vG⟩, Smo.rf⟩)
      · refine g_bipush (v := (-9)) dX9_at_46 (by decide +kernel) ?_
        refine g_goto 64 dX9_at_48 (by decide) ?_
        exact g_iret dX9_at_64 rfl ⟨Nat.zero_le _, Nat.zero_le _⟩ (⟨congrArg some (congrArg Value.int (if_pos (Decidable.byContradiction fun z => c43 ((xV_i _ vl).mpr z))).symm), ⟨_, _, _, _, _, _, _, _, _, _, _, _, _, _, _, _, _, _, _, _, _, _, _, _, _, _, _, _, _, mO, ⟨mP, lP⟩, ⟨mRo, lRo⟩, ⟨mU, lU⟩, ⟨mrf, lrf⟩, ⟨mWM, lWM⟩, ⟨mWP, lWP⟩, ⟨mWR, lWR⟩, ⟨mTr, lTr⟩, ⟨mKe, lKe⟩, ⟨mCo, lCo⟩, ⟨mTh, lTh⟩, ⟨mBe, lBe⟩, ⟨mLe, lLe⟩, ⟨mAP, lAP⟩, ⟨mAR, lAR⟩, ⟨mAU, lAU⟩, ⟨mSz, lSz⟩, ⟨mIt, lIt⟩, ⟨mIP, lIP⟩, ⟨mIR, lIR⟩, ⟨mIU, lIU⟩, vP, vR, vU, vF, vH, vL, vS, vI, vG⟩, Smo.rf⟩)
    · refine g_aload_n dX9_at_25 0 rfl ?_
      refine g_bipush (v := (-2)) dX9_at_26 (by decide +kernel) ?_
      rw [if_pos (in4_f c22)]
      refine g_callVq (st1 := [.int (-nI 2)]) dX9_at_28 (ev_refused H ok 2 (by unfold noN; omega)) oX9_refused wiX9_refused weX9_refused wmX9_90 kX9 (mO) rfl ⟨(Nat.le_of_ble_eq_true rfl), (Nat.le_of_ble_eq_true rfl)⟩ ⟨Nat.zero_le _, Nat.zero_le _⟩ (Nat.le_of_ble_eq_true rfl) rfl rfl (fun h1 q1 => ?_)
      exact g_iret dX9_at_31 rfl ⟨Nat.zero_le _, Nat.zero_le _⟩ (⟨rfl, q1⟩)
  · refine g_aload_n dX9_at_9 0 rfl ?_
    refine g_iconst (v := (-1)) dX9_at_10 (by decide +kernel) ?_
    rw [show oAt σ r c y = rfS σ (-1) from if_neg (of_decide_eq_false c6)]
    refine g_callVq (st1 := [.int (-nI 1)]) dX9_at_11 (ev_refused H ok 1 (by unfold noN; omega)) oX9_refused wiX9_refused weX9_refused wmX9_90 kX9 (mO) rfl ⟨(Nat.le_of_ble_eq_true rfl), (Nat.le_of_ble_eq_true rfl)⟩ ⟨Nat.zero_le _, Nat.zero_le _⟩ (Nat.le_of_ble_eq_true rfl) rfl rfl (fun h2 q2 => ?_)
    exact g_iret dX9_at_14 rfl ⟨Nat.zero_le _, Nat.zero_le _⟩ (⟨rfl, q2⟩)
