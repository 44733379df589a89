def cX (R : List Int32) (u k : Nat) : Nat := (R.getD (u + 2 * k) 0).toNatClampNeg
def cY (R : List Int32) (u k : Nat) : Nat := (R.getD (u + 2 * k + 1) 0).toNatClampNeg
theorem okM_val {n : Nat} {R : List Int32} {u k : Nat} (hn : n ≤ 13) (h3 : 3 ≤ n) (h : okM n R u 2 k = true) : R.getD (u + 2 * k) 0 = nI (cX R u k) ∧ R.getD (u + 2 * k + 1) 0 = nI (cY R u k) ∧ cX R u k < n ∧ cY R u k < n := by
  unfold okM at h
  rw [Bool.and_eq_true, decide_eq_true_eq, decide_eq_true_eq] at h
  have one : ∀ x : Int32, nI 1 ≤ x → x ≤ nI (n - 1) → x = nI x.toNatClampNeg ∧ x.toNatClampNeg < n := fun x a b => by
    obtain ⟨j, hj, rfl⟩ := nn_of (le_nn a)
    rw [cl_ hj]
    have := (nI_leI hj (by omega)).mp b
    exact ⟨rfl, by omega⟩
  obtain ⟨a1, a2⟩ := one _ h.1.1 h.1.2
  obtain ⟨b1, b2⟩ := one _ h.2.1 h.2.2
  exact ⟨a1, b1, a2, b2⟩
def szM (q : Nat) (R : List Int32) (u : Nat) : Nat → Nat
  | 0 => 0
  | i + 1 => szM q R u i ||| (if stM (3 + 2 * i) q R u 2 (cX R u) (cY R u) = true then 2 ^ i else 0)
theorem szM_lt {q : Nat} {R : List Int32} {u : Nat} : ∀ i, i ≤ 6 → szM q R u i < 2 ^ 6
  | 0, _ => Nat.two_pow_pos 6
  | i + 1, h => or_lt (szM_lt i (by omega)) (by
    split
    · exact pw_lt (by omega)
    · exact Nat.two_pow_pos 6)
theorem dBM_0 {n : Nat} {X Y : Nat → Nat} {k : Nat} (h0 : 0 < n) (e : X k = Y k) (lt : X k < n) : ∀ m, k < m → (dBM n X Y m).testBit 0 = true
  | 0, h => absurd h (Nat.not_lt_zero k)
  | m + 1, h => by
    show (dBM n X Y m ||| _).testBit 0 = true
    rw [Nat.testBit_or]
    by_cases q : k = m
    · subst q
      rw [e, Nat.testBit_or, Nat.testBit_two_pow, show (Y k + n - Y k) % n = 0 by rw [show Y k + n - Y k = n by omega, Nat.mod_self]]
      cases (dBM n X Y k).testBit 0 <;> rfl
    · rw [dBM_0 h0 e lt m (by omega), Bool.true_or]
theorem even0 : ∀ n, n < 14 → 1 ≤ n → (2 ^ n - 2).testBit 0 = false := by decide +kernel
theorem stM_sz {n q : Nat} {It L : List Int32} {u : Nat} (hn : n ≤ 13) (h3 : 3 ≤ n) (hq : q ≤ 6) (e : ∀ i, i < 40 → It.getD (u + i) 0 = L.getD i 0) : stM n q It u 2 (cX It u) (cY It u) = szD n q L := by
  unfold stM szD isSt
  have ex : ∀ k, k < q → cX It u k = (lX L).getD k 0 ∧ cY It u k = (lY L).getD k 0 := fun k hk => by
    refine ⟨?_, ?_⟩
    · rw [lX_at L (by omega)]; unfold cX szX; rw [e _ (by omega)]
    · rw [show (lY L).getD k 0 = szY L k from map6 (szY L) (by omega)]; unfold cY szY; rw [Nat.add_assoc, e _ (by omega)]
  rw [Bool.eq_iff_iff, decide_eq_true_eq, decide_eq_true_eq, decide_eq_true_eq, nBM_eq q ex, dBM_eq q ex]
  have ok : ∀ k, k < q → (okSb n L k = true ↔ (okM n It u 2 k = true ∧ cX It u k ≠ cY It u k)) := fun k hk => by
    unfold okSb okM
    rw [decide_eq_true_eq, Bool.and_eq_true, decide_eq_true_eq, decide_eq_true_eq, e _ (show 2 * k < 40 by omega), Nat.add_assoc, e _ (show 2 * k + 1 < 40 by omega)]
    have c1 : cX It u k = (L.getD (2 * k) 0).toNatClampNeg := by unfold cX; rw [e _ (by omega)]
    have c2 : cY It u k = (L.getD (2 * k + 1) 0).toNatClampNeg := by unfold cY; rw [Nat.add_assoc, e _ (by omega)]
    rw [c1, c2]
    have le1 : ∀ x : Int32, ¬ nI n ≤ x ↔ x ≤ nI (n - 1) := fun x => by
      rw [Int32.le_iff_toInt_le, Int32.le_iff_toInt_le, nI_toInt (by omega), nI_toInt (by omega)]; omega
    rw [Int32.not_lt, Int32.not_lt, le1, le1]
    constructor
    · rintro ⟨a, b, c, d, f⟩
      refine ⟨⟨⟨a, b⟩, c, d⟩, fun w => f ?_⟩
      obtain ⟨x, hx, ex⟩ := nn_of (le_nn a)
      obtain ⟨y, hy, ey⟩ := nn_of (le_nn c)
      rw [ex, ey, cl_ hx, cl_ hy] at w
      rw [ex, ey, w]
    · rintro ⟨⟨⟨a, b⟩, c, d⟩, f⟩
      exact ⟨a, b, c, d, fun w => f (by rw [w])⟩
  constructor
  · rintro ⟨a, b⟩
    refine ⟨fun k hk => (ok k hk).mpr ⟨a k hk, fun w => ?_⟩, b⟩
    have z := dBM_0 (n := n) (X := cX It u) (Y := cY It u) (by omega) w (okM_val hn h3 (a k hk)).2.2.1 q hk
    rw [dBM_eq q ex, b.2.2, even0 n (by omega) (by omega)] at z
    exact absurd z (by decide)
  · rintro ⟨a, b⟩
    exact ⟨fun k hk => ((ok k hk).mp (a k hk)).1, b⟩
theorem stM_no {n q : Nat} {R : List Int32} {u s : Nat} {X Y : Nat → Nat} (h : q ≠ (n - 1) / 2) : stM n q R u s X Y = false := decide_eq_false (fun z => h z.2.1)
theorem sz_link {q : Nat} {It L : List Int32} {u : Nat} (e : ∀ i, i < 40 → It.getD (u + i) 0 = L.getD i 0) : nI (szM q It u 6) = szV q L := by
  have no : ∀ i, q ≠ i + 1 → (if stM (3 + 2 * i) q It u 2 (cX It u) (cY It u) = true then 2 ^ i else 0) = 0 := fun i h => by
    rw [stM_no (by omega)]; rfl
  unfold szV
  by_cases r : 1 ≤ q ∧ q ≤ 6
  · rw [← stM_sz (n := 2 * q + 1) (by omega) (by omega) r.2 e]
    have yes : ∀ i, q = i + 1 → (if stM (3 + 2 * i) q It u 2 (cX It u) (cY It u) = true then 2 ^ i else 0) = if stM (2 * q + 1) q It u 2 (cX It u) (cY It u) = true then 2 ^ (q - 1) else 0 := fun i h => by
      rw [show 3 + 2 * i = 2 * q + 1 by omega, show i = q - 1 by omega]
    have fin : szM q It u 6 = if stM (2 * q + 1) q It u 2 (cX It u) (cY It u) = true then 2 ^ (q - 1) else 0 := by
      have c : q = 1 ∨ q = 2 ∨ q = 3 ∨ q = 4 ∨ q = 5 ∨ q = 6 := by omega
      show ((((((0 ||| (if _ then 2 ^ 0 else 0)) ||| (if _ then 2 ^ 1 else 0)) ||| (if _ then 2 ^ 2 else 0)) ||| (if _ then 2 ^ 3 else 0)) ||| (if _ then 2 ^ 4 else 0)) ||| (if _ then 2 ^ 5 else 0)) = _
      rcases c with c | c | c | c | c | c
      · rw [no 1 (by omega), no 2 (by omega), no 3 (by omega), no 4 (by omega), no 5 (by omega), yes 0 (by omega)]; simp only [Nat.or_zero, Nat.zero_or]
      · rw [no 0 (by omega), no 2 (by omega), no 3 (by omega), no 4 (by omega), no 5 (by omega), yes 1 (by omega)]; simp only [Nat.or_zero, Nat.zero_or]
      · rw [no 0 (by omega), no 1 (by omega), no 3 (by omega), no 4 (by omega), no 5 (by omega), yes 2 (by omega)]; simp only [Nat.or_zero, Nat.zero_or]
      · rw [no 0 (by omega), no 1 (by omega), no 2 (by omega), no 4 (by omega), no 5 (by omega), yes 3 (by omega)]; simp only [Nat.or_zero, Nat.zero_or]
      · rw [no 0 (by omega), no 1 (by omega), no 2 (by omega), no 3 (by omega), no 5 (by omega), yes 4 (by omega)]; simp only [Nat.or_zero, Nat.zero_or]
      · rw [no 0 (by omega), no 1 (by omega), no 2 (by omega), no 3 (by omega), no 4 (by omega), yes 5 (by omega)]; simp only [Nat.or_zero, Nat.zero_or]
    rw [fin]
    cases stM (2 * q + 1) q It u 2 (cX It u) (cY It u)
    · rw [if_neg (by decide), if_neg (fun z => absurd z.2 (by decide))]
    · rw [if_pos rfl, if_pos ⟨r, rfl⟩]
  · rw [if_neg (fun z => r z.1)]
    have fin : szM q It u 6 = 0 := by
      show ((((((0 ||| (if _ then 2 ^ 0 else 0)) ||| (if _ then 2 ^ 1 else 0)) ||| (if _ then 2 ^ 2 else 0)) ||| (if _ then 2 ^ 3 else 0)) ||| (if _ then 2 ^ 4 else 0)) ||| (if _ then 2 ^ 5 else 0)) = 0
      rw [no 0 (by omega), no 1 (by omega), no 2 (by omega), no 3 (by omega), no 4 (by omega), no 5 (by omega)]; rfl
    rw [fin]

set_option maxRecDepth 100000 in
set_option maxHeartbeats 4000000 in
theorem lp_msz {h : List aC} {n m a de : Nat} {fo as_ sm sk z : Int32} {am : Nat} {ib : Bool} {iN iM iT : Int32} (hO : MO h n m a de fo as_ sm sk z am ib iN iM iT) {Sz It : List Int32} (hZ : rd h 115 = some (.inl Sz)) (lZ : Sz.length = 3) (hI : rd h 116 = some (.inl It)) (lI : It.length = 120) {y q s : Nat} (hy : y < 3) (hs : s ≤ 40) (es : Sz.getD y 0 = nI s) (hq : q = s / 2) : ∀ j k , k + j = 6 → G mX9_sizes (rmD 3 0 0) none (pv (.int (nI (szM q It (40 * y) 6))) h) 0 0 48 [(3, .int (nI (3 + 2 * k))), (0, .ref 98), (1, .int (nI y)), (2, .int (nI (szM q It (40 * y) k)))] [] h := by
  intro j
  induction j with
  | zero =>
    intro k  hk 
    have hO : rd h 98 = some (.inr (9, [.int (nI n), .int (nI m), .ref 99, .ref 100, .ref 101, .int (nI a), .ref 102, .int (nI de), .ref 103, .ref 104, .ref 105, .int fo, .int as_, .int sm, .int sk, .ref 106, .ref 107, .ref 108, .int z, .ref 109, .ref 110, .ref 111, .int (nI am), .ref 112, .ref 113, .ref 114, .ref 115, .ref 116, .int (nI (bI ib)), .int iN, .int iM, .int iT, .ref 117, .ref 118, .ref 119])) := hO
    refine g_iload_n dX9_sizes_48 0 rfl ?_
    refine g_bipush (v := nI 13) dX9_sizes_49 (by decide +kernel) ?_
    refine g_icmp_gtN 98 dX9_sizes_51 (by decide) (by omega) (by omega) (fun c51 => ?_) (fun z => absurd z (by omega))
    refine g_iload_n dX9_sizes_98 3 rfl ?_
    exact g_iret dX9_sizes_99 rfl ⟨Nat.zero_le _, Nat.zero_le _⟩ (⟨by rw [show k = 6 by omega], rfl⟩)
  | succ j ih =>
    intro k  hk 
    have hO : rd h 98 = some (.inr (9, [.int (nI n), .int (nI m), .ref 99, .ref 100, .ref 101, .int (nI a), .ref 102, .int (nI de), .ref 103, .ref 104, .ref 105, .int fo, .int as_, .int sm, .int sk, .ref 106, .ref 107, .ref 108, .int z, .ref 109, .ref 110, .ref 111, .int (nI am), .ref 112, .ref 113, .ref 114, .ref 115, .ref 116, .int (nI (bI ib)), .int iN, .int iM, .int iT, .ref 117, .ref 118, .ref 119])) := hO
    refine g_iload_n dX9_sizes_48 0 rfl ?_
    refine g_bipush (v := nI 13) dX9_sizes_49 (by decide +kernel) ?_
    refine g_icmp_gtN 98 dX9_sizes_51 (by decide) (by omega) (by omega) (fun z => absurd z (by omega)) (fun c51 => ?_)
    refine g_iload_n dX9_sizes_54 3 rfl ?_
    refine g_aload_n dX9_sizes_55 1 rfl ?_
    refine g_getf dX9_sizes_56 kX9 wfX9_65 (Nat.le_of_ble_eq_true rfl) (hO) rfl ?_
    refine g_bipush (v := nI 40) dX9_sizes_59 (by decide +kernel) ?_
    refine g_iload_n dX9_sizes_61 2 rfl ?_
    refine g_imulN dX9_sizes_62 ?_
    refine g_iconst (v := nI 2) dX9_sizes_63 (by decide +kernel) ?_
    refine g_aload_n dX9_sizes_64 1 rfl ?_
    refine g_getf dX9_sizes_65 kX9 wfX9_62 (Nat.le_of_ble_eq_true rfl) (hO) rfl ?_
    refine g_iload_n dX9_sizes_68 2 rfl ?_
    refine g_ialI dX9_sizes_69 (hZ) (by omega) (by omega) ?_
    refine g_top (show (Sz).getD y 0 = nI s from es) ?_
    refine g_iconst (v := nI 2) dX9_sizes_70 (by decide +kernel) ?_
    refine g_idivN dX9_sizes_71 (by omega) (by omega) (by omega) ?_
    refine g_top (show nI (s / 2) = nI q from congrArg nI hq.symm) ?_
    refine g_iload_n dX9_sizes_72 0 rfl ?_
    refine g_callSp dX9_sizes_73 (ev_mst hI (n := 3 + 2 * k) (m := q) (u := 40 * y) (s := 2) (by omega) (by omega) (by omega) (by omega) (by omega) (fun i hi => by omega) (by omega) (X := cX It (40 * y)) (Y := cY It (40 * y)) (fun i hi h => okM_val (by omega) (by omega) h)) oX9_isStarter wsX9_isStarter wmX9_141 rfl ⟨(Nat.le_of_ble_eq_true rfl), (Nat.le_of_ble_eq_true rfl)⟩ ⟨Nat.zero_le _, Nat.zero_le _⟩ (Nat.le_of_ble_eq_true rfl) rfl ?_
    refine g_if_eqB 89 dX9_sizes_76 (by decide) (fun c76 => ?_) (fun c76 => ?_)
    · refine g_iconst (v := nI 0) dX9_sizes_89 (by decide +kernel) ?_
      refine g_iorN dX9_sizes_90 ?_
      refine g_top (show nI ((szM q It (40 * y) k) ||| 0) = nI (szM q It (40 * y) (k + 1)) from congrArg nI ((congrArg (szM q It (40 * y) k ||| ·) (show 0 = if stM (3 + 2 * k) q It (40 * y) 2 (cX It (40 * y)) (cY It (40 * y)) = true then 2 ^ k else 0 by rw [c76]; rfl)))) ?_
      refine g_istore_n (ls' := [(2, .int (nI (szM q It (40 * y) (k + 1)))), (3, .int (nI (3 + 2 * k))), (0, .ref 98), (1, .int (nI y))]) dX9_sizes_91 (Nat.le_of_ble_eq_true rfl) rfl ?_
      refine g_iinc (q := 1) (v := nI (3 + 2 * (k + 1))) (ls' := [(3, .int (nI (3 + 2 * (k + 1)))), (2, .int (nI (szM q It (40 * y) (k + 1)))), (0, .ref 98), (1, .int (nI y))]) dX9_sizes_92 rfl (incN _ 2) (Nat.le_of_ble_eq_true rfl) rfl ?_
      refine g_goto 48 dX9_sizes_95 (by decide) ?_
      refine g_lsub_ (ls2 := [(3, .int (nI (3 + 2 * (k + 1)))), (0, .ref 98), (1, .int (nI y)), (2, .int (nI (szM q It (40 * y) (k + 1))))]) [0, 2, 3, 1] rfl ?_
      exact ih (k + 1) (by omega)
    · refine g_iconst (v := nI 1) dX9_sizes_79 (by decide +kernel) ?_
      refine g_iload_n dX9_sizes_80 0 rfl ?_
      refine g_iconst (v := nI 3) dX9_sizes_81 (by decide +kernel) ?_
      refine g_isubN dX9_sizes_82 (by omega) ?_
      refine g_iconst (v := nI 2) dX9_sizes_83 (by decide +kernel) ?_
      refine g_idivN dX9_sizes_84 (by omega) (by omega) (by omega) ?_
      refine g_ishl1 dX9_sizes_85 (by omega) ?_
      refine g_goto 90 dX9_sizes_86 (by decide) ?_
      refine g_iorN dX9_sizes_90 ?_
      refine g_top (show nI ((szM q It (40 * y) k) ||| (2 ^ (((3 + 2 * k) - 3) / 2))) = nI (szM q It (40 * y) (k + 1)) from congrArg nI ((congrArg (szM q It (40 * y) k ||| ·) (show 2 ^ ((3 + 2 * k - 3) / 2) = if stM (3 + 2 * k) q It (40 * y) 2 (cX It (40 * y)) (cY It (40 * y)) = true then 2 ^ k else 0 by rw [if_pos c76, show (3 + 2 * k - 3) / 2 = k by omega])))) ?_
      refine g_istore_n (ls' := [(2, .int (nI (szM q It (40 * y) (k + 1)))), (3, .int (nI (3 + 2 * k))), (0, .ref 98), (1, .int (nI y))]) dX9_sizes_91 (Nat.le_of_ble_eq_true rfl) rfl ?_
      refine g_iinc (q := 1) (v := nI (3 + 2 * (k + 1))) (ls' := [(3, .int (nI (3 + 2 * (k + 1)))), (2, .int (nI (szM q It (40 * y) (k + 1)))), (0, .ref 98), (1, .int (nI y))]) dX9_sizes_92 rfl (incN _ 2) (Nat.le_of_ble_eq_true rfl) rfl ?_
      refine g_goto 48 dX9_sizes_95 (by decide) ?_
      refine g_lsub_ (ls2 := [(3, .int (nI (3 + 2 * (k + 1)))), (0, .ref 98), (1, .int (nI y)), (2, .int (nI (szM q It (40 * y) (k + 1))))]) [0, 2, 3, 1] rfl ?_
      exact ih (k + 1) (by omega)

set_option maxRecDepth 100000 in
set_option maxHeartbeats 4000000 in
theorem ev_y_sizes {h : List aC} {σ : Sg} (H : RM h σ) (ok : okSg σ) (l : Int32) : Ev mX9_sizes 3 0 0 [.ref 98, .int l] h (spM h (oSizes σ l)) := by
  obtain ⟨fo, as_, sm, sk, z, iN, iM, iT, P, Ro, U, rf, WM, WP, WR, Tr, Ke, Co, Th, Be, Le, AP, AR, AU, Sz, It, IP, IR, IU, mO, mP, mRo, mU, mrf, mWM, mWP, mWR, mTr, mKe, mCo, mTh, mBe, mLe, mAP, mAR, mAU, mSz, mIt, mIP, mIR, mIU, vP, vR, vU, vF, vH, vL, vS, vI, vG⟩ := id H
  have mO : rd h 98 = some (.inr (9, [.int (nI σ.1.1), .int (nI σ.1.2.1), .ref 99, .ref 100, .ref 101, .int (nI σ.1.2.2.2.1), .ref 102, .int (nI ((σ.2.2.2.1).length)), .ref 103, .ref 104, .ref 105, .int fo, .int as_, .int sm, .int sk, .ref 106, .ref 107, .ref 108, .int z, .ref 109, .ref 110, .ref 111, .int (nI σ.2.1.1), .ref 112, .ref 113, .ref 114, .ref 115, .ref 116, .int (nI (bI σ.2.2.2.2.1.isSome)), .int iN, .int iM, .int iT, .ref 117, .ref 118, .ref 119])) := mO
  obtain ⟨mP, lP⟩ := mP
  obtain ⟨mRo, lRo⟩ := mRo
  obtain ⟨mU, lU⟩ := mU
  obtain ⟨mrf, lrf⟩ := mrf
  obtain ⟨mWM, lWM⟩ := mWM
  obtain ⟨mWP, lWP⟩ := mWP
  obtain ⟨mWR, lWR⟩ := mWR
  obtain ⟨mTr, lTr⟩ := mTr
  obtain ⟨mKe, lKe⟩ := mKe
  obtain ⟨mCo, lCo⟩ := mCo
  obtain ⟨mTh, lTh⟩ := mTh
  obtain ⟨mBe, lBe⟩ := mBe
  obtain ⟨mLe, lLe⟩ := mLe
  obtain ⟨mAP, lAP⟩ := mAP
  obtain ⟨mAR, lAR⟩ := mAR
  obtain ⟨mAU, lAU⟩ := mAU
  obtain ⟨mSz, lSz⟩ := mSz
  obtain ⟨mIt, lIt⟩ := mIt
  obtain ⟨mIP, lIP⟩ := mIP
  obtain ⟨mIR, lIR⟩ := mIR
  obtain ⟨mIU, lIU⟩ := mIU
  obtain ⟨okc, ⟨okl, okw⟩, okn, ⟨okh, oke⟩, oki, okr⟩ := id ok
  obtain ⟨k1, k2, k3, k4, k5, k6, k7, k8, k9⟩ := id okc
  refine Ev.of pX9_sizes (Nat.le_of_ble_eq_true rfl) ?_
  show G mX9_sizes (rmD 3 0 0) none _ 0 0 0 [(0, .ref 98), (1, .int l)] [] h
  refine g_iload_n dX9_sizes_0 1 rfl ?_
  refine g_callSp dX9_sizes_1 (ev_isList l _) oX9_isList wsX9_isList wmX9_257 rfl ⟨(Nat.le_of_ble_eq_true rfl), (Nat.le_of_ble_eq_true rfl)⟩ ⟨Nat.zero_le _, Nat.zero_le _⟩ (Nat.le_of_ble_eq_true rfl) rfl ?_
  refine g_if_neB 13 dX9_sizes_4 (by decide) (fun c4 => ?_) (fun c4 => ?_)
  · have n1 := of_decide_eq_true c4
    obtain ⟨y, hy, rfl⟩ := nn_of n1.1
    have b1 : y < 3 := (nI_ltI hy (by decide)).mp n1.2
    refine g_aload_n dX9_sizes_13 0 rfl ?_
    refine g_getf dX9_sizes_14 kX9 wfX9_62 (Nat.le_of_ble_eq_true rfl) (mO) rfl ?_
    refine g_iload_n dX9_sizes_17 1 rfl ?_
    refine g_ialI dX9_sizes_18 (mSz) (by omega) (by omega) ?_
    refine g_top (show (Sz).getD y 0 = σ.2.2.1.2.getD y 0 from by rw [vS]) ?_
    refine g_if_ge 25 dX9_sizes_19 (by decide) (fun c19 => ?_) (fun c19 => ?_)
    · obtain ⟨q, hq, eq⟩ := okL_q ok b1 c19
      rw [show oSizes σ (nI y) = _ from if_pos (okL_t b1 c19)]
      rw [cl_ hy, eq, cl_ (show q < 2 ^ 31 by omega)]
      refine g_aload_n dX9_sizes_25 0 rfl ?_
      refine g_getf dX9_sizes_26 kX9 wfX9_62 (Nat.le_of_ble_eq_true rfl) (mO) rfl ?_
      refine g_iload_n dX9_sizes_29 1 rfl ?_
      refine g_ialI dX9_sizes_30 (mSz) (by omega) (by omega) ?_
      refine g_top (show (Sz).getD y 0 = nI q from by rw [vS, eq]) ?_
      refine g_iconst (v := nI 2) dX9_sizes_31 (by decide +kernel) ?_
      refine g_iremN dX9_sizes_32 (by omega) (by omega) (by omega) ?_
      refine g_iconst (v := nI 1) dX9_sizes_33 (by decide +kernel) ?_
      refine g_icmp_neN 44 dX9_sizes_34 (by decide) (by omega) (by omega) (fun c34 => ?_) (fun c34 => ?_)
      · rw [if_pos (show q % 2 = 0 by omega)]
        refine g_iconst (v := nI 0) dX9_sizes_44 (by decide +kernel) ?_
        refine g_istore_n (ls' := [(2, .int (nI 0)), (0, .ref 98), (1, .int (nI y))]) dX9_sizes_45 (Nat.le_of_ble_eq_true rfl) rfl ?_
        refine g_iconst (v := nI 3) dX9_sizes_46 (by decide +kernel) ?_
        refine g_istore_n (ls' := [(3, .int (nI 3)), (2, .int (nI 0)), (0, .ref 98), (1, .int (nI y))]) dX9_sizes_47 (Nat.le_of_ble_eq_true rfl) rfl ?_
        refine g_lsub_ (ls2 := [(3, .int (nI 3)), (0, .ref 98), (1, .int (nI y)), (2, .int (nI 0))]) [0, 2, 3, 1] rfl ?_
        exact (lp_msz (show MO h _ _ _ _ _ _ _ _ _ _ _ _ _ _ from mO) mSz (by omega) mIt lIt b1 hq (by rw [vS]; exact eq) rfl 6 0 (by omega)).mono (fun w h1 hw => by obtain ⟨rfl, rfl⟩ := hw; exact ⟨by rw [sz_link (L := σ.2.2.1.1 y) (fun i hi => vI y i b1 hi)], H, Smo.rf⟩)
      · refine g_aload_n dX9_sizes_37 0 rfl ?_
        refine g_bipush (v := (-3)) dX9_sizes_38 (by decide +kernel) ?_
        rw [if_neg (show ¬ q % 2 = 0 by omega)]
        refine g_callVq (st1 := [.int (-nI 3)]) dX9_sizes_40 (ev_refused H ok 3 (by unfold noN; omega)) oX9_refused wiX9_refused weX9_refused wmX9_90 kX9 (mO) rfl ⟨(Nat.le_of_ble_eq_true rfl), (Nat.le_of_ble_eq_true rfl)⟩ ⟨Nat.zero_le _, Nat.zero_le _⟩ (Nat.le_of_ble_eq_true rfl) rfl rfl (fun h1 q1 => ?_)
        exact g_iret dX9_sizes_43 rfl ⟨Nat.zero_le _, Nat.zero_le _⟩ (⟨rfl, q1⟩)
    · rw [show oSizes σ (nI y) = (-11, σ) from (if_neg (by rw [okL_f b1 c19]; decide)).trans (if_pos n1)]
      refine g_bipush (v := (-11)) dX9_sizes_22 (by decide +kernel) ?_
      exact g_iret dX9_sizes_24 rfl ⟨Nat.zero_le _, Nat.zero_le _⟩ (⟨rfl, ⟨_, _, _, _, _, _, _, _, _, _, _, _, _, _, _, _, _, _, _, _, _, _, _, _, _, _, _, _, _, mO, ⟨mP, lP⟩, ⟨mRo, lRo⟩, ⟨mU, lU⟩, ⟨mrf, lrf⟩, ⟨mWM, lWM⟩, ⟨mWP, lWP⟩, ⟨mWR, lWR⟩, ⟨mTr, lTr⟩, ⟨mKe, lKe⟩, ⟨mCo, lCo⟩, ⟨mTh, lTh⟩, ⟨mBe, lBe⟩, ⟨mLe, lLe⟩, ⟨mAP, lAP⟩, ⟨mAR, lAR⟩, ⟨mAU, lAU⟩, ⟨mSz, lSz⟩, ⟨mIt, lIt⟩, ⟨mIP, lIP⟩, ⟨mIR, lIR⟩, ⟨mIU, lIU⟩, vP, vR, vU, vF, vH, vL, vS, vI, vG⟩, Smo.rf⟩)
  · refine g_aload_n dX9_sizes_7 0 rfl ?_
    refine g_iconst (v := (-1)) dX9_sizes_8 (by decide +kernel) ?_
    rw [show oSizes σ l = rfS σ (-1) from (if_neg (by rw [okL_o (of_decide_eq_false c4)]; decide)).trans (if_neg (of_decide_eq_false c4))]
    refine g_callVq (st1 := [.int (-nI 1)]) dX9_sizes_9 (ev_refused H ok 1 (by unfold noN; omega)) oX9_refused wiX9_refused weX9_refused wmX9_90 kX9 (mO) rfl ⟨(Nat.le_of_ble_eq_true rfl), (Nat.le_of_ble_eq_true rfl)⟩ ⟨Nat.zero_le _, Nat.zero_le _⟩ (Nat.le_of_ble_eq_true rfl) rfl rfl (fun h2 q2 => ?_)
    exact g_iret dX9_sizes_12 rfl ⟨Nat.zero_le _, Nat.zero_le _⟩ (⟨rfl, q2⟩)
