def xV (v : Nat) : Int32 := if v = 0 then -1 else nI (v / 14)
def yV (v : Nat) : Int32 := if v = 0 then -1 else nI (v % 14)
/-- pairs as rows of three numbers, from o on -/
def pR (P : List Int32) (o m : Nat) (f : Nat → Pr) : Prop := ∀ k, k < m → P.getD (o + 3 * k) 0 = nI (f k).1 ∧ P.getD (o + 3 * k + 1) 0 = nI (f k).2.1 ∧ P.getD (o + 3 * k + 2) 0 = nI (f k).2.2
/-- the room as rows of points -/
def rR (R : List Int32) (o : Nat) (rm : Nat → Nat → Nat) : Prop := ∀ a b, a < 13 → b < 13 → R.getD (o + 2 * (13 * a + b)) 0 = xV (rm a b) ∧ R.getD (o + 2 * (13 * a + b) + 1) 0 = yV (rm a b)
def tR (U : List Int32) (a : Nat) (tu : Nat → Nat × Nat) : Prop := ∀ i, i < a → U.getD (2 * i) 0 = nI (tu i).1 ∧ U.getD (2 * i + 1) 0 = nI (tu i).2
/-- the deeds, the oldest first -/
def hM (m : Nat) (WM WP WR : List Int32) (hi : List Hs) : Prop := ∀ j, j < hi.length → WM.getD (hi.length - 1 - j) 0 = nI m ∧ pR WP (18 * (hi.length - 1 - j)) m (hi.getD j hd0).1 ∧ rR WR (338 * (hi.length - 1 - j)) (hi.getD j hd0).2
def iR (It : List Int32) (LR : Nat → List Int32) : Prop := ∀ y i, y < 3 → i < 40 → It.getD (40 * y + i) 0 = (LR y).getD i 0
def gR (iN iM iT : Int32) (IP IR IU : List Int32) (im : Option Cr) : Prop := ∀ c, im = some c → iN = nI c.1 ∧ iM = nI c.2.1 ∧ iT = nI c.2.2.2.1 ∧ pR IP 0 c.2.1 c.2.2.1 ∧ rR IR 0 c.2.2.2.2.2 ∧ tR IU c.2.2.2.1 c.2.2.2.2.1
def MO (h : List aC) (n m a de : Nat) (fo as_ sm sk z : Int32) (am : Nat) (ib : Bool) (iN iM iT : Int32) : Prop := rd h 98 = some (.inr (9, [.int (nI n), .int (nI m), .ref 99, .ref 100, .ref 101, .int (nI a), .ref 102, .int (nI de), .ref 103, .ref 104, .ref 105, .int fo, .int as_, .int sm, .int sk, .ref 106, .ref 107, .ref 108, .int z, .ref 109, .ref 110, .ref 111, .int (nI am), .ref 112, .ref 113, .ref 114, .ref 115, .ref 116, .int (nI (bI ib)), .int iN, .int iM, .int iT, .ref 117, .ref 118, .ref 119]))
def arI (h : List aC) (q : Nat) (L : List Int32) (k : Nat) : Prop := rd h q = some (.inl L) ∧ L.length = k
/-- the model at 98 holds it -/
def RM (h : List aC) (σ : Sg) : Prop := ∃ (fo as_ sm sk z iN iM iT : Int32) (P Ro U rf WM WP WR Tr Ke Co Th Be Le AP AR AU Sz It IP IR IU : List Int32), MO h σ.1.1 σ.1.2.1 σ.1.2.2.2.1 σ.2.2.2.1.length fo as_ sm sk z σ.2.1.1 σ.2.2.2.2.1.isSome iN iM iT ∧ arI h 99 P 18 ∧ arI h 100 Ro 338 ∧ arI h 101 U 12 ∧ arI h 102 rf 7 ∧ arI h 103 WM 12 ∧ arI h 104 WP 216 ∧ arI h 105 WR 4056 ∧ arI h 106 Tr 12 ∧ arI h 107 Ke 6 ∧ arI h 108 Co 196 ∧ arI h 109 Th 18 ∧ arI h 110 Be 18 ∧ arI h 111 Le 72 ∧ arI h 112 AP 18 ∧ arI h 113 AR 338 ∧ arI h 114 AU 12 ∧ arI h 115 Sz 3 ∧ arI h 116 It 120 ∧ arI h 117 IP 18 ∧ arI h 118 IR 338 ∧ arI h 119 IU 12 ∧ pR P 0 σ.1.2.1 σ.1.2.2.1 ∧ rR Ro 0 σ.1.2.2.2.2.2 ∧ tR U σ.1.2.2.2.1 σ.1.2.2.2.2.1 ∧ rf = σ.2.2.2.2.2 ∧ hM σ.1.2.1 WM WP WR σ.2.2.2.1 ∧ Le = σ.2.1.2.map nI ∧ Sz = σ.2.2.1.2 ∧ iR It σ.2.2.1.1 ∧ gR iN iM iT IP IR IU σ.2.2.2.2.1

theorem MO.mv {h h' : List aC} {lo hi : Nat} {n m a de : Nat} {fo as_ sm sk z : Int32} {am : Nat} {ib : Bool} {iN iM iT : Int32} (H : MO h n m a de fo as_ sm sk z am ib iN iM iT) (s : Smo lo hi h h') (hq : hi ≤ 98) : MO h' n m a de fo as_ sm sk z am ib iN iM iT := by unfold MO; rw [s 98 (by omega)]; exact H
theorem arI.mv {h h' : List aC} {lo hi q k : Nat} {L : List Int32} (H : arI h q L k) (s : Smo lo hi h h') (hq : hi ≤ q) : arI h' q L k := ⟨by rw [s q (by omega)]; exact H.1, H.2⟩

theorem RM.mv {h h' : List aC} {σ : Sg} {lo hi : Nat} (H : RM h σ) (s : Smo lo hi h h') (hq : hi ≤ 98) : RM h' σ := by
  obtain ⟨fo, as_, sm, sk, z, iN, iM, iT, P, Ro, U, rf, WM, WP, WR, Tr, Ke, Co, Th, Be, Le, AP, AR, AU, Sz, It, IP, IR, IU, mO, mP, mRo, mU, mrf, mWM, mWP, mWR, mTr, mKe, mCo, mTh, mBe, mLe, mAP, mAR, mAU, mSz, mIt, mIP, mIR, mIU, vP, vR, vU, vF, vH, vL, vS, vI, vG⟩ := H
  exact ⟨_, _, _, _, _, _, _, _, _, _, _, _, _, _, _, _, _, _, _, _, _, _, _, _, _, _, _, _, _, mO.mv s (by omega), mP.mv s (by omega), mRo.mv s (by omega), mU.mv s (by omega), mrf.mv s (by omega), mWM.mv s (by omega), mWP.mv s (by omega), mWR.mv s (by omega), mTr.mv s (by omega), mKe.mv s (by omega), mCo.mv s (by omega), mTh.mv s (by omega), mBe.mv s (by omega), mLe.mv s (by omega), mAP.mv s (by omega), mAR.mv s (by omega), mAU.mv s (by omega), mSz.mv s (by omega), mIt.mv s (by omega), mIP.mv s (by omega), mIR.mv s (by omega), mIU.mv s (by omega), vP, vR, vU, vF, vH, vL, vS, vI, vG⟩

set_option maxRecDepth 100000 in
set_option maxHeartbeats 4000000 in
theorem ev_inI (x a b : Int64) (h : List aC) : Ev mX9_in 1 0 0 [.long x, .long a, .long b] h (pv (.int (nI (bI (decide (a ≤ x ∧ x ≤ b))))) h) := by
  refine Ev.of pX9_in (Nat.le_of_ble_eq_true rfl) ?_
  show G mX9_in (rmD 1 0 0) none _ 0 0 0 [(0, .long x), (2, .long a), (4, .long b)] [] h
  refine g_lload_n dX9_in_0 0 rfl ?_
  refine g_lload_n dX9_in_1 1 rfl ?_
  refine g_lcmp (v := lg_cmp x a) dX9_in_2 (rfl) ?_
  refine g_if_lt 17 dX9_in_3 (by decide) (fun c3 => ?_) (fun c3 => ?_)
  · refine g_iconst (v := nI 0) dX9_in_17 (by decide +kernel) ?_
    exact g_zret dX9_in_18 rfl (by decide) ⟨Nat.zero_le _, Nat.zero_le _⟩ (pvF (decide_eq_false (fun z => by first | exact absurd z.1 (Int64.not_le.mpr ((lg_cmp_lt x a).mp c3)) | exact absurd z.2 (Int64.not_le.mpr ((lg_cmp_gt x b).mp c10)))))
  · refine g_lload_n dX9_in_6 0 rfl ?_
    refine g_lload dX9_in_7 2 rfl ?_
    refine g_lcmp (v := lg_cmp x b) dX9_in_9 (rfl) ?_
    refine g_if_gt 17 dX9_in_10 (by decide) (fun c10 => ?_) (fun c10 => ?_)
    · refine g_iconst (v := nI 0) dX9_in_17 (by decide +kernel) ?_
      exact g_zret dX9_in_18 rfl (by decide) ⟨Nat.zero_le _, Nat.zero_le _⟩ (pvF (decide_eq_false (fun z => by first | exact absurd z.1 (Int64.not_le.mpr ((lg_cmp_lt x a).mp c3)) | exact absurd z.2 (Int64.not_le.mpr ((lg_cmp_gt x b).mp c10)))))
    · refine g_iconst (v := nI 1) dX9_in_13 (by decide +kernel) ?_
      refine g_goto 18 dX9_in_14 (by decide) ?_
      exact g_zret dX9_in_18 rfl (by decide) ⟨Nat.zero_le _, Nat.zero_le _⟩ (pvT (decide_eq_true ⟨Int64.not_lt.mp (fun z => c3 ((lg_cmp_lt x a).mpr z)), Int64.not_lt.mp (fun z => c10 ((lg_cmp_gt x b).mpr z))⟩))

theorem i2l_le (x y : Int32) : (x.toInt64 ≤ y.toInt64) ↔ x ≤ y := by rw [Int64.le_iff_toInt_le, Int32.le_iff_toInt_le, Int32.toInt_toInt64, Int32.toInt_toInt64]
theorem ev_in (x a b : Int32) (h : List aC) : Ev mX9_in 1 0 0 [.long (Int32.toInt64 x), .long (Int32.toInt64 a), .long (Int32.toInt64 b)] h (pv (.int (nI (bI (decide (a ≤ x ∧ x ≤ b))))) h) := by
  have z := ev_inI x.toInt64 a.toInt64 b.toInt64 h
  simp only [i2l_le] at z
  exact z
theorem ev_inN (x : Int32) (a b : Nat) (ha : a < 2 ^ 31) (hb : b < 2 ^ 31) (h : List aC) : Ev mX9_in 1 0 0 [.long (Int32.toInt64 x), .long (lN a), .long (lN b)] h (pv (.int (nI (bI (decide (nI a ≤ x ∧ x ≤ nI b))))) h) := by
  have z := ev_in x (nI a) (nI b) h
  rw [nI_l ha, nI_l hb] at z
  exact z
theorem ev_inM (x b : Int32) (h : List aC) : Ev mX9_in 1 0 0 [.long (Int32.toInt64 x), .long (lN 0), .long (Int32.toInt64 b)] h (pv (.int (nI (bI (decide (nI 0 ≤ x ∧ x ≤ b))))) h) := by
  have z := ev_in x (nI 0) b h
  rw [nI_l (show 0 < 2 ^ 31 by decide)] at z
  exact z
def spM (h : List aC) (r : Int32 × Sg) : Option Value → List aC → Prop := pq (some (.int r.1)) (fun h2 => RM h2 r.2 ∧ Smo 98 120 h h2)
def spML (h : List aC) (r : Int64 × Sg) : Option Value → List aC → Prop := pq (some (.long r.1)) (fun h2 => RM h2 r.2 ∧ Smo 98 120 h h2)
