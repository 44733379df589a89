theorem nonneg_iff (r : Int32) : 0 ≤ r ↔ 0 ≤ r.toInt := Jvm.Kit.i32_nonneg
theorem sgn_xor (x : Int32) {n : Nat} (hn : n < 2 ^ 31) : (0 ≤ x ^^^ nI n) ↔ 0 ≤ x.toInt := by
  rw [nonneg_iff]
  have h1 : (x ^^^ nI n).toInt = (x.toBitVec ^^^ (nI n).toBitVec).toInt := rfl
  have h2 : x.toInt = x.toBitVec.toInt := rfl
  have h3 : (nI n).toBitVec.toInt = (n : Int) := nI_toInt hn
  have m1 := BitVec.msb_eq_toInt (x := x.toBitVec ^^^ (nI n).toBitVec)
  have m2 := BitVec.msb_eq_toInt (x := x.toBitVec)
  have m3 := BitVec.msb_eq_toInt (x := (nI n).toBitVec)
  rw [BitVec.msb_xor, m2, m3, h3] at m1
  have m4 : decide ((n : Int) < 0) = false := decide_eq_false (by omega)
  rw [m4, Bool.xor_false] at m1
  have m5 := decide_eq_decide.mp m1
  rw [h1, h2]
  omega
def fm (x : Int32) (n : Nat) : Nat := (x.toInt % (n : Int)).toNat
theorem fm_lt (x : Int32) {n : Nat} (h0 : 0 < n) : fm x n < n := by
  unfold fm
  have h1 := Int.emod_nonneg x.toInt (b := (n : Int)) (by omega)
  have h2 := Int.emod_lt_of_pos x.toInt (b := (n : Int)) (by omega)
  omega
theorem fm_int (x : Int32) {n : Nat} (h0 : 0 < n) : (fm x n : Int) = x.toInt % (n : Int) := by
  unfold fm
  exact Int.toNat_of_nonneg (Int.emod_nonneg x.toInt (by omega))
theorem fm_rem (x : Int32) {n : Nat} (hn : n < 2 ^ 30) : (x - x / nI n * nI n).toInt = x.toInt.tmod (n : Int) := by
  rw [rem_toInt, nI_toInt (by omega)]
theorem fm_pos {x : Int32} {n : Nat} (h0 : 0 < n) (hn : n < 2 ^ 30) (h : 0 ≤ x ^^^ nI n) : x - x / nI n * nI n = nI (fm x n) := by
  have hx := (sgn_xor x (by omega)).mp h
  have hl := fm_lt x h0
  apply Int32.toInt_inj.mp
  rw [fm_rem x hn, nI_toInt (by omega), fm_int x h0, Int.tmod_eq_emod_of_nonneg hx]
theorem fm_zero {x : Int32} {n : Nat} (h0 : 0 < n) (hn : n < 2 ^ 30) (h : x - x / nI n * nI n = 0) : x - x / nI n * nI n = nI (fm x n) := by
  have hl := fm_lt x h0
  have h1 : (x - x / nI n * nI n).toInt = 0 := by rw [h]; decide
  rw [fm_rem x hn] at h1
  have h2 : (n : Int) ∣ x.toInt := Int.dvd_of_tmod_eq_zero h1
  rw [h]
  have h3 : fm x n = 0 := by
    have := fm_int x h0
    rw [Int.emod_eq_zero_of_dvd h2] at this
    omega
  rw [h3]
  rfl
theorem fm_neg {x : Int32} {n : Nat} (h0 : 0 < n) (hn : n < 2 ^ 30) (h : ¬ 0 ≤ x ^^^ nI n) (hz : ¬ x - x / nI n * nI n = 0) : x - x / nI n * nI n + nI n = nI (fm x n) := by
  have hx : ¬ 0 ≤ x.toInt := fun q => h ((sgn_xor x (by omega)).mpr q)
  have hl := fm_lt x h0
  have hr := fm_rem x hn
  have ht := Int.tmod_eq_emod (a := x.toInt) (b := (n : Int))
  have hnd : ¬ (n : Int) ∣ x.toInt := fun q => hz (by
    apply Int32.toInt_inj.mp
    rw [hr, Int.tmod_eq_zero_of_dvd q]
    decide)
  rw [if_neg (by intro q; rcases q with q | q; exact hx q; exact hnd q)] at ht
  have hi := fm_int x h0
  apply Int32.toInt_inj.mp
  rw [Int32.toInt_add, hr, nI_toInt (by omega), nI_toInt (by omega), hi, ht]
  have e : x.toInt % (n : Int) - ((n : Int).natAbs : Int) + (n : Int) = x.toInt % (n : Int) := by
    rw [Int.natAbs_natCast]
    omega
  rw [e]
  exact Int.bmod_eq_of_le (by omega) (by omega)
theorem fm_N (a n : Nat) (ha : a < 2 ^ 31) : fm (nI a) n = a % n := by
  unfold fm
  rw [nI_toInt ha]
  omega
theorem fm_S {a b n : Nat} (ha : a < 2 ^ 30) (hb : b ≤ n) (h0 : 0 < n) (hn : n < 2 ^ 30) : fm (nI a - nI b) n = (a + n - b) % n := by
  unfold fm
  rw [pk_sub_toInt ha (by omega)]
  have e : ((a : Int) - (b : Int)) % (n : Int) = (((a + n - b : Nat) : Int)) % (n : Int) := by
    have : ((a + n - b : Nat) : Int) = ((a : Int) - b) + n := by omega
    rw [this, Int.add_emod_right]
  rw [e]
  omega
theorem narB (b : Bool) : narrow .boolean (.int (nI (bI b))) = .int (nI (bI b)) := by cases b <;> rfl
theorem incN (a b : Nat) : nI a + Int32.ofInt (b : Int) = nI (a + b) := nI_add a b

set_option maxRecDepth 100000 in
set_option maxHeartbeats 4000000 in
theorem ev_fm (x : Int32) (n : Nat) (h0 : 0 < n) (hn : n < 2 ^ 30) (h : List aC) : Ev mJ9_floorMod_7cf53 1 0 0 [.int x, .int (nI n)] h (pv (.int (nI (fm x n))) h) := by
  refine Ev.of pJ9_floorMod_7cf53 (Nat.le_of_ble_eq_true rfl) ?_
  show G mJ9_floorMod_7cf53 (rmD 1 0 0) none _ 0 0 0 [(0, .int x), (1, .int (nI n))] [] h
  refine g_iload_n dJ9_floorMod_7cf53_0 0 rfl ?_
  refine g_iload_n dJ9_floorMod_7cf53_1 1 rfl ?_
  refine g_irem dJ9_floorMod_7cf53_2 (nI_ne0 h0 (by omega)) ?_
  refine g_istore_n (ls' := [(2, .int (x - x / (nI n) * (nI n))), (0, .int x), (1, .int (nI n))]) dJ9_floorMod_7cf53_3 (Nat.le_of_ble_eq_true rfl) rfl ?_
  refine g_iload_n dJ9_floorMod_7cf53_4 1 rfl ?_
  refine g_iload_n dJ9_floorMod_7cf53_5 2 rfl ?_
  refine g_ixor dJ9_floorMod_7cf53_6 ?_
  refine g_if_ge 18 dJ9_floorMod_7cf53_7 (by decide) (fun c7 => ?_) (fun c7 => ?_)
  · refine g_iload_n dJ9_floorMod_7cf53_18 0 rfl ?_
    exact g_iret dJ9_floorMod_7cf53_19 rfl ⟨Nat.zero_le _, Nat.zero_le _⟩ (⟨by first | rw [fm_pos h0 hn c7] | rw [fm_zero h0 hn c11], rfl⟩)
  · refine g_iload_n dJ9_floorMod_7cf53_10 0 rfl ?_
    refine g_if_eq 18 dJ9_floorMod_7cf53_11 (by decide) (fun c11 => ?_) (fun c11 => ?_)
    · refine g_iload_n dJ9_floorMod_7cf53_18 0 rfl ?_
      exact g_iret dJ9_floorMod_7cf53_19 rfl ⟨Nat.zero_le _, Nat.zero_le _⟩ (⟨by first | rw [fm_pos h0 hn c7] | rw [fm_zero h0 hn c11], rfl⟩)
    · refine g_iload_n dJ9_floorMod_7cf53_14 0 rfl ?_
      refine g_iload_n dJ9_floorMod_7cf53_15 2 rfl ?_
      refine g_iadd dJ9_floorMod_7cf53_16 ?_
      exact g_iret dJ9_floorMod_7cf53_17 rfl ⟨Nat.zero_le _, Nat.zero_le _⟩ (⟨by rw [fm_neg h0 hn c7 c11], rfl⟩)

set_option maxRecDepth 100000 in
set_option maxHeartbeats 4000000 in
theorem ev_wrap (x : Int32) (n : Nat) (h0 : 0 < n) (hn : n < 2 ^ 30) (h : List aC) : Ev mX8_wrap 2 0 0 [.int x, .int (nI n)] h (pv (.int (nI (fm x n))) h) := by
  refine Ev.of pX8_wrap (Nat.le_of_ble_eq_true rfl) ?_
  show G mX8_wrap (rmD 2 0 0) none _ 0 0 0 [(0, .int x), (1, .int (nI n))] [] h
  refine g_iload_n dX8_wrap_0 1 rfl ?_
  refine g_iconst (v := nI 1) dX8_wrap_1 (by decide +kernel) ?_
  refine g_icmp_geN 9 dX8_wrap_2 (by decide) (by omega) (by omega) (fun c2 => ?_) (fun z => absurd z (by omega))
  refine g_iload_n dX8_wrap_9 0 rfl ?_
  refine g_iload_n dX8_wrap_10 1 rfl ?_
  refine g_callSp dX8_wrap_11 (ev_fm x n h0 hn h) oJ9_floorMod_7cf53 wsJ9_floorMod_7cf53 wmX8_324 rfl ⟨(Nat.le_of_ble_eq_true rfl), (Nat.le_of_ble_eq_true rfl)⟩ ⟨Nat.zero_le _, Nat.zero_le _⟩ (Nat.le_of_ble_eq_true rfl) rfl ?_
  exact g_iret dX8_wrap_14 rfl ⟨Nat.zero_le _, Nat.zero_le _⟩ (⟨rfl, rfl⟩)

theorem ev_wrapN (a n : Nat) (ha : a < 2 ^ 31) (h0 : 0 < n) (hn : n < 2 ^ 30) (h : List aC) : Ev mX8_wrap 2 0 0 [.int (nI a), .int (nI n)] h (pv (.int (nI (a % n))) h) := by
  have e := ev_wrap (nI a) n h0 hn h
  rw [fm_N a n ha] at e
  exact e
theorem ev_wrapS (a b n : Nat) (ha : a < 2 ^ 30) (hb : b ≤ n) (h0 : 0 < n) (hn : n < 2 ^ 30) (h : List aC) : Ev mX8_wrap 2 0 0 [.int (nI a - nI b), .int (nI n)] h (pv (.int (nI ((a + n - b) % n))) h) := by
  have e := ev_wrap (nI a - nI b) n h0 hn h
  rw [fm_S ha hb h0 hn] at e
  exact e

set_option maxRecDepth 100000 in
set_option maxHeartbeats 4000000 in
theorem ev_bit (b : Bool) (h : List aC) : Ev mX8_bit 1 0 0 [.int (nI (bI b))] h (pv (.int (nI (bI b))) h) := by
  refine Ev.of pX8_bit (Nat.le_of_ble_eq_true rfl) ?_
  show G mX8_bit (rmD 1 0 0) none _ 0 0 0 [(0, .int (nI (bI b)))] [] h
  refine g_iload_n dX8_bit_0 0 rfl ?_
  refine g_if_eqB 8 dX8_bit_1 (by decide) (fun c1 => ?_) (fun c1 => ?_)
  · refine g_iconst (v := nI 0) dX8_bit_8 (by decide +kernel) ?_
    exact g_iret dX8_bit_9 rfl ⟨Nat.zero_le _, Nat.zero_le _⟩ (⟨by rw [c1]; rfl, rfl⟩)
  · refine g_iconst (v := nI 1) dX8_bit_4 (by decide +kernel) ?_
    refine g_goto 9 dX8_bit_5 (by decide) ?_
    exact g_iret dX8_bit_9 rfl ⟨Nat.zero_le _, Nat.zero_le _⟩ (⟨by rw [c1]; rfl, rfl⟩)

set_option maxRecDepth 100000 in
set_option maxHeartbeats 4000000 in
theorem ev_min (a b : Nat) (ha : a < 2 ^ 31) (hb : b < 2 ^ 31) (h : List aC) : Ev mJ9_min_7cf53 1 0 0 [.int (nI a), .int (nI b)] h (pv (.int (nI (min a b))) h) := by
  refine Ev.of pJ9_min_7cf53 (Nat.le_of_ble_eq_true rfl) ?_
  show G mJ9_min_7cf53 (rmD 1 0 0) none _ 0 0 0 [(0, .int (nI a)), (1, .int (nI b))] [] h
  refine g_iload_n dJ9_min_7cf53_0 0 rfl ?_
  refine g_iload_n dJ9_min_7cf53_1 1 rfl ?_
  refine g_icmp_gtN 9 dJ9_min_7cf53_2 (by decide) (by omega) (by omega) (fun c2 => ?_) (fun c2 => ?_)
  · refine g_iload_n dJ9_min_7cf53_9 1 rfl ?_
    exact g_iret dJ9_min_7cf53_10 rfl ⟨Nat.zero_le _, Nat.zero_le _⟩ (⟨by rw [show min a b = _ by first | exact Nat.min_eq_left (by omega) | exact Nat.min_eq_right (by omega)], rfl⟩)
  · refine g_iload_n dJ9_min_7cf53_5 0 rfl ?_
    refine g_goto 10 dJ9_min_7cf53_6 (by decide) ?_
    exact g_iret dJ9_min_7cf53_10 rfl ⟨Nat.zero_le _, Nat.zero_le _⟩ (⟨by rw [show min a b = _ by first | exact Nat.min_eq_left (by omega) | exact Nat.min_eq_right (by omega)], rfl⟩)

set_option maxRecDepth 100000 in
set_option maxHeartbeats 4000000 in
theorem ev_max (a b : Nat) (ha : a < 2 ^ 31) (hb : b < 2 ^ 31) (h : List aC) : Ev mJ9_max_7cf53 1 0 0 [.int (nI a), .int (nI b)] h (pv (.int (nI (max a b))) h) := by
  refine Ev.of pJ9_max_7cf53 (Nat.le_of_ble_eq_true rfl) ?_
  show G mJ9_max_7cf53 (rmD 1 0 0) none _ 0 0 0 [(0, .int (nI a)), (1, .int (nI b))] [] h
  refine g_iload_n dJ9_max_7cf53_0 0 rfl ?_
  refine g_iload_n dJ9_max_7cf53_1 1 rfl ?_
  refine g_icmp_ltN 9 dJ9_max_7cf53_2 (by decide) (by omega) (by omega) (fun c2 => ?_) (fun c2 => ?_)
  · refine g_iload_n dJ9_max_7cf53_9 1 rfl ?_
    exact g_iret dJ9_max_7cf53_10 rfl ⟨Nat.zero_le _, Nat.zero_le _⟩ (⟨by rw [show max a b = _ by first | exact Nat.max_eq_left (by omega) | exact Nat.max_eq_right (by omega)], rfl⟩)
  · refine g_iload_n dJ9_max_7cf53_5 0 rfl ?_
    refine g_goto 10 dJ9_max_7cf53_6 (by decide) ?_
    exact g_iret dJ9_max_7cf53_10 rfl ⟨Nat.zero_le _, Nat.zero_le _⟩ (⟨by rw [show max a b = _ by first | exact Nat.max_eq_left (by omega) | exact Nat.max_eq_right (by omega)], rfl⟩)
