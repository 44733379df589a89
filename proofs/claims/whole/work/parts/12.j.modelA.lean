theorem xV_neg {v : Nat} (h : v < 196) : ¬ 0 ≤ xV v ↔ v = 0 := by
  have z : ∀ v, v < 196 → (¬ 0 ≤ xV v ↔ v = 0) := by decide +kernel
  exact z v h
def filM (Ro : List Int32) : Nat → Nat := sumN (fun c => bI (decide (0 ≤ Ro.getD (2 * c) 0)))
theorem filM_s (Ro : List Int32) (k : Nat) : filM Ro (k + 1) = filM Ro k + bI (decide (0 ≤ Ro.getD (2 * k) 0)) := rfl
theorem filM_le (Ro : List Int32) : ∀ k, filM Ro k ≤ k
  | 0 => Nat.le_refl _
  | k + 1 => by
    have := filM_le Ro k
    rw [filM_s]
    cases decide (0 ≤ Ro.getD (2 * k) 0)
    · show filM Ro k + 0 ≤ _; omega
    · show filM Ro k + 1 ≤ _; omega

set_option maxRecDepth 100000 in
set_option maxHeartbeats 4000000 in
theorem lp_mfilled {h : List aC} {n m a de : Nat} {fo as_ sm sk z : Int32} {am : Nat} {ib : Bool} {iN iM iT : Int32} (hO : MO h n m a de fo as_ sm sk z am ib iN iM iT) {Ro : List Int32} (hR : rd h 100 = some (.inl Ro)) (lR : Ro.length = 338) : ∀ j k , k + j = 169 → G mX9_filled (rmD 1 0 0) none (pv (.int (nI (filM Ro 169))) h) 0 0 4 [(2, .int (nI k)), (1, .int (nI (filM Ro k))), (0, .ref 98)] [] h := by
  intro j
  induction j with
  | zero =>
    intro k  hk 
    have hO : rd h 98 = some (.inr (9, [.int (nI n), .int (nI m), .ref 99, .ref 100, .ref 101, .int (nI a), .ref 102, .int (nI de), .ref 103, .ref 104, .ref 105, .int fo, .int as_, .int sm, .int sk, .ref 106, .ref 107, .ref 108, .int z, .ref 109, .ref 110, .ref 111, .int (nI am), .ref 112, .ref 113, .ref 114, .ref 115, .ref 116, .int (nI (bI ib)), .int iN, .int iM, .int iT, .ref 117, .ref 118, .ref 119])) := hO
    have fl := filM_le Ro k
    refine g_iload_n dX9_filled_4 0 rfl ?_
    refine g_sipush (v := nI 169) dX9_filled_5 (by decide +kernel) ?_
    refine g_icmp_geN 36 dX9_filled_8 (by decide) (by omega) (by omega) (fun c8 => ?_) (fun z => absurd z (by omega))
    refine g_iload_n dX9_filled_36 1 rfl ?_
    exact g_iret dX9_filled_37 rfl ⟨Nat.zero_le _, Nat.zero_le _⟩ (⟨by rw [show 169 = k by omega], rfl⟩)
  | succ j ih =>
    intro k  hk 
    have hO : rd h 98 = some (.inr (9, [.int (nI n), .int (nI m), .ref 99, .ref 100, .ref 101, .int (nI a), .ref 102, .int (nI de), .ref 103, .ref 104, .ref 105, .int fo, .int as_, .int sm, .int sk, .ref 106, .ref 107, .ref 108, .int z, .ref 109, .ref 110, .ref 111, .int (nI am), .ref 112, .ref 113, .ref 114, .ref 115, .ref 116, .int (nI (bI ib)), .int iN, .int iM, .int iT, .ref 117, .ref 118, .ref 119])) := hO
    have fl := filM_le Ro k
    refine g_iload_n dX9_filled_4 0 rfl ?_
    refine g_sipush (v := nI 169) dX9_filled_5 (by decide +kernel) ?_
    refine g_icmp_geN 36 dX9_filled_8 (by decide) (by omega) (by omega) (fun z => absurd z (by omega)) (fun c8 => ?_)
    refine g_iload_n dX9_filled_11 1 rfl ?_
    refine g_aload_n dX9_filled_12 2 rfl ?_
    refine g_getf dX9_filled_13 kX9 wfX9_17 (Nat.le_of_ble_eq_true rfl) (hO) rfl ?_
    refine g_iconst (v := nI 2) dX9_filled_16 (by decide +kernel) ?_
    refine g_iload_n dX9_filled_17 0 rfl ?_
    refine g_imulN dX9_filled_18 ?_
    refine g_ialI dX9_filled_19 (hR) (by omega) (by omega) ?_
    refine g_if_ge 27 dX9_filled_20 (by decide) (fun c20 => ?_) (fun c20 => ?_)
    · refine g_iconst (v := nI 1) dX9_filled_27 (by decide +kernel) ?_
      refine g_iaddN dX9_filled_28 ?_
      refine g_top (show nI ((filM Ro k) + 1) = nI (filM Ro (k + 1)) from congrArg nI (by rw [filM_s, decide_eq_true c20]; rfl)) ?_
      refine g_istore_n (ls' := [(1, .int (nI (filM Ro (k + 1)))), (2, .int (nI k)), (0, .ref 98)]) dX9_filled_29 (Nat.le_of_ble_eq_true rfl) rfl ?_
      refine g_iinc (q := 1) (v := nI (k + 1)) (ls' := [(2, .int (nI (k + 1))), (1, .int (nI (filM Ro (k + 1)))), (0, .ref 98)]) dX9_filled_30 rfl (inc1 _) (Nat.le_of_ble_eq_true rfl) rfl ?_
      refine g_goto 4 dX9_filled_33 (by decide) ?_
      exact ih (k + 1) (by omega)
    · refine g_iconst (v := nI 0) dX9_filled_23 (by decide +kernel) ?_
      refine g_goto 28 dX9_filled_24 (by decide) ?_
      refine g_iaddN dX9_filled_28 ?_
      refine g_top (show nI ((filM Ro k) + 0) = nI (filM Ro (k + 1)) from congrArg nI (by rw [filM_s, decide_eq_false c20]; rfl)) ?_
      refine g_istore_n (ls' := [(1, .int (nI (filM Ro (k + 1)))), (2, .int (nI k)), (0, .ref 98)]) dX9_filled_29 (Nat.le_of_ble_eq_true rfl) rfl ?_
      refine g_iinc (q := 1) (v := nI (k + 1)) (ls' := [(2, .int (nI (k + 1))), (1, .int (nI (filM Ro (k + 1)))), (0, .ref 98)]) dX9_filled_30 rfl (inc1 _) (Nat.le_of_ble_eq_true rfl) rfl ?_
      refine g_goto 4 dX9_filled_33 (by decide) ?_
      exact ih (k + 1) (by omega)

set_option maxRecDepth 100000 in
set_option maxHeartbeats 4000000 in
theorem ev_mfilled {h : List aC} {n m a de : Nat} {fo as_ sm sk z : Int32} {am : Nat} {ib : Bool} {iN iM iT : Int32} (hO : MO h n m a de fo as_ sm sk z am ib iN iM iT) {Ro : List Int32} (hR : rd h 100 = some (.inl Ro)) (lR : Ro.length = 338) : Ev mX9_filled 1 0 0 [.ref 98] h (pv (.int (nI (filM Ro 169))) h) := by
  refine Ev.of pX9_filled (Nat.le_of_ble_eq_true rfl) ?_
  show G mX9_filled (rmD 1 0 0) none _ 0 0 0 [(0, .ref 98)] [] h
  refine g_iconst (v := nI 0) dX9_filled_0 (by decide +kernel) ?_
  refine g_istore_n (ls' := [(1, .int (nI 0)), (0, .ref 98)]) dX9_filled_1 (Nat.le_of_ble_eq_true rfl) rfl ?_
  refine g_iconst (v := nI 0) dX9_filled_2 (by decide +kernel) ?_
  refine g_istore_n (ls' := [(2, .int (nI 0)), (1, .int (nI 0)), (0, .ref 98)]) dX9_filled_3 (Nat.le_of_ble_eq_true rfl) rfl ?_
  exact lp_mfilled hO hR lR 169 0 (by omega)
