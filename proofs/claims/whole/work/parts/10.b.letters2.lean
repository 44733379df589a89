theorem rSize_in {x : Nat} (hx : x < 2 ^ 31) (h : rSize (nI x) = 0) : 3 ≤ x ∧ x ≤ 13 ∧ x % 2 = 1 := by
  unfold rSize at h
  by_cases h1 : nI x < 3
  · rw [if_pos h1] at h; exact absurd h (by decide)
  · rw [if_neg h1] at h
    by_cases h2 : 13 < nI x
    · rw [if_pos h2] at h; exact absurd h (by decide)
    · rw [if_neg h2] at h
      by_cases h3 : nI x - nI x / 2 * 2 = 0
      · rw [if_pos h3] at h; exact absurd h (by decide)
      · have e1 : ¬ x < 3 := fun z => h1 ((nI_ltI (b := 3) hx (by decide)).mpr z)
        have e2 : ¬ 13 < x := fun z => h2 ((nI_ltI (a := 13) (by decide) hx).mpr z)
        have e3 : ¬ x % 2 = 0 := fun z => h3 (by have q := pk_rem (a := x) (d := 2) hx (by decide) (by decide); rw [z] at q; exact q)
        omega
theorem rPair_in {n m x y : Nat} (hn : n < 2 ^ 31) (hx : x < 2 ^ 31) (hy : y < 2 ^ 31) (h : rPair n m (nI x) (nI y) = 0) : 1 ≤ x ∧ x < n ∧ 1 ≤ y ∧ y < n ∧ m ≠ (n - 1) / 2 ∧ x ≠ y := by
  unfold rPair at h
  by_cases h1 : nI x < 1 ∨ nI y < 1
  · rw [if_pos h1] at h; exact absurd h (by decide)
  · rw [if_neg h1] at h
    by_cases h2 : nI n ≤ nI x ∨ nI n ≤ nI y ∨ m = (n - 1) / 2
    · rw [if_pos h2] at h; exact absurd h (by decide)
    · rw [if_neg h2] at h
      by_cases h3 : nI x = nI y
      · rw [if_pos h3] at h; exact absurd h (by decide)
      · have e1 : ¬ x < 1 := fun z => h1 (Or.inl ((nI_ltI (b := 1) hx (by decide)).mpr z))
        have e2 : ¬ y < 1 := fun z => h1 (Or.inr ((nI_ltI (b := 1) hy (by decide)).mpr z))
        have e3 : ¬ n ≤ x := fun z => h2 (Or.inl ((nI_leI hn hx).mpr z))
        have e4 : ¬ n ≤ y := fun z => h2 (Or.inr (Or.inl ((nI_leI hn hy).mpr z)))
        exact ⟨by omega, by omega, by omega, by omega, fun z => h2 (Or.inr (Or.inr z)), fun z => h3 (by rw [z])⟩
theorem rAdder_in {n m k v : Nat} (hn : n < 2 ^ 31) (hm : m < 2 ^ 31) (hk : k < 2 ^ 31) (hv : v < 2 ^ 31) (h : rAdder n m (nI k) (nI v) = 0) : k < m ∧ v < n := by
  unfold rAdder at h
  by_cases h1 : ¬ (0 ≤ nI k ∧ nI k < nI m)
  · rw [if_pos h1] at h; exact absurd h (by decide)
  · rw [if_neg h1] at h
    by_cases h2 : nI v < 0
    · rw [if_pos h2] at h; exact absurd h (by decide)
    · rw [if_neg h2] at h
      by_cases h3 : nI n ≤ nI v
      · rw [if_pos h3] at h; exact absurd h (by decide)
      · exact ⟨(nI_ltI hk hm).mp (Classical.not_not.mp h1).2, Nat.not_le.mp fun z => h3 ((nI_leI hn hv).mpr z)⟩
theorem rTurn_in {a k u : Nat} (hk : k < 2 ^ 31) (hu : u < 2 ^ 31) (h : rTurn a (nI k) (nI u) = 0) : k ≤ 5 ∧ u ≤ 12 ∧ a < 6 := by
  unfold rTurn at h
  by_cases h1 : nI k < 0 ∨ 5 < nI k
  · rw [if_pos h1] at h; exact absurd h (by decide)
  · rw [if_neg h1] at h
    by_cases h2 : nI u < 0
    · rw [if_pos h2] at h; exact absurd h (by decide)
    · rw [if_neg h2] at h
      by_cases h3 : 12 < nI u ∨ 6 ≤ a
      · rw [if_pos h3] at h; exact absurd h (by decide)
      · have e1 : ¬ 5 < k := fun z => h1 (Or.inr ((nI_ltI (a := 5) (by decide) hk).mpr z))
        have e2 : ¬ 12 < u := fun z => h3 (Or.inl ((nI_ltI (a := 12) (by decide) hu).mpr z))
        have e3 : ¬ 6 ≤ a := fun z => h3 (Or.inr z)
        omega
def oP (s : Nat) (o : Option Cr) (c : Cr) (h : List aC) : Option Value → List aC → Prop := pq (some (.int (nI (bI o.isSome)))) (fun h2 => StA h2 s (o.getD c) ∧ Smo (s + 1) (s + 10) h h2)
def tSize (c : Cr) (x : Nat) : Option Cr := if rSize (nI x) = 0 then some (x, 0, c.2.2.1, 0, c.2.2.2.2.1, fun _ _ => 0) else none
def tPair (c : Cr) (x y : Nat) : Option Cr := if rPair c.1 c.2.1 (nI x) (nI y) = 0 then some (c.1, c.2.1 + 1, upF c.2.2.1 c.2.1 (x, y, 0), c.2.2.2) else none
def tAdder (c : Cr) (k v : Nat) : Option Cr := if rAdder c.1 c.2.1 (nI k) (nI v) = 0 then some (c.1, c.2.1, upF c.2.2.1 k ((c.2.2.1 k).1, (c.2.2.1 k).2.1, v), c.2.2.2) else none
def tTurn (c : Cr) (k u : Nat) : Option Cr := if rTurn c.2.2.2.1 (nI k) (nI u) = 0 then some (c.1, c.2.1, c.2.2.1, c.2.2.2.1 + 1, upT c.2.2.2.2.1 c.2.2.2.1 (k, u), c.2.2.2.2.2) else none

set_option maxRecDepth 100000 in
set_option maxHeartbeats 4000000 in
theorem ev_lresize {h : List aC} {s : Nat} {c : Cr} (H : StA h s c) (ok : okCr c) (x : Nat) (hx : x < 100) : Ev mX1_resize 3 0 0 [.ref s, .int (nI x)] h (oP s (tSize c x) c h) := by
  obtain ⟨hO, F, S, A, K, U, C, T, hP, hf, hT, ht, hR, hC, hl⟩ := id H
  obtain ⟨k1, k2, k3, k4, -, k6, -⟩ := id ok
  refine Ev.of pX1_resize (Nat.le_of_ble_eq_true rfl) ?_
  show G mX1_resize (rmD 3 0 0) none _ 0 0 0 [(0, .ref s), (1, .int (nI x))] [] h
  refine g_iload_n dX1_resize_0 1 rfl ?_
  refine g_callSp dX1_resize_1 (ev_rSize (nI x) h) oX6_refusalOfSize wsX6_refusalOfSize wmX1_49 rfl ⟨(Nat.le_of_ble_eq_true rfl), (Nat.le_of_ble_eq_true rfl)⟩ ⟨Nat.zero_le _, Nat.zero_le _⟩ (Nat.le_of_ble_eq_true rfl) rfl ?_
  refine g_if_ne 11 dX1_resize_4 (by decide) (fun c4 => ?_) (fun c4 => ?_)
  · refine g_iconst (v := nI 0) dX1_resize_11 (by decide +kernel) ?_
    refine g_istore_n (ls' := [(2, .int (nI 0)), (0, .ref s), (1, .int (nI x))]) dX1_resize_12 (Nat.le_of_ble_eq_true rfl) rfl ?_
    refine g_iload_n dX1_resize_13 0 rfl ?_
    refine g_if_eqN 22 dX1_resize_14 (by decide) (by omega) (fun c14 => ?_) (fun z => absurd z (by omega))
    refine g_iload_n dX1_resize_22 0 rfl ?_
    exact g_zret dX1_resize_23 rfl (by decide) ⟨Nat.zero_le _, Nat.zero_le _⟩ (⟨by unfold tSize; rw [if_neg c4]; rfl, by unfold tSize; rw [if_neg c4]; exact H, Smo.rf⟩)
  · refine g_iconst (v := nI 1) dX1_resize_7 (by decide +kernel) ?_
    refine g_goto 12 dX1_resize_8 (by decide) ?_
    refine g_istore_n (ls' := [(2, .int (nI 1)), (0, .ref s), (1, .int (nI x))]) dX1_resize_12 (Nat.le_of_ble_eq_true rfl) rfl ?_
    refine g_iload_n dX1_resize_13 0 rfl ?_
    refine g_if_eqN 22 dX1_resize_14 (by decide) (by omega) (fun z => absurd z (by omega)) (fun c14 => ?_)
    obtain ⟨z1, z2, z3⟩ := rSize_in (by omega) c4
    refine g_aload_n dX1_resize_17 1 rfl ?_
    refine g_iload_n dX1_resize_18 2 rfl ?_
    refine g_callVq (st1 := []) dX1_resize_19 (st_resize H x (by omega) c.2.2.1 c.2.2.2.2.1) oX6_resize wiX6_resize weX6_resize wmX1_54 kX6 (hO) rfl ⟨(Nat.le_of_ble_eq_true rfl), (Nat.le_of_ble_eq_true rfl)⟩ ⟨Nat.zero_le _, Nat.zero_le _⟩ (Nat.le_of_ble_eq_true rfl) rfl rfl (fun h1 q1 => ?_)
    refine g_iload_n dX1_resize_22 0 rfl ?_
    exact g_zret dX1_resize_23 rfl (by decide) ⟨Nat.zero_le _, Nat.zero_le _⟩ (⟨by unfold tSize; rw [if_pos c4]; rfl, by unfold tSize; rw [if_pos c4]; exact q1.1, q1.2⟩)

set_option maxRecDepth 100000 in
set_option maxHeartbeats 4000000 in
theorem ev_laddPair {h : List aC} {s : Nat} {c : Cr} (H : StA h s c) (ok : okCr c) (x y : Nat) (hx : x < 100) (hy : y < 100) : Ev mX1_addPair 4 0 0 [.ref s, .int (nI x), .int (nI y)] h (oP s (tPair c x y) c h) := by
  obtain ⟨hO, F, S, A, K, U, C, T, hP, hf, hT, ht, hR, hC, hl⟩ := id H
  obtain ⟨k1, k2, k3, k4, -, k6, -⟩ := id ok
  refine Ev.of pX1_addPair (Nat.le_of_ble_eq_true rfl) ?_
  show G mX1_addPair (rmD 4 0 0) none _ 0 0 0 [(0, .ref s), (1, .int (nI x)), (2, .int (nI y))] [] h
  refine g_aload_n dX1_addPair_0 0 rfl ?_
  refine g_iload_n dX1_addPair_1 1 rfl ?_
  refine g_iload_n dX1_addPair_2 2 rfl ?_
  refine g_callVp dX1_addPair_3 (ev_rPair hO hP hT hR (by omega) (by omega) (nI x) (nI y)) oX6_refusalOfPair wiX6_refusalOfPair weX6_refusalOfPair wmX1_57 kX6 (hO) rfl ⟨(Nat.le_of_ble_eq_true rfl), (Nat.le_of_ble_eq_true rfl)⟩ ⟨Nat.zero_le _, Nat.zero_le _⟩ (Nat.le_of_ble_eq_true rfl) rfl ?_
  refine g_if_ne 13 dX1_addPair_6 (by decide) (fun c6 => ?_) (fun c6 => ?_)
  · refine g_iconst (v := nI 0) dX1_addPair_13 (by decide +kernel) ?_
    refine g_istore_n (ls' := [(3, .int (nI 0)), (0, .ref s), (1, .int (nI x)), (2, .int (nI y))]) dX1_addPair_14 (Nat.le_of_ble_eq_true rfl) rfl ?_
    refine g_iload_n dX1_addPair_15 0 rfl ?_
    refine g_if_eqN 28 dX1_addPair_16 (by decide) (by omega) (fun c16 => ?_) (fun z => absurd z (by omega))
    refine g_iload_n dX1_addPair_28 0 rfl ?_
    exact g_zret dX1_addPair_29 rfl (by decide) ⟨Nat.zero_le _, Nat.zero_le _⟩ (⟨by unfold tPair; rw [if_neg c6]; rfl, by unfold tPair; rw [if_neg c6]; exact H, Smo.rf⟩)
  · refine g_iconst (v := nI 1) dX1_addPair_9 (by decide +kernel) ?_
    refine g_goto 14 dX1_addPair_10 (by decide) ?_
    refine g_istore_n (ls' := [(3, .int (nI 1)), (0, .ref s), (1, .int (nI x)), (2, .int (nI y))]) dX1_addPair_14 (Nat.le_of_ble_eq_true rfl) rfl ?_
    refine g_iload_n dX1_addPair_15 0 rfl ?_
    refine g_if_eqN 28 dX1_addPair_16 (by decide) (by omega) (fun z => absurd z (by omega)) (fun c16 => ?_)
    obtain ⟨z1, z2, z3, z4, z5, z6⟩ := rPair_in (by omega) (by omega) (by omega) c6
    refine g_aload_n dX1_addPair_19 1 rfl ?_
    refine g_getf dX1_addPair_20 kX6 wfX1_60 (Nat.le_of_ble_eq_true rfl) (hO) rfl ?_
    refine g_iload_n dX1_addPair_23 2 rfl ?_
    refine g_iload_n dX1_addPair_24 3 rfl ?_
    refine g_callVq (st1 := []) dX1_addPair_25 (ev_append hP (by omega) x y) oX3_append wiX3_append weX3_append wmX1_64 kX3 (hP.1) rfl ⟨(Nat.le_of_ble_eq_true rfl), (Nat.le_of_ble_eq_true rfl)⟩ ⟨Nat.zero_le _, Nat.zero_le _⟩ (Nat.le_of_ble_eq_true rfl) rfl rfl (fun h1 q1 => ?_)
    obtain ⟨q1a, q1s⟩ := q1
    refine g_iload_n dX1_addPair_28 0 rfl ?_
    exact g_zret dX1_addPair_29 rfl (by decide) ⟨Nat.zero_le _, Nat.zero_le _⟩ (⟨by unfold tPair; rw [if_pos c6]; rfl, by unfold tPair; rw [if_pos c6]; exact ⟨(q1s s (by omega)).trans hO, _, _, _, K, U, C, T, q1a, fOf_app hf (by rw [hP.2.2.2.2.1]; omega) (by rw [hP.2.2.2.2.2.1]; omega) (by rw [hP.2.2.2.2.2.2]; omega) x y 0, hT.mv q1s (by omega), ht, hR.mv q1s (by omega), hC, hl⟩, q1s.wid (by omega) (by omega)⟩)

set_option maxRecDepth 100000 in
set_option maxHeartbeats 4000000 in
theorem ev_lsetAdder {h : List aC} {s : Nat} {c : Cr} (H : StA h s c) (ok : okCr c) (x y : Nat) (hx : x < 100) (hy : y < 100) : Ev mX1_setAdder 3 0 0 [.ref s, .int (nI x), .int (nI y)] h (oP s (tAdder c x y) c h) := by
  obtain ⟨hO, F, S, A, K, U, C, T, hP, hf, hT, ht, hR, hC, hl⟩ := id H
  obtain ⟨k1, k2, k3, k4, -, k6, -⟩ := id ok
  refine Ev.of pX1_setAdder (Nat.le_of_ble_eq_true rfl) ?_
  show G mX1_setAdder (rmD 3 0 0) none _ 0 0 0 [(0, .ref s), (1, .int (nI x)), (2, .int (nI y))] [] h
  refine g_aload_n dX1_setAdder_0 0 rfl ?_
  refine g_iload_n dX1_setAdder_1 1 rfl ?_
  refine g_iload_n dX1_setAdder_2 2 rfl ?_
  refine g_callVp dX1_setAdder_3 (ev_rAdder hO hP hT hR (by omega) (nI x) (nI y)) oX6_refusalOfAdder wiX6_refusalOfAdder weX6_refusalOfAdder wmX1_70 kX6 (hO) rfl ⟨(Nat.le_of_ble_eq_true rfl), (Nat.le_of_ble_eq_true rfl)⟩ ⟨Nat.zero_le _, Nat.zero_le _⟩ (Nat.le_of_ble_eq_true rfl) rfl ?_
  refine g_if_ne 13 dX1_setAdder_6 (by decide) (fun c6 => ?_) (fun c6 => ?_)
  · refine g_iconst (v := nI 0) dX1_setAdder_13 (by decide +kernel) ?_
    refine g_istore_n (ls' := [(3, .int (nI 0)), (0, .ref s), (1, .int (nI x)), (2, .int (nI y))]) dX1_setAdder_14 (Nat.le_of_ble_eq_true rfl) rfl ?_
    refine g_iload_n dX1_setAdder_15 0 rfl ?_
    refine g_if_eqN 29 dX1_setAdder_16 (by decide) (by omega) (fun c16 => ?_) (fun z => absurd z (by omega))
    refine g_iload_n dX1_setAdder_29 0 rfl ?_
    exact g_zret dX1_setAdder_30 rfl (by decide) ⟨Nat.zero_le _, Nat.zero_le _⟩ (⟨by unfold tAdder; rw [if_neg c6]; rfl, by unfold tAdder; rw [if_neg c6]; exact H, Smo.rf⟩)
  · refine g_iconst (v := nI 1) dX1_setAdder_9 (by decide +kernel) ?_
    refine g_goto 14 dX1_setAdder_10 (by decide) ?_
    refine g_istore_n (ls' := [(3, .int (nI 1)), (0, .ref s), (1, .int (nI x)), (2, .int (nI y))]) dX1_setAdder_14 (Nat.le_of_ble_eq_true rfl) rfl ?_
    refine g_iload_n dX1_setAdder_15 0 rfl ?_
    refine g_if_eqN 29 dX1_setAdder_16 (by decide) (by omega) (fun z => absurd z (by omega)) (fun c16 => ?_)
    obtain ⟨z1, z2⟩ := rAdder_in (by omega) (by omega) (by omega) (by omega) c6
    have lA := hP.2.2.2.2.2.2
    refine g_aload_n dX1_setAdder_19 1 rfl ?_
    refine g_getf dX1_setAdder_20 kX6 wfX1_60 (Nat.le_of_ble_eq_true rfl) (hO) rfl ?_
    refine g_getf dX1_setAdder_23 kX3 wfX1_73 (Nat.le_of_ble_eq_true rfl) (hP.1) rfl ?_
    refine g_iload_n dX1_setAdder_26 2 rfl ?_
    refine g_iload_n dX1_setAdder_27 3 rfl ?_
    refine g_iasN dX1_setAdder_28 (hP.2.2.2.1) (by omega) (by omega) (fun h1 e1 => ?_)
    have f1_s_4 : rd h1 (s + 4) = some (.inl (((A).set x y).map nI)) := by rw [e1]; exact rd_wr_eq (hP.2.2.2.1)
    have s1 : Smo (s + 4) ((s + 4) + 1) h h1 := by rw [e1]; exact Smo.wr (by omega) (by omega)
    have b1_s_5 := hT.mv s1 (by omega)
    have b1_s_8 := hR.mv s1 (by omega)
    have f1_s : rd h1 s = some (.inr (6, [.ref (s + 1), .ref (s + 5), .ref (s + 8)])) := by rw [s1 _ (by omega)]; exact hO
    have f1_s_1 : rd h1 (s + 1) = some (.inr (3, [.ref (s + 2), .ref (s + 3), .ref (s + 4), .int (nI c.1), .int (nI c.2.1)])) := by rw [s1 _ (by omega)]; exact hP.1
    have f1_s_2 : rd h1 (s + 2) = some (.inl ((F).map nI)) := by rw [s1 _ (by omega)]; exact hP.2.1
    have f1_s_3 : rd h1 (s + 3) = some (.inl ((S).map nI)) := by rw [s1 _ (by omega)]; exact hP.2.2.1
    refine g_iload_n dX1_setAdder_29 0 rfl ?_
    exact g_zret dX1_setAdder_30 rfl (by decide) ⟨Nat.zero_le _, Nat.zero_le _⟩ (⟨by unfold tAdder; rw [if_pos c6]; rfl, by unfold tAdder; rw [if_pos c6]; exact ⟨f1_s, F, S, A.set x y, K, U, C, T, ⟨f1_s_1, f1_s_2, f1_s_3, f1_s_4, hP.2.2.2.2.1, hP.2.2.2.2.2.1, by simp [lA]⟩, (fun i hi => by by_cases q : i = x; (subst q; show _ = upF c.2.2.1 i _ i; rw [upF_eq, ← hf i hi]; unfold fOf; rw [getD_set_eq (by omega)]); (show _ = upF c.2.2.1 x _ i; rw [upF_ne q, ← hf i hi]; unfold fOf; rw [getD_set_ne (fun z => q z.symm)])), b1_s_5, ht, b1_s_8, hC, hl⟩, (fun q hq => by rw [s1 q (by omega)])⟩)

set_option maxRecDepth 100000 in
set_option maxHeartbeats 4000000 in
theorem ev_laddTurn {h : List aC} {s : Nat} {c : Cr} (H : StA h s c) (ok : okCr c) (x y : Nat) (hx : x < 100) (hy : y < 100) : Ev mX1_addTurn 2 0 0 [.ref s, .int (nI x), .int (nI y)] h (oP s (tTurn c x y) c h) := by
  obtain ⟨hO, F, S, A, K, U, C, T, hP, hf, hT, ht, hR, hC, hl⟩ := id H
  obtain ⟨k1, k2, k3, k4, -, k6, -⟩ := id ok
  refine Ev.of pX1_addTurn (Nat.le_of_ble_eq_true rfl) ?_
  show G mX1_addTurn (rmD 2 0 0) none _ 0 0 0 [(0, .ref s), (1, .int (nI x)), (2, .int (nI y))] [] h
  refine g_aload_n dX1_addTurn_0 0 rfl ?_
  refine g_iload_n dX1_addTurn_1 1 rfl ?_
  refine g_iload_n dX1_addTurn_2 2 rfl ?_
  refine g_callVp dX1_addTurn_3 (ev_rTurn hO hP hT hR (by omega) (nI x) (nI y)) oX6_refusalOfTurn wiX6_refusalOfTurn weX6_refusalOfTurn wmX1_76 kX6 (hO) rfl ⟨(Nat.le_of_ble_eq_true rfl), (Nat.le_of_ble_eq_true rfl)⟩ ⟨Nat.zero_le _, Nat.zero_le _⟩ (Nat.le_of_ble_eq_true rfl) rfl ?_
  refine g_if_ne 13 dX1_addTurn_6 (by decide) (fun c6 => ?_) (fun c6 => ?_)
  · refine g_iconst (v := nI 0) dX1_addTurn_13 (by decide +kernel) ?_
    refine g_istore_n (ls' := [(3, .int (nI 0)), (0, .ref s), (1, .int (nI x)), (2, .int (nI y))]) dX1_addTurn_14 (Nat.le_of_ble_eq_true rfl) rfl ?_
    refine g_iload_n dX1_addTurn_15 0 rfl ?_
    refine g_if_eqN 28 dX1_addTurn_16 (by decide) (by omega) (fun c16 => ?_) (fun z => absurd z (by omega))
    refine g_iload_n dX1_addTurn_28 0 rfl ?_
    exact g_zret dX1_addTurn_29 rfl (by decide) ⟨Nat.zero_le _, Nat.zero_le _⟩ (⟨by unfold tTurn; rw [if_neg c6]; rfl, by unfold tTurn; rw [if_neg c6]; exact H, Smo.rf⟩)
  · refine g_iconst (v := nI 1) dX1_addTurn_9 (by decide +kernel) ?_
    refine g_goto 14 dX1_addTurn_10 (by decide) ?_
    refine g_istore_n (ls' := [(3, .int (nI 1)), (0, .ref s), (1, .int (nI x)), (2, .int (nI y))]) dX1_addTurn_14 (Nat.le_of_ble_eq_true rfl) rfl ?_
    refine g_iload_n dX1_addTurn_15 0 rfl ?_
    refine g_if_eqN 28 dX1_addTurn_16 (by decide) (by omega) (fun z => absurd z (by omega)) (fun c16 => ?_)
    obtain ⟨z1, z2, z3⟩ := rTurn_in (by omega) (by omega) c6
    refine g_aload_n dX1_addTurn_19 1 rfl ?_
    refine g_getf dX1_addTurn_20 kX6 wfX1_79 (Nat.le_of_ble_eq_true rfl) (hO) rfl ?_
    refine g_iload_n dX1_addTurn_23 2 rfl ?_
    refine g_iload_n dX1_addTurn_24 3 rfl ?_
    refine g_callVq (st1 := []) dX1_addTurn_25 (ev_tappend hT (by omega) x y) oX7_append wiX7_append weX7_append wmX1_83 kX7 (hT.1) rfl ⟨(Nat.le_of_ble_eq_true rfl), (Nat.le_of_ble_eq_true rfl)⟩ ⟨Nat.zero_le _, Nat.zero_le _⟩ (Nat.le_of_ble_eq_true rfl) rfl rfl (fun h1 q1 => ?_)
    obtain ⟨q1a, q1s⟩ := q1
    refine g_iload_n dX1_addTurn_28 0 rfl ?_
    exact g_zret dX1_addTurn_29 rfl (by decide) ⟨Nat.zero_le _, Nat.zero_le _⟩ (⟨by unfold tTurn; rw [if_pos c6]; rfl, by unfold tTurn; rw [if_pos c6]; exact ⟨(q1s s (by omega)).trans hO, F, S, A, _, _, C, T, hP.mv q1s (by omega), hf, q1a, (fun i hi => by by_cases q : i = c.2.2.2.1; (subst q; show _ = upT c.2.2.2.2.1 _ _ _; rw [upT_eq, getD_set_eq (by rw [hT.2.2.2.1]; omega), getD_set_eq (by rw [hT.2.2.2.2]; omega)]); (show _ = upT c.2.2.2.2.1 _ _ i; rw [upT_ne q, getD_set_ne (fun z => q z.symm), getD_set_ne (fun z => q z.symm)]; exact ht i (by have y : i < c.2.2.2.1 + 1 := hi; omega))), hR.mv q1s (by omega), hC, hl⟩, q1s.wid (by omega) (by omega)⟩)
