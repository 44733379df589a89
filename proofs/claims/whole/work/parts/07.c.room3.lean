def FCb (C : List Nat) (n a b : Nat) : Bool := decide (a ≠ b ∧ bI (decide (C.getD (a * n + b) 0 ≠ 0)) = bI (decide (C.getD (b * n + a) 0 ≠ 0)))
theorem FC0a {C : List Nat} {n a b : Nat} (h : a = b) : bI (FCb C n a b) = 0 := by unfold FCb; rw [decide_eq_false (fun z => z.1 h)]; rfl
theorem FC0b {C : List Nat} {n a b : Nat} (h : bI (decide (C.getD (a * n + b) 0 ≠ 0)) ≠ bI (decide (C.getD (b * n + a) 0 ≠ 0))) : bI (FCb C n a b) = 0 := by unfold FCb; rw [decide_eq_false (fun z => h z.2)]; rfl
theorem FC1 {C : List Nat} {n a b : Nat} (h1 : a ≠ b) (h : bI (decide (C.getD (a * n + b) 0 ≠ 0)) = bI (decide (C.getD (b * n + a) 0 ≠ 0))) : bI (FCb C n a b) = 1 := by unfold FCb; rw [decide_eq_true ⟨h1, h⟩]; rfl

set_option maxRecDepth 100000 in
set_option maxHeartbeats 4000000 in
theorem lp_facing1 {h : List aC} {r n : Nat} {C : List Nat} {T : List Int32} (hR : RA h r n C T) (hn : n ≤ 13) (hC : ∀ i, i < 169 → C.getD i 0 < 196) {P : Option Value → List aC → Prop} (a acc : Nat) (ha : a < n) : ∀ j k , k + j = n → (G mX4_facing (rmD 3 0 0) none P 0 0 59 [(3, .int (nI n)), (2, .int (nI a)), (1, .int (nI (acc + sumN (fun b => bI (FCb C n a b)) n))), (0, .ref r)] [] h) → G mX4_facing (rmD 3 0 0) none P 0 0 14 [(3, .int (nI k)), (2, .int (nI a)), (1, .int (nI (acc + sumN (fun b => bI (FCb C n a b)) k))), (0, .ref r)] [] h := by
  obtain ⟨-, -, -, lC, lT⟩ := id hR
  intro j
  induction j with
  | zero =>
    intro k  hk K
    have ek : k = n := by omega
    refine g_iload_n dX4_facing_14 0 rfl ?_
    refine g_aload_n dX4_facing_15 3 rfl ?_
    refine g_getf dX4_facing_16 kX4 wfX4_18 (Nat.le_of_ble_eq_true rfl) (hR.1) rfl ?_
    refine g_icmp_geN 59 dX4_facing_19 (by decide) (by omega) (by omega) (fun c19 => ?_) (fun z => absurd z (by omega))
    rw [ek]; exact K
  | succ j ih =>
    intro k  hk K
    refine g_iload_n dX4_facing_14 0 rfl ?_
    refine g_aload_n dX4_facing_15 3 rfl ?_
    refine g_getf dX4_facing_16 kX4 wfX4_18 (Nat.le_of_ble_eq_true rfl) (hR.1) rfl ?_
    refine g_icmp_geN 59 dX4_facing_19 (by decide) (by omega) (by omega) (fun z => absurd z (by omega)) (fun c19 => ?_)
    refine g_iload_n dX4_facing_22 2 rfl ?_
    refine g_iload_n dX4_facing_23 1 rfl ?_
    refine g_iload_n dX4_facing_24 0 rfl ?_
    refine g_icmp_eqN 47 dX4_facing_25 (by decide) (by omega) (by omega) (fun c25 => ?_) (fun c25 => ?_)
    · have hv : bI (FCb C n a k) = 0 := by first | exact FC0a c25 | exact FC0b c40
      refine g_iconst (v := nI 0) dX4_facing_47 (by decide +kernel) ?_
      refine g_top (congrArg nI hv.symm) ?_
      refine g_callSNp dX4_facing_48 (ev_bit (FCb C n a k) _) oX8_bit wsX8_bit wqX4_75 rfl ⟨(Nat.le_of_ble_eq_true rfl), (Nat.le_of_ble_eq_true rfl)⟩ ⟨Nat.zero_le _, Nat.zero_le _⟩ (Nat.le_of_ble_eq_true rfl) rfl ?_
      refine g_iaddN dX4_facing_51 ?_
      refine g_istore_n (ls' := [(1, .int (nI ((acc + sumN (fun b => bI (FCb C n a b)) k) + (bI (FCb C n a k))))), (3, .int (nI k)), (2, .int (nI a)), (0, .ref r)]) dX4_facing_52 (Nat.le_of_ble_eq_true rfl) rfl ?_
      refine g_iinc (q := 1) (v := nI (k + 1)) (ls' := [(3, .int (nI (k + 1))), (1, .int (nI ((acc + sumN (fun b => bI (FCb C n a b)) k) + (bI (FCb C n a k))))), (2, .int (nI a)), (0, .ref r)]) dX4_facing_53 rfl (inc1 _) (Nat.le_of_ble_eq_true rfl) rfl ?_
      refine g_goto 14 dX4_facing_56 (by decide) ?_
      refine g_lsub_ (ls2 := [(3, .int (nI (k + 1))), (2, .int (nI a)), (1, .int (nI ((acc + sumN (fun b => bI (FCb C n a b)) k) + (bI (FCb C n a k))))), (0, .ref r)]) [0, 2, 1, 3] rfl ?_
      rw [Nat.add_assoc acc]
      exact ih (k + 1) (by omega) K
    · refine g_aload_n dX4_facing_28 3 rfl ?_
      refine g_iload_n dX4_facing_29 1 rfl ?_
      refine g_iload_n dX4_facing_30 0 rfl ?_
      refine g_callVp dX4_facing_31 (ev_isFilled hR (a) (k) hn (by omega) (by omega) hC) oX4_isFilled wiX4_isFilled weX4_isFilled wmX4_71 kX4 (hR.1) rfl ⟨(Nat.le_of_ble_eq_true rfl), (Nat.le_of_ble_eq_true rfl)⟩ ⟨Nat.zero_le _, Nat.zero_le _⟩ (Nat.le_of_ble_eq_true rfl) rfl ?_
      refine g_aload_n dX4_facing_34 3 rfl ?_
      refine g_iload_n dX4_facing_35 0 rfl ?_
      refine g_iload_n dX4_facing_36 1 rfl ?_
      refine g_callVp dX4_facing_37 (ev_isFilled hR (k) (a) hn (by omega) (by omega) hC) oX4_isFilled wiX4_isFilled weX4_isFilled wmX4_71 kX4 (hR.1) rfl ⟨(Nat.le_of_ble_eq_true rfl), (Nat.le_of_ble_eq_true rfl)⟩ ⟨Nat.zero_le _, Nat.zero_le _⟩ (Nat.le_of_ble_eq_true rfl) rfl ?_
      refine g_icmp_neN 47 dX4_facing_40 (by decide) (bI_lt _) (bI_lt _) (fun c40 => ?_) (fun c40 => ?_)
      · have hv : bI (FCb C n a k) = 0 := by first | exact FC0a c25 | exact FC0b c40
        refine g_iconst (v := nI 0) dX4_facing_47 (by decide +kernel) ?_
        refine g_top (congrArg nI hv.symm) ?_
        refine g_callSNp dX4_facing_48 (ev_bit (FCb C n a k) _) oX8_bit wsX8_bit wqX4_75 rfl ⟨(Nat.le_of_ble_eq_true rfl), (Nat.le_of_ble_eq_true rfl)⟩ ⟨Nat.zero_le _, Nat.zero_le _⟩ (Nat.le_of_ble_eq_true rfl) rfl ?_
        refine g_iaddN dX4_facing_51 ?_
        refine g_istore_n (ls' := [(1, .int (nI ((acc + sumN (fun b => bI (FCb C n a b)) k) + (bI (FCb C n a k))))), (3, .int (nI k)), (2, .int (nI a)), (0, .ref r)]) dX4_facing_52 (Nat.le_of_ble_eq_true rfl) rfl ?_
        refine g_iinc (q := 1) (v := nI (k + 1)) (ls' := [(3, .int (nI (k + 1))), (1, .int (nI ((acc + sumN (fun b => bI (FCb C n a b)) k) + (bI (FCb C n a k))))), (2, .int (nI a)), (0, .ref r)]) dX4_facing_53 rfl (inc1 _) (Nat.le_of_ble_eq_true rfl) rfl ?_
        refine g_goto 14 dX4_facing_56 (by decide) ?_
        refine g_lsub_ (ls2 := [(3, .int (nI (k + 1))), (2, .int (nI a)), (1, .int (nI ((acc + sumN (fun b => bI (FCb C n a b)) k) + (bI (FCb C n a k))))), (0, .ref r)]) [0, 2, 1, 3] rfl ?_
        rw [Nat.add_assoc acc]
        exact ih (k + 1) (by omega) K
      · have hv := FC1 (C := C) (n := n) c25 c40
        refine g_iconst (v := nI 1) dX4_facing_43 (by decide +kernel) ?_
        refine g_goto 48 dX4_facing_44 (by decide) ?_
        refine g_top (congrArg nI hv.symm) ?_
        refine g_callSNp dX4_facing_48 (ev_bit (FCb C n a k) _) oX8_bit wsX8_bit wqX4_75 rfl ⟨(Nat.le_of_ble_eq_true rfl), (Nat.le_of_ble_eq_true rfl)⟩ ⟨Nat.zero_le _, Nat.zero_le _⟩ (Nat.le_of_ble_eq_true rfl) rfl ?_
        refine g_iaddN dX4_facing_51 ?_
        refine g_istore_n (ls' := [(1, .int (nI ((acc + sumN (fun b => bI (FCb C n a b)) k) + (bI (FCb C n a k))))), (3, .int (nI k)), (2, .int (nI a)), (0, .ref r)]) dX4_facing_52 (Nat.le_of_ble_eq_true rfl) rfl ?_
        refine g_iinc (q := 1) (v := nI (k + 1)) (ls' := [(3, .int (nI (k + 1))), (1, .int (nI ((acc + sumN (fun b => bI (FCb C n a b)) k) + (bI (FCb C n a k))))), (2, .int (nI a)), (0, .ref r)]) dX4_facing_53 rfl (inc1 _) (Nat.le_of_ble_eq_true rfl) rfl ?_
        refine g_goto 14 dX4_facing_56 (by decide) ?_
        refine g_lsub_ (ls2 := [(3, .int (nI (k + 1))), (2, .int (nI a)), (1, .int (nI ((acc + sumN (fun b => bI (FCb C n a b)) k) + (bI (FCb C n a k))))), (0, .ref r)]) [0, 2, 1, 3] rfl ?_
        rw [Nat.add_assoc acc]
        exact ih (k + 1) (by omega) K

set_option maxRecDepth 100000 in
set_option maxHeartbeats 4000000 in
theorem lp_facing {h : List aC} {r n : Nat} {C : List Nat} {T : List Int32} (hR : RA h r n C T) (hn : n ≤ 13) (hC : ∀ i, i < 169 → C.getD i 0 < 196) : ∀ j k , k + j = n → G mX4_facing (rmD 3 0 0) none (pv (.int (nI (sumN (fun a => sumN (fun b => bI (FCb C n a b)) n) n))) h) 0 0 4 [(2, .int (nI k)), (1, .int (nI (sumN (fun a => sumN (fun b => bI (FCb C n a b)) n) k))), (0, .ref r)] [] h := by
  obtain ⟨-, -, -, lC, lT⟩ := id hR
  intro j
  induction j with
  | zero =>
    intro k  hk 
    have ek : k = n := by omega
    refine g_iload_n dX4_facing_4 0 rfl ?_
    refine g_aload_n dX4_facing_5 2 rfl ?_
    refine g_getf dX4_facing_6 kX4 wfX4_18 (Nat.le_of_ble_eq_true rfl) (hR.1) rfl ?_
    refine g_icmp_geN 65 dX4_facing_9 (by decide) (by omega) (by omega) (fun c9 => ?_) (fun z => absurd z (by omega))
    refine g_iload_n dX4_facing_65 1 rfl ?_
    exact g_iret dX4_facing_66 rfl ⟨Nat.zero_le _, Nat.zero_le _⟩ (⟨by rw [ek], rfl⟩)
  | succ j ih =>
    intro k  hk 
    refine g_iload_n dX4_facing_4 0 rfl ?_
    refine g_aload_n dX4_facing_5 2 rfl ?_
    refine g_getf dX4_facing_6 kX4 wfX4_18 (Nat.le_of_ble_eq_true rfl) (hR.1) rfl ?_
    refine g_icmp_geN 65 dX4_facing_9 (by decide) (by omega) (by omega) (fun z => absurd z (by omega)) (fun c9 => ?_)
    refine g_iconst (v := nI 0) dX4_facing_12 (by decide +kernel) ?_
    refine g_istore_n (ls' := [(3, .int (nI 0)), (2, .int (nI k)), (1, .int (nI (sumN (fun a => sumN (fun b => bI (FCb C n a b)) n) k))), (0, .ref r)]) dX4_facing_13 (Nat.le_of_ble_eq_true rfl) rfl ?_
    refine lp_facing1 hR hn hC k (sumN (fun a => sumN (fun b => bI (FCb C n a b)) n) k) (by omega) n 0 (by omega) ?_
    refine g_iinc (q := 1) (v := nI (k + 1)) (ls' := [(2, .int (nI (k + 1))), (3, .int (nI n)), (1, .int (nI (sumN (fun a => sumN (fun b => bI (FCb C n a b)) n) (k + 1)))), (0, .ref r)]) dX4_facing_59 rfl (inc1 _) (Nat.le_of_ble_eq_true rfl) rfl ?_
    refine g_goto 4 dX4_facing_62 (by decide) ?_
    refine g_lsub_ (ls2 := [(2, .int (nI (k + 1))), (1, .int (nI (sumN (fun a => sumN (fun b => bI (FCb C n a b)) n) (k + 1)))), (0, .ref r)]) [0, 2, 3] rfl ?_
    exact ih (k + 1) (by omega)

set_option maxRecDepth 100000 in
set_option maxHeartbeats 4000000 in
theorem ev_facing {h : List aC} {r n : Nat} {C : List Nat} {T : List Int32} (hR : RA h r n C T) (hn : n ≤ 13) (hC : ∀ i, i < 169 → C.getD i 0 < 196) : Ev mX4_facing 3 0 0 [.ref r] h (pv (.int (nI (sumN (fun a => sumN (fun b => bI (FCb C n a b)) n) n))) h) := by
  obtain ⟨-, -, -, lC, lT⟩ := id hR
  refine Ev.of pX4_facing (Nat.le_of_ble_eq_true rfl) ?_
  show G mX4_facing (rmD 3 0 0) none _ 0 0 0 [(0, .ref r)] [] h
  refine g_iconst (v := nI 0) dX4_facing_0 (by decide +kernel) ?_
  refine g_istore_n (ls' := [(1, .int (nI 0)), (0, .ref r)]) dX4_facing_1 (Nat.le_of_ble_eq_true rfl) rfl ?_
  refine g_iconst (v := nI 0) dX4_facing_2 (by decide +kernel) ?_
  refine g_istore_n (ls' := [(2, .int (nI 0)), (1, .int (nI 0)), (0, .ref r)]) dX4_facing_3 (Nat.le_of_ble_eq_true rfl) rfl ?_
  exact lp_facing hR hn hC n 0 (by omega)

def sc1 (q : Nat → Bool) (u : Nat) : Nat → Nat → Option Nat
  | 0, _ => none
  | j + 1, k => if q k = true then some (u + k) else sc1 q u j (k + 1)
def sc2 (q : Nat → Nat → Bool) (n : Nat) : Nat → Nat → Option Nat
  | 0, _ => none
  | j + 1, k => match sc1 (q k) (100 * k) n 0 with
    | some v => some v
    | none => sc2 q n j (k + 1)
def oI : Option Nat → Int32
  | some v => nI v
  | none => -9
theorem sc1_t {q : Nat → Bool} {u j k : Nat} (h : q k = true) : sc1 q u (j + 1) k = some (u + k) := if_pos h
theorem sc1_f {q : Nat → Bool} {u j k : Nat} (h : ¬ q k = true) : sc1 q u (j + 1) k = sc1 q u j (k + 1) := if_neg h
theorem sc2_t {q : Nat → Nat → Bool} {n j k v : Nat} (h : sc1 (q k) (100 * k) n 0 = some v) : sc2 q n (j + 1) k = some v := by
  show (match sc1 (q k) (100 * k) n 0 with | some v => some v | none => sc2 q n j (k + 1)) = _
  rw [h]
theorem sc2_f {q : Nat → Nat → Bool} {n j k : Nat} (h : sc1 (q k) (100 * k) n 0 = none) : sc2 q n (j + 1) k = sc2 q n j (k + 1) := by
  show (match sc1 (q k) (100 * k) n 0 with | some v => some v | none => sc2 q n j (k + 1)) = _
  rw [h]
theorem sc1_ext {q q2 : Nat → Bool} {u m : Nat} (h : ∀ i, i < m → q i = q2 i) : ∀ j k, k + j = m → sc1 q u j k = sc1 q2 u j k
  | 0, _, _ => rfl
  | j + 1, k, hk => by
    show (if q k = true then _ else _) = (if q2 k = true then _ else _)
    rw [h k (by omega), sc1_ext h j (k + 1) (by omega)]
theorem sc2_ext {q q2 : Nat → Nat → Bool} {n : Nat} (h : ∀ a b, a < n → b < n → q a b = q2 a b) : ∀ j k, k + j = n → sc2 q n j k = sc2 q2 n j k
  | 0, _, _ => rfl
  | j + 1, k, hk => by
    have e := sc1_ext (u := 100 * k) (q := q k) (q2 := q2 k) (fun i hi => h k i (by omega) hi) n 0 (by omega)
    show (match sc1 (q k) (100 * k) n 0 with | some v => some v | none => sc2 q n j (k + 1)) = (match sc1 (q2 k) (100 * k) n 0 with | some v => some v | none => sc2 q2 n j (k + 1))
    rw [e, sc2_ext h j (k + 1) (by omega)]

set_option maxRecDepth 100000 in
set_option maxHeartbeats 4000000 in
theorem lp_first1 {h : List aC} {r n : Nat} {C : List Nat} {T : List Int32} (hR : RA h r n C T) (hn : n ≤ 13) (hC : ∀ i, i < 169 → C.getD i 0 < 196) {P : Option Value → List aC → Prop} (v a : Nat) (hv : v < 2 ^ 16) (ha : a < n) : ∀ j k , k + j = n → (sc1 ((fun a b => decide (C.getD (a * n + b) 0 = v)) a) (100 * a) j k = none → G mX4_firstOf (rmD 2 0 0) none P 0 0 48 [(3, .int (nI n)), (2, .int (nI a)), (0, .ref r), (1, .int (nI v))] [] h) → (∀ x, sc1 ((fun a b => decide (C.getD (a * n + b) 0 = v)) a) (100 * a) j k = some x → P (some (.int (nI x))) h) → G mX4_firstOf (rmD 2 0 0) none P 0 0 12 [(3, .int (nI k)), (2, .int (nI a)), (0, .ref r), (1, .int (nI v))] [] h := by
  obtain ⟨-, -, -, lC, lT⟩ := id hR
  intro j
  induction j with
  | zero =>
    intro k  hk K L
    have ek : k = n := by omega
    refine g_iload_n dX4_firstOf_12 0 rfl ?_
    refine g_aload_n dX4_firstOf_13 2 rfl ?_
    refine g_getf dX4_firstOf_14 kX4 wfX4_18 (Nat.le_of_ble_eq_true rfl) (hR.1) rfl ?_
    refine g_icmp_geN 48 dX4_firstOf_17 (by decide) (by omega) (by omega) (fun c17 => ?_) (fun z => absurd z (by omega))
    rw [ek]; exact K rfl
  | succ j ih =>
    intro k  hk K L
    have z0 : a * n + k < 169 := pl_lt hn ha (by omega)
    have z1 := hC _ z0
    refine g_iload_n dX4_firstOf_12 0 rfl ?_
    refine g_aload_n dX4_firstOf_13 2 rfl ?_
    refine g_getf dX4_firstOf_14 kX4 wfX4_18 (Nat.le_of_ble_eq_true rfl) (hR.1) rfl ?_
    refine g_icmp_geN 48 dX4_firstOf_17 (by decide) (by omega) (by omega) (fun z => absurd z (by omega)) (fun c17 => ?_)
    refine g_aload_n dX4_firstOf_20 2 rfl ?_
    refine g_getf dX4_firstOf_21 kX4 wfX4_9 (Nat.le_of_ble_eq_true rfl) (hR.1) rfl ?_
    refine g_aload_n dX4_firstOf_24 2 rfl ?_
    refine g_iload_n dX4_firstOf_25 1 rfl ?_
    refine g_iload_n dX4_firstOf_26 0 rfl ?_
    refine g_callVp dX4_firstOf_27 (ev_placeOf hR (a) (k)) oX4_placeOf wiX4_placeOf weX4_placeOf wmX4_37 kX4 (hR.1) rfl ⟨(Nat.le_of_ble_eq_true rfl), (Nat.le_of_ble_eq_true rfl)⟩ ⟨Nat.zero_le _, Nat.zero_le _⟩ (Nat.le_of_ble_eq_true rfl) rfl ?_
    refine g_ialN dX4_firstOf_30 (hR.2.1) (by omega) (by omega) ?_
    refine g_iload_n dX4_firstOf_31 3 rfl ?_
    refine g_icmp_neN 42 dX4_firstOf_32 (by decide) (by omega) (by omega) (fun c32 => ?_) (fun c32 => ?_)
    · refine g_iinc (q := 0) (v := nI (k + 1)) (ls' := [(3, .int (nI (k + 1))), (2, .int (nI a)), (0, .ref r), (1, .int (nI v))]) dX4_firstOf_42 rfl (inc1 _) (Nat.le_of_ble_eq_true rfl) rfl ?_
      refine g_goto 12 dX4_firstOf_45 (by decide) ?_
      have y := sc1_f (q := (fun a b => decide (C.getD (a * n + b) 0 = v)) a) (u := 100 * a) (j := j) (k := k) (by show ¬ decide _ = true; rw [decide_eq_false c32]; decide)
      exact ih (k + 1) (by omega) (fun z => K (y.trans z)) (fun x z => L x (y.trans z))
    · refine g_bipush (v := nI 100) dX4_firstOf_35 (by decide +kernel) ?_
      refine g_iload_n dX4_firstOf_37 1 rfl ?_
      refine g_imulN dX4_firstOf_38 ?_
      refine g_iload_n dX4_firstOf_39 0 rfl ?_
      refine g_iaddN dX4_firstOf_40 ?_
      exact g_iret dX4_firstOf_41 rfl ⟨Nat.zero_le _, Nat.zero_le _⟩ (L _ (sc1_t (by show decide _ = true; exact decide_eq_true c32)))

set_option maxRecDepth 100000 in
set_option maxHeartbeats 4000000 in
theorem lp_first {h : List aC} {r n : Nat} {C : List Nat} {T : List Int32} (hR : RA h r n C T) (hn : n ≤ 13) (hC : ∀ i, i < 169 → C.getD i 0 < 196) (v : Nat) (hv : v < 2 ^ 16) : ∀ j k , k + j = n → G mX4_firstOf (rmD 2 0 0) none (pv (.int (oI (sc2 (fun a b => decide (C.getD (a * n + b) 0 = v)) n j k))) h) 0 0 2 [(2, .int (nI k)), (0, .ref r), (1, .int (nI v))] [] h := by
  obtain ⟨-, -, -, lC, lT⟩ := id hR
  intro j
  induction j with
  | zero =>
    intro k  hk 
    refine g_iload_n dX4_firstOf_2 0 rfl ?_
    refine g_aload_n dX4_firstOf_3 1 rfl ?_
    refine g_getf dX4_firstOf_4 kX4 wfX4_18 (Nat.le_of_ble_eq_true rfl) (hR.1) rfl ?_
    refine g_icmp_geN 54 dX4_firstOf_7 (by decide) (by omega) (by omega) (fun c7 => ?_) (fun z => absurd z (by omega))
    refine g_bipush (v := (-9)) dX4_firstOf_54 (by decide +kernel) ?_
    exact g_iret dX4_firstOf_56 rfl ⟨Nat.zero_le _, Nat.zero_le _⟩ (⟨rfl, rfl⟩)
  | succ j ih =>
    intro k  hk 
    refine g_iload_n dX4_firstOf_2 0 rfl ?_
    refine g_aload_n dX4_firstOf_3 1 rfl ?_
    refine g_getf dX4_firstOf_4 kX4 wfX4_18 (Nat.le_of_ble_eq_true rfl) (hR.1) rfl ?_
    refine g_icmp_geN 54 dX4_firstOf_7 (by decide) (by omega) (by omega) (fun z => absurd z (by omega)) (fun c7 => ?_)
    refine g_iconst (v := nI 0) dX4_firstOf_10 (by decide +kernel) ?_
    refine g_istore_n (ls' := [(3, .int (nI 0)), (2, .int (nI k)), (0, .ref r), (1, .int (nI v))]) dX4_firstOf_11 (Nat.le_of_ble_eq_true rfl) rfl ?_
    refine lp_first1 hR hn hC v k hv (by omega) n 0 (by omega) (fun K => ?_) (fun x z => ⟨by rw [sc2_t z]; rfl, rfl⟩)
    rw [sc2_f K]
    refine g_iinc (q := 1) (v := nI (k + 1)) (ls' := [(2, .int (nI (k + 1))), (3, .int (nI n)), (0, .ref r), (1, .int (nI v))]) dX4_firstOf_48 rfl (inc1 _) (Nat.le_of_ble_eq_true rfl) rfl ?_
    refine g_goto 2 dX4_firstOf_51 (by decide) ?_
    refine g_lsub_ (ls2 := [(2, .int (nI (k + 1))), (0, .ref r), (1, .int (nI v))]) [0, 2, 3] rfl ?_
    exact ih (k + 1) (by omega)

set_option maxRecDepth 100000 in
set_option maxHeartbeats 4000000 in
theorem ev_firstOf {h : List aC} {r n : Nat} {C : List Nat} {T : List Int32} (hR : RA h r n C T) (hn : n ≤ 13) (hC : ∀ i, i < 169 → C.getD i 0 < 196) (v : Nat) (hv : v < 2 ^ 16) : Ev mX4_firstOf 2 0 0 [.ref r, .int (nI v)] h (pv (.int (oI (sc2 (fun a b => decide (C.getD (a * n + b) 0 = v)) n n 0))) h) := by
  obtain ⟨-, -, -, lC, lT⟩ := id hR
  refine Ev.of pX4_firstOf (Nat.le_of_ble_eq_true rfl) ?_
  show G mX4_firstOf (rmD 2 0 0) none _ 0 0 0 [(0, .ref r), (1, .int (nI v))] [] h
  refine g_iconst (v := nI 0) dX4_firstOf_0 (by decide +kernel) ?_
  refine g_istore_n (ls' := [(2, .int (nI 0)), (0, .ref r), (1, .int (nI v))]) dX4_firstOf_1 (Nat.le_of_ble_eq_true rfl) rfl ?_
  exact lp_first hR hn hC v hv n 0 (by omega)
