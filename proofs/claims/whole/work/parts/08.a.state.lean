def rSize (x : Int32) : Int32 := if x < 3 then -4 else if 13 < x then -6 else if x - x / 2 * 2 = 0 then -3 else 0
def rPair (n m : Nat) (x y : Int32) : Int32 := if x < 1 ∨ y < 1 then -4 else if nI n ≤ x ∨ nI n ≤ y ∨ m = (n - 1) / 2 then -6 else if x = y then -3 else 0
def rAdder (n m : Nat) (k v : Int32) : Int32 := if ¬ (0 ≤ k ∧ k < nI m) then -1 else if v < 0 then -4 else if nI n ≤ v then -6 else 0
def rTurn (a : Nat) (k u : Int32) : Int32 := if k < 0 ∨ 5 < k then -2 else if u < 0 then -4 else if 12 < u ∨ 6 ≤ a then -6 else 0
/-- the number of a refusal, or 0 -/
def isNo (r : Int32) : Prop := r = -1 ∨ r = -2 ∨ r = -3 ∨ r = -4 ∨ r = -6 ∨ r = 0
theorem rSize_no (x : Int32) : isNo (rSize x) := by unfold rSize isNo; split; simp; split; simp; split <;> simp
theorem rPair_no (n m : Nat) (x y : Int32) : isNo (rPair n m x y) := by unfold rPair isNo; split; simp; split; simp; split <;> simp
theorem rAdder_no (n m : Nat) (x y : Int32) : isNo (rAdder n m x y) := by unfold rAdder isNo; split; simp; split; simp; split <;> simp
theorem rTurn_no (a : Nat) (x y : Int32) : isNo (rTurn a x y) := by unfold rTurn isNo; split; simp; split; simp; split <;> simp
theorem rSize_1 {x : Int32} (h : ¬ 3 ≤ x) : rSize x = -4 := if_pos (Int32.not_le.mp h)
theorem rSize_2 {x : Int32} (h : 3 ≤ x) (h2 : ¬ x ≤ 13) : rSize x = -6 := by unfold rSize; rw [if_neg (Int32.not_lt.mpr h), if_pos (Int32.not_le.mp h2)]
theorem rSize_3 {x : Int32} (h : 3 ≤ x) (h2 : x ≤ 13) (h3 : x - x / 2 * 2 = 0) : rSize x = -3 := by unfold rSize; rw [if_neg (Int32.not_lt.mpr h), if_neg (Int32.not_lt.mpr h2), if_pos h3]
theorem rSize_4 {x : Int32} (h : 3 ≤ x) (h2 : x ≤ 13) (h3 : ¬ x - x / 2 * 2 = 0) : rSize x = 0 := by unfold rSize; rw [if_neg (Int32.not_lt.mpr h), if_neg (Int32.not_lt.mpr h2), if_neg h3]

set_option maxRecDepth 100000 in
set_option maxHeartbeats 4000000 in
theorem ev_rSize (x : Int32) (h : List aC) : Ev mX6_refusalOfSize 1 0 0 [.int x] h (pv (.int (rSize x)) h) := by
  refine Ev.of pX6_refusalOfSize (Nat.le_of_ble_eq_true rfl) ?_
  show G mX6_refusalOfSize (rmD 1 0 0) none _ 0 0 0 [(0, .int x)] [] h
  refine g_iload_n dX6_refusalOfSize_0 0 rfl ?_
  refine g_iconst (v := nI 3) dX6_refusalOfSize_1 (by decide +kernel) ?_
  refine g_icmp_ge 8 dX6_refusalOfSize_2 (by decide) (fun c2 => ?_) (fun c2 => ?_)
  · refine g_iload_n dX6_refusalOfSize_8 0 rfl ?_
    refine g_bipush (v := nI 13) dX6_refusalOfSize_9 (by decide +kernel) ?_
    refine g_icmp_le 17 dX6_refusalOfSize_11 (by decide) (fun c11 => ?_) (fun c11 => ?_)
    · refine g_iload_n dX6_refusalOfSize_17 0 rfl ?_
      refine g_iconst (v := nI 2) dX6_refusalOfSize_18 (by decide +kernel) ?_
      refine g_irem dX6_refusalOfSize_19 (by decide) ?_
      refine g_if_ne 28 dX6_refusalOfSize_20 (by decide) (fun c20 => ?_) (fun c20 => ?_)
      · refine g_iconst (v := nI 0) dX6_refusalOfSize_28 (by decide +kernel) ?_
        exact g_iret dX6_refusalOfSize_29 rfl ⟨Nat.zero_le _, Nat.zero_le _⟩ (⟨by rw [rSize_4 c2 c11 c20]; rfl, rfl⟩)
      · refine g_bipush (v := (-3)) dX6_refusalOfSize_23 (by decide +kernel) ?_
        refine g_goto 29 dX6_refusalOfSize_25 (by decide) ?_
        exact g_iret dX6_refusalOfSize_29 rfl ⟨Nat.zero_le _, Nat.zero_le _⟩ (⟨by rw [rSize_3 c2 c11 c20], rfl⟩)
    · refine g_bipush (v := (-6)) dX6_refusalOfSize_14 (by decide +kernel) ?_
      exact g_iret dX6_refusalOfSize_16 rfl ⟨Nat.zero_le _, Nat.zero_le _⟩ (⟨by rw [rSize_2 c2 c11], rfl⟩)
  · refine g_bipush (v := (-4)) dX6_refusalOfSize_5 (by decide +kernel) ?_
    exact g_iret dX6_refusalOfSize_7 rfl ⟨Nat.zero_le _, Nat.zero_le _⟩ (⟨by rw [rSize_1 c2], rfl⟩)

set_option maxRecDepth 100000 in
set_option maxHeartbeats 4000000 in
theorem ev_rPair {h : List aC} {s n m : Nat} {F S A : List Nat} {a : Nat} {K U : List Nat} {rn : Nat} {C : List Nat} {T : List Int32} (hO : rd h s = some (.inr (6, [.ref (s + 1), .ref (s + 5), .ref (s + 8)]))) (hP : PA h (s + 1) n m F S A) (hT : TA h (s + 5) a K U) (hR : RA h (s + 8) rn C T) (hm : m < 2 ^ 30) (hn : 0 < n ∧ n < 2 ^ 30) (x y : Int32) : Ev mX6_refusalOfPair 3 0 0 [.ref s, .int x, .int y] h (pv (.int (rPair n m x y)) h) := by
  refine Ev.of pX6_refusalOfPair (Nat.le_of_ble_eq_true rfl) ?_
  show G mX6_refusalOfPair (rmD 3 0 0) none _ 0 0 0 [(0, .ref s), (1, .int x), (2, .int y)] [] h
  refine g_aload_n dX6_refusalOfPair_0 0 rfl ?_
  refine g_getf dX6_refusalOfPair_1 kX6 wfX6_12 (Nat.le_of_ble_eq_true rfl) (hO) rfl ?_
  refine g_getf dX6_refusalOfPair_4 kX3 wfX6_51 (Nat.le_of_ble_eq_true rfl) (hP.1) rfl ?_
  refine g_istore_n (ls' := [(3, .int (nI n)), (0, .ref s), (1, .int x), (2, .int y)]) dX6_refusalOfPair_7 (Nat.le_of_ble_eq_true rfl) rfl ?_
  refine g_iload_n dX6_refusalOfPair_8 2 rfl ?_
  refine g_iconst (v := nI 1) dX6_refusalOfPair_9 (by decide +kernel) ?_
  refine g_icmp_lt 18 dX6_refusalOfPair_10 (by decide) (fun c10 => ?_) (fun c10 => ?_)
  · refine g_bipush (v := (-4)) dX6_refusalOfPair_18 (by decide +kernel) ?_
    exact g_iret dX6_refusalOfPair_20 rfl ⟨Nat.zero_le _, Nat.zero_le _⟩ (⟨by unfold rPair; rw [if_pos (by first | exact Or.inl c10 | exact Or.inr (Int32.not_le.mp c15))], rfl⟩)
  · refine g_iload_n dX6_refusalOfPair_13 3 rfl ?_
    refine g_iconst (v := nI 1) dX6_refusalOfPair_14 (by decide +kernel) ?_
    refine g_icmp_ge 21 dX6_refusalOfPair_15 (by decide) (fun c15 => ?_) (fun c15 => ?_)
    · refine g_iload_n dX6_refusalOfPair_21 2 rfl ?_
      refine g_iload_n dX6_refusalOfPair_22 0 rfl ?_
      refine g_icmp_ge 41 dX6_refusalOfPair_23 (by decide) (fun c23 => ?_) (fun c23 => ?_)
      · refine g_bipush (v := (-6)) dX6_refusalOfPair_41 (by decide +kernel) ?_
        exact g_iret dX6_refusalOfPair_43 rfl ⟨Nat.zero_le _, Nat.zero_le _⟩ (⟨by unfold rPair; rw [if_neg (fun z => by rcases z with z | z; exact c10 z; exact absurd z (Int32.not_lt.mpr c15)), if_pos (by first | exact Or.inl c23 | exact Or.inr (Or.inl c28) | exact Or.inr (Or.inr c38))], rfl⟩)
      · refine g_iload_n dX6_refusalOfPair_26 3 rfl ?_
        refine g_iload_n dX6_refusalOfPair_27 0 rfl ?_
        refine g_icmp_ge 41 dX6_refusalOfPair_28 (by decide) (fun c28 => ?_) (fun c28 => ?_)
        · refine g_bipush (v := (-6)) dX6_refusalOfPair_41 (by decide +kernel) ?_
          exact g_iret dX6_refusalOfPair_43 rfl ⟨Nat.zero_le _, Nat.zero_le _⟩ (⟨by unfold rPair; rw [if_neg (fun z => by rcases z with z | z; exact c10 z; exact absurd z (Int32.not_lt.mpr c15)), if_pos (by first | exact Or.inl c23 | exact Or.inr (Or.inl c28) | exact Or.inr (Or.inr c38))], rfl⟩)
        · refine g_aload_n dX6_refusalOfPair_31 1 rfl ?_
          refine g_getf dX6_refusalOfPair_32 kX6 wfX6_12 (Nat.le_of_ble_eq_true rfl) (hO) rfl ?_
          refine g_callVp dX6_refusalOfPair_35 (ev_areWhole hP (by omega) (by omega)) oX3_areWhole wiX3_areWhole weX3_areWhole wmX6_54 kX3 (hP.1) rfl ⟨(Nat.le_of_ble_eq_true rfl), (Nat.le_of_ble_eq_true rfl)⟩ ⟨Nat.zero_le _, Nat.zero_le _⟩ (Nat.le_of_ble_eq_true rfl) rfl ?_
          refine g_if_eqB 44 dX6_refusalOfPair_38 (by decide) (fun c38 => ?_) (fun c38 => ?_)
          · have c38 := of_decide_eq_false c38
            refine g_iload_n dX6_refusalOfPair_44 2 rfl ?_
            refine g_iload_n dX6_refusalOfPair_45 3 rfl ?_
            refine g_icmp_ne 54 dX6_refusalOfPair_46 (by decide) (fun c46 => ?_) (fun c46 => ?_)
            · refine g_iconst (v := nI 0) dX6_refusalOfPair_54 (by decide +kernel) ?_
              exact g_iret dX6_refusalOfPair_55 rfl ⟨Nat.zero_le _, Nat.zero_le _⟩ (⟨by unfold rPair; rw [if_neg (fun z => by rcases z with z | z; exact c10 z; exact absurd z (Int32.not_lt.mpr c15)), if_neg (fun z => by rcases z with z | z | z; exact c23 z; exact c28 z; exact c38 z), if_neg c46]; rfl, rfl⟩)
            · refine g_bipush (v := (-3)) dX6_refusalOfPair_49 (by decide +kernel) ?_
              refine g_goto 55 dX6_refusalOfPair_51 (by decide) ?_
              exact g_iret dX6_refusalOfPair_55 rfl ⟨Nat.zero_le _, Nat.zero_le _⟩ (⟨by unfold rPair; rw [if_neg (fun z => by rcases z with z | z; exact c10 z; exact absurd z (Int32.not_lt.mpr c15)), if_neg (fun z => by rcases z with z | z | z; exact c23 z; exact c28 z; exact c38 z), if_pos c46], rfl⟩)
          · have c38 := of_decide_eq_true c38
            refine g_bipush (v := (-6)) dX6_refusalOfPair_41 (by decide +kernel) ?_
            exact g_iret dX6_refusalOfPair_43 rfl ⟨Nat.zero_le _, Nat.zero_le _⟩ (⟨by unfold rPair; rw [if_neg (fun z => by rcases z with z | z; exact c10 z; exact absurd z (Int32.not_lt.mpr c15)), if_pos (by first | exact Or.inl c23 | exact Or.inr (Or.inl c28) | exact Or.inr (Or.inr c38))], rfl⟩)
    · refine g_bipush (v := (-4)) dX6_refusalOfPair_18 (by decide +kernel) ?_
      exact g_iret dX6_refusalOfPair_20 rfl ⟨Nat.zero_le _, Nat.zero_le _⟩ (⟨by unfold rPair; rw [if_pos (by first | exact Or.inl c10 | exact Or.inr (Int32.not_le.mp c15))], rfl⟩)

set_option maxRecDepth 100000 in
set_option maxHeartbeats 4000000 in
theorem ev_rAdder {h : List aC} {s n m : Nat} {F S A : List Nat} {a : Nat} {K U : List Nat} {rn : Nat} {C : List Nat} {T : List Int32} (hO : rd h s = some (.inr (6, [.ref (s + 1), .ref (s + 5), .ref (s + 8)]))) (hP : PA h (s + 1) n m F S A) (hT : TA h (s + 5) a K U) (hR : RA h (s + 8) rn C T) (hm : m < 2 ^ 30) (x y : Int32) : Ev mX6_refusalOfAdder 2 0 0 [.ref s, .int x, .int y] h (pv (.int (rAdder n m x y)) h) := by
  refine Ev.of pX6_refusalOfAdder (Nat.le_of_ble_eq_true rfl) ?_
  show G mX6_refusalOfAdder (rmD 2 0 0) none _ 0 0 0 [(0, .ref s), (1, .int x), (2, .int y)] [] h
  refine g_aload_n dX6_refusalOfAdder_0 0 rfl ?_
  refine g_getf dX6_refusalOfAdder_1 kX6 wfX6_12 (Nat.le_of_ble_eq_true rfl) (hO) rfl ?_
  refine g_iload_n dX6_refusalOfAdder_4 1 rfl ?_
  refine g_callVp dX6_refusalOfAdder_5 (ev_has hP (by omega) (x)) oX3_has wiX3_has weX3_has wmX6_58 kX3 (hP.1) rfl ⟨(Nat.le_of_ble_eq_true rfl), (Nat.le_of_ble_eq_true rfl)⟩ ⟨Nat.zero_le _, Nat.zero_le _⟩ (Nat.le_of_ble_eq_true rfl) rfl ?_
  refine g_if_neB 13 dX6_refusalOfAdder_8 (by decide) (fun c8 => ?_) (fun c8 => ?_)
  · rw [Bool.and_eq_true, decide_eq_true_eq, decide_eq_true_eq] at c8
    refine g_iload_n dX6_refusalOfAdder_13 2 rfl ?_
    refine g_if_ge 20 dX6_refusalOfAdder_14 (by decide) (fun c14 => ?_) (fun c14 => ?_)
    · refine g_iload_n dX6_refusalOfAdder_20 2 rfl ?_
      refine g_aload_n dX6_refusalOfAdder_21 0 rfl ?_
      refine g_getf dX6_refusalOfAdder_22 kX6 wfX6_12 (Nat.le_of_ble_eq_true rfl) (hO) rfl ?_
      refine g_getf dX6_refusalOfAdder_25 kX3 wfX6_51 (Nat.le_of_ble_eq_true rfl) (hP.1) rfl ?_
      refine g_icmp_lt 36 dX6_refusalOfAdder_28 (by decide) (fun c28 => ?_) (fun c28 => ?_)
      · refine g_iconst (v := nI 0) dX6_refusalOfAdder_36 (by decide +kernel) ?_
        exact g_iret dX6_refusalOfAdder_37 rfl ⟨Nat.zero_le _, Nat.zero_le _⟩ (⟨by unfold rAdder; rw [if_neg (not_not_intro c8), if_neg (Int32.not_lt.mpr c14), if_neg (Int32.not_le.mpr c28)]; rfl, rfl⟩)
      · refine g_bipush (v := (-6)) dX6_refusalOfAdder_31 (by decide +kernel) ?_
        refine g_goto 37 dX6_refusalOfAdder_33 (by decide) ?_
        exact g_iret dX6_refusalOfAdder_37 rfl ⟨Nat.zero_le _, Nat.zero_le _⟩ (⟨by unfold rAdder; rw [if_neg (not_not_intro c8), if_neg (Int32.not_lt.mpr c14), if_pos (Int32.not_lt.mp c28)], rfl⟩)
    · refine g_bipush (v := (-4)) dX6_refusalOfAdder_17 (by decide +kernel) ?_
      exact g_iret dX6_refusalOfAdder_19 rfl ⟨Nat.zero_le _, Nat.zero_le _⟩ (⟨by unfold rAdder; rw [if_neg (not_not_intro c8), if_pos (Int32.not_le.mp c14)], rfl⟩)
  · have c8 : ¬ (0 ≤ x ∧ x < nI m) := by intro z; rw [decide_eq_true z.1, decide_eq_true z.2] at c8; cases c8
    refine g_iconst (v := (-1)) dX6_refusalOfAdder_11 (by decide +kernel) ?_
    exact g_iret dX6_refusalOfAdder_12 rfl ⟨Nat.zero_le _, Nat.zero_le _⟩ (⟨by unfold rAdder; rw [if_pos c8], rfl⟩)

set_option maxRecDepth 100000 in
set_option maxHeartbeats 4000000 in
theorem ev_rTurn {h : List aC} {s n m : Nat} {F S A : List Nat} {a : Nat} {K U : List Nat} {rn : Nat} {C : List Nat} {T : List Int32} (hO : rd h s = some (.inr (6, [.ref (s + 1), .ref (s + 5), .ref (s + 8)]))) (hP : PA h (s + 1) n m F S A) (hT : TA h (s + 5) a K U) (hR : RA h (s + 8) rn C T) (ha : a < 2 ^ 30) (x y : Int32) : Ev mX6_refusalOfTurn 1 0 0 [.ref s, .int x, .int y] h (pv (.int (rTurn a x y)) h) := by
  refine Ev.of pX6_refusalOfTurn (Nat.le_of_ble_eq_true rfl) ?_
  show G mX6_refusalOfTurn (rmD 1 0 0) none _ 0 0 0 [(0, .ref s), (1, .int x), (2, .int y)] [] h
  refine g_iload_n dX6_refusalOfTurn_0 1 rfl ?_
  refine g_if_lt 9 dX6_refusalOfTurn_1 (by decide) (fun c1 => ?_) (fun c1 => ?_)
  · refine g_bipush (v := (-2)) dX6_refusalOfTurn_9 (by decide +kernel) ?_
    exact g_iret dX6_refusalOfTurn_11 rfl ⟨Nat.zero_le _, Nat.zero_le _⟩ (⟨by unfold rTurn; rw [if_pos (by first | exact Or.inl c1 | exact Or.inr (Int32.not_le.mp c6))], rfl⟩)
  · refine g_iload_n dX6_refusalOfTurn_4 1 rfl ?_
    refine g_iconst (v := nI 5) dX6_refusalOfTurn_5 (by decide +kernel) ?_
    refine g_icmp_le 12 dX6_refusalOfTurn_6 (by decide) (fun c6 => ?_) (fun c6 => ?_)
    · refine g_iload_n dX6_refusalOfTurn_12 2 rfl ?_
      refine g_if_ge 19 dX6_refusalOfTurn_13 (by decide) (fun c13 => ?_) (fun c13 => ?_)
      · refine g_iload_n dX6_refusalOfTurn_19 2 rfl ?_
        refine g_bipush (v := nI 12) dX6_refusalOfTurn_20 (by decide +kernel) ?_
        refine g_icmp_gt 37 dX6_refusalOfTurn_22 (by decide) (fun c22 => ?_) (fun c22 => ?_)
        · refine g_bipush (v := (-6)) dX6_refusalOfTurn_37 (by decide +kernel) ?_
          refine g_goto 43 dX6_refusalOfTurn_39 (by decide) ?_
          exact g_iret dX6_refusalOfTurn_43 rfl ⟨Nat.zero_le _, Nat.zero_le _⟩ (⟨by unfold rTurn; rw [if_neg (fun z => by rcases z with z | z; exact c1 z; exact absurd z (Int32.not_lt.mpr c6)), if_neg (Int32.not_lt.mpr c13), if_pos (by first | exact Or.inl c22 | exact Or.inr c34)], rfl⟩)
        · refine g_aload_n dX6_refusalOfTurn_25 0 rfl ?_
          refine g_getf dX6_refusalOfTurn_26 kX6 wfX6_21 (Nat.le_of_ble_eq_true rfl) (hO) rfl ?_
          refine g_getf dX6_refusalOfTurn_29 kX7 wfX6_46 (Nat.le_of_ble_eq_true rfl) (hT.1) rfl ?_
          refine g_bipush (v := nI 6) dX6_refusalOfTurn_32 (by decide +kernel) ?_
          refine g_icmp_ltN 42 dX6_refusalOfTurn_34 (by decide) (by omega) (by omega) (fun c34 => ?_) (fun c34 => ?_)
          · refine g_iconst (v := nI 0) dX6_refusalOfTurn_42 (by decide +kernel) ?_
            exact g_iret dX6_refusalOfTurn_43 rfl ⟨Nat.zero_le _, Nat.zero_le _⟩ (⟨by unfold rTurn; rw [if_neg (fun z => by rcases z with z | z; exact c1 z; exact absurd z (Int32.not_lt.mpr c6)), if_neg (Int32.not_lt.mpr c13), if_neg (fun z => by rcases z with z | z; exact c22 z; omega)]; rfl, rfl⟩)
          · refine g_bipush (v := (-6)) dX6_refusalOfTurn_37 (by decide +kernel) ?_
            refine g_goto 43 dX6_refusalOfTurn_39 (by decide) ?_
            exact g_iret dX6_refusalOfTurn_43 rfl ⟨Nat.zero_le _, Nat.zero_le _⟩ (⟨by unfold rTurn; rw [if_neg (fun z => by rcases z with z | z; exact c1 z; exact absurd z (Int32.not_lt.mpr c6)), if_neg (Int32.not_lt.mpr c13), if_pos (by first | exact Or.inl c22 | exact Or.inr c34)], rfl⟩)
      · refine g_bipush (v := (-4)) dX6_refusalOfTurn_16 (by decide +kernel) ?_
        exact g_iret dX6_refusalOfTurn_18 rfl ⟨Nat.zero_le _, Nat.zero_le _⟩ (⟨by unfold rTurn; rw [if_neg (fun z => by rcases z with z | z; exact c1 z; exact absurd z (Int32.not_lt.mpr c6)), if_pos (Int32.not_le.mp c13)], rfl⟩)
    · refine g_bipush (v := (-2)) dX6_refusalOfTurn_9 (by decide +kernel) ?_
      exact g_iret dX6_refusalOfTurn_11 rfl ⟨Nat.zero_le _, Nat.zero_le _⟩ (⟨by unfold rTurn; rw [if_pos (by first | exact Or.inl c1 | exact Or.inr (Int32.not_le.mp c6))], rfl⟩)

set_option maxRecDepth 100000 in
set_option maxHeartbeats 4000000 in
theorem ev_scopy {h : List aC} {s n m : Nat} {F S A : List Nat} {a : Nat} {K U : List Nat} {rn : Nat} {C : List Nat} {T : List Int32} (hO : rd h s = some (.inr (6, [.ref (s + 1), .ref (s + 5), .ref (s + 8)]))) (hP : PA h (s + 1) n m F S A) (hT : TA h (s + 5) a K U) (hR : RA h (s + 8) rn C T) {s2 n2 m2 : Nat} {F2 S2 A2 : List Nat} {a2 : Nat} {K2 U2 : List Nat} {rn2 : Nat} {C2 : List Nat} {T2 : List Int32} (hO2 : rd h s2 = some (.inr (6, [.ref (s2 + 1), .ref (s2 + 5), .ref (s2 + 8)]))) (hP2 : PA h (s2 + 1) n2 m2 F2 S2 A2) (hT2 : TA h (s2 + 5) a2 K2 U2) (hR2 : RA h (s2 + 8) rn2 C2 T2) (hd : s + 11 ≤ s2 ∨ s2 + 11 ≤ s) : Ev mX6_copyFrom 2 0 0 [.ref s, .ref s2] h (pq none (fun h2 => PA h2 (s + 1) n2 m2 F2 S2 A2 ∧ TA h2 (s + 5) a2 K2 U2 ∧ RA h2 (s + 8) rn2 C2 T ∧ Smo (s + 1) (s + 10) h h2)) := by
  refine Ev.of pX6_copyFrom (Nat.le_of_ble_eq_true rfl) ?_
  show G mX6_copyFrom (rmD 2 0 0) none _ 0 0 0 [(0, .ref s), (1, .ref s2)] [] h
  refine g_aload_n dX6_copyFrom_0 0 rfl ?_
  refine g_getf dX6_copyFrom_1 kX6 wfX6_12 (Nat.le_of_ble_eq_true rfl) (hO) rfl ?_
  refine g_aload_n dX6_copyFrom_4 1 rfl ?_
  refine g_getf dX6_copyFrom_5 kX6 wfX6_12 (Nat.le_of_ble_eq_true rfl) (hO2) rfl ?_
  refine g_callVq (st1 := []) dX6_copyFrom_8 (ev_copyFrom hP hP2 (by omega)) oX3_copyFrom wiX3_copyFrom weX3_copyFrom wmX6_32 kX3 (hP.1) rfl ⟨(Nat.le_of_ble_eq_true rfl), (Nat.le_of_ble_eq_true rfl)⟩ ⟨Nat.zero_le _, Nat.zero_le _⟩ (Nat.le_of_ble_eq_true rfl) rfl rfl (fun h1 q1 => ?_)
  obtain ⟨q1a, q1s⟩ := q1
  have b1_s_5 := hT.mv q1s (by omega)
  have b1_s_8 := hR.mv q1s (by omega)
  have b1_s2_1 := hP2.mv q1s (by omega)
  have b1_s2_5 := hT2.mv q1s (by omega)
  have b1_s2_8 := hR2.mv q1s (by omega)
  have f1_s : rd h1 s = some (.inr (6, [.ref (s + 1), .ref (s + 5), .ref (s + 8)])) := by rw [q1s _ (by omega)]; exact hO
  have f1_s2 : rd h1 s2 = some (.inr (6, [.ref (s2 + 1), .ref (s2 + 5), .ref (s2 + 8)])) := by rw [q1s _ (by omega)]; exact hO2
  refine g_aload_n dX6_copyFrom_11 0 rfl ?_
  refine g_getf dX6_copyFrom_12 kX6 wfX6_21 (Nat.le_of_ble_eq_true rfl) (f1_s) rfl ?_
  refine g_aload_n dX6_copyFrom_15 1 rfl ?_
  refine g_getf dX6_copyFrom_16 kX6 wfX6_21 (Nat.le_of_ble_eq_true rfl) (f1_s2) rfl ?_
  refine g_callVq (st1 := []) dX6_copyFrom_19 (ev_tcopy b1_s_5 b1_s2_5 (by omega)) oX7_copyFrom wiX7_copyFrom weX7_copyFrom wmX6_36 kX7 (b1_s_5.1) rfl ⟨(Nat.le_of_ble_eq_true rfl), (Nat.le_of_ble_eq_true rfl)⟩ ⟨Nat.zero_le _, Nat.zero_le _⟩ (Nat.le_of_ble_eq_true rfl) rfl rfl (fun h2 q2 => ?_)
  obtain ⟨q2a, q2s⟩ := q2
  have b2_s_1 := q1a.mv q2s (by omega)
  have b2_s_8 := b1_s_8.mv q2s (by omega)
  have b2_s2_1 := b1_s2_1.mv q2s (by omega)
  have b2_s2_5 := b1_s2_5.mv q2s (by omega)
  have b2_s2_8 := b1_s2_8.mv q2s (by omega)
  have f2_s : rd h2 s = some (.inr (6, [.ref (s + 1), .ref (s + 5), .ref (s + 8)])) := by rw [q2s _ (by omega)]; exact f1_s
  have f2_s2 : rd h2 s2 = some (.inr (6, [.ref (s2 + 1), .ref (s2 + 5), .ref (s2 + 8)])) := by rw [q2s _ (by omega)]; exact f1_s2
  refine g_aload_n dX6_copyFrom_22 0 rfl ?_
  refine g_getf dX6_copyFrom_23 kX6 wfX6_28 (Nat.le_of_ble_eq_true rfl) (f2_s) rfl ?_
  refine g_aload_n dX6_copyFrom_26 1 rfl ?_
  refine g_getf dX6_copyFrom_27 kX6 wfX6_28 (Nat.le_of_ble_eq_true rfl) (f2_s2) rfl ?_
  refine g_callVq (st1 := []) dX6_copyFrom_30 (ev_rcopy b2_s_8 b2_s2_8 (by omega)) oX4_copyFrom wiX4_copyFrom weX4_copyFrom wmX6_39 kX4 (b2_s_8.1) rfl ⟨(Nat.le_of_ble_eq_true rfl), (Nat.le_of_ble_eq_true rfl)⟩ ⟨Nat.zero_le _, Nat.zero_le _⟩ (Nat.le_of_ble_eq_true rfl) rfl rfl (fun h3 q3 => ?_)
  obtain ⟨q3a, q3s⟩ := q3
  have b3_s_1 := b2_s_1.mv q3s (by omega)
  have b3_s_5 := q2a.mv q3s (by omega)
  have b3_s2_1 := b2_s2_1.mv q3s (by omega)
  have b3_s2_5 := b2_s2_5.mv q3s (by omega)
  have b3_s2_8 := b2_s2_8.mv q3s (by omega)
  have f3_s : rd h3 s = some (.inr (6, [.ref (s + 1), .ref (s + 5), .ref (s + 8)])) := by rw [q3s _ (by omega)]; exact f2_s
  have f3_s2 : rd h3 s2 = some (.inr (6, [.ref (s2 + 1), .ref (s2 + 5), .ref (s2 + 8)])) := by rw [q3s _ (by omega)]; exact f2_s2
  exact g_vret dX6_copyFrom_33 rfl ⟨Nat.zero_le _, Nat.zero_le _⟩ (⟨rfl, b3_s_1, b3_s_5, q3a, (fun q hq => by rw [q3s q (by omega), q2s q (by omega), q1s q (by omega)])⟩)

set_option maxRecDepth 100000 in
set_option maxHeartbeats 4000000 in
theorem ev_resize {h : List aC} {s n m : Nat} {F S A : List Nat} {a : Nat} {K U : List Nat} {rn : Nat} {C : List Nat} {T : List Int32} (hO : rd h s = some (.inr (6, [.ref (s + 1), .ref (s + 5), .ref (s + 8)]))) (hP : PA h (s + 1) n m F S A) (hT : TA h (s + 5) a K U) (hR : RA h (s + 8) rn C T) (x : Nat) : Ev mX6_resize 2 0 0 [.ref s, .int (nI x)] h (pq none (fun h2 => ∃ C2, PA h2 (s + 1) x 0 F S A ∧ TA h2 (s + 5) 0 K U ∧ RA h2 (s + 8) x C2 T ∧ (∀ i, i < 169 → C2.getD i 0 = 0) ∧ Smo (s + 1) (s + 10) h h2)) := by
  refine Ev.of pX6_resize (Nat.le_of_ble_eq_true rfl) ?_
  show G mX6_resize (rmD 2 0 0) none _ 0 0 0 [(0, .ref s), (1, .int (nI x))] [] h
  refine g_aload_n dX6_resize_0 0 rfl ?_
  refine g_getf dX6_resize_1 kX6 wfX6_12 (Nat.le_of_ble_eq_true rfl) (hO) rfl ?_
  refine g_iload_n dX6_resize_4 1 rfl ?_
  refine g_callVq (st1 := []) dX6_resize_5 (ev_becomeEmpty hP (x)) oX3_becomeEmpty wiX3_becomeEmpty weX3_becomeEmpty wmX6_42 kX3 (hP.1) rfl ⟨(Nat.le_of_ble_eq_true rfl), (Nat.le_of_ble_eq_true rfl)⟩ ⟨Nat.zero_le _, Nat.zero_le _⟩ (Nat.le_of_ble_eq_true rfl) rfl rfl (fun h1 q1 => ?_)
  obtain ⟨q1a, q1s⟩ := q1
  have b1_s_5 := hT.mv q1s (by omega)
  have b1_s_8 := hR.mv q1s (by omega)
  have f1_s : rd h1 s = some (.inr (6, [.ref (s + 1), .ref (s + 5), .ref (s + 8)])) := by rw [q1s _ (by omega)]; exact hO
  refine g_aload_n dX6_resize_8 0 rfl ?_
  refine g_getf dX6_resize_9 kX6 wfX6_21 (Nat.le_of_ble_eq_true rfl) (f1_s) rfl ?_
  refine g_iconst (v := nI 0) dX6_resize_12 (by decide +kernel) ?_
  refine g_putv dX6_resize_13 kX7 wfX6_46 (Nat.le_of_ble_eq_true rfl) rfl (fun _ _ => ⟨rfl, rfl⟩) (b1_s_5.1) (Nat.le_of_ble_eq_true rfl) (fs' := [.ref (s + 6), .ref (s + 7), .int (nI 0)]) rfl (fun h2 e2 => ?_)
  have f2_s_5 : rd h2 (s + 5) = some (.inr (7, [.ref (s + 6), .ref (s + 7), .int (nI 0)])) := by rw [e2]; exact rd_wr_eq (b1_s_5.1)
  have s2 : Smo (s + 5) ((s + 5) + 1) h1 h2 := by rw [e2]; exact Smo.wr (by omega) (by omega)
  have b2_s_1 := q1a.mv s2 (by omega)
  have b2_s_8 := b1_s_8.mv s2 (by omega)
  have f2_s : rd h2 s = some (.inr (6, [.ref (s + 1), .ref (s + 5), .ref (s + 8)])) := by rw [s2 _ (by omega)]; exact f1_s
  have f2_s_6 : rd h2 (s + 6) = some (.inl ((K).map nI)) := by rw [s2 _ (by omega)]; exact b1_s_5.2.1
  have f2_s_7 : rd h2 (s + 7) = some (.inl ((U).map nI)) := by rw [s2 _ (by omega)]; exact b1_s_5.2.2.1
  have H3 : TA h2 (s + 5) 0 K U := ⟨f2_s_5, f2_s_6, f2_s_7, hT.2.2.2⟩
  refine g_aload_n dX6_resize_16 0 rfl ?_
  refine g_getf dX6_resize_17 kX6 wfX6_28 (Nat.le_of_ble_eq_true rfl) (f2_s) rfl ?_
  refine g_iload_n dX6_resize_20 1 rfl ?_
  refine g_callVq (st1 := []) dX6_resize_21 (ev_rempty b2_s_8 (x)) oX4_becomeEmpty wiX4_becomeEmpty weX4_becomeEmpty wmX6_50 kX4 (b2_s_8.1) rfl ⟨(Nat.le_of_ble_eq_true rfl), (Nat.le_of_ble_eq_true rfl)⟩ ⟨Nat.zero_le _, Nat.zero_le _⟩ (Nat.le_of_ble_eq_true rfl) rfl rfl (fun h4 q4 => ?_)
  obtain ⟨C4, q4a, q4z, q4s⟩ := q4
  have b4_s_1 := b2_s_1.mv q4s (by omega)
  have b4_s_5 := H3.mv q4s (by omega)
  have f4_s : rd h4 s = some (.inr (6, [.ref (s + 1), .ref (s + 5), .ref (s + 8)])) := by rw [q4s _ (by omega)]; exact f2_s
  exact g_vret dX6_resize_24 rfl ⟨Nat.zero_le _, Nat.zero_le _⟩ (⟨rfl, C4, b4_s_1, b4_s_5, q4a, q4z, (fun q hq => by rw [q4s q (by omega), s2 q (by omega), q1s q (by omega)])⟩)
