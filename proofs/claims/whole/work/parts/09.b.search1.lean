theorem and_pow0 (a i : Nat) : a &&& 2 ^ i = 0 ↔ a.testBit i = false := by
  constructor
  · intro h
    have e := congrArg (fun x => Nat.testBit x i) h
    simp only [Nat.testBit_and, Nat.testBit_two_pow, Nat.zero_testBit, decide_true, Bool.and_true] at e
    exact e
  · intro h
    apply Nat.eq_of_testBit_eq
    intro j
    rw [Nat.testBit_and, Nat.testBit_two_pow, Nat.zero_testBit]
    by_cases q : i = j
    · subst q; rw [h]; rfl
    · rw [decide_eq_false q, Bool.and_false]
theorem and_pow1 {a i : Nat} (h : 0 < a &&& 2 ^ i) : a.testBit i = true := by
  rcases Bool.eq_false_or_eq_true (a.testBit i) with q | q
  · exact q
  · rw [(and_pow0 a i).mpr q] at h; exact absurd h (Nat.lt_irrefl 0)
theorem shr_bit (a i : Nat) : a / 2 ^ i &&& 1 = bI (a.testBit i) := by
  rw [Nat.and_one_is_mod, Nat.testBit_eq_decide_div_mod_eq]
  by_cases h : a / 2 ^ i % 2 = 1
  · rw [decide_eq_true h, h]; rfl
  · rw [decide_eq_false h]
    show a / 2 ^ i % 2 = 0
    omega
def vA (n : Nat) (acc : List Pp) : Prop := ∀ q ∈ acc, 1 ≤ q.1 ∧ q.1 < q.2 ∧ q.2 < n
def nmC (nums : Nat) (acc : List Pp) : Prop := nums < 2 ^ 13 ∧ ∀ i, i < 13 → nums.testBit i = (decide (i = 0) || usd acc i)
def dfC (n difs : Nat) (acc : List Pp) : Prop := difs < 2 ^ 13 ∧ ∀ i, i < 13 → difs.testBit i = acc.any (fun q => min (q.2 - q.1) (n - q.2 + q.1) == i)
theorem nmC_t {nums : Nat} {acc : List Pp} (h : nmC nums acc) {y : Nat} (h1 : 1 ≤ y) (hy : y < 13) : nums.testBit y = usd acc y := by
  rw [h.2 y hy, decide_eq_false (by omega), Bool.false_or]
theorem any_cong {α : Type} {p q : α → Bool} : ∀ (l : List α), (∀ a ∈ l, p a = q a) → l.any p = l.any q
  | [], _ => rfl
  | a :: l, h => by
    rw [List.any_cons, List.any_cons, h a List.mem_cons_self, any_cong l (fun b hb => h b (List.mem_cons_of_mem _ hb))]
theorem dfC_t {n difs : Nat} {acc : List Pp} (h : dfC n difs acc) (hv : vA n acc) (hn : n ≤ 13) {x y : Nat} (hxy : x < y) (hy : y < n) : difs.testBit (min (y - x) (n - y + x)) = dus n acc (y - x) := by
  rw [h.2 _ (by omega)]
  refine any_cong acc (fun q hq => ?_)
  obtain ⟨q1, q2, q3⟩ := hv q hq
  rw [Bool.eq_iff_iff, beq_iff_eq, Bool.or_eq_true, beq_iff_eq, beq_iff_eq]
  omega
theorem nmC_add {nums : Nat} {acc : List Pp} (h : nmC nums acc) {x y : Nat} (hx : x < 13) (hy : y < 13) : nmC ((nums ||| 2 ^ x) ||| 2 ^ y) (acc ++ [(x, y)]) := by
  refine ⟨or_lt (or_lt h.1 (pw_lt hx)) (pw_lt hy), fun i hi => ?_⟩
  rw [Nat.testBit_or, Nat.testBit_or, h.2 i hi, Nat.testBit_two_pow, Nat.testBit_two_pow]
  unfold usd
  rw [List.any_append, List.any_cons, List.any_nil, Bool.or_false, Bool.or_assoc, Bool.or_assoc]
  congr 2
theorem dfC_add {n difs : Nat} {acc : List Pp} (h : dfC n difs acc) {x y : Nat} (hn : n ≤ 13) (hxy : x < y) (hy : y < n) : dfC n (difs ||| 2 ^ min (y - x) (n - y + x)) (acc ++ [(x, y)]) := by
  refine ⟨or_lt h.1 (pw_lt (by omega)), fun i hi => ?_⟩
  rw [Nat.testBit_or, h.2 i hi, Nat.testBit_two_pow, List.any_append, List.any_cons, List.any_nil, Bool.or_false]
  congr 1
theorem vA_add {n : Nat} {acc : List Pp} (h : vA n acc) {x y : Nat} (h1 : 1 ≤ x) (hxy : x < y) (hy : y < n) : vA n (acc ++ [(x, y)]) := by
  intro q hq
  rcases List.mem_append.mp hq with q1 | q1
  · exact h q q1
  · rw [List.mem_singleton] at q1
    subst q1
    exact ⟨h1, hxy, hy⟩
/-- the class's least number that is free -/
def lfB (nums : Nat) : Nat → Nat → Nat
  | 0, v => v
  | j + 1, v => if nums.testBit v = true then lfB nums j (v + 1) else v
theorem lfB_t {nums j v : Nat} (h : nums.testBit v = true) : lfB nums (j + 1) v = lfB nums j (v + 1) := if_pos h
theorem lfB_f {nums j v : Nat} (h : ¬ nums.testBit v = true) : lfB nums (j + 1) v = v := if_neg h
theorem lfB_G {nums : Nat} {acc : List Pp} (h : nmC nums acc) : ∀ j v, 1 ≤ v → v + j ≤ 13 → lfB nums j v = lfG acc j v
  | 0, _, _, _ => rfl
  | j + 1, v, h1, h2 => by
    show (if nums.testBit v = true then lfB nums j (v + 1) else v) = (if usd acc v = true then lfG acc j (v + 1) else v)
    rw [nmC_t h h1 (by omega), lfB_G h j (v + 1) (by omega) (by omega)]
theorem lfB_A {n nums : Nat} {acc : List Pp} (h : nmC nums acc) (h0 : 1 ≤ n) (hn : n ≤ 13) : lfB nums n 0 = lfA n acc := by
  obtain ⟨j, rfl⟩ : ∃ j, n = j + 1 := ⟨n - 1, by omega⟩
  rw [lfB_t (by rw [h.2 0 (by omega)]; rfl), lfB_G h j 1 (by omega) (by omega)]
  rfl
theorem lfG_le (acc : List Pp) : ∀ j v, v ≤ lfG acc j v ∧ lfG acc j v ≤ v + j
  | 0, v => ⟨Nat.le_refl v, Nat.le_refl v⟩
  | j + 1, v => by
    have h := lfG_le acc j (v + 1)
    show v ≤ (if usd acc v = true then lfG acc j (v + 1) else v) ∧ (if usd acc v = true then lfG acc j (v + 1) else v) ≤ v + (j + 1)
    by_cases q : usd acc v = true
    · rw [if_pos q]; omega
    · rw [if_neg q]; omega
theorem lfA_in (n : Nat) (h0 : 1 ≤ n) (acc : List Pp) : 1 ≤ lfA n acc ∧ lfA n acc ≤ n := by
  have h := lfG_le acc (n - 1) 1
  unfold lfA
  omega

set_option maxRecDepth 100000 in
set_option maxHeartbeats 4000000 in
theorem ev_begin {h : List aC} {w : Int32} {c gs gk : Nat} (hX : XA h w c gs gk) (v : Int32) : Ev mX5_begin 1 0 0 [.ref 84, .int v] h (pq none (fun h2 => XA h2 v 0 0 0 ∧ Smo 84 85 h h2)) := by
  refine Ev.of pX5_begin (Nat.le_of_ble_eq_true rfl) ?_
  show G mX5_begin (rmD 1 0 0) none _ 0 0 0 [(0, .ref 84), (1, .int v)] [] h
  refine g_aload_n dX5_begin_0 0 rfl ?_
  refine g_iload_n dX5_begin_1 1 rfl ?_
  refine g_putv dX5_begin_2 kX5 wfX5_16 (Nat.le_of_ble_eq_true rfl) rfl (fun _ _ => ⟨rfl, rfl⟩) (hX) (Nat.le_of_ble_eq_true rfl) (fs' := [.ref 85, .int v, .int (nI c), .int (nI gs), .int (nI gk)]) rfl (fun h1 e1 => ?_)
  have f1_84 : rd h1 84 = some (.inr (5, [.ref 85, .int v, .int (nI c), .int (nI gs), .int (nI gk)])) := by rw [e1]; exact rd_wr_eq (hX)
  have s1 : Smo 84 (84 + 1) h h1 := by rw [e1]; exact Smo.wr (by omega) (by omega)
  refine g_aload_n dX5_begin_5 0 rfl ?_
  refine g_iconst (v := nI 0) dX5_begin_6 (by decide +kernel) ?_
  refine g_putv dX5_begin_7 kX5 wfX5_20 (Nat.le_of_ble_eq_true rfl) rfl (fun _ _ => ⟨rfl, rfl⟩) (f1_84) (Nat.le_of_ble_eq_true rfl) (fs' := [.ref 85, .int v, .int (nI 0), .int (nI gs), .int (nI gk)]) rfl (fun h2 e2 => ?_)
  have f2_84 : rd h2 84 = some (.inr (5, [.ref 85, .int v, .int (nI 0), .int (nI gs), .int (nI gk)])) := by rw [e2]; exact rd_wr_eq (f1_84)
  have s2 : Smo 84 (84 + 1) h1 h2 := by rw [e2]; exact Smo.wr (by omega) (by omega)
  refine g_aload_n dX5_begin_10 0 rfl ?_
  refine g_iconst (v := nI 0) dX5_begin_11 (by decide +kernel) ?_
  refine g_putv dX5_begin_12 kX5 wfX5_23 (Nat.le_of_ble_eq_true rfl) rfl (fun _ _ => ⟨rfl, rfl⟩) (f2_84) (Nat.le_of_ble_eq_true rfl) (fs' := [.ref 85, .int v, .int (nI 0), .int (nI 0), .int (nI gk)]) rfl (fun h3 e3 => ?_)
  have f3_84 : rd h3 84 = some (.inr (5, [.ref 85, .int v, .int (nI 0), .int (nI 0), .int (nI gk)])) := by rw [e3]; exact rd_wr_eq (f2_84)
  have s3 : Smo 84 (84 + 1) h2 h3 := by rw [e3]; exact Smo.wr (by omega) (by omega)
  refine g_aload_n dX5_begin_15 0 rfl ?_
  refine g_iconst (v := nI 0) dX5_begin_16 (by decide +kernel) ?_
  refine g_putv dX5_begin_17 kX5 wfX5_26 (Nat.le_of_ble_eq_true rfl) rfl (fun _ _ => ⟨rfl, rfl⟩) (f3_84) (Nat.le_of_ble_eq_true rfl) (fs' := [.ref 85, .int v, .int (nI 0), .int (nI 0), .int (nI 0)]) rfl (fun h4 e4 => ?_)
  have f4_84 : rd h4 84 = some (.inr (5, [.ref 85, .int v, .int (nI 0), .int (nI 0), .int (nI 0)])) := by rw [e4]; exact rd_wr_eq (f3_84)
  have s4 : Smo 84 (84 + 1) h3 h4 := by rw [e4]; exact Smo.wr (by omega) (by omega)
  exact g_vret dX5_begin_20 rfl ⟨Nat.zero_le _, Nat.zero_le _⟩ (⟨rfl, f4_84, (fun q hq => by rw [s4 q (by omega), s3 q (by omega), s2 q (by omega), s1 q (by omega)])⟩)

set_option maxRecDepth 100000 in
set_option maxHeartbeats 4000000 in
theorem ev_hasWanted {h : List aC} {w : Int32} {c gs gk : Nat} (hX : XA h w c gs gk) : Ev mX5_hasWanted 1 0 0 [.ref 84] h (pv (.int (nI (bI (hwB w c)))) h) := by
  refine Ev.of pX5_hasWanted (Nat.le_of_ble_eq_true rfl) ?_
  show G mX5_hasWanted (rmD 1 0 0) none _ 0 0 0 [(0, .ref 84)] [] h
  refine g_aload_n dX5_hasWanted_0 0 rfl ?_
  refine g_getf dX5_hasWanted_1 kX5 wfX5_16 (Nat.le_of_ble_eq_true rfl) (hX) rfl ?_
  refine g_if_lt 22 dX5_hasWanted_4 (by decide) (fun c4 => ?_) (fun c4 => ?_)
  · refine g_iconst (v := nI 0) dX5_hasWanted_22 (by decide +kernel) ?_
    exact g_zret dX5_hasWanted_23 rfl (by decide) ⟨Nat.zero_le _, Nat.zero_le _⟩ (pvN (fun z => by first | exact absurd z.1 (Int32.not_le.mpr c4) | exact absurd z.2 (Int32.not_lt.mpr c15)))
  · refine g_aload_n dX5_hasWanted_7 0 rfl ?_
    refine g_getf dX5_hasWanted_8 kX5 wfX5_20 (Nat.le_of_ble_eq_true rfl) (hX) rfl ?_
    refine g_aload_n dX5_hasWanted_11 0 rfl ?_
    refine g_getf dX5_hasWanted_12 kX5 wfX5_16 (Nat.le_of_ble_eq_true rfl) (hX) rfl ?_
    refine g_icmp_le 22 dX5_hasWanted_15 (by decide) (fun c15 => ?_) (fun c15 => ?_)
    · refine g_iconst (v := nI 0) dX5_hasWanted_22 (by decide +kernel) ?_
      exact g_zret dX5_hasWanted_23 rfl (by decide) ⟨Nat.zero_le _, Nat.zero_le _⟩ (pvN (fun z => by first | exact absurd z.1 (Int32.not_le.mpr c4) | exact absurd z.2 (Int32.not_lt.mpr c15)))
    · refine g_iconst (v := nI 1) dX5_hasWanted_18 (by decide +kernel) ?_
      refine g_goto 23 dX5_hasWanted_19 (by decide) ?_
      exact g_zret dX5_hasWanted_23 rfl (by decide) ⟨Nat.zero_le _, Nat.zero_le _⟩ (pvB ⟨Int32.not_lt.mp c4, Int32.not_le.mp c15⟩)

set_option maxRecDepth 100000 in
set_option maxHeartbeats 4000000 in
theorem lp_leastFree {n nums : Nat} (hn : n ≤ 13) (hb : nums < 2 ^ 13) {h : List aC} : ∀ j k , k + j = n → G mX5_leastFree (rmD 1 0 0) none (pv (.int (nI (lfB nums j k))) h) 0 0 2 [(2, .int (nI k)), (0, .int (nI nums)), (1, .int (nI n))] [] h := by
  intro j
  induction j with
  | zero =>
    intro k  hk 
    refine g_iload_n dX5_leastFree_2 0 rfl ?_
    refine g_iload_n dX5_leastFree_3 2 rfl ?_
    refine g_icmp_geN 21 dX5_leastFree_4 (by decide) (by omega) (by omega) (fun c4 => ?_) (fun z => absurd z (by omega))
    refine g_iload_n dX5_leastFree_21 0 rfl ?_
    exact g_iret dX5_leastFree_22 rfl ⟨Nat.zero_le _, Nat.zero_le _⟩ (⟨rfl, rfl⟩)
  | succ j ih =>
    intro k  hk 
    have zz : nums / 2 ^ k &&& 1 ≤ 1 := Nat.and_le_right
    refine g_iload_n dX5_leastFree_2 0 rfl ?_
    refine g_iload_n dX5_leastFree_3 2 rfl ?_
    refine g_icmp_geN 21 dX5_leastFree_4 (by decide) (by omega) (by omega) (fun z => absurd z (by omega)) (fun c4 => ?_)
    refine g_iload_n dX5_leastFree_7 1 rfl ?_
    refine g_iload_n dX5_leastFree_8 0 rfl ?_
    refine g_ishrN dX5_leastFree_9 (by omega) (by omega) ?_
    refine g_iconst (v := nI 1) dX5_leastFree_10 (by decide +kernel) ?_
    refine g_iandN dX5_leastFree_11 ?_
    refine g_if_eqN 21 dX5_leastFree_12 (by decide) (by omega) (fun c12 => ?_) (fun c12 => ?_)
    · have t : ¬ nums.testBit k = true := by rw [shr_bit] at c12; intro z; rw [z] at c12; exact absurd c12 (by decide)
      rw [lfB_f t]
      refine g_iload_n dX5_leastFree_21 0 rfl ?_
      exact g_iret dX5_leastFree_22 rfl ⟨Nat.zero_le _, Nat.zero_le _⟩ (⟨rfl, rfl⟩)
    · have t : nums.testBit k = true := by rw [shr_bit] at c12; rcases Bool.eq_false_or_eq_true (nums.testBit k) with z | z; exact z; rw [z] at c12; exact absurd c12 (by decide)
      rw [lfB_t t]
      refine g_iinc (q := 0) (v := nI (k + 1)) (ls' := [(2, .int (nI (k + 1))), (0, .int (nI nums)), (1, .int (nI n))]) dX5_leastFree_15 rfl (inc1 _) (Nat.le_of_ble_eq_true rfl) rfl ?_
      refine g_goto 2 dX5_leastFree_18 (by decide) ?_
      exact ih (k + 1) (by omega)

set_option maxRecDepth 100000 in
set_option maxHeartbeats 4000000 in
theorem ev_leastFree {n nums : Nat} (hn : n ≤ 13) (hb : nums < 2 ^ 13) (h : List aC) : Ev mX5_leastFree 1 0 0 [.int (nI nums), .int (nI n)] h (pv (.int (nI (lfB nums n 0))) h) := by
  refine Ev.of pX5_leastFree (Nat.le_of_ble_eq_true rfl) ?_
  show G mX5_leastFree (rmD 1 0 0) none _ 0 0 0 [(0, .int (nI nums)), (1, .int (nI n))] [] h
  refine g_iconst (v := nI 0) dX5_leastFree_0 (by decide +kernel) ?_
  refine g_istore_n (ls' := [(2, .int (nI 0)), (0, .int (nI nums)), (1, .int (nI n))]) dX5_leastFree_1 (Nat.le_of_ble_eq_true rfl) rfl ?_
  exact lp_leastFree hn hb n 0 (by omega)

set_option maxRecDepth 100000 in
set_option maxHeartbeats 4000000 in
theorem ev_note {h : List aC} {w : Int32} {c gs gk : Nat} (hX : XA h w c gs gk) {n m : Nat} {F S A : List Nat} (hP : PA h 85 n m F S A) (hm : m ≤ 6) (hn : n ≤ 13) (h0 : 0 < n) (hb : bnd n m F S A) : Ev mX5_noteStarter 5 0 0 [.ref 84] h (pq none (fun h2 => XA h2 w (c + 1) (gs + bI (stS n m F S)) (gk + bI (stS n m F S && skS n m F S)) ∧ Smo 84 85 h h2)) := by
  refine Ev.of pX5_noteStarter (Nat.le_of_ble_eq_true rfl) ?_
  show G mX5_noteStarter (rmD 5 0 0) none _ 0 0 0 [(0, .ref 84)] [] h
  refine g_aload_n dX5_noteStarter_0 0 rfl ?_
  refine g_dup dX5_noteStarter_1 rfl ?_
  refine g_getf dX5_noteStarter_2 kX5 wfX5_20 (Nat.le_of_ble_eq_true rfl) (hX) rfl ?_
  refine g_iconst (v := nI 1) dX5_noteStarter_5 (by decide +kernel) ?_
  refine g_iaddN dX5_noteStarter_6 ?_
  refine g_putv dX5_noteStarter_7 kX5 wfX5_20 (Nat.le_of_ble_eq_true rfl) rfl (fun _ _ => ⟨rfl, rfl⟩) (hX) (Nat.le_of_ble_eq_true rfl) (fs' := [.ref 85, .int w, .int (nI (c + 1)), .int (nI gs), .int (nI gk)]) rfl (fun h1 e1 => ?_)
  have f1_84 : rd h1 84 = some (.inr (5, [.ref 85, .int w, .int (nI (c + 1)), .int (nI gs), .int (nI gk)])) := by rw [e1]; exact rd_wr_eq (hX)
  have s1 : Smo 84 (84 + 1) h h1 := by rw [e1]; exact Smo.wr (by omega) (by omega)
  have b1_85 := hP.mv s1 (by omega)
  refine g_aload_n dX5_noteStarter_10 0 rfl ?_
  refine g_getf dX5_noteStarter_11 kX5 wfX5_10 (Nat.le_of_ble_eq_true rfl) (f1_84) rfl ?_
  refine g_callVp dX5_noteStarter_14 (ev_strong b1_85 hm hn hb) oX3_haveStrongSums wiX3_haveStrongSums weX3_haveStrongSums wmX5_47 kX3 (b1_85.1) rfl ⟨(Nat.le_of_ble_eq_true rfl), (Nat.le_of_ble_eq_true rfl)⟩ ⟨Nat.zero_le _, Nat.zero_le _⟩ (Nat.le_of_ble_eq_true rfl) rfl ?_
  refine g_if_eqB 49 dX5_noteStarter_17 (by decide) (fun c17 => ?_) (fun c17 => ?_)
  · exact g_vret dX5_noteStarter_49 rfl ⟨Nat.zero_le _, Nat.zero_le _⟩ (⟨rfl, by rw [c17]; exact f1_84, (fun q hq => by rw [s1 q (by omega)])⟩)
  · refine g_aload_n dX5_noteStarter_20 0 rfl ?_
    refine g_dup dX5_noteStarter_21 rfl ?_
    refine g_getf dX5_noteStarter_22 kX5 wfX5_23 (Nat.le_of_ble_eq_true rfl) (f1_84) rfl ?_
    refine g_iconst (v := nI 1) dX5_noteStarter_25 (by decide +kernel) ?_
    refine g_iaddN dX5_noteStarter_26 ?_
    refine g_putv dX5_noteStarter_27 kX5 wfX5_23 (Nat.le_of_ble_eq_true rfl) rfl (fun _ _ => ⟨rfl, rfl⟩) (f1_84) (Nat.le_of_ble_eq_true rfl) (fs' := [.ref 85, .int w, .int (nI (c + 1)), .int (nI (gs + 1)), .int (nI gk)]) rfl (fun h2 e2 => ?_)
    have f2_84 : rd h2 84 = some (.inr (5, [.ref 85, .int w, .int (nI (c + 1)), .int (nI (gs + 1)), .int (nI gk)])) := by rw [e2]; exact rd_wr_eq (f1_84)
    have s2 : Smo 84 (84 + 1) h1 h2 := by rw [e2]; exact Smo.wr (by omega) (by omega)
    have b2_85 := b1_85.mv s2 (by omega)
    refine g_aload_n dX5_noteStarter_30 0 rfl ?_
    refine g_dup dX5_noteStarter_31 rfl ?_
    refine g_getf dX5_noteStarter_32 kX5 wfX5_26 (Nat.le_of_ble_eq_true rfl) (f2_84) rfl ?_
    refine g_aload_n dX5_noteStarter_35 0 rfl ?_
    refine g_getf dX5_noteStarter_36 kX5 wfX5_10 (Nat.le_of_ble_eq_true rfl) (f2_84) rfl ?_
    refine g_callVp dX5_noteStarter_39 (ev_skew b2_85 hm hn hb h0) oX3_haveSkewSums wiX3_haveSkewSums weX3_haveSkewSums wmX5_51 kX3 (b2_85.1) rfl ⟨(Nat.le_of_ble_eq_true rfl), (Nat.le_of_ble_eq_true rfl)⟩ ⟨Nat.zero_le _, Nat.zero_le _⟩ (Nat.le_of_ble_eq_true rfl) rfl ?_
    refine g_callSNp dX5_noteStarter_42 (ev_bit (skS n m F S) _) oX8_bit wsX8_bit wqX5_54 rfl ⟨(Nat.le_of_ble_eq_true rfl), (Nat.le_of_ble_eq_true rfl)⟩ ⟨Nat.zero_le _, Nat.zero_le _⟩ (Nat.le_of_ble_eq_true rfl) rfl ?_
    refine g_iaddN dX5_noteStarter_45 ?_
    refine g_putv dX5_noteStarter_46 kX5 wfX5_26 (Nat.le_of_ble_eq_true rfl) rfl (fun _ _ => ⟨rfl, rfl⟩) (f2_84) (Nat.le_of_ble_eq_true rfl) (fs' := [.ref 85, .int w, .int (nI (c + 1)), .int (nI (gs + 1)), .int (nI (gk + (bI (skS n m F S))))]) rfl (fun h3 e3 => ?_)
    have f3_84 : rd h3 84 = some (.inr (5, [.ref 85, .int w, .int (nI (c + 1)), .int (nI (gs + 1)), .int (nI (gk + (bI (skS n m F S))))])) := by rw [e3]; exact rd_wr_eq (f2_84)
    have s3 : Smo 84 (84 + 1) h2 h3 := by rw [e3]; exact Smo.wr (by omega) (by omega)
    have b3_85 := b2_85.mv s3 (by omega)
    exact g_vret dX5_noteStarter_49 rfl ⟨Nat.zero_le _, Nat.zero_le _⟩ (⟨rfl, by rw [c17]; exact f3_84, (fun q hq => by rw [s3 q (by omega), s2 q (by omega), s1 q (by omega)])⟩)
