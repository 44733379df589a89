def sumN (f : Nat → Nat) : Nat → Nat
  | 0 => 0
  | k + 1 => sumN f k + f k
def u2 (f : Nat → Nat → Nat) (r c v : Nat) : Nat → Nat → Nat := fun a b => if a = r ∧ b = c then v else f a b
theorem u2_eq {f : Nat → Nat → Nat} {r c v : Nat} : u2 f r c v r c = v := if_pos ⟨rfl, rfl⟩
theorem u2_ne {f : Nat → Nat → Nat} {r c v a b : Nat} (h : ¬ (a = r ∧ b = c)) : u2 f r c v a b = f a b := if_neg h
/-- the cells of a Room at r -/
def RA (h : List aC) (r n : Nat) (C : List Nat) (T : List Int32) : Prop := rd h r = some (.inr (4, [.ref (r + 1), .ref (r + 2), .int (nI n)])) ∧ rd h (r + 1) = some (.inl (C.map nI)) ∧ rd h (r + 2) = some (.inl T) ∧ C.length = 169 ∧ T.length = 196
theorem RA.mv {h h' : List aC} {r n lo hi : Nat} {C : List Nat} {T : List Int32} (H : RA h r n C T) (s : Smo lo hi h h') (hq : r + 3 ≤ lo ∨ hi ≤ r) : RA h' r n C T := ⟨by rw [s r (by omega)]; exact H.1, by rw [s (r + 1) (by omega)]; exact H.2.1, by rw [s (r + 2) (by omega)]; exact H.2.2.1, H.2.2.2⟩
/-- the cells as a square of codes -/
def cR (n : Nat) (C : List Nat) (rm : Nat → Nat → Nat) : Prop := ∀ a b, a < n → b < n → C.getD (a * n + b) 0 = rm a b
def cod (a b : Nat) : Nat := min a b * 14 + max a b
theorem pl_lt {n a b : Nat} (hn : n ≤ 13) (ha : a < n) (hb : b < n) : a * n + b < 169 := by
  have h1 : (a + 1) * n ≤ 13 * 13 := Nat.mul_le_mul (by omega) hn
  rw [Nat.add_mul, Nat.one_mul] at h1
  omega
theorem pl_lt2 {n a b : Nat} (ha : a < n) (hb : b < n) : a * n + b < n * n := by
  have h1 : (a + 1) * n ≤ n * n := Nat.mul_le_mul (by omega) (Nat.le_refl n)
  rw [Nat.add_mul, Nat.one_mul] at h1
  omega
theorem pl_inj {n a b a2 b2 : Nat} (hb : b < n) (hb2 : b2 < n) (h : a * n + b = a2 * n + b2) : a = a2 ∧ b = b2 := by
  have e1 : (a * n + b) / n = a := by rw [Nat.mul_comm, Nat.mul_add_div (by omega), Nat.div_eq_of_lt hb, Nat.add_zero]
  have e2 : (a2 * n + b2) / n = a2 := by rw [Nat.mul_comm, Nat.mul_add_div (by omega), Nat.div_eq_of_lt hb2, Nat.add_zero]
  have e3 : a = a2 := by rw [← e1, h, e2]
  subst e3
  exact ⟨rfl, by omega⟩
theorem cR.set {n : Nat} {C : List Nat} {rm : Nat → Nat → Nat} (H : cR n C rm) (lC : C.length = 169) (hn : n ≤ 13) {a b v : Nat} (ha : a < n) (hb : b < n) : cR n (C.set (a * n + b) v) (u2 rm a b v) := by
  intro x y hx hy
  by_cases h : x = a ∧ y = b
  · obtain ⟨rfl, rfl⟩ := h
    rw [u2_eq, getD_set_eq (by rw [lC]; exact pl_lt hn ha hb)]
  · rw [u2_ne h, getD_set_ne (fun q => h (by obtain ⟨e1, e2⟩ := pl_inj hb hy q; exact ⟨e1.symm, e2.symm⟩))]
    exact H x y hx hy
theorem sumN_ext {f g : Nat → Nat} : ∀ k, (∀ i, i < k → f i = g i) → sumN f k = sumN g k
  | 0, _ => rfl
  | k + 1, h => by
    show sumN f k + f k = sumN g k + g k
    rw [sumN_ext k (fun i hi => h i (by omega)), h k (by omega)]
theorem sumN_add (f : Nat → Nat) (a : Nat) : ∀ b, sumN f (a + b) = sumN f a + sumN (fun i => f (a + i)) b
  | 0 => rfl
  | b + 1 => by
    show sumN f (a + b) + f (a + b) = sumN f a + (sumN (fun i => f (a + i)) b + f (a + b))
    rw [sumN_add f a b]
    omega
theorem sumN_sq (f : Nat → Nat) (n : Nat) : ∀ k, sumN f (k * n) = sumN (fun a => sumN (fun b => f (a * n + b)) n) k
  | 0 => by rw [Nat.zero_mul]; rfl
  | k + 1 => by
    show _ = sumN (fun a => sumN (fun b => f (a * n + b)) n) k + sumN (fun b => f (k * n + b)) n
    rw [← sumN_sq f n k, Nat.add_mul, Nat.one_mul, sumN_add]
theorem sumN_le {f : Nat → Nat} (B : Nat) : ∀ k, (∀ i, i < k → f i ≤ B) → sumN f k ≤ k * B
  | 0, _ => by rw [Nat.zero_mul]; exact Nat.le_refl 0
  | k + 1, h => by
    have h1 := sumN_le B k (fun i hi => h i (by omega))
    have h2 := h k (by omega)
    show sumN f k + f k ≤ (k + 1) * B
    rw [Nat.add_mul, Nat.one_mul]
    omega
theorem bI_le (b : Bool) : bI b ≤ 1 := by cases b <;> decide
theorem sq_le {n : Nat} (hn : n ≤ 13) : n * n ≤ 169 := Nat.mul_le_mul hn hn

set_option maxRecDepth 100000 in
set_option maxHeartbeats 4000000 in
theorem ev_codeOf (a b : Nat) (ha : a < 2 ^ 16) (hb : b < 2 ^ 16) (h : List aC) : Ev mX4_codeOf 2 0 0 [.int (nI a), .int (nI b)] h (pv (.int (nI (cod a b))) h) := by
  refine Ev.of pX4_codeOf (Nat.le_of_ble_eq_true rfl) ?_
  show G mX4_codeOf (rmD 2 0 0) none _ 0 0 0 [(0, .int (nI a)), (1, .int (nI b))] [] h
  refine g_iload_n dX4_codeOf_0 0 rfl ?_
  refine g_iload_n dX4_codeOf_1 1 rfl ?_
  refine g_callSp dX4_codeOf_2 (ev_min (a) (b) (by omega) (by omega) _) oJ9_min_7cf53 wsJ9_min_7cf53 wmX4_22 rfl ⟨(Nat.le_of_ble_eq_true rfl), (Nat.le_of_ble_eq_true rfl)⟩ ⟨Nat.zero_le _, Nat.zero_le _⟩ (Nat.le_of_ble_eq_true rfl) rfl ?_
  refine g_bipush (v := nI 14) dX4_codeOf_5 (by decide +kernel) ?_
  refine g_imulN dX4_codeOf_7 ?_
  refine g_iload_n dX4_codeOf_8 0 rfl ?_
  refine g_iload_n dX4_codeOf_9 1 rfl ?_
  refine g_callSp dX4_codeOf_10 (ev_max (a) (b) (by omega) (by omega) _) oJ9_max_7cf53 wsJ9_max_7cf53 wmX4_28 rfl ⟨(Nat.le_of_ble_eq_true rfl), (Nat.le_of_ble_eq_true rfl)⟩ ⟨Nat.zero_le _, Nat.zero_le _⟩ (Nat.le_of_ble_eq_true rfl) rfl ?_
  refine g_iaddN dX4_codeOf_13 ?_
  exact g_iret dX4_codeOf_14 rfl ⟨Nat.zero_le _, Nat.zero_le _⟩ (⟨rfl, rfl⟩)

set_option maxRecDepth 100000 in
set_option maxHeartbeats 4000000 in
theorem ev_lesserOf (a : Nat) (ha : a < 2 ^ 16) (h : List aC) : Ev mX4_lesserOf 1 0 0 [.int (nI a)] h (pv (.int (nI (a / 14))) h) := by
  refine Ev.of pX4_lesserOf (Nat.le_of_ble_eq_true rfl) ?_
  show G mX4_lesserOf (rmD 1 0 0) none _ 0 0 0 [(0, .int (nI a))] [] h
  refine g_iload_n dX4_lesserOf_0 0 rfl ?_
  refine g_bipush (v := nI 14) dX4_lesserOf_1 (by decide +kernel) ?_
  refine g_idivN dX4_lesserOf_3 (by omega) (by omega) (by omega) ?_
  exact g_iret dX4_lesserOf_4 rfl ⟨Nat.zero_le _, Nat.zero_le _⟩ (⟨rfl, rfl⟩)

set_option maxRecDepth 100000 in
set_option maxHeartbeats 4000000 in
theorem ev_greaterOf (a : Nat) (ha : a < 2 ^ 16) (h : List aC) : Ev mX4_greaterOf 1 0 0 [.int (nI a)] h (pv (.int (nI (a % 14))) h) := by
  refine Ev.of pX4_greaterOf (Nat.le_of_ble_eq_true rfl) ?_
  show G mX4_greaterOf (rmD 1 0 0) none _ 0 0 0 [(0, .int (nI a))] [] h
  refine g_iload_n dX4_greaterOf_0 0 rfl ?_
  refine g_bipush (v := nI 14) dX4_greaterOf_1 (by decide +kernel) ?_
  refine g_iremN dX4_greaterOf_3 (by omega) (by omega) (by omega) ?_
  exact g_iret dX4_greaterOf_4 rfl ⟨Nat.zero_le _, Nat.zero_le _⟩ (⟨rfl, rfl⟩)

set_option maxRecDepth 100000 in
set_option maxHeartbeats 4000000 in
theorem ev_rcopy {h : List aC} {r n : Nat} {C : List Nat} {T : List Int32} (hR : RA h r n C T) {r2 n2 : Nat} {C2 : List Nat} {T2 : List Int32} (hR2 : RA h r2 n2 C2 T2) (hd : r + 3 ≤ r2 ∨ r2 + 3 ≤ r) : Ev mX4_copyFrom 1 0 0 [.ref r, .ref r2] h (pq none (fun h2 => RA h2 r n2 C2 T ∧ Smo r (r + 2) h h2)) := by
  obtain ⟨-, -, -, lC, lT⟩ := id hR
  obtain ⟨-, -, -, kC, kT⟩ := id hR2
  refine Ev.of pX4_copyFrom (Nat.le_of_ble_eq_true rfl) ?_
  show G mX4_copyFrom (rmD 1 0 0) none _ 0 0 0 [(0, .ref r), (1, .ref r2)] [] h
  refine g_aload_n dX4_copyFrom_0 0 rfl ?_
  refine g_aload_n dX4_copyFrom_1 1 rfl ?_
  refine g_getf dX4_copyFrom_2 kX4 wfX4_18 (Nat.le_of_ble_eq_true rfl) (hR2.1) rfl ?_
  refine g_putv dX4_copyFrom_5 kX4 wfX4_18 (Nat.le_of_ble_eq_true rfl) rfl (fun _ _ => ⟨rfl, rfl⟩) (hR.1) (Nat.le_of_ble_eq_true rfl) (fs' := [.ref (r + 1), .ref (r + 2), .int (nI n2)]) rfl (fun h1 e1 => ?_)
  have f1_r : rd h1 r = some (.inr (4, [.ref (r + 1), .ref (r + 2), .int (nI n2)])) := by rw [e1]; exact rd_wr_eq (hR.1)
  have f1_r2 : rd h1 r2 = some (.inr (4, [.ref (r2 + 1), .ref (r2 + 2), .int (nI n2)])) := by rw [e1, rd_wr_ne (by omega)]; exact hR2.1
  have f1_r_1 : rd h1 (r + 1) = some (.inl ((C).map nI)) := by rw [e1, rd_wr_ne (by omega)]; exact hR.2.1
  have f1_r_2 : rd h1 (r + 2) = some (.inl (T)) := by rw [e1, rd_wr_ne (by omega)]; exact hR.2.2.1
  have f1_r2_1 : rd h1 (r2 + 1) = some (.inl ((C2).map nI)) := by rw [e1, rd_wr_ne (by omega)]; exact hR2.2.1
  have f1_r2_2 : rd h1 (r2 + 2) = some (.inl (T2)) := by rw [e1, rd_wr_ne (by omega)]; exact hR2.2.2.1
  refine g_aload_n dX4_copyFrom_8 1 rfl ?_
  refine g_getf dX4_copyFrom_9 kX4 wfX4_9 (Nat.le_of_ble_eq_true rfl) (f1_r2) rfl ?_
  refine g_iconst (v := nI 0) dX4_copyFrom_12 (by decide +kernel) ?_
  refine g_aload_n dX4_copyFrom_13 0 rfl ?_
  refine g_getf dX4_copyFrom_14 kX4 wfX4_9 (Nat.le_of_ble_eq_true rfl) (f1_r) rfl ?_
  refine g_iconst (v := nI 0) dX4_copyFrom_17 (by decide +kernel) ?_
  refine g_sipush (v := nI 169) dX4_copyFrom_18 (by decide +kernel) ?_
  refine g_copyv dX4_copyFrom_21 wmX4_31 (f1_r2_1) (f1_r_1) (by simp [kC]) (by simp [lC]) (by omega) ⟨(Nat.le_of_ble_eq_true rfl), by decide +kernel⟩ (Nat.le_of_ble_eq_true rfl) (fun h2 e2 => ?_)
  have f2_r_1 : rd h2 (r + 1) = some (.inl ((C2).map nI)) := by rw [e2]; exact rd_wr_eq (f1_r_1)
  have f2_r : rd h2 r = some (.inr (4, [.ref (r + 1), .ref (r + 2), .int (nI n2)])) := by rw [e2, rd_wr_ne (by omega)]; exact f1_r
  have f2_r2 : rd h2 r2 = some (.inr (4, [.ref (r2 + 1), .ref (r2 + 2), .int (nI n2)])) := by rw [e2, rd_wr_ne (by omega)]; exact f1_r2
  have f2_r_2 : rd h2 (r + 2) = some (.inl (T)) := by rw [e2, rd_wr_ne (by omega)]; exact f1_r_2
  have f2_r2_1 : rd h2 (r2 + 1) = some (.inl ((C2).map nI)) := by rw [e2, rd_wr_ne (by omega)]; exact f1_r2_1
  have f2_r2_2 : rd h2 (r2 + 2) = some (.inl (T2)) := by rw [e2, rd_wr_ne (by omega)]; exact f1_r2_2
  exact g_vret dX4_copyFrom_24 rfl ⟨Nat.zero_le _, Nat.zero_le _⟩ (⟨rfl, ⟨f2_r, f2_r_1, f2_r_2, kC, lT⟩, (fun q hq => by rw [e2, rd_wr_ne (by omega), e1, rd_wr_ne (by omega)])⟩)

set_option maxRecDepth 100000 in
set_option maxHeartbeats 4000000 in
theorem lp_rempty {h0 : List aC} {r x : Nat} {T : List Int32} : ∀ j k (h : List aC) (C : List Nat), k + j = 169 → RA h r x C T → (∀ i, i < k → C.getD i 0 = 0) → Smo r (r + 2) h0 h → G mX4_becomeEmpty (rmD 1 0 0) none (pq none (fun h2 => ∃ C2, RA h2 r x C2 T ∧ (∀ i, i < 169 → C2.getD i 0 = 0) ∧ Smo r (r + 2) h0 h2)) 0 0 7 [(2, .int (nI k)), (0, .ref r)] [] h := by
  intro j
  induction j with
  | zero =>
    intro k h C hk hR hI hS
    obtain ⟨-, -, -, lC, lT⟩ := id hR
    refine g_iload_n dX4_becomeEmpty_7 0 rfl ?_
    refine g_aload_n dX4_becomeEmpty_8 1 rfl ?_
    refine g_getf dX4_becomeEmpty_9 kX4 wfX4_9 (Nat.le_of_ble_eq_true rfl) (hR.1) rfl ?_
    refine g_alen (v := nI 169) dX4_becomeEmpty_12 (hR.2.1) (by rw [List.length_map, lC]; rfl) ?_
    refine g_icmp_geN 29 dX4_becomeEmpty_13 (by decide) (by omega) (by omega) (fun c13 => ?_) (fun z => absurd z (by omega))
    exact g_vret dX4_becomeEmpty_29 rfl ⟨Nat.zero_le _, Nat.zero_le _⟩ (⟨rfl, C, hR, fun i hi => hI i (by omega), hS⟩)
  | succ j ih =>
    intro k h C hk hR hI hS
    obtain ⟨-, -, -, lC, lT⟩ := id hR
    refine g_iload_n dX4_becomeEmpty_7 0 rfl ?_
    refine g_aload_n dX4_becomeEmpty_8 1 rfl ?_
    refine g_getf dX4_becomeEmpty_9 kX4 wfX4_9 (Nat.le_of_ble_eq_true rfl) (hR.1) rfl ?_
    refine g_alen (v := nI 169) dX4_becomeEmpty_12 (hR.2.1) (by rw [List.length_map, lC]; rfl) ?_
    refine g_icmp_geN 29 dX4_becomeEmpty_13 (by decide) (by omega) (by omega) (fun z => absurd z (by omega)) (fun c13 => ?_)
    refine g_aload_n dX4_becomeEmpty_16 1 rfl ?_
    refine g_getf dX4_becomeEmpty_17 kX4 wfX4_9 (Nat.le_of_ble_eq_true rfl) (hR.1) rfl ?_
    refine g_iload_n dX4_becomeEmpty_20 0 rfl ?_
    refine g_iconst (v := nI 0) dX4_becomeEmpty_21 (by decide +kernel) ?_
    refine g_iasN dX4_becomeEmpty_22 (hR.2.1) (by omega) (by omega) (fun h1 e1 => ?_)
    have f1_r_1 : rd h1 (r + 1) = some (.inl (((C).set k 0).map nI)) := by rw [e1]; exact rd_wr_eq (hR.2.1)
    have f1_r : rd h1 r = some (.inr (4, [.ref (r + 1), .ref (r + 2), .int (nI x)])) := by rw [e1, rd_wr_ne (by omega)]; exact hR.1
    have f1_r_2 : rd h1 (r + 2) = some (.inl (T)) := by rw [e1, rd_wr_ne (by omega)]; exact hR.2.2.1
    refine g_iinc (q := 0) (v := nI (k + 1)) (ls' := [(2, .int (nI (k + 1))), (0, .ref r)]) dX4_becomeEmpty_23 rfl (inc1 _) (Nat.le_of_ble_eq_true rfl) rfl ?_
    refine g_goto 7 dX4_becomeEmpty_26 (by decide) ?_
    exact ih (k + 1) h1 _ (by omega) ⟨f1_r, f1_r_1, f1_r_2, by simp [lC], lT⟩ (fun i hi => by by_cases q : k = i; (subst q; exact getD_set_eq (by omega)); (rw [getD_set_ne q]; exact hI i (by omega))) (hS.tr (fun q hq => by rw [e1, rd_wr_ne (by omega)]))

set_option maxRecDepth 100000 in
set_option maxHeartbeats 4000000 in
theorem ev_rempty {h : List aC} {r n : Nat} {C : List Nat} {T : List Int32} (hR : RA h r n C T) (x : Nat) : Ev mX4_becomeEmpty 1 0 0 [.ref r, .int (nI x)] h (pq none (fun h2 => ∃ C2, RA h2 r x C2 T ∧ (∀ i, i < 169 → C2.getD i 0 = 0) ∧ Smo r (r + 2) h h2)) := by
  obtain ⟨-, -, -, lC, lT⟩ := id hR
  refine Ev.of pX4_becomeEmpty (Nat.le_of_ble_eq_true rfl) ?_
  show G mX4_becomeEmpty (rmD 1 0 0) none _ 0 0 0 [(0, .ref r), (1, .int (nI x))] [] h
  refine g_aload_n dX4_becomeEmpty_0 0 rfl ?_
  refine g_iload_n dX4_becomeEmpty_1 1 rfl ?_
  refine g_putv dX4_becomeEmpty_2 kX4 wfX4_18 (Nat.le_of_ble_eq_true rfl) rfl (fun _ _ => ⟨rfl, rfl⟩) (hR.1) (Nat.le_of_ble_eq_true rfl) (fs' := [.ref (r + 1), .ref (r + 2), .int (nI x)]) rfl (fun h1 e1 => ?_)
  have f1_r : rd h1 r = some (.inr (4, [.ref (r + 1), .ref (r + 2), .int (nI x)])) := by rw [e1]; exact rd_wr_eq (hR.1)
  have f1_r_1 : rd h1 (r + 1) = some (.inl ((C).map nI)) := by rw [e1, rd_wr_ne (by omega)]; exact hR.2.1
  have f1_r_2 : rd h1 (r + 2) = some (.inl (T)) := by rw [e1, rd_wr_ne (by omega)]; exact hR.2.2.1
  refine g_iconst (v := nI 0) dX4_becomeEmpty_5 (by decide +kernel) ?_
  refine g_istore_n (ls' := [(2, .int (nI 0)), (0, .ref r), (1, .int (nI x))]) dX4_becomeEmpty_6 (Nat.le_of_ble_eq_true rfl) rfl ?_
  refine g_lsub_ (ls2 := [(2, .int (nI 0)), (0, .ref r)]) [0, 1] rfl ?_
  exact G.mono (lp_rempty 169 0 h1 C (by omega) ⟨f1_r, f1_r_1, f1_r_2, lC, lT⟩ (fun i hi => absurd hi (Nat.not_lt_zero i)) Smo.rf) (fun w h3 q => by obtain ⟨q1, C2, q2, q3, q4⟩ := q; exact ⟨q1, C2, q2, q3, Smo.tr (fun q hq => by rw [e1, rd_wr_ne (by omega)]) q4⟩)

set_option maxRecDepth 100000 in
set_option maxHeartbeats 4000000 in
theorem ev_rhas {h : List aC} {r n : Nat} {C : List Nat} {T : List Int32} (hR : RA h r n C T) (a b : Int32) : Ev mX4_has 1 0 0 [.ref r, .int a, .int b] h (pv (.int (nI (bI (decide (0 ≤ a ∧ a < nI n ∧ 0 ≤ b ∧ b < nI n))))) h) := by
  obtain ⟨-, -, -, lC, lT⟩ := id hR
  refine Ev.of pX4_has (Nat.le_of_ble_eq_true rfl) ?_
  show G mX4_has (rmD 1 0 0) none _ 0 0 0 [(0, .ref r), (1, .int a), (2, .int b)] [] h
  refine g_iload_n dX4_has_0 1 rfl ?_
  refine g_if_lt 28 dX4_has_1 (by decide) (fun c1 => ?_) (fun c1 => ?_)
  · refine g_iconst (v := nI 0) dX4_has_28 (by decide +kernel) ?_
    exact g_zret dX4_has_29 rfl (by decide) ⟨Nat.zero_le _, Nat.zero_le _⟩ (pvN (fun z => by first | exact absurd z.1 (Int32.not_le.mpr c1) | exact absurd z.2.1 (Int32.not_lt.mpr c9) | exact absurd z.2.2.1 (Int32.not_le.mpr c13) | exact absurd z.2.2.2 (Int32.not_lt.mpr c21)))
  · refine g_iload_n dX4_has_4 1 rfl ?_
    refine g_aload_n dX4_has_5 0 rfl ?_
    refine g_getf dX4_has_6 kX4 wfX4_18 (Nat.le_of_ble_eq_true rfl) (hR.1) rfl ?_
    refine g_icmp_ge 28 dX4_has_9 (by decide) (fun c9 => ?_) (fun c9 => ?_)
    · refine g_iconst (v := nI 0) dX4_has_28 (by decide +kernel) ?_
      exact g_zret dX4_has_29 rfl (by decide) ⟨Nat.zero_le _, Nat.zero_le _⟩ (pvN (fun z => by first | exact absurd z.1 (Int32.not_le.mpr c1) | exact absurd z.2.1 (Int32.not_lt.mpr c9) | exact absurd z.2.2.1 (Int32.not_le.mpr c13) | exact absurd z.2.2.2 (Int32.not_lt.mpr c21)))
    · refine g_iload_n dX4_has_12 2 rfl ?_
      refine g_if_lt 28 dX4_has_13 (by decide) (fun c13 => ?_) (fun c13 => ?_)
      · refine g_iconst (v := nI 0) dX4_has_28 (by decide +kernel) ?_
        exact g_zret dX4_has_29 rfl (by decide) ⟨Nat.zero_le _, Nat.zero_le _⟩ (pvN (fun z => by first | exact absurd z.1 (Int32.not_le.mpr c1) | exact absurd z.2.1 (Int32.not_lt.mpr c9) | exact absurd z.2.2.1 (Int32.not_le.mpr c13) | exact absurd z.2.2.2 (Int32.not_lt.mpr c21)))
      · refine g_iload_n dX4_has_16 2 rfl ?_
        refine g_aload_n dX4_has_17 0 rfl ?_
        refine g_getf dX4_has_18 kX4 wfX4_18 (Nat.le_of_ble_eq_true rfl) (hR.1) rfl ?_
        refine g_icmp_ge 28 dX4_has_21 (by decide) (fun c21 => ?_) (fun c21 => ?_)
        · refine g_iconst (v := nI 0) dX4_has_28 (by decide +kernel) ?_
          exact g_zret dX4_has_29 rfl (by decide) ⟨Nat.zero_le _, Nat.zero_le _⟩ (pvN (fun z => by first | exact absurd z.1 (Int32.not_le.mpr c1) | exact absurd z.2.1 (Int32.not_lt.mpr c9) | exact absurd z.2.2.1 (Int32.not_le.mpr c13) | exact absurd z.2.2.2 (Int32.not_lt.mpr c21)))
        · refine g_iconst (v := nI 1) dX4_has_24 (by decide +kernel) ?_
          refine g_goto 29 dX4_has_25 (by decide) ?_
          exact g_zret dX4_has_29 rfl (by decide) ⟨Nat.zero_le _, Nat.zero_le _⟩ (pvB ⟨Int32.not_lt.mp c1, Int32.not_le.mp c9, Int32.not_lt.mp c13, Int32.not_le.mp c21⟩)

set_option maxRecDepth 100000 in
set_option maxHeartbeats 4000000 in
theorem ev_placeOf {h : List aC} {r n : Nat} {C : List Nat} {T : List Int32} (hR : RA h r n C T) (a b : Nat) : Ev mX4_placeOf 1 0 0 [.ref r, .int (nI a), .int (nI b)] h (pv (.int (nI (a * n + b))) h) := by
  obtain ⟨-, -, -, lC, lT⟩ := id hR
  refine Ev.of pX4_placeOf (Nat.le_of_ble_eq_true rfl) ?_
  show G mX4_placeOf (rmD 1 0 0) none _ 0 0 0 [(0, .ref r), (1, .int (nI a)), (2, .int (nI b))] [] h
  refine g_iload_n dX4_placeOf_0 1 rfl ?_
  refine g_aload_n dX4_placeOf_1 0 rfl ?_
  refine g_getf dX4_placeOf_2 kX4 wfX4_18 (Nat.le_of_ble_eq_true rfl) (hR.1) rfl ?_
  refine g_imulN dX4_placeOf_5 ?_
  refine g_iload_n dX4_placeOf_6 2 rfl ?_
  refine g_iaddN dX4_placeOf_7 ?_
  exact g_iret dX4_placeOf_8 rfl ⟨Nat.zero_le _, Nat.zero_le _⟩ (⟨rfl, rfl⟩)

set_option maxRecDepth 100000 in
set_option maxHeartbeats 4000000 in
theorem ev_isFilled {h : List aC} {r n : Nat} {C : List Nat} {T : List Int32} (hR : RA h r n C T) (a b : Nat) (hn : n ≤ 13) (ha : a < n) (hb : b < n) (hC : ∀ i, i < 169 → C.getD i 0 < 196) : Ev mX4_isFilled 2 0 0 [.ref r, .int (nI a), .int (nI b)] h (pv (.int (nI (bI (decide (C.getD (a * n + b) 0 ≠ 0))))) h) := by
  obtain ⟨-, -, -, lC, lT⟩ := id hR
  have z1 := pl_lt hn ha hb
  have z2 := hC _ z1
  refine Ev.of pX4_isFilled (Nat.le_of_ble_eq_true rfl) ?_
  show G mX4_isFilled (rmD 2 0 0) none _ 0 0 0 [(0, .ref r), (1, .int (nI a)), (2, .int (nI b))] [] h
  refine g_aload_n dX4_isFilled_0 0 rfl ?_
  refine g_getf dX4_isFilled_1 kX4 wfX4_9 (Nat.le_of_ble_eq_true rfl) (hR.1) rfl ?_
  refine g_aload_n dX4_isFilled_4 0 rfl ?_
  refine g_iload_n dX4_isFilled_5 1 rfl ?_
  refine g_iload_n dX4_isFilled_6 2 rfl ?_
  refine g_callVp dX4_isFilled_7 (ev_placeOf hR (a) (b)) oX4_placeOf wiX4_placeOf weX4_placeOf wmX4_37 kX4 (hR.1) rfl ⟨(Nat.le_of_ble_eq_true rfl), (Nat.le_of_ble_eq_true rfl)⟩ ⟨Nat.zero_le _, Nat.zero_le _⟩ (Nat.le_of_ble_eq_true rfl) rfl ?_
  refine g_ialN dX4_isFilled_10 (hR.2.1) (by omega) (by omega) ?_
  refine g_if_eqN 18 dX4_isFilled_11 (by decide) (by omega) (fun c11 => ?_) (fun c11 => ?_)
  · refine g_iconst (v := nI 0) dX4_isFilled_18 (by decide +kernel) ?_
    exact g_zret dX4_isFilled_19 rfl (by decide) ⟨Nat.zero_le _, Nat.zero_le _⟩ (pvN (fun z => z c11))
  · refine g_iconst (v := nI 1) dX4_isFilled_14 (by decide +kernel) ?_
    refine g_goto 19 dX4_isFilled_15 (by decide) ?_
    exact g_zret dX4_isFilled_19 rfl (by decide) ⟨Nat.zero_le _, Nat.zero_le _⟩ (pvB (by omega))

set_option maxRecDepth 100000 in
set_option maxHeartbeats 4000000 in
theorem ev_lay1 {h : List aC} {r n : Nat} {C : List Nat} {T : List Int32} (hR : RA h r n C T) (a b : Nat) (hn : n ≤ 13) (ha : a < n) (hb : b < n) (hC : ∀ i, i < 169 → C.getD i 0 < 196) (v : Nat) (hz : C.getD (a * n + b) 0 ≠ 0) : Ev mX4_lay 3 0 0 [.ref r, .int (nI a), .int (nI b), .int (nI v)] h (pq (some (.int (nI 1))) (fun h2 => h2 = h)) := by
  obtain ⟨-, -, -, lC, lT⟩ := id hR
  have z1 := pl_lt hn ha hb
  refine Ev.of pX4_lay (Nat.le_of_ble_eq_true rfl) ?_
  show G mX4_lay (rmD 3 0 0) none _ 0 0 0 [(0, .ref r), (1, .int (nI a)), (2, .int (nI b)), (3, .int (nI v))] [] h
  refine g_aload_n dX4_lay_0 0 rfl ?_
  refine g_iload_n dX4_lay_1 1 rfl ?_
  refine g_iload_n dX4_lay_2 2 rfl ?_
  refine g_callVp dX4_lay_3 (ev_isFilled hR (a) (b) hn (by omega) (by omega) hC) oX4_isFilled wiX4_isFilled weX4_isFilled wmX4_71 kX4 (hR.1) rfl ⟨(Nat.le_of_ble_eq_true rfl), (Nat.le_of_ble_eq_true rfl)⟩ ⟨Nat.zero_le _, Nat.zero_le _⟩ (Nat.le_of_ble_eq_true rfl) rfl ?_
  refine g_if_eqB 11 dX4_lay_6 (by decide) (fun z => absurd z (by rw [decide_eq_true hz]; decide)) (fun c6 => ?_)
  refine g_iconst (v := nI 1) dX4_lay_9 (by decide +kernel) ?_
  exact g_iret dX4_lay_10 rfl ⟨Nat.zero_le _, Nat.zero_le _⟩ (⟨rfl, rfl⟩)

set_option maxRecDepth 100000 in
set_option maxHeartbeats 4000000 in
theorem ev_lay0 {h : List aC} {r n : Nat} {C : List Nat} {T : List Int32} (hR : RA h r n C T) (a b : Nat) (hn : n ≤ 13) (ha : a < n) (hb : b < n) (hC : ∀ i, i < 169 → C.getD i 0 < 196) (v : Nat) (hz : C.getD (a * n + b) 0 = 0) : Ev mX4_lay 3 0 0 [.ref r, .int (nI a), .int (nI b), .int (nI v)] h (pq (some (.int (nI 0))) (fun h2 => RA h2 r n (C.set (a * n + b) v) T ∧ Smo r (r + 2) h h2)) := by
  obtain ⟨-, -, -, lC, lT⟩ := id hR
  have z1 := pl_lt hn ha hb
  refine Ev.of pX4_lay (Nat.le_of_ble_eq_true rfl) ?_
  show G mX4_lay (rmD 3 0 0) none _ 0 0 0 [(0, .ref r), (1, .int (nI a)), (2, .int (nI b)), (3, .int (nI v))] [] h
  refine g_aload_n dX4_lay_0 0 rfl ?_
  refine g_iload_n dX4_lay_1 1 rfl ?_
  refine g_iload_n dX4_lay_2 2 rfl ?_
  refine g_callVp dX4_lay_3 (ev_isFilled hR (a) (b) hn (by omega) (by omega) hC) oX4_isFilled wiX4_isFilled weX4_isFilled wmX4_71 kX4 (hR.1) rfl ⟨(Nat.le_of_ble_eq_true rfl), (Nat.le_of_ble_eq_true rfl)⟩ ⟨Nat.zero_le _, Nat.zero_le _⟩ (Nat.le_of_ble_eq_true rfl) rfl ?_
  refine g_if_eqB 11 dX4_lay_6 (by decide) (fun c6 => ?_) (fun z => absurd z (by rw [decide_eq_false (not_not_intro hz)]; decide))
  refine g_aload_n dX4_lay_11 0 rfl ?_
  refine g_getf dX4_lay_12 kX4 wfX4_9 (Nat.le_of_ble_eq_true rfl) (hR.1) rfl ?_
  refine g_aload_n dX4_lay_15 0 rfl ?_
  refine g_iload_n dX4_lay_16 1 rfl ?_
  refine g_iload_n dX4_lay_17 2 rfl ?_
  refine g_callVp dX4_lay_18 (ev_placeOf hR (a) (b)) oX4_placeOf wiX4_placeOf weX4_placeOf wmX4_37 kX4 (hR.1) rfl ⟨(Nat.le_of_ble_eq_true rfl), (Nat.le_of_ble_eq_true rfl)⟩ ⟨Nat.zero_le _, Nat.zero_le _⟩ (Nat.le_of_ble_eq_true rfl) rfl ?_
  refine g_iload_n dX4_lay_21 3 rfl ?_
  refine g_iasN dX4_lay_22 (hR.2.1) (by omega) (by omega) (fun h1 e1 => ?_)
  have f1_r_1 : rd h1 (r + 1) = some (.inl (((C).set (a * n + b) v).map nI)) := by rw [e1]; exact rd_wr_eq (hR.2.1)
  have f1_r : rd h1 r = some (.inr (4, [.ref (r + 1), .ref (r + 2), .int (nI n)])) := by rw [e1, rd_wr_ne (by omega)]; exact hR.1
  have f1_r_2 : rd h1 (r + 2) = some (.inl (T)) := by rw [e1, rd_wr_ne (by omega)]; exact hR.2.2.1
  refine g_iconst (v := nI 0) dX4_lay_23 (by decide +kernel) ?_
  exact g_iret dX4_lay_24 rfl ⟨Nat.zero_le _, Nat.zero_le _⟩ (⟨rfl, ⟨f1_r, f1_r_1, f1_r_2, by simp [lC], lT⟩, (fun q hq => by rw [e1, rd_wr_ne (by omega)])⟩)

set_option maxRecDepth 100000 in
set_option maxHeartbeats 4000000 in
theorem lp_filled {h : List aC} {r n : Nat} {C : List Nat} {T : List Int32} (hR : RA h r n C T) (hn : n ≤ 13) (hC : ∀ i, i < 169 → C.getD i 0 < 196) : ∀ j k , k + j = n * n → G mX4_filled (rmD 2 0 0) none (pv (.int (nI (sumN (fun i => bI (decide (C.getD i 0 ≠ 0))) (n * n)))) h) 0 0 4 [(2, .int (nI k)), (1, .int (nI (sumN (fun i => bI (decide (C.getD i 0 ≠ 0))) k))), (0, .ref r)] [] h := by
  obtain ⟨-, -, -, lC, lT⟩ := id hR
  have z0 := sq_le hn
  intro j
  induction j with
  | zero =>
    intro k  hk 
    obtain rfl : k = n * n := by omega
    refine g_iload_n dX4_filled_4 0 rfl ?_
    refine g_aload_n dX4_filled_5 2 rfl ?_
    refine g_getf dX4_filled_6 kX4 wfX4_18 (Nat.le_of_ble_eq_true rfl) (hR.1) rfl ?_
    refine g_aload_n dX4_filled_9 2 rfl ?_
    refine g_getf dX4_filled_10 kX4 wfX4_18 (Nat.le_of_ble_eq_true rfl) (hR.1) rfl ?_
    refine g_imulN dX4_filled_13 ?_
    refine g_icmp_geN 43 dX4_filled_14 (by decide) (by omega) (by omega) (fun c14 => ?_) (fun z => absurd z (by omega))
    refine g_iload_n dX4_filled_43 1 rfl ?_
    exact g_iret dX4_filled_44 rfl ⟨Nat.zero_le _, Nat.zero_le _⟩ (⟨rfl, rfl⟩)
  | succ j ih =>
    intro k  hk 
    have z2 := hC k (by omega)
    have z3 := sumN_le (f := (fun i => bI (decide (C.getD i 0 ≠ 0)))) 1 k (fun i _ => bI_le _)
    refine g_iload_n dX4_filled_4 0 rfl ?_
    refine g_aload_n dX4_filled_5 2 rfl ?_
    refine g_getf dX4_filled_6 kX4 wfX4_18 (Nat.le_of_ble_eq_true rfl) (hR.1) rfl ?_
    refine g_aload_n dX4_filled_9 2 rfl ?_
    refine g_getf dX4_filled_10 kX4 wfX4_18 (Nat.le_of_ble_eq_true rfl) (hR.1) rfl ?_
    refine g_imulN dX4_filled_13 ?_
    refine g_icmp_geN 43 dX4_filled_14 (by decide) (by omega) (by omega) (fun z => absurd z (by omega)) (fun c14 => ?_)
    refine g_iload_n dX4_filled_17 1 rfl ?_
    refine g_aload_n dX4_filled_18 2 rfl ?_
    refine g_getf dX4_filled_19 kX4 wfX4_9 (Nat.le_of_ble_eq_true rfl) (hR.1) rfl ?_
    refine g_iload_n dX4_filled_22 0 rfl ?_
    refine g_ialN dX4_filled_23 (hR.2.1) (by omega) (by omega) ?_
    refine g_if_eqN 31 dX4_filled_24 (by decide) (by omega) (fun c24 => ?_) (fun c24 => ?_)
    · have hv : bI (decide (C.getD k 0 ≠ 0)) = 0 := by rw [c24]; rfl
      refine g_iconst (v := nI 0) dX4_filled_31 (by decide +kernel) ?_
      refine g_top (congrArg nI hv.symm) ?_
      refine g_callSNp dX4_filled_32 (ev_bit (decide (C.getD k 0 ≠ 0)) _) oX8_bit wsX8_bit wqX4_75 rfl ⟨(Nat.le_of_ble_eq_true rfl), (Nat.le_of_ble_eq_true rfl)⟩ ⟨Nat.zero_le _, Nat.zero_le _⟩ (Nat.le_of_ble_eq_true rfl) rfl ?_
      refine g_iaddN dX4_filled_35 ?_
      refine g_istore_n (ls' := [(1, .int (nI ((sumN (fun i => bI (decide (C.getD i 0 ≠ 0))) k) + (bI (decide (C.getD k 0 ≠ 0)))))), (2, .int (nI k)), (0, .ref r)]) dX4_filled_36 (Nat.le_of_ble_eq_true rfl) rfl ?_
      refine g_iinc (q := 1) (v := nI (k + 1)) (ls' := [(2, .int (nI (k + 1))), (1, .int (nI ((sumN (fun i => bI (decide (C.getD i 0 ≠ 0))) k) + (bI (decide (C.getD k 0 ≠ 0)))))), (0, .ref r)]) dX4_filled_37 rfl (inc1 _) (Nat.le_of_ble_eq_true rfl) rfl ?_
      refine g_goto 4 dX4_filled_40 (by decide) ?_
      exact ih (k + 1) (by omega)
    · have hv : bI (decide (C.getD k 0 ≠ 0)) = 1 := by rw [decide_eq_true (show C.getD k 0 ≠ 0 by omega)]; rfl
      refine g_iconst (v := nI 1) dX4_filled_27 (by decide +kernel) ?_
      refine g_goto 32 dX4_filled_28 (by decide) ?_
      refine g_top (congrArg nI hv.symm) ?_
      refine g_callSNp dX4_filled_32 (ev_bit (decide (C.getD k 0 ≠ 0)) _) oX8_bit wsX8_bit wqX4_75 rfl ⟨(Nat.le_of_ble_eq_true rfl), (Nat.le_of_ble_eq_true rfl)⟩ ⟨Nat.zero_le _, Nat.zero_le _⟩ (Nat.le_of_ble_eq_true rfl) rfl ?_
      refine g_iaddN dX4_filled_35 ?_
      refine g_istore_n (ls' := [(1, .int (nI ((sumN (fun i => bI (decide (C.getD i 0 ≠ 0))) k) + (bI (decide (C.getD k 0 ≠ 0)))))), (2, .int (nI k)), (0, .ref r)]) dX4_filled_36 (Nat.le_of_ble_eq_true rfl) rfl ?_
      refine g_iinc (q := 1) (v := nI (k + 1)) (ls' := [(2, .int (nI (k + 1))), (1, .int (nI ((sumN (fun i => bI (decide (C.getD i 0 ≠ 0))) k) + (bI (decide (C.getD k 0 ≠ 0)))))), (0, .ref r)]) dX4_filled_37 rfl (inc1 _) (Nat.le_of_ble_eq_true rfl) rfl ?_
      refine g_goto 4 dX4_filled_40 (by decide) ?_
      exact ih (k + 1) (by omega)

set_option maxRecDepth 100000 in
set_option maxHeartbeats 4000000 in
theorem ev_filled {h : List aC} {r n : Nat} {C : List Nat} {T : List Int32} (hR : RA h r n C T) (hn : n ≤ 13) (hC : ∀ i, i < 169 → C.getD i 0 < 196) : Ev mX4_filled 2 0 0 [.ref r] h (pv (.int (nI (sumN (fun i => bI (decide (C.getD i 0 ≠ 0))) (n * n)))) h) := by
  obtain ⟨-, -, -, lC, lT⟩ := id hR
  refine Ev.of pX4_filled (Nat.le_of_ble_eq_true rfl) ?_
  show G mX4_filled (rmD 2 0 0) none _ 0 0 0 [(0, .ref r)] [] h
  refine g_iconst (v := nI 0) dX4_filled_0 (by decide +kernel) ?_
  refine g_istore_n (ls' := [(1, .int (nI 0)), (0, .ref r)]) dX4_filled_1 (Nat.le_of_ble_eq_true rfl) rfl ?_
  refine g_iconst (v := nI 0) dX4_filled_2 (by decide +kernel) ?_
  refine g_istore_n (ls' := [(2, .int (nI 0)), (1, .int (nI 0)), (0, .ref r)]) dX4_filled_3 (Nat.le_of_ble_eq_true rfl) rfl ?_
  exact lp_filled hR hn hC (n * n) 0 (by omega)
