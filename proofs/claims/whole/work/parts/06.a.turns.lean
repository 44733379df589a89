abbrev Pr : Type := Nat × Nat × Nat
/-- the triple of a pair, read off its arrays -/
def fOf (F S A : List Nat) (k : Nat) : Pr := (F.getD k 0, S.getD k 0, A.getD k 0)
def bf (n m : Nat) (f : Nat → Pr) : Prop := ∀ k, k < m → (f k).1 < n ∧ (f k).2.1 < n ∧ (f k).2.2 < n
theorem bf.bnd {n m : Nat} {F S A : List Nat} {f : Nat → Pr} (b : bf n m f) (e : ∀ k, k < m → fOf F S A k = f k) : bnd n m F S A := fun k hk => by
  have h := b k hk
  rw [← e k hk] at h
  exact h
theorem bnd.bf {n m : Nat} {F S A : List Nat} (b : bnd n m F S A) : bf n m (fOf F S A) := b
/-- the cells of a Turns at t -/
def TA (h : List aC) (t a : Nat) (K U : List Nat) : Prop := rd h t = some (.inr (7, [.ref (t + 1), .ref (t + 2), .int (nI a)])) ∧ rd h (t + 1) = some (.inl (K.map nI)) ∧ rd h (t + 2) = some (.inl (U.map nI)) ∧ K.length = 6 ∧ U.length = 6
theorem TA.mv {h h' : List aC} {t a lo hi : Nat} {K U : List Nat} (H : TA h t a K U) (s : Smo lo hi h h') (hq : t + 3 ≤ lo ∨ hi ≤ t) : TA h' t a K U := ⟨by rw [s t (by omega)]; exact H.1, by rw [s (t + 1) (by omega)]; exact H.2.1, by rw [s (t + 2) (by omega)]; exact H.2.2.1, H.2.2.2⟩
def tOne (n m kind u : Nat) (f : Nat → Pr) (k : Nat) : Pr := match kind with
  | 0 => (u * (f k).1 % n, u * (f k).2.1 % n, u * (f k).2.2 % n)
  | 1 => ((n - (f k).1) % n, (n - (f k).2.1) % n, (n - (f k).2.2) % n)
  | 2 => f (m - 1 - k)
  | 3 => f ((k + u) % m)
  | 4 => if u % 2 = 1 then ((f k).2.1, (f k).1, (f k).2.2) else f k
  | _ => ((f k).1, (f k).2.1, (f ((k + u) % m)).2.2)
theorem tOne_bf {n m : Nat} (h0 : 0 < n) (kind u : Nat) {f : Nat → Pr} (b : bf n m f) : bf n m (tOne n m kind u f) := by
  intro k hk
  match kind with
  | 0 => exact ⟨Nat.mod_lt _ h0, Nat.mod_lt _ h0, Nat.mod_lt _ h0⟩
  | 1 => exact ⟨Nat.mod_lt _ h0, Nat.mod_lt _ h0, Nat.mod_lt _ h0⟩
  | 2 => exact b _ (by omega)
  | 3 => exact b _ (Nat.mod_lt _ (by omega))
  | 4 =>
    show (if u % 2 = 1 then ((f k).2.1, (f k).1, (f k).2.2) else f k).1 < n ∧ (if u % 2 = 1 then ((f k).2.1, (f k).1, (f k).2.2) else f k).2.1 < n ∧ (if u % 2 = 1 then ((f k).2.1, (f k).1, (f k).2.2) else f k).2.2 < n
    by_cases h : u % 2 = 1
    · rw [if_pos h]; exact ⟨(b k hk).2.1, (b k hk).1, (b k hk).2.2⟩
    · rw [if_neg h]; exact b k hk
  | _ + 5 => exact ⟨(b k hk).1, (b k hk).2.1, (b _ (Nat.mod_lt _ (by omega))).2.2⟩
theorem tOne_ext {n m : Nat} (kind u : Nat) {f g : Nat → Pr} (e : ∀ k, k < m → f k = g k) : ∀ k, k < m → tOne n m kind u f k = tOne n m kind u g k := by
  intro k hk
  match kind with
  | 0 => show (_, _, _) = (_, _, _); rw [e k hk]
  | 1 => show (_, _, _) = (_, _, _); rw [e k hk]
  | 2 => exact e _ (by omega)
  | 3 => exact e _ (Nat.mod_lt _ (by omega))
  | 4 => show (if u % 2 = 1 then _ else _) = (if u % 2 = 1 then _ else _); rw [e k hk]
  | _ + 5 => show (_, _, _) = (_, _, _); rw [e k hk, e _ (Nat.mod_lt (k + u) (show 0 < m by omega))]
theorem inv_step {m k : Nat} {f g f1 f2 : Nat → Pr} (H : ∀ i, i < m → f1 i = if i < k then g i else f i) (hne : ∀ i, i ≠ k → f2 i = f1 i) (he : k < m → f2 k = g k) : ∀ i, i < m → f2 i = if i < k + 1 then g i else f i := by
  intro i hi
  by_cases h : i = k
  · subst h
    rw [he hi, if_pos (by omega)]
  · rw [hne i h, H i hi]
    by_cases h2 : i < k
    · rw [if_pos h2, if_pos (by omega)]
    · rw [if_neg h2, if_neg (by omega)]
theorem fOf_ne {F S A : List Nat} {k i x y z : Nat} (h : i ≠ k) : fOf (F.set k x) (S.set k y) (A.set k z) i = fOf F S A i := by
  unfold fOf
  rw [getD_set_ne (fun q => h q.symm), getD_set_ne (fun q => h q.symm), getD_set_ne (fun q => h q.symm)]
theorem fOf_eq {F S A : List Nat} {k x y z : Nat} (h1 : k < F.length) (h2 : k < S.length) (h3 : k < A.length) : fOf (F.set k x) (S.set k y) (A.set k z) k = (x, y, z) := by
  unfold fOf
  rw [getD_set_eq h1, getD_set_eq h2, getD_set_eq h3]
theorem xF {F S A : List Nat} {k : Nat} {v : Pr} (x : fOf F S A k = v) : F.getD k 0 = v.1 := by rw [← x]; rfl
theorem xS {F S A : List Nat} {k : Nat} {v : Pr} (x : fOf F S A k = v) : S.getD k 0 = v.2.1 := by rw [← x]; rfl
theorem xA {F S A : List Nat} {k : Nat} {v : Pr} (x : fOf F S A k = v) : A.getD k 0 = v.2.2 := by rw [← x]; rfl
theorem fm_m1' : ∀ n, n < 14 → ∀ a, a < n → fm ((-1) * nI a) n = (n - a) % n := by decide +kernel

set_option maxRecDepth 100000 in
set_option maxHeartbeats 4000000 in
theorem ev_takeOver {h : List aC} {p n m : Nat} {F S A : List Nat} (hP : PA h p n m F S A) {p2 n2 m2 : Nat} {F2 S2 A2 : List Nat} (hP2 : PA h p2 n2 m2 F2 S2 A2) (hd : p + 4 ≤ p2 ∨ p2 + 4 ≤ p) (k o : Nat) (hk : k < 6) (ho : o < 6) : Ev mX7_takeOver 1 0 0 [.ref p, .int (nI k), .ref p2, .int (nI o)] h (pq none (fun h2 => PA h2 p n m (F.set k (F2.getD o 0)) (S.set k (S2.getD o 0)) (A.set k (A2.getD o 0)) ∧ Smo p (p + 4) h h2)) := by
  obtain ⟨-, -, -, -, lF, lS, lA⟩ := id hP
  obtain ⟨-, -, -, -, kF, kS, kA⟩ := id hP2
  refine Ev.of pX7_takeOver (Nat.le_of_ble_eq_true rfl) ?_
  show G mX7_takeOver (rmD 1 0 0) none _ 0 0 0 [(0, .ref p), (1, .int (nI k)), (2, .ref p2), (3, .int (nI o))] [] h
  refine g_aload_n dX7_takeOver_0 0 rfl ?_
  refine g_getf dX7_takeOver_1 kX3 wfX7_53 (Nat.le_of_ble_eq_true rfl) (hP.1) rfl ?_
  refine g_iload_n dX7_takeOver_4 1 rfl ?_
  refine g_aload_n dX7_takeOver_5 2 rfl ?_
  refine g_getf dX7_takeOver_6 kX3 wfX7_53 (Nat.le_of_ble_eq_true rfl) (hP2.1) rfl ?_
  refine g_iload_n dX7_takeOver_9 3 rfl ?_
  refine g_ialN dX7_takeOver_10 (hP2.2.1) (by omega) (by omega) ?_
  refine g_iasN dX7_takeOver_11 (hP.2.1) (by omega) (by omega) (fun h1 e1 => ?_)
  have f1_p_1 : rd h1 (p + 1) = some (.inl (((F).set k ((F2).getD o 0)).map nI)) := by rw [e1]; exact rd_wr_eq (hP.2.1)
  have f1_p : rd h1 p = some (.inr (3, [.ref (p + 1), .ref (p + 2), .ref (p + 3), .int (nI n), .int (nI m)])) := by rw [e1, rd_wr_ne (by omega)]; exact hP.1
  have f1_p2 : rd h1 p2 = some (.inr (3, [.ref (p2 + 1), .ref (p2 + 2), .ref (p2 + 3), .int (nI n2), .int (nI m2)])) := by rw [e1, rd_wr_ne (by omega)]; exact hP2.1
  have f1_p_2 : rd h1 (p + 2) = some (.inl ((S).map nI)) := by rw [e1, rd_wr_ne (by omega)]; exact hP.2.2.1
  have f1_p_3 : rd h1 (p + 3) = some (.inl ((A).map nI)) := by rw [e1, rd_wr_ne (by omega)]; exact hP.2.2.2.1
  have f1_p2_1 : rd h1 (p2 + 1) = some (.inl ((F2).map nI)) := by rw [e1, rd_wr_ne (by omega)]; exact hP2.2.1
  have f1_p2_2 : rd h1 (p2 + 2) = some (.inl ((S2).map nI)) := by rw [e1, rd_wr_ne (by omega)]; exact hP2.2.2.1
  have f1_p2_3 : rd h1 (p2 + 3) = some (.inl ((A2).map nI)) := by rw [e1, rd_wr_ne (by omega)]; exact hP2.2.2.2.1
  refine g_aload_n dX7_takeOver_12 0 rfl ?_
  refine g_getf dX7_takeOver_13 kX3 wfX7_63 (Nat.le_of_ble_eq_true rfl) (f1_p) rfl ?_
  refine g_iload_n dX7_takeOver_16 1 rfl ?_
  refine g_aload_n dX7_takeOver_17 2 rfl ?_
  refine g_getf dX7_takeOver_18 kX3 wfX7_63 (Nat.le_of_ble_eq_true rfl) (f1_p2) rfl ?_
  refine g_iload_n dX7_takeOver_21 3 rfl ?_
  refine g_ialN dX7_takeOver_22 (f1_p2_2) (by omega) (by omega) ?_
  refine g_iasN dX7_takeOver_23 (f1_p_2) (by omega) (by omega) (fun h2 e2 => ?_)
  have f2_p_2 : rd h2 (p + 2) = some (.inl (((S).set k ((S2).getD o 0)).map nI)) := by rw [e2]; exact rd_wr_eq (f1_p_2)
  have f2_p : rd h2 p = some (.inr (3, [.ref (p + 1), .ref (p + 2), .ref (p + 3), .int (nI n), .int (nI m)])) := by rw [e2, rd_wr_ne (by omega)]; exact f1_p
  have f2_p2 : rd h2 p2 = some (.inr (3, [.ref (p2 + 1), .ref (p2 + 2), .ref (p2 + 3), .int (nI n2), .int (nI m2)])) := by rw [e2, rd_wr_ne (by omega)]; exact f1_p2
  have f2_p_1 : rd h2 (p + 1) = some (.inl (((F).set k ((F2).getD o 0)).map nI)) := by rw [e2, rd_wr_ne (by omega)]; exact f1_p_1
  have f2_p_3 : rd h2 (p + 3) = some (.inl ((A).map nI)) := by rw [e2, rd_wr_ne (by omega)]; exact f1_p_3
  have f2_p2_1 : rd h2 (p2 + 1) = some (.inl ((F2).map nI)) := by rw [e2, rd_wr_ne (by omega)]; exact f1_p2_1
  have f2_p2_2 : rd h2 (p2 + 2) = some (.inl ((S2).map nI)) := by rw [e2, rd_wr_ne (by omega)]; exact f1_p2_2
  have f2_p2_3 : rd h2 (p2 + 3) = some (.inl ((A2).map nI)) := by rw [e2, rd_wr_ne (by omega)]; exact f1_p2_3
  refine g_aload_n dX7_takeOver_24 0 rfl ?_
  refine g_getf dX7_takeOver_25 kX3 wfX7_66 (Nat.le_of_ble_eq_true rfl) (f2_p) rfl ?_
  refine g_iload_n dX7_takeOver_28 1 rfl ?_
  refine g_aload_n dX7_takeOver_29 2 rfl ?_
  refine g_getf dX7_takeOver_30 kX3 wfX7_66 (Nat.le_of_ble_eq_true rfl) (f2_p2) rfl ?_
  refine g_iload_n dX7_takeOver_33 3 rfl ?_
  refine g_ialN dX7_takeOver_34 (f2_p2_3) (by omega) (by omega) ?_
  refine g_iasN dX7_takeOver_35 (f2_p_3) (by omega) (by omega) (fun h3 e3 => ?_)
  have f3_p_3 : rd h3 (p + 3) = some (.inl (((A).set k ((A2).getD o 0)).map nI)) := by rw [e3]; exact rd_wr_eq (f2_p_3)
  have f3_p : rd h3 p = some (.inr (3, [.ref (p + 1), .ref (p + 2), .ref (p + 3), .int (nI n), .int (nI m)])) := by rw [e3, rd_wr_ne (by omega)]; exact f2_p
  have f3_p2 : rd h3 p2 = some (.inr (3, [.ref (p2 + 1), .ref (p2 + 2), .ref (p2 + 3), .int (nI n2), .int (nI m2)])) := by rw [e3, rd_wr_ne (by omega)]; exact f2_p2
  have f3_p_1 : rd h3 (p + 1) = some (.inl (((F).set k ((F2).getD o 0)).map nI)) := by rw [e3, rd_wr_ne (by omega)]; exact f2_p_1
  have f3_p_2 : rd h3 (p + 2) = some (.inl (((S).set k ((S2).getD o 0)).map nI)) := by rw [e3, rd_wr_ne (by omega)]; exact f2_p_2
  have f3_p2_1 : rd h3 (p2 + 1) = some (.inl ((F2).map nI)) := by rw [e3, rd_wr_ne (by omega)]; exact f2_p2_1
  have f3_p2_2 : rd h3 (p2 + 2) = some (.inl ((S2).map nI)) := by rw [e3, rd_wr_ne (by omega)]; exact f2_p2_2
  have f3_p2_3 : rd h3 (p2 + 3) = some (.inl ((A2).map nI)) := by rw [e3, rd_wr_ne (by omega)]; exact f2_p2_3
  exact g_vret dX7_takeOver_36 rfl ⟨Nat.zero_le _, Nat.zero_le _⟩ (⟨rfl, ⟨f3_p, f3_p_1, f3_p_2, f3_p_3, by simp [lF], by simp [lS], by simp [lA]⟩, (fun q hq => by rw [e3, rd_wr_ne (by omega), e2, rd_wr_ne (by omega), e1, rd_wr_ne (by omega)])⟩)

set_option maxRecDepth 100000 in
set_option maxHeartbeats 4000000 in
theorem lp_mul {h0 : List aC} {p n m : Nat} {f : Nat → Pr} (hm : m ≤ 6) (hn : n ≤ 13) (h0n : 0 < n) (hb : bf n m f) (w : Int32) (mu : Nat → Nat) (hw : ∀ a, a < n → fm (w * nI a) n = mu a) : ∀ j k (h : List aC) (F S A : List Nat), k + j = m → PA h p n m F S A → (∀ i, i < m → fOf F S A i = if i < k then (fun i => (mu (f i).1, mu (f i).2.1, mu (f i).2.2)) i else f i) → Smo p (p + 4) h0 h → G mX7_multiply (rmD 3 0 0) none (pq none (fun h2 => ∃ F S A, PA h2 p n m F S A ∧ (∀ i, i < m → fOf F S A i = (fun i => (mu (f i).1, mu (f i).2.1, mu (f i).2.2)) i) ∧ Smo p (p + 4) h0 h2)) 0 0 2 [(2, .int (nI k)), (0, .ref p), (1, .int w)] [] h := by
  intro j
  induction j with
  | zero =>
    intro k h F S A hk hP hI hS
    obtain ⟨-, -, -, -, lF, lS, lA⟩ := id hP
    refine g_iload_n dX7_multiply_2 0 rfl ?_
    refine g_aload_n dX7_multiply_3 1 rfl ?_
    refine g_getf dX7_multiply_4 kX3 wfX7_50 (Nat.le_of_ble_eq_true rfl) (hP.1) rfl ?_
    refine g_icmp_geN 79 dX7_multiply_7 (by decide) (by omega) (by omega) (fun c7 => ?_) (fun z => absurd z (by omega))
    exact g_vret dX7_multiply_79 rfl ⟨Nat.zero_le _, Nat.zero_le _⟩ (⟨rfl, F, S, A, hP, fun i hi => by rw [hI i hi, if_pos (by omega)], hS⟩)
  | succ j ih =>
    intro k h F S A hk hP hI hS
    obtain ⟨-, -, -, -, lF, lS, lA⟩ := id hP
    have x1 := hI k (by omega)
    rw [if_neg (Nat.lt_irrefl k)] at x1
    obtain ⟨bF, bS, bA⟩ := hb k (by omega)
    rw [← x1] at bF bS bA
    simp only [fOf] at bF bS bA
    refine g_iload_n dX7_multiply_2 0 rfl ?_
    refine g_aload_n dX7_multiply_3 1 rfl ?_
    refine g_getf dX7_multiply_4 kX3 wfX7_50 (Nat.le_of_ble_eq_true rfl) (hP.1) rfl ?_
    refine g_icmp_geN 79 dX7_multiply_7 (by decide) (by omega) (by omega) (fun z => absurd z (by omega)) (fun c7 => ?_)
    refine g_aload_n dX7_multiply_10 1 rfl ?_
    refine g_getf dX7_multiply_11 kX3 wfX7_53 (Nat.le_of_ble_eq_true rfl) (hP.1) rfl ?_
    refine g_iload_n dX7_multiply_14 0 rfl ?_
    refine g_iload_n dX7_multiply_15 2 rfl ?_
    refine g_aload_n dX7_multiply_16 1 rfl ?_
    refine g_getf dX7_multiply_17 kX3 wfX7_53 (Nat.le_of_ble_eq_true rfl) (hP.1) rfl ?_
    refine g_iload_n dX7_multiply_20 0 rfl ?_
    refine g_ialN dX7_multiply_21 (hP.2.1) (by omega) (by omega) ?_
    refine g_imul dX7_multiply_22 ?_
    refine g_aload_n dX7_multiply_23 1 rfl ?_
    refine g_getf dX7_multiply_24 kX3 wfX7_56 (Nat.le_of_ble_eq_true rfl) (hP.1) rfl ?_
    refine g_callSNp dX7_multiply_27 (by have e := ev_wrap (w * nI (F.getD k 0)) n (by omega) (by omega) h; rw [hw _ (by omega)] at e; exact e) oX8_wrap wsX8_wrap wqX7_59 rfl ⟨(Nat.le_of_ble_eq_true rfl), (Nat.le_of_ble_eq_true rfl)⟩ ⟨Nat.zero_le _, Nat.zero_le _⟩ (Nat.le_of_ble_eq_true rfl) rfl ?_
    refine g_iasN dX7_multiply_30 (hP.2.1) (by omega) (by omega) (fun h1 e1 => ?_)
    have f1_p_1 : rd h1 (p + 1) = some (.inl (((F).set k (mu (F.getD k 0))).map nI)) := by rw [e1]; exact rd_wr_eq (hP.2.1)
    have f1_p : rd h1 p = some (.inr (3, [.ref (p + 1), .ref (p + 2), .ref (p + 3), .int (nI n), .int (nI m)])) := by rw [e1, rd_wr_ne (by omega)]; exact hP.1
    have f1_p_2 : rd h1 (p + 2) = some (.inl ((S).map nI)) := by rw [e1, rd_wr_ne (by omega)]; exact hP.2.2.1
    have f1_p_3 : rd h1 (p + 3) = some (.inl ((A).map nI)) := by rw [e1, rd_wr_ne (by omega)]; exact hP.2.2.2.1
    refine g_aload_n dX7_multiply_31 1 rfl ?_
    refine g_getf dX7_multiply_32 kX3 wfX7_63 (Nat.le_of_ble_eq_true rfl) (f1_p) rfl ?_
    refine g_iload_n dX7_multiply_35 0 rfl ?_
    refine g_iload_n dX7_multiply_36 2 rfl ?_
    refine g_aload_n dX7_multiply_37 1 rfl ?_
    refine g_getf dX7_multiply_38 kX3 wfX7_63 (Nat.le_of_ble_eq_true rfl) (f1_p) rfl ?_
    refine g_iload_n dX7_multiply_41 0 rfl ?_
    refine g_ialN dX7_multiply_42 (f1_p_2) (by omega) (by omega) ?_
    refine g_imul dX7_multiply_43 ?_
    refine g_aload_n dX7_multiply_44 1 rfl ?_
    refine g_getf dX7_multiply_45 kX3 wfX7_56 (Nat.le_of_ble_eq_true rfl) (f1_p) rfl ?_
    refine g_callSNp dX7_multiply_48 (by have e := ev_wrap (w * nI (S.getD k 0)) n (by omega) (by omega) h1; rw [hw _ (by omega)] at e; exact e) oX8_wrap wsX8_wrap wqX7_59 rfl ⟨(Nat.le_of_ble_eq_true rfl), (Nat.le_of_ble_eq_true rfl)⟩ ⟨Nat.zero_le _, Nat.zero_le _⟩ (Nat.le_of_ble_eq_true rfl) rfl ?_
    refine g_iasN dX7_multiply_51 (f1_p_2) (by omega) (by omega) (fun h2 e2 => ?_)
    have f2_p_2 : rd h2 (p + 2) = some (.inl (((S).set k (mu (S.getD k 0))).map nI)) := by rw [e2]; exact rd_wr_eq (f1_p_2)
    have f2_p : rd h2 p = some (.inr (3, [.ref (p + 1), .ref (p + 2), .ref (p + 3), .int (nI n), .int (nI m)])) := by rw [e2, rd_wr_ne (by omega)]; exact f1_p
    have f2_p_1 : rd h2 (p + 1) = some (.inl (((F).set k (mu (F.getD k 0))).map nI)) := by rw [e2, rd_wr_ne (by omega)]; exact f1_p_1
    have f2_p_3 : rd h2 (p + 3) = some (.inl ((A).map nI)) := by rw [e2, rd_wr_ne (by omega)]; exact f1_p_3
    refine g_aload_n dX7_multiply_52 1 rfl ?_
    refine g_getf dX7_multiply_53 kX3 wfX7_66 (Nat.le_of_ble_eq_true rfl) (f2_p) rfl ?_
    refine g_iload_n dX7_multiply_56 0 rfl ?_
    refine g_iload_n dX7_multiply_57 2 rfl ?_
    refine g_aload_n dX7_multiply_58 1 rfl ?_
    refine g_getf dX7_multiply_59 kX3 wfX7_66 (Nat.le_of_ble_eq_true rfl) (f2_p) rfl ?_
    refine g_iload_n dX7_multiply_62 0 rfl ?_
    refine g_ialN dX7_multiply_63 (f2_p_3) (by omega) (by omega) ?_
    refine g_imul dX7_multiply_64 ?_
    refine g_aload_n dX7_multiply_65 1 rfl ?_
    refine g_getf dX7_multiply_66 kX3 wfX7_56 (Nat.le_of_ble_eq_true rfl) (f2_p) rfl ?_
    refine g_callSNp dX7_multiply_69 (by have e := ev_wrap (w * nI (A.getD k 0)) n (by omega) (by omega) h2; rw [hw _ (by omega)] at e; exact e) oX8_wrap wsX8_wrap wqX7_59 rfl ⟨(Nat.le_of_ble_eq_true rfl), (Nat.le_of_ble_eq_true rfl)⟩ ⟨Nat.zero_le _, Nat.zero_le _⟩ (Nat.le_of_ble_eq_true rfl) rfl ?_
    refine g_iasN dX7_multiply_72 (f2_p_3) (by omega) (by omega) (fun h3 e3 => ?_)
    have f3_p_3 : rd h3 (p + 3) = some (.inl (((A).set k (mu (A.getD k 0))).map nI)) := by rw [e3]; exact rd_wr_eq (f2_p_3)
    have f3_p : rd h3 p = some (.inr (3, [.ref (p + 1), .ref (p + 2), .ref (p + 3), .int (nI n), .int (nI m)])) := by rw [e3, rd_wr_ne (by omega)]; exact f2_p
    have f3_p_1 : rd h3 (p + 1) = some (.inl (((F).set k (mu (F.getD k 0))).map nI)) := by rw [e3, rd_wr_ne (by omega)]; exact f2_p_1
    have f3_p_2 : rd h3 (p + 2) = some (.inl (((S).set k (mu (S.getD k 0))).map nI)) := by rw [e3, rd_wr_ne (by omega)]; exact f2_p_2
    refine g_iinc (q := 0) (v := nI (k + 1)) (ls' := [(2, .int (nI (k + 1))), (0, .ref p), (1, .int w)]) dX7_multiply_73 rfl (inc1 _) (Nat.le_of_ble_eq_true rfl) rfl ?_
    refine g_goto 2 dX7_multiply_76 (by decide) ?_
    exact ih (k + 1) h3 _ _ _ (by omega) ⟨f3_p, f3_p_1, f3_p_2, f3_p_3, by simp [lF], by simp [lS], by simp [lA]⟩ (inv_step hI (fun i hi => fOf_ne hi) (fun _ => by rw [fOf_eq (by omega) (by omega) (by omega), ← x1]; rfl)) (hS.tr (fun q hq => by rw [e3, rd_wr_ne (by omega), e2, rd_wr_ne (by omega), e1, rd_wr_ne (by omega)]))

set_option maxRecDepth 100000 in
set_option maxHeartbeats 4000000 in
theorem ev_mul {h : List aC} {p n m : Nat} {F S A : List Nat} (hP : PA h p n m F S A) {f : Nat → Pr} (hf : ∀ i, i < m → fOf F S A i = f i) (hm : m ≤ 6) (hn : n ≤ 13) (h0n : 0 < n) (hb : bf n m f) (w : Int32) (mu : Nat → Nat) (hw : ∀ a, a < n → fm (w * nI a) n = mu a) : Ev mX7_multiply 3 0 0 [.ref p, .int w] h ((pq none (fun h2 => ∃ F S A, PA h2 p n m F S A ∧ (∀ i, i < m → fOf F S A i = (fun i => (mu (f i).1, mu (f i).2.1, mu (f i).2.2)) i) ∧ Smo p (p + 4) h h2))) := by
  obtain ⟨-, -, -, -, lF, lS, lA⟩ := id hP
  refine Ev.of pX7_multiply (Nat.le_of_ble_eq_true rfl) ?_
  show G mX7_multiply (rmD 3 0 0) none _ 0 0 0 [(0, .ref p), (1, .int w)] [] h
  refine g_iconst (v := nI 0) dX7_multiply_0 (by decide +kernel) ?_
  refine g_istore_n (ls' := [(2, .int (nI 0)), (0, .ref p), (1, .int w)]) dX7_multiply_1 (Nat.le_of_ble_eq_true rfl) rfl ?_
  exact lp_mul hm hn h0n hb w mu hw m 0 h F S A (by omega) hP (fun i hi => by rw [if_neg (Nat.not_lt_zero i)]; exact hf i hi) Smo.rf

set_option maxRecDepth 100000 in
set_option maxHeartbeats 4000000 in
theorem lp_rev {h0 : List aC} {p n m : Nat} {f : Nat → Pr} (hm : m ≤ 6) (hn : n ≤ 13) (h0n : 0 < n) (hb : bf n m f) {F2 S2 A2 : List Nat} (h2f : ∀ i, i < m → fOf F2 S2 A2 i = f i) : ∀ j k (h : List aC) (F S A : List Nat), k + j = m → PA h (p + 4) n m F2 S2 A2 → PA h p n m F S A → (∀ i, i < m → fOf F S A i = if i < k then (fun i => f (m - 1 - i)) i else f i) → Smo p (p + 4) h0 h → G mX7_reverse (rmD 3 0 0) none (pq none (fun h2 => ∃ F S A, PA h2 p n m F S A ∧ (∀ i, i < m → fOf F S A i = (fun i => f (m - 1 - i)) i) ∧ PA h2 (p + 4) n m F2 S2 A2 ∧ Smo p (p + 4) h0 h2)) 0 0 7 [(2, .int (nI k)), (0, .ref p), (1, .ref (p + 4))] [] h := by
  intro j
  induction j with
  | zero =>
    intro k h F S A hk hP2 hP hI hS
    obtain ⟨-, -, -, -, lF, lS, lA⟩ := id hP
    obtain ⟨-, -, -, -, kF, kS, kA⟩ := id hP2
    refine g_iload_n dX7_reverse_7 0 rfl ?_
    refine g_aload_n dX7_reverse_8 1 rfl ?_
    refine g_getf dX7_reverse_9 kX3 wfX7_50 (Nat.le_of_ble_eq_true rfl) (hP.1) rfl ?_
    refine g_icmp_geN 35 dX7_reverse_12 (by decide) (by omega) (by omega) (fun c12 => ?_) (fun z => absurd z (by omega))
    exact g_vret dX7_reverse_35 rfl ⟨Nat.zero_le _, Nat.zero_le _⟩ (⟨rfl, F, S, A, hP, fun i hi => by rw [hI i hi, if_pos (by omega)], hP2, hS⟩)
  | succ j ih =>
    intro k h F S A hk hP2 hP hI hS
    obtain ⟨-, -, -, -, lF, lS, lA⟩ := id hP
    obtain ⟨-, -, -, -, kF, kS, kA⟩ := id hP2
    have x1 := h2f (m - 1 - k) (by omega)
    refine g_iload_n dX7_reverse_7 0 rfl ?_
    refine g_aload_n dX7_reverse_8 1 rfl ?_
    refine g_getf dX7_reverse_9 kX3 wfX7_50 (Nat.le_of_ble_eq_true rfl) (hP.1) rfl ?_
    refine g_icmp_geN 35 dX7_reverse_12 (by decide) (by omega) (by omega) (fun z => absurd z (by omega)) (fun c12 => ?_)
    refine g_aload_n dX7_reverse_15 1 rfl ?_
    refine g_iload_n dX7_reverse_16 0 rfl ?_
    refine g_aload_n dX7_reverse_17 2 rfl ?_
    refine g_aload_n dX7_reverse_18 1 rfl ?_
    refine g_getf dX7_reverse_19 kX3 wfX7_50 (Nat.le_of_ble_eq_true rfl) (hP.1) rfl ?_
    refine g_iconst (v := nI 1) dX7_reverse_22 (by decide +kernel) ?_
    refine g_isubN dX7_reverse_23 (by omega) ?_
    refine g_iload_n dX7_reverse_24 0 rfl ?_
    refine g_isubN dX7_reverse_25 (by omega) ?_
    refine g_callSq (st1 := []) dX7_reverse_26 (ev_takeOver hP hP2 (by omega) (k) ((m - 1) - k) (by omega) (by omega)) oX7_takeOver wsX7_takeOver wmX7_73 rfl ⟨(Nat.le_of_ble_eq_true rfl), (Nat.le_of_ble_eq_true rfl)⟩ ⟨Nat.zero_le _, Nat.zero_le _⟩ (Nat.le_of_ble_eq_true rfl) rfl rfl (fun h1 q1 => ?_)
    obtain ⟨q1a, q1s⟩ := q1
    have b1_p_4 := hP2.mv q1s (by omega)
    refine g_iinc (q := 0) (v := nI (k + 1)) (ls' := [(2, .int (nI (k + 1))), (0, .ref p), (1, .ref (p + 4))]) dX7_reverse_29 rfl (inc1 _) (Nat.le_of_ble_eq_true rfl) rfl ?_
    refine g_goto 7 dX7_reverse_32 (by decide) ?_
    exact ih (k + 1) h1 _ _ _ (by omega) b1_p_4 q1a (inv_step hI (fun i hi => fOf_ne hi) (fun _ => by rw [fOf_eq (by omega) (by omega) (by omega)]; exact x1)) (hS.tr (fun q hq => by rw [q1s q (by omega)]))

set_option maxRecDepth 100000 in
set_option maxHeartbeats 4000000 in
theorem lp_rot {h0 : List aC} {p n m : Nat} {f : Nat → Pr} (hm : m ≤ 6) (hn : n ≤ 13) (h0n : 0 < n) (hb : bf n m f) {F2 S2 A2 : List Nat} (h2f : ∀ i, i < m → fOf F2 S2 A2 i = f i) (u : Nat) (hu : u ≤ 12) : ∀ j k (h : List aC) (F S A : List Nat), k + j = m → PA h (p + 4) n m F2 S2 A2 → PA h p n m F S A → (∀ i, i < m → fOf F S A i = if i < k then (fun i => f ((i + u) % m)) i else f i) → Smo p (p + 4) h0 h → G mX7_rotate (rmD 3 0 0) none (pq none (fun h2 => ∃ F S A, PA h2 p n m F S A ∧ (∀ i, i < m → fOf F S A i = (fun i => f ((i + u) % m)) i) ∧ PA h2 (p + 4) n m F2 S2 A2 ∧ Smo p (p + 4) h0 h2)) 0 0 7 [(3, .int (nI k)), (0, .ref p), (1, .ref (p + 4)), (2, .int (nI u))] [] h := by
  intro j
  induction j with
  | zero =>
    intro k h F S A hk hP2 hP hI hS
    obtain ⟨-, -, -, -, lF, lS, lA⟩ := id hP
    obtain ⟨-, -, -, -, kF, kS, kA⟩ := id hP2
    refine g_iload_n dX7_rotate_7 0 rfl ?_
    refine g_aload_n dX7_rotate_8 1 rfl ?_
    refine g_getf dX7_rotate_9 kX3 wfX7_50 (Nat.le_of_ble_eq_true rfl) (hP.1) rfl ?_
    refine g_icmp_geN 37 dX7_rotate_12 (by decide) (by omega) (by omega) (fun c12 => ?_) (fun z => absurd z (by omega))
    exact g_vret dX7_rotate_37 rfl ⟨Nat.zero_le _, Nat.zero_le _⟩ (⟨rfl, F, S, A, hP, fun i hi => by rw [hI i hi, if_pos (by omega)], hP2, hS⟩)
  | succ j ih =>
    intro k h F S A hk hP2 hP hI hS
    obtain ⟨-, -, -, -, lF, lS, lA⟩ := id hP
    obtain ⟨-, -, -, -, kF, kS, kA⟩ := id hP2
    have z1 := Nat.mod_lt (k + u) (show 0 < m by omega)
    have x1 := h2f ((k + u) % m) z1
    refine g_iload_n dX7_rotate_7 0 rfl ?_
    refine g_aload_n dX7_rotate_8 1 rfl ?_
    refine g_getf dX7_rotate_9 kX3 wfX7_50 (Nat.le_of_ble_eq_true rfl) (hP.1) rfl ?_
    refine g_icmp_geN 37 dX7_rotate_12 (by decide) (by omega) (by omega) (fun z => absurd z (by omega)) (fun c12 => ?_)
    refine g_aload_n dX7_rotate_15 1 rfl ?_
    refine g_iload_n dX7_rotate_16 0 rfl ?_
    refine g_aload_n dX7_rotate_17 2 rfl ?_
    refine g_iload_n dX7_rotate_18 0 rfl ?_
    refine g_iload_n dX7_rotate_19 3 rfl ?_
    refine g_iaddN dX7_rotate_20 ?_
    refine g_aload_n dX7_rotate_21 1 rfl ?_
    refine g_getf dX7_rotate_22 kX3 wfX7_50 (Nat.le_of_ble_eq_true rfl) (hP.1) rfl ?_
    refine g_callSNp dX7_rotate_25 (ev_wrapN (k + u) (m) (by omega) (by omega) (by omega) _) oX8_wrap wsX8_wrap wqX7_59 rfl ⟨(Nat.le_of_ble_eq_true rfl), (Nat.le_of_ble_eq_true rfl)⟩ ⟨Nat.zero_le _, Nat.zero_le _⟩ (Nat.le_of_ble_eq_true rfl) rfl ?_
    refine g_callSq (st1 := []) dX7_rotate_28 (ev_takeOver hP hP2 (by omega) (k) ((k + u) % m) (by omega) (by omega)) oX7_takeOver wsX7_takeOver wmX7_73 rfl ⟨(Nat.le_of_ble_eq_true rfl), (Nat.le_of_ble_eq_true rfl)⟩ ⟨Nat.zero_le _, Nat.zero_le _⟩ (Nat.le_of_ble_eq_true rfl) rfl rfl (fun h1 q1 => ?_)
    obtain ⟨q1a, q1s⟩ := q1
    have b1_p_4 := hP2.mv q1s (by omega)
    refine g_iinc (q := 0) (v := nI (k + 1)) (ls' := [(3, .int (nI (k + 1))), (0, .ref p), (1, .ref (p + 4)), (2, .int (nI u))]) dX7_rotate_31 rfl (inc1 _) (Nat.le_of_ble_eq_true rfl) rfl ?_
    refine g_goto 7 dX7_rotate_34 (by decide) ?_
    exact ih (k + 1) h1 _ _ _ (by omega) b1_p_4 q1a (inv_step hI (fun i hi => fOf_ne hi) (fun _ => by rw [fOf_eq (by omega) (by omega) (by omega)]; exact x1)) (hS.tr (fun q hq => by rw [q1s q (by omega)]))

set_option maxRecDepth 100000 in
set_option maxHeartbeats 4000000 in
theorem lp_swap {h0 : List aC} {p n m : Nat} {f : Nat → Pr} (hm : m ≤ 6) (hn : n ≤ 13) (h0n : 0 < n) (hb : bf n m f) {u : Nat} {F2 S2 A2 : List Nat} (h2f : ∀ i, i < m → fOf F2 S2 A2 i = f i) : ∀ j k (h : List aC) (F S A : List Nat), k + j = m → PA h (p + 4) n m F2 S2 A2 → PA h p n m F S A → (∀ i, i < m → fOf F S A i = if i < k then (fun i => ((f i).2.1, (f i).1, (f i).2.2)) i else f i) → Smo p (p + 4) h0 h → G mX7_swap (rmD 3 0 0) none (pq none (fun h2 => ∃ F S A, PA h2 p n m F S A ∧ (∀ i, i < m → fOf F S A i = (fun i => ((f i).2.1, (f i).1, (f i).2.2)) i) ∧ PA h2 (p + 4) n m F2 S2 A2 ∧ Smo p (p + 4) h0 h2)) 0 0 14 [(3, .int (nI k)), (0, .ref p), (1, .ref (p + 4)), (2, .int (nI u))] [] h := by
  intro j
  induction j with
  | zero =>
    intro k h F S A hk hP2 hP hI hS
    obtain ⟨-, -, -, -, lF, lS, lA⟩ := id hP
    obtain ⟨-, -, -, -, kF, kS, kA⟩ := id hP2
    refine g_iload_n dX7_swap_14 0 rfl ?_
    refine g_aload_n dX7_swap_15 1 rfl ?_
    refine g_getf dX7_swap_16 kX3 wfX7_50 (Nat.le_of_ble_eq_true rfl) (hP.1) rfl ?_
    refine g_icmp_geN 52 dX7_swap_19 (by decide) (by omega) (by omega) (fun c19 => ?_) (fun z => absurd z (by omega))
    exact g_vret dX7_swap_52 rfl ⟨Nat.zero_le _, Nat.zero_le _⟩ (⟨rfl, F, S, A, hP, fun i hi => by rw [hI i hi, if_pos (by omega)], hP2, hS⟩)
  | succ j ih =>
    intro k h F S A hk hP2 hP hI hS
    obtain ⟨-, -, -, -, lF, lS, lA⟩ := id hP
    obtain ⟨-, -, -, -, kF, kS, kA⟩ := id hP2
    have x1 := h2f k (by omega)
    have x2 := hI k (by omega)
    rw [if_neg (Nat.lt_irrefl k)] at x2
    refine g_iload_n dX7_swap_14 0 rfl ?_
    refine g_aload_n dX7_swap_15 1 rfl ?_
    refine g_getf dX7_swap_16 kX3 wfX7_50 (Nat.le_of_ble_eq_true rfl) (hP.1) rfl ?_
    refine g_icmp_geN 52 dX7_swap_19 (by decide) (by omega) (by omega) (fun z => absurd z (by omega)) (fun c19 => ?_)
    refine g_aload_n dX7_swap_22 1 rfl ?_
    refine g_getf dX7_swap_23 kX3 wfX7_53 (Nat.le_of_ble_eq_true rfl) (hP.1) rfl ?_
    refine g_iload_n dX7_swap_26 0 rfl ?_
    refine g_aload_n dX7_swap_27 2 rfl ?_
    refine g_getf dX7_swap_28 kX3 wfX7_63 (Nat.le_of_ble_eq_true rfl) (hP2.1) rfl ?_
    refine g_iload_n dX7_swap_31 0 rfl ?_
    refine g_ialN dX7_swap_32 (hP2.2.2.1) (by omega) (by omega) ?_
    refine g_iasN dX7_swap_33 (hP.2.1) (by omega) (by omega) (fun h1 e1 => ?_)
    have f1_p_1 : rd h1 (p + 1) = some (.inl (((F).set k ((S2).getD k 0)).map nI)) := by rw [e1]; exact rd_wr_eq (hP.2.1)
    have f1_p : rd h1 p = some (.inr (3, [.ref (p + 1), .ref (p + 2), .ref (p + 3), .int (nI n), .int (nI m)])) := by rw [e1, rd_wr_ne (by omega)]; exact hP.1
    have f1_p_4 : rd h1 (p + 4) = some (.inr (3, [.ref (p + 5), .ref (p + 6), .ref (p + 7), .int (nI n), .int (nI m)])) := by rw [e1, rd_wr_ne (by omega)]; exact hP2.1
    have f1_p_2 : rd h1 (p + 2) = some (.inl ((S).map nI)) := by rw [e1, rd_wr_ne (by omega)]; exact hP.2.2.1
    have f1_p_3 : rd h1 (p + 3) = some (.inl ((A).map nI)) := by rw [e1, rd_wr_ne (by omega)]; exact hP.2.2.2.1
    have f1_p_5 : rd h1 (p + 5) = some (.inl ((F2).map nI)) := by rw [e1, rd_wr_ne (by omega)]; exact hP2.2.1
    have f1_p_6 : rd h1 (p + 6) = some (.inl ((S2).map nI)) := by rw [e1, rd_wr_ne (by omega)]; exact hP2.2.2.1
    have f1_p_7 : rd h1 (p + 7) = some (.inl ((A2).map nI)) := by rw [e1, rd_wr_ne (by omega)]; exact hP2.2.2.2.1
    refine g_aload_n dX7_swap_34 1 rfl ?_
    refine g_getf dX7_swap_35 kX3 wfX7_63 (Nat.le_of_ble_eq_true rfl) (f1_p) rfl ?_
    refine g_iload_n dX7_swap_38 0 rfl ?_
    refine g_aload_n dX7_swap_39 2 rfl ?_
    refine g_getf dX7_swap_40 kX3 wfX7_53 (Nat.le_of_ble_eq_true rfl) (f1_p_4) rfl ?_
    refine g_iload_n dX7_swap_43 0 rfl ?_
    refine g_ialN dX7_swap_44 (f1_p_5) (by omega) (by omega) ?_
    refine g_iasN dX7_swap_45 (f1_p_2) (by omega) (by omega) (fun h2 e2 => ?_)
    have f2_p_2 : rd h2 (p + 2) = some (.inl (((S).set k ((F2).getD k 0)).map nI)) := by rw [e2]; exact rd_wr_eq (f1_p_2)
    have f2_p : rd h2 p = some (.inr (3, [.ref (p + 1), .ref (p + 2), .ref (p + 3), .int (nI n), .int (nI m)])) := by rw [e2, rd_wr_ne (by omega)]; exact f1_p
    have f2_p_4 : rd h2 (p + 4) = some (.inr (3, [.ref (p + 5), .ref (p + 6), .ref (p + 7), .int (nI n), .int (nI m)])) := by rw [e2, rd_wr_ne (by omega)]; exact f1_p_4
    have f2_p_1 : rd h2 (p + 1) = some (.inl (((F).set k ((S2).getD k 0)).map nI)) := by rw [e2, rd_wr_ne (by omega)]; exact f1_p_1
    have f2_p_3 : rd h2 (p + 3) = some (.inl ((A).map nI)) := by rw [e2, rd_wr_ne (by omega)]; exact f1_p_3
    have f2_p_5 : rd h2 (p + 5) = some (.inl ((F2).map nI)) := by rw [e2, rd_wr_ne (by omega)]; exact f1_p_5
    have f2_p_6 : rd h2 (p + 6) = some (.inl ((S2).map nI)) := by rw [e2, rd_wr_ne (by omega)]; exact f1_p_6
    have f2_p_7 : rd h2 (p + 7) = some (.inl ((A2).map nI)) := by rw [e2, rd_wr_ne (by omega)]; exact f1_p_7
    refine g_iinc (q := 0) (v := nI (k + 1)) (ls' := [(3, .int (nI (k + 1))), (0, .ref p), (1, .ref (p + 4)), (2, .int (nI u))]) dX7_swap_46 rfl (inc1 _) (Nat.le_of_ble_eq_true rfl) rfl ?_
    refine g_goto 14 dX7_swap_49 (by decide) ?_
    exact ih (k + 1) h2 _ _ _ (by omega) ⟨f2_p_4, f2_p_5, f2_p_6, f2_p_7, kF, kS, kA⟩ ⟨f2_p, f2_p_1, f2_p_2, f2_p_3, by simp [lF], by simp [lS], lA⟩ (inv_step hI (fun i hi => by unfold fOf; rw [getD_set_ne (fun q => hi q.symm), getD_set_ne (fun q => hi q.symm)]) (fun _ => by unfold fOf; rw [getD_set_eq (by omega), getD_set_eq (by omega)]; exact Prod.ext (by have y := xS x1; exact y) (Prod.ext (by have y := xF x1; exact y) (by have y := xA x2; exact y)))) (hS.tr (fun q hq => by rw [e2, rd_wr_ne (by omega), e1, rd_wr_ne (by omega)]))

set_option maxRecDepth 100000 in
set_option maxHeartbeats 4000000 in
theorem lp_share {h0 : List aC} {p n m : Nat} {f : Nat → Pr} (hm : m ≤ 6) (hn : n ≤ 13) (h0n : 0 < n) (hb : bf n m f) {F2 S2 A2 : List Nat} (h2f : ∀ i, i < m → fOf F2 S2 A2 i = f i) (u : Nat) (hu : u ≤ 12) : ∀ j k (h : List aC) (F S A : List Nat), k + j = m → PA h (p + 4) n m F2 S2 A2 → PA h p n m F S A → (∀ i, i < m → fOf F S A i = if i < k then (fun i => ((f i).1, (f i).2.1, (f ((i + u) % m)).2.2)) i else f i) → Smo p (p + 4) h0 h → G mX7_share (rmD 3 0 0) none (pq none (fun h2 => ∃ F S A, PA h2 p n m F S A ∧ (∀ i, i < m → fOf F S A i = (fun i => ((f i).1, (f i).2.1, (f ((i + u) % m)).2.2)) i) ∧ PA h2 (p + 4) n m F2 S2 A2 ∧ Smo p (p + 4) h0 h2)) 0 0 7 [(3, .int (nI k)), (0, .ref p), (1, .ref (p + 4)), (2, .int (nI u))] [] h := by
  intro j
  induction j with
  | zero =>
    intro k h F S A hk hP2 hP hI hS
    obtain ⟨-, -, -, -, lF, lS, lA⟩ := id hP
    obtain ⟨-, -, -, -, kF, kS, kA⟩ := id hP2
    refine g_iload_n dX7_share_7 0 rfl ?_
    refine g_aload_n dX7_share_8 1 rfl ?_
    refine g_getf dX7_share_9 kX3 wfX7_50 (Nat.le_of_ble_eq_true rfl) (hP.1) rfl ?_
    refine g_icmp_geN 42 dX7_share_12 (by decide) (by omega) (by omega) (fun c12 => ?_) (fun z => absurd z (by omega))
    exact g_vret dX7_share_42 rfl ⟨Nat.zero_le _, Nat.zero_le _⟩ (⟨rfl, F, S, A, hP, fun i hi => by rw [hI i hi, if_pos (by omega)], hP2, hS⟩)
  | succ j ih =>
    intro k h F S A hk hP2 hP hI hS
    obtain ⟨-, -, -, -, lF, lS, lA⟩ := id hP
    obtain ⟨-, -, -, -, kF, kS, kA⟩ := id hP2
    have z1 := Nat.mod_lt (k + u) (show 0 < m by omega)
    have x1 := h2f ((k + u) % m) z1
    have x2 := hI k (by omega)
    rw [if_neg (Nat.lt_irrefl k)] at x2
    refine g_iload_n dX7_share_7 0 rfl ?_
    refine g_aload_n dX7_share_8 1 rfl ?_
    refine g_getf dX7_share_9 kX3 wfX7_50 (Nat.le_of_ble_eq_true rfl) (hP.1) rfl ?_
    refine g_icmp_geN 42 dX7_share_12 (by decide) (by omega) (by omega) (fun z => absurd z (by omega)) (fun c12 => ?_)
    refine g_aload_n dX7_share_15 1 rfl ?_
    refine g_getf dX7_share_16 kX3 wfX7_66 (Nat.le_of_ble_eq_true rfl) (hP.1) rfl ?_
    refine g_iload_n dX7_share_19 0 rfl ?_
    refine g_aload_n dX7_share_20 2 rfl ?_
    refine g_getf dX7_share_21 kX3 wfX7_66 (Nat.le_of_ble_eq_true rfl) (hP2.1) rfl ?_
    refine g_iload_n dX7_share_24 0 rfl ?_
    refine g_iload_n dX7_share_25 3 rfl ?_
    refine g_iaddN dX7_share_26 ?_
    refine g_aload_n dX7_share_27 1 rfl ?_
    refine g_getf dX7_share_28 kX3 wfX7_50 (Nat.le_of_ble_eq_true rfl) (hP.1) rfl ?_
    refine g_callSNp dX7_share_31 (ev_wrapN (k + u) (m) (by omega) (by omega) (by omega) _) oX8_wrap wsX8_wrap wqX7_59 rfl ⟨(Nat.le_of_ble_eq_true rfl), (Nat.le_of_ble_eq_true rfl)⟩ ⟨Nat.zero_le _, Nat.zero_le _⟩ (Nat.le_of_ble_eq_true rfl) rfl ?_
    refine g_ialN dX7_share_34 (hP2.2.2.2.1) (by omega) (by omega) ?_
    refine g_iasN dX7_share_35 (hP.2.2.2.1) (by omega) (by omega) (fun h1 e1 => ?_)
    have f1_p_3 : rd h1 (p + 3) = some (.inl (((A).set k ((A2).getD ((k + u) % m) 0)).map nI)) := by rw [e1]; exact rd_wr_eq (hP.2.2.2.1)
    have f1_p : rd h1 p = some (.inr (3, [.ref (p + 1), .ref (p + 2), .ref (p + 3), .int (nI n), .int (nI m)])) := by rw [e1, rd_wr_ne (by omega)]; exact hP.1
    have f1_p_4 : rd h1 (p + 4) = some (.inr (3, [.ref (p + 5), .ref (p + 6), .ref (p + 7), .int (nI n), .int (nI m)])) := by rw [e1, rd_wr_ne (by omega)]; exact hP2.1
    have f1_p_1 : rd h1 (p + 1) = some (.inl ((F).map nI)) := by rw [e1, rd_wr_ne (by omega)]; exact hP.2.1
    have f1_p_2 : rd h1 (p + 2) = some (.inl ((S).map nI)) := by rw [e1, rd_wr_ne (by omega)]; exact hP.2.2.1
    have f1_p_5 : rd h1 (p + 5) = some (.inl ((F2).map nI)) := by rw [e1, rd_wr_ne (by omega)]; exact hP2.2.1
    have f1_p_6 : rd h1 (p + 6) = some (.inl ((S2).map nI)) := by rw [e1, rd_wr_ne (by omega)]; exact hP2.2.2.1
    have f1_p_7 : rd h1 (p + 7) = some (.inl ((A2).map nI)) := by rw [e1, rd_wr_ne (by omega)]; exact hP2.2.2.2.1
    refine g_iinc (q := 0) (v := nI (k + 1)) (ls' := [(3, .int (nI (k + 1))), (0, .ref p), (1, .ref (p + 4)), (2, .int (nI u))]) dX7_share_36 rfl (inc1 _) (Nat.le_of_ble_eq_true rfl) rfl ?_
    refine g_goto 7 dX7_share_39 (by decide) ?_
    exact ih (k + 1) h1 _ _ _ (by omega) ⟨f1_p_4, f1_p_5, f1_p_6, f1_p_7, kF, kS, kA⟩ ⟨f1_p, f1_p_1, f1_p_2, f1_p_3, lF, lS, by simp [lA]⟩ (inv_step hI (fun i hi => by unfold fOf; rw [getD_set_ne (fun q => hi q.symm)]) (fun _ => by unfold fOf; rw [getD_set_eq (by omega)]; exact Prod.ext (by have y := xF x2; exact y) (Prod.ext (by have y := xS x2; exact y) (by have y := xA x1; exact y)))) (hS.tr (fun q hq => by rw [e1, rd_wr_ne (by omega)]))

theorem G.mono {Y : YM} {R : Room} {X : Option (Nat × (Nat → Int32))} {P P' : Option Value → List aC → Prop} {k n pc : Nat} {ls : List (Nat × Value)} {st : List Value} {h : List aC} (K : G Y R X P k n pc ls st h) (hp : ∀ w h1, P w h1 → P' w h1) : G Y R X P' k n pc ls st h := by
  intro p l e s m args below meth c dC dI cI cR sb ad0 ad H locs lsA S D
  intro T hT Xs
  obtain ⟨t, a1, o, a2, a3, ⟨ad', w, h1, b1, b2⟩, a4⟩ := K p l e s m args below meth c dC dI cI cR sb ad0 ad H locs lsA S D T hT Xs
  exact ⟨t, a1, o, a2, a3, ⟨ad', w, h1, hp _ _ b1, b2⟩, a4⟩

set_option maxRecDepth 100000 in
set_option maxHeartbeats 4000000 in
theorem ev_rev {h : List aC} {p n m : Nat} {F S A : List Nat} (hP : PA h p n m F S A) {f : Nat → Pr} (hf : ∀ i, i < m → fOf F S A i = f i) (hm : m ≤ 6) (hn : n ≤ 13) (h0n : 0 < n) (hb : bf n m f) {n2 m2 : Nat} {F2 S2 A2 : List Nat} (hP2 : PA h (p + 4) n2 m2 F2 S2 A2) : Ev mX7_reverse 3 0 0 [.ref p, .ref (p + 4)] h (pq none (fun h2 => ∃ F1 S1 A1, PA h2 p n m F1 S1 A1 ∧ (∀ i, i < m → fOf F1 S1 A1 i = (fun i => f (m - 1 - i)) i) ∧ (∃ n2 m2 F2 S2 A2, PA h2 (p + 4) n2 m2 F2 S2 A2) ∧ Smo p (p + 8) h h2)) := by
  obtain ⟨-, -, -, -, lF, lS, lA⟩ := id hP
  refine Ev.of pX7_reverse (Nat.le_of_ble_eq_true rfl) ?_
  show G mX7_reverse (rmD 3 0 0) none _ 0 0 0 [(0, .ref p), (1, .ref (p + 4))] [] h
  refine g_aload_n dX7_reverse_0 1 rfl ?_
  refine g_aload_n dX7_reverse_1 0 rfl ?_
  refine g_callVq (st1 := []) dX7_reverse_2 (ev_copyFrom hP2 hP (by omega)) oX3_copyFrom wiX3_copyFrom weX3_copyFrom wmX7_69 kX3 (hP2.1) rfl ⟨(Nat.le_of_ble_eq_true rfl), (Nat.le_of_ble_eq_true rfl)⟩ ⟨Nat.zero_le _, Nat.zero_le _⟩ (Nat.le_of_ble_eq_true rfl) rfl rfl (fun h1 q1 => ?_)
  obtain ⟨q1a, q1s⟩ := q1
  have b1_p := hP.mv q1s (by omega)
  refine g_iconst (v := nI 0) dX7_reverse_5 (by decide +kernel) ?_
  refine g_istore_n (ls' := [(2, .int (nI 0)), (0, .ref p), (1, .ref (p + 4))]) dX7_reverse_6 (Nat.le_of_ble_eq_true rfl) rfl ?_
  refine G.mono (lp_rev hm hn h0n hb hf m 0 h1 F S A (by omega) q1a b1_p (fun i hi => by rw [if_neg (Nat.not_lt_zero i)]; exact hf i hi) Smo.rf) ?_
  rintro w h3 ⟨rfl, F1, S1, A1, g1, g2, g3, g4⟩
  exact ⟨rfl, F1, S1, A1, g1, g2, ⟨_, _, _, _, _, g3⟩, (q1s.wid (by omega) (by omega)).tr (g4.wid (by omega) (by omega))⟩

set_option maxRecDepth 100000 in
set_option maxHeartbeats 4000000 in
theorem ev_rot {h : List aC} {p n m : Nat} {F S A : List Nat} (hP : PA h p n m F S A) {f : Nat → Pr} (hf : ∀ i, i < m → fOf F S A i = f i) (hm : m ≤ 6) (hn : n ≤ 13) (h0n : 0 < n) (hb : bf n m f) {n2 m2 : Nat} {F2 S2 A2 : List Nat} (hP2 : PA h (p + 4) n2 m2 F2 S2 A2) (u : Nat) (hu : u ≤ 12) : Ev mX7_rotate 3 0 0 [.ref p, .ref (p + 4), .int (nI u)] h (pq none (fun h2 => ∃ F1 S1 A1, PA h2 p n m F1 S1 A1 ∧ (∀ i, i < m → fOf F1 S1 A1 i = (fun i => f ((i + u) % m)) i) ∧ (∃ n2 m2 F2 S2 A2, PA h2 (p + 4) n2 m2 F2 S2 A2) ∧ Smo p (p + 8) h h2)) := by
  obtain ⟨-, -, -, -, lF, lS, lA⟩ := id hP
  refine Ev.of pX7_rotate (Nat.le_of_ble_eq_true rfl) ?_
  show G mX7_rotate (rmD 3 0 0) none _ 0 0 0 [(0, .ref p), (1, .ref (p + 4)), (2, .int (nI u))] [] h
  refine g_aload_n dX7_rotate_0 1 rfl ?_
  refine g_aload_n dX7_rotate_1 0 rfl ?_
  refine g_callVq (st1 := []) dX7_rotate_2 (ev_copyFrom hP2 hP (by omega)) oX3_copyFrom wiX3_copyFrom weX3_copyFrom wmX7_69 kX3 (hP2.1) rfl ⟨(Nat.le_of_ble_eq_true rfl), (Nat.le_of_ble_eq_true rfl)⟩ ⟨Nat.zero_le _, Nat.zero_le _⟩ (Nat.le_of_ble_eq_true rfl) rfl rfl (fun h1 q1 => ?_)
  obtain ⟨q1a, q1s⟩ := q1
  have b1_p := hP.mv q1s (by omega)
  refine g_iconst (v := nI 0) dX7_rotate_5 (by decide +kernel) ?_
  refine g_istore_n (ls' := [(3, .int (nI 0)), (0, .ref p), (1, .ref (p + 4)), (2, .int (nI u))]) dX7_rotate_6 (Nat.le_of_ble_eq_true rfl) rfl ?_
  refine G.mono (lp_rot hm hn h0n hb hf u hu m 0 h1 F S A (by omega) q1a b1_p (fun i hi => by rw [if_neg (Nat.not_lt_zero i)]; exact hf i hi) Smo.rf) ?_
  rintro w h3 ⟨rfl, F1, S1, A1, g1, g2, g3, g4⟩
  exact ⟨rfl, F1, S1, A1, g1, g2, ⟨_, _, _, _, _, g3⟩, (q1s.wid (by omega) (by omega)).tr (g4.wid (by omega) (by omega))⟩

set_option maxRecDepth 100000 in
set_option maxHeartbeats 4000000 in
theorem ev_swap {h : List aC} {p n m : Nat} {F S A : List Nat} (hP : PA h p n m F S A) {f : Nat → Pr} (hf : ∀ i, i < m → fOf F S A i = f i) (hm : m ≤ 6) (hn : n ≤ 13) (h0n : 0 < n) (hb : bf n m f) {n2 m2 : Nat} {F2 S2 A2 : List Nat} (hP2 : PA h (p + 4) n2 m2 F2 S2 A2) (u : Nat) (hu : u ≤ 12) (hodd : u % 2 = 1) : Ev mX7_swap 3 0 0 [.ref p, .ref (p + 4), .int (nI u)] h (pq none (fun h2 => ∃ F1 S1 A1, PA h2 p n m F1 S1 A1 ∧ (∀ i, i < m → fOf F1 S1 A1 i = (fun i => ((f i).2.1, (f i).1, (f i).2.2)) i) ∧ (∃ n2 m2 F2 S2 A2, PA h2 (p + 4) n2 m2 F2 S2 A2) ∧ Smo p (p + 8) h h2)) := by
  obtain ⟨-, -, -, -, lF, lS, lA⟩ := id hP
  refine Ev.of pX7_swap (Nat.le_of_ble_eq_true rfl) ?_
  show G mX7_swap (rmD 3 0 0) none _ 0 0 0 [(0, .ref p), (1, .ref (p + 4)), (2, .int (nI u))] [] h
  refine g_iload_n dX7_swap_0 2 rfl ?_
  refine g_iconst (v := nI 2) dX7_swap_1 (by decide +kernel) ?_
  refine g_iremN dX7_swap_2 (by omega) (by omega) (by omega) ?_
  refine g_if_neN 7 dX7_swap_3 (by decide) (by omega) (fun c3 => ?_) (fun z => absurd z (by omega))
  refine g_aload_n dX7_swap_7 1 rfl ?_
  refine g_aload_n dX7_swap_8 0 rfl ?_
  refine g_callVq (st1 := []) dX7_swap_9 (ev_copyFrom hP2 hP (by omega)) oX3_copyFrom wiX3_copyFrom weX3_copyFrom wmX7_69 kX3 (hP2.1) rfl ⟨(Nat.le_of_ble_eq_true rfl), (Nat.le_of_ble_eq_true rfl)⟩ ⟨Nat.zero_le _, Nat.zero_le _⟩ (Nat.le_of_ble_eq_true rfl) rfl rfl (fun h1 q1 => ?_)
  obtain ⟨q1a, q1s⟩ := q1
  have b1_p := hP.mv q1s (by omega)
  refine g_iconst (v := nI 0) dX7_swap_12 (by decide +kernel) ?_
  refine g_istore_n (ls' := [(3, .int (nI 0)), (0, .ref p), (1, .ref (p + 4)), (2, .int (nI u))]) dX7_swap_13 (Nat.le_of_ble_eq_true rfl) rfl ?_
  refine G.mono (lp_swap hm hn h0n hb hf m 0 h1 F S A (by omega) q1a b1_p (fun i hi => by rw [if_neg (Nat.not_lt_zero i)]; exact hf i hi) Smo.rf) ?_
  rintro w h3 ⟨rfl, F1, S1, A1, g1, g2, g3, g4⟩
  exact ⟨rfl, F1, S1, A1, g1, g2, ⟨_, _, _, _, _, g3⟩, (q1s.wid (by omega) (by omega)).tr (g4.wid (by omega) (by omega))⟩

set_option maxRecDepth 100000 in
set_option maxHeartbeats 4000000 in
theorem ev_swap0 {h : List aC} {p n m : Nat} {F S A : List Nat} (hP : PA h p n m F S A) (p2 : Nat) (u : Nat) (hu : u ≤ 12) (hodd : u % 2 = 0) : Ev mX7_swap 3 0 0 [.ref p, .ref p2, .int (nI u)] h (pq none (fun h2 => h2 = h)) := by
  obtain ⟨-, -, -, -, lF, lS, lA⟩ := id hP
  refine Ev.of pX7_swap (Nat.le_of_ble_eq_true rfl) ?_
  show G mX7_swap (rmD 3 0 0) none _ 0 0 0 [(0, .ref p), (1, .ref p2), (2, .int (nI u))] [] h
  refine g_iload_n dX7_swap_0 2 rfl ?_
  refine g_iconst (v := nI 2) dX7_swap_1 (by decide +kernel) ?_
  refine g_iremN dX7_swap_2 (by omega) (by omega) (by omega) ?_
  refine g_if_neN 7 dX7_swap_3 (by decide) (by omega) (fun z => absurd z (by omega)) (fun c3 => ?_)
  exact g_vret dX7_swap_6 rfl ⟨Nat.zero_le _, Nat.zero_le _⟩ (⟨rfl, rfl⟩)

set_option maxRecDepth 100000 in
set_option maxHeartbeats 4000000 in
theorem ev_share {h : List aC} {p n m : Nat} {F S A : List Nat} (hP : PA h p n m F S A) {f : Nat → Pr} (hf : ∀ i, i < m → fOf F S A i = f i) (hm : m ≤ 6) (hn : n ≤ 13) (h0n : 0 < n) (hb : bf n m f) {n2 m2 : Nat} {F2 S2 A2 : List Nat} (hP2 : PA h (p + 4) n2 m2 F2 S2 A2) (u : Nat) (hu : u ≤ 12) : Ev mX7_share 3 0 0 [.ref p, .ref (p + 4), .int (nI u)] h (pq none (fun h2 => ∃ F1 S1 A1, PA h2 p n m F1 S1 A1 ∧ (∀ i, i < m → fOf F1 S1 A1 i = (fun i => ((f i).1, (f i).2.1, (f ((i + u) % m)).2.2)) i) ∧ (∃ n2 m2 F2 S2 A2, PA h2 (p + 4) n2 m2 F2 S2 A2) ∧ Smo p (p + 8) h h2)) := by
  obtain ⟨-, -, -, -, lF, lS, lA⟩ := id hP
  refine Ev.of pX7_share (Nat.le_of_ble_eq_true rfl) ?_
  show G mX7_share (rmD 3 0 0) none _ 0 0 0 [(0, .ref p), (1, .ref (p + 4)), (2, .int (nI u))] [] h
  refine g_aload_n dX7_share_0 1 rfl ?_
  refine g_aload_n dX7_share_1 0 rfl ?_
  refine g_callVq (st1 := []) dX7_share_2 (ev_copyFrom hP2 hP (by omega)) oX3_copyFrom wiX3_copyFrom weX3_copyFrom wmX7_69 kX3 (hP2.1) rfl ⟨(Nat.le_of_ble_eq_true rfl), (Nat.le_of_ble_eq_true rfl)⟩ ⟨Nat.zero_le _, Nat.zero_le _⟩ (Nat.le_of_ble_eq_true rfl) rfl rfl (fun h1 q1 => ?_)
  obtain ⟨q1a, q1s⟩ := q1
  have b1_p := hP.mv q1s (by omega)
  refine g_iconst (v := nI 0) dX7_share_5 (by decide +kernel) ?_
  refine g_istore_n (ls' := [(3, .int (nI 0)), (0, .ref p), (1, .ref (p + 4)), (2, .int (nI u))]) dX7_share_6 (Nat.le_of_ble_eq_true rfl) rfl ?_
  refine G.mono (lp_share hm hn h0n hb hf u hu m 0 h1 F S A (by omega) q1a b1_p (fun i hi => by rw [if_neg (Nat.not_lt_zero i)]; exact hf i hi) Smo.rf) ?_
  rintro w h3 ⟨rfl, F1, S1, A1, g1, g2, g3, g4⟩
  exact ⟨rfl, F1, S1, A1, g1, g2, ⟨_, _, _, _, _, g3⟩, (q1s.wid (by omega) (by omega)).tr (g4.wid (by omega) (by omega))⟩
