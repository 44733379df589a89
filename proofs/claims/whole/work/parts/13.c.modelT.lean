def nmM (nums : Nat) (acc : List Pp) : Prop := nums < 2 ^ 13 ∧ ∀ i, i < 13 → nums.testBit i = usd acc i
def dfM (n difs : Nat) (acc : List Pp) : Prop := difs < 2 ^ 14 ∧ ∀ i, i < 13 → difs.testBit i = dus n acc i
theorem nmM_add {nums : Nat} {acc : List Pp} (h : nmM nums acc) {x y : Nat} (hx : x < 13) (hy : y < 13) : nmM ((nums ||| 2 ^ x) ||| 2 ^ y) (acc ++ [(x, y)]) := by
  refine ⟨or_lt (or_lt h.1 (pw_lt hx)) (pw_lt hy), fun i hi => ?_⟩
  rw [Nat.testBit_or, Nat.testBit_or, Nat.testBit_two_pow, Nat.testBit_two_pow, h.2 i hi]
  unfold usd
  rw [List.any_append]
  show ((_ || decide (x = i)) || decide (y = i)) = (_ || ((x == i || y == i) || false))
  rw [Bool.or_false, Bool.or_assoc]
  rfl
theorem dfM_add {n difs : Nat} {acc : List Pp} (h : dfM n difs acc) {x y : Nat} (hn : n ≤ 13) (hxy : x < y) (hy : y < n) : dfM n (difs ||| (2 ^ (y - x) ||| 2 ^ (n - y + x))) (acc ++ [(x, y)]) := by
  refine ⟨or_lt h.1 (or_lt (pw_lt (by omega)) (pw_lt (by omega))), fun i hi => ?_⟩
  rw [Nat.testBit_or, Nat.testBit_or, Nat.testBit_two_pow, Nat.testBit_two_pow, h.2 i hi]
  unfold dus
  rw [List.any_append, show n - y + x = n - (y - x) by omega]
  show (_ || (decide (y - x = i) || decide (n - (y - x) = i))) = (_ || ((y - x == i || n - (y - x) == i) || false))
  rw [Bool.or_false]
  rfl
theorem dus_opp {n t : Nat} {acc : List Pp} (hv : vA n acc) (ht : t < n) : dus n acc (n - t) = dus n acc t := any_cong acc fun q hq => by
  obtain ⟨a, b, c⟩ := hv q hq
  show ((q.2 - q.1 == n - t) || (n - (q.2 - q.1) == n - t)) = ((q.2 - q.1 == t) || (n - (q.2 - q.1) == t))
  rw [Bool.eq_iff_iff, Bool.or_eq_true, Bool.or_eq_true, beq_iff_eq, beq_iff_eq, beq_iff_eq, beq_iff_eq]
  omega
theorem okA_M {n nums difs : Nat} {acc : List Pp} (hB : nmM nums acc) (hD : dfM n difs acc) (hv : vA n acc) (hn : n ≤ 13) {x y : Nat} (hx : 1 ≤ x) (hxy : x < y) (hy : y < n) : okA n acc x y = (!nums.testBit y && decide (difs &&& (2 ^ (y - x) ||| 2 ^ (n - y + x)) = 0)) := by
  unfold okA
  rw [hB.2 y (by omega)]
  congr 1
  have e1 : difs.testBit (y - x) = dus n acc (y - x) := hD.2 _ (by omega)
  have e2 : difs.testBit (n - y + x) = dus n acc (y - x) := by rw [show n - y + x = n - (y - x) by omega, hD.2 _ (by omega), dus_opp hv (by omega)]
  rw [Bool.eq_iff_iff, decide_eq_true_eq, and_or0, e1, e2]
  cases dus n acc (y - x)
  · exact ⟨fun _ => ⟨rfl, rfl⟩, fun _ => rfl⟩
  · exact ⟨fun z => absurd z (by decide), fun z => absurd z.1 (by decide)⟩
theorem usd_n {n : Nat} {acc : List Pp} (hv : vA n acc) : usd acc n = false := by
  unfold usd
  rw [List.any_eq_false]
  intro q hq
  obtain ⟨a, b, c⟩ := hv q hq
  rw [Bool.not_eq_true, Bool.or_eq_false_iff, beq_eq_false_iff_ne, beq_eq_false_iff_ne]
  omega
/-- the tried numbers hold the pairs of acc -/
def mtT (T : List Int32) (acc : List Pp) : Prop := ∀ k, k < acc.length → T.getD (2 * k) 0 = nI (acc.getD k (0, 0)).1 ∧ T.getD (2 * k + 1) 0 = nI (acc.getD k (0, 0)).2
theorem gD_lt {acc : List Pp} {p : Pp} {i : Nat} (h : i < acc.length) : (acc ++ [p]).getD i (0, 0) = acc.getD i (0, 0) := by
  rw [List.getD_eq_getElem?_getD, List.getD_eq_getElem?_getD, List.getElem?_append_left h]
theorem gD_eq {acc : List Pp} {p : Pp} : (acc ++ [p]).getD acc.length (0, 0) = p := by
  rw [List.getD_eq_getElem?_getD, List.getElem?_append_right (Nat.le_refl _), Nat.sub_self]; rfl
theorem mtT_add {T : List Int32} {acc : List Pp} (h : mtT T acc) (l : T.length = 12) (hl : acc.length < 6) (x y : Nat) : mtT ((T.set (2 * acc.length) (nI x)).set (2 * acc.length + 1) (nI y)) (acc ++ [(x, y)]) := fun k hk => by
  rw [List.length_append] at hk
  have hk : k < acc.length + 1 := hk
  by_cases q : k = acc.length
  · subst q
    rw [gD_eq, getD_set_neI (by omega), getD_set_eqI (by omega), getD_set_eqI (by rw [List.length_set]; omega)]
    exact ⟨rfl, rfl⟩
  · rw [gD_lt (by omega), getD_set_neI (by omega), getD_set_neI (by omega), getD_set_neI (by omega), getD_set_neI (by omega)]
    exact h k (by omega)
theorem mtT_less {T : List Int32} {acc : List Pp} {p : Pp} (h : mtT T (acc ++ [p])) : mtT T acc := fun k hk => by
  have z := h k (by rw [List.length_append]; exact Nat.lt_add_right _ hk)
  rw [gD_lt hk] at z
  exact z
theorem fL_at {acc : List Pp} {k : Nat} (h : k < acc.length) : (fL acc).getD k 0 = (acc.getD k (0, 0)).1 ∧ (sL acc).getD k 0 = (acc.getD k (0, 0)).2 := by
  have e : acc.getD k (0, 0) = acc[k] := by rw [List.getD_eq_getElem?_getD, List.getElem?_eq_getElem h]; rfl
  rw [e]
  unfold fL sL
  constructor
  · rw [List.getD_eq_getElem?_getD, List.getElem?_map, List.getElem?_eq_getElem h]; rfl
  · rw [List.getD_eq_getElem?_getD, List.getElem?_map, List.getElem?_eq_getElem h]; rfl
theorem vA_at {n : Nat} {acc : List Pp} (hv : vA n acc) {k : Nat} (h : k < acc.length) : 1 ≤ (acc.getD k (0, 0)).1 ∧ (acc.getD k (0, 0)).1 < (acc.getD k (0, 0)).2 ∧ (acc.getD k (0, 0)).2 < n := by
  rw [List.getD_eq_getElem?_getD, List.getElem?_eq_getElem h]
  exact hv _ (List.getElem_mem h)
/-- what is kept: the row that is asked for, once it is found -/
def kpR (w : Int32) (K : List Int32) (q : Nat) (L : List (List Pp)) : Prop := ∀ i, w = nI i → i < L.length → ∀ j, j < q → K.getD j 0 = nI ((L.getD i []).getD j (0, 0)).2
theorem lgD_lt {α : Type} {L : List (List α)} {p : List α} {i : Nat} (h : i < L.length) : (L ++ [p]).getD i [] = L.getD i [] := by
  rw [List.getD_eq_getElem?_getD, List.getD_eq_getElem?_getD, List.getElem?_append_left h]
theorem lgD_eq {α : Type} {L : List (List α)} {p : List α} : (L ++ [p]).getD L.length [] = p := by
  rw [List.getD_eq_getElem?_getD, List.getElem?_append_right (Nat.le_refl _), Nat.sub_self]; rfl
theorem kpR_add {w : Int32} {K K2 T : List Int32} {q : Nat} {L : List (List Pp)} {acc : List Pp} (h : kpR w K q L) (hl : L.length ≤ 2 ^ 30) (mt : mtT T acc) (hq : acc.length = q) (a : nI L.length = w → ∀ j, j < q → K2.getD j 0 = T.getD (2 * j + 1) 0) (b : nI L.length ≠ w → K2 = K) : kpR w K2 q (L ++ [acc]) := fun i hi hlt j hj => by
  rw [List.length_append] at hlt
  have hlt : i < L.length + 1 := hlt
  by_cases e : i = L.length
  · subst e
    rw [lgD_eq, a hi.symm j hj]
    exact (mt j (by omega)).2
  · rw [lgD_lt (by omega), b (fun z => e ((nI_eq (by omega) (by omega)).mp (hi.symm.trans z.symm)))]
    exact h i hi (by omega) j hj
def Sm3 (h h2 : List aC) : Prop := ∀ q, (q ≠ 98 ∧ q ≠ 106 ∧ q ≠ 107) → rd h2 q = rd h q
theorem Sm3.tr {h h2 h3 : List aC} (s : Sm3 h h2) (t : Sm3 h2 h3) : Sm3 h h3 := fun q hq => (t q hq).trans (s q hq)
def MSq (h : List aC) (n m a de : Nat) (as_ : Int32) (z : Int32) (am : Nat) (ib : Bool) (iN iM iT : Int32) (f s k : Nat) : Prop := MO h n m a de (nI f) as_ (nI s) (nI k) z am ib iN iM iT
/-- the search's state: what is found so far is L -/
def SSq (h : List aC) (n m a de : Nat) (as_ : Int32) (z : Int32) (am : Nat) (ib : Bool) (iN iM iT : Int32) (acc : List Pp) (L : List (List Pp)) : Prop := ∃ T K, MSq h n m a de as_ z am ib iN iM iT L.length (cnB (sgB n) L) (cnB (skB n) L) ∧ rd h 106 = some (.inl T) ∧ T.length = 12 ∧ mtT T acc ∧ rd h 107 = some (.inl K) ∧ K.length = 6 ∧ kpR as_ K ((n - 1) / 2) L


set_option maxRecDepth 100000 in
set_option maxHeartbeats 4000000 in
theorem lp_keep1 {h0 : List aC} {P : Option Value → List aC → Prop} {n m a de : Nat} {as_ z : Int32} {am : Nat} {ib : Bool} {iN iM iT : Int32} {d : Nat} {L : List (List Pp)} {T Ke : List Int32} (hT : rd h0 106 = some (.inl T)) (lT : T.length = 12) {q x2 x3 : Nat} (hq : q ≤ 6) (he : nI L.length = as_) (K : ∀ K2 h', rd h' 107 = some (.inl K2) → K2.length = 6 → (nI L.length = as_ → ∀ j, j < q → K2.getD j 0 = T.getD (2 * j + 1) 0) → (nI L.length ≠ as_ → K2 = Ke) → Smo 107 108 h0 h' → ∀ j, G mX9_searches (rmD (3 + d) 0 0) none P 0 0 52 [(4, .int (nI j)), (0, .ref 98), (1, .int (nI q)), (2, .int (nI x2)), (3, .int (nI x3))] [] h') : ∀ j k (h : List aC) (K1 : List Int32), k + j = q → MSq h n m a de as_ z am ib iN iM iT L.length (cnB (sgB n) L) (cnB (skB n) L) → rd h 107 = some (.inl K1) → K1.length = 6 → (∀ j, j < k → K1.getD j 0 = T.getD (2 * j + 1) 0) → Smo 107 108 h0 h → G mX9_searches (rmD (3 + d) 0 0) none P 0 0 11 [(4, .int (nI k)), (0, .ref 98), (1, .int (nI q)), (2, .int (nI x2)), (3, .int (nI x3))] [] h := by
  intro j
  induction j with
  | zero =>
    intro k h K1 hk hO hK lK1 hk2 hS
    have hO : rd h 98 = some (.inr (9, [.int (nI n), .int (nI m), .ref 99, .ref 100, .ref 101, .int (nI a), .ref 102, .int (nI de), .ref 103, .ref 104, .ref 105, .int (nI ((L).length)), .int as_, .int (nI (cnB (sgB n) (L))), .int (nI (cnB (skB n) (L))), .ref 106, .ref 107, .ref 108, .int z, .ref 109, .ref 110, .ref 111, .int (nI am), .ref 112, .ref 113, .ref 114, .ref 115, .ref 116, .int (nI (bI ib)), .int iN, .int iM, .int iT, .ref 117, .ref 118, .ref 119])) := hO
    refine g_iload dX9_searches_11 0 rfl ?_
    refine g_iload_n dX9_searches_13 2 rfl ?_
    refine g_icmp_geN 52 dX9_searches_14 (by decide) (by omega) (by omega) (fun c14 => ?_) (fun z => absurd z (by omega))
    have ek : k = q := by omega
    subst ek
    exact K _ _ hK lK1 (fun _ => hk2) (fun z => absurd he z) hS _
  | succ j ih =>
    intro k h K1 hk hO hK lK1 hk2 hS
    have hO : rd h 98 = some (.inr (9, [.int (nI n), .int (nI m), .ref 99, .ref 100, .ref 101, .int (nI a), .ref 102, .int (nI de), .ref 103, .ref 104, .ref 105, .int (nI ((L).length)), .int as_, .int (nI (cnB (sgB n) (L))), .int (nI (cnB (skB n) (L))), .ref 106, .ref 107, .ref 108, .int z, .ref 109, .ref 110, .ref 111, .int (nI am), .ref 112, .ref 113, .ref 114, .ref 115, .ref 116, .int (nI (bI ib)), .int iN, .int iM, .int iT, .ref 117, .ref 118, .ref 119])) := hO
    refine g_iload dX9_searches_11 0 rfl ?_
    refine g_iload_n dX9_searches_13 2 rfl ?_
    refine g_icmp_geN 52 dX9_searches_14 (by decide) (by omega) (by omega) (fun z => absurd z (by omega)) (fun c14 => ?_)
    refine g_aload_n dX9_searches_17 1 rfl ?_
    refine g_getf dX9_searches_18 kX9 wfX9_161 (Nat.le_of_ble_eq_true rfl) (hO) rfl ?_
    refine g_aload_n dX9_searches_21 1 rfl ?_
    refine g_getf dX9_searches_22 kX9 wfX9_164 (Nat.le_of_ble_eq_true rfl) (hO) rfl ?_
    refine g_icmp_ne 52 dX9_searches_25 (by decide) (fun z => absurd z (not_not_intro he)) (fun c25 => ?_)
    refine g_aload_n dX9_searches_28 1 rfl ?_
    refine g_getf dX9_searches_29 kX9 wfX9_38 (Nat.le_of_ble_eq_true rfl) (hO) rfl ?_
    refine g_iload dX9_searches_32 0 rfl ?_
    refine g_aload_n dX9_searches_34 1 rfl ?_
    refine g_getf dX9_searches_35 kX9 wfX9_35 (Nat.le_of_ble_eq_true rfl) (hO) rfl ?_
    refine g_iconst (v := nI 2) dX9_searches_38 (by decide +kernel) ?_
    refine g_iload dX9_searches_39 0 rfl ?_
    refine g_imulN dX9_searches_41 ?_
    refine g_iconst (v := nI 1) dX9_searches_42 (by decide +kernel) ?_
    refine g_iaddN dX9_searches_43 ?_
    refine g_ialI dX9_searches_44 ((show rd h 106 = some (.inl T) by rw [hS 106 (by omega)]; exact hT)) (by omega) (by omega) ?_
    refine g_iasI dX9_searches_45 (hK) (by omega) (by omega) (fun h1 e1 => ?_)
    have f1_107 : rd h1 107 = some (.inl ((K1).set k ((T).getD ((2 * k) + 1) 0))) := by rw [e1]; exact rd_wr_eq (hK)
    have lf1_107 : ((K1).set k ((T).getD ((2 * k) + 1) 0)).length = _ := List.length_set.trans lK1
    have s1 : Smo 107 (107 + 1) h h1 := by rw [e1]; exact Smo.wr (by omega) (by omega)
    have f1_98 : rd h1 98 = some (.inr (9, [.int (nI n), .int (nI m), .ref 99, .ref 100, .ref 101, .int (nI a), .ref 102, .int (nI de), .ref 103, .ref 104, .ref 105, .int (nI ((L).length)), .int as_, .int (nI (cnB (sgB n) (L))), .int (nI (cnB (skB n) (L))), .ref 106, .ref 107, .ref 108, .int z, .ref 109, .ref 110, .ref 111, .int (nI am), .ref 112, .ref 113, .ref 114, .ref 115, .ref 116, .int (nI (bI ib)), .int iN, .int iM, .int iT, .ref 117, .ref 118, .ref 119])) := by rw [s1 _ (by omega)]; exact hO
    have f1_106 : rd h1 106 = some (.inl (T)) := by rw [s1 _ (by omega)]; exact (show rd h 106 = some (.inl T) by rw [hS 106 (by omega)]; exact hT)
    refine g_iinc (q := 0) (v := nI (k + 1)) (ls' := [(4, .int (nI (k + 1))), (0, .ref 98), (1, .int (nI q)), (2, .int (nI x2)), (3, .int (nI x3))]) dX9_searches_46 rfl (inc1 _) (Nat.le_of_ble_eq_true rfl) rfl ?_
    refine g_goto 11 dX9_searches_49 (by decide) ?_
    exact ih (k + 1) _ _ (by omega) f1_98 f1_107 (lf1_107) (fun j hj => by by_cases q2 : k = j; (subst q2; exact getD_set_eqI (by omega)); (rw [getD_set_neI q2]; exact hk2 j (by omega))) (hS.tr (fun q hq => by rw [s1 q (by omega)]))

theorem leafF {n : Nat} {T : List Int32} {acc : List Pp} (mt : mtT T acc) (hv : vA n acc) {q : Nat} (hl : acc.length = q) : ∀ k, k < q → T.getD (2 * k) 0 = nI ((fL acc).getD k 0) ∧ T.getD (2 * k + 1) 0 = nI ((sL acc).getD k 0) ∧ (fL acc).getD k 0 < n ∧ (sL acc).getD k 0 < n := fun k hk => by
  obtain ⟨a, b⟩ := fL_at (acc := acc) (k := k) (by omega)
  obtain ⟨c1, c2, c3⟩ := vA_at hv (k := k) (by omega)
  rw [a, b]
  exact ⟨(mt k (by omega)).1, (mt k (by omega)).2, by omega, c3⟩
theorem cnB_one {α : Type} (p : α → Bool) (L : List α) (a : α) : cnB p (L ++ [a]) = cnB p L + bI (p a) := by
  rw [cnB_app]; rfl

set_option maxRecDepth 100000 in
set_option maxHeartbeats 4000000 in
theorem lp_keep {h : List aC} {P : Option Value → List aC → Prop} {n m a de : Nat} {as_ z : Int32} {am : Nat} {ib : Bool} {iN iM iT : Int32} {d : Nat} {L : List (List Pp)} {T Ke : List Int32} (hO : MSq h n m a de as_ z am ib iN iM iT L.length (cnB (sgB n) L) (cnB (skB n) L)) (hT : rd h 106 = some (.inl T)) (lT : T.length = 12) (hK : rd h 107 = some (.inl Ke)) (lK : Ke.length = 6) {q x2 x3 : Nat} (hq : q ≤ 6) (h0 : 0 < q) (K : ∀ K2 h', rd h' 107 = some (.inl K2) → K2.length = 6 → (nI L.length = as_ → ∀ j, j < q → K2.getD j 0 = T.getD (2 * j + 1) 0) → (nI L.length ≠ as_ → K2 = Ke) → Smo 107 108 h h' → ∀ j, G mX9_searches (rmD (3 + d) 0 0) none P 0 0 52 [(4, .int (nI j)), (0, .ref 98), (1, .int (nI q)), (2, .int (nI x2)), (3, .int (nI x3))] [] h') : G mX9_searches (rmD (3 + d) 0 0) none P 0 0 11 [(4, .int (nI 0)), (0, .ref 98), (1, .int (nI q)), (2, .int (nI x2)), (3, .int (nI x3))] [] h := by
  by_cases he : nI L.length = as_
  · exact lp_keep1 hT lT hq he K q 0 h Ke (by omega) hO hK lK (fun j hj => absurd hj (Nat.not_lt_zero j)) Smo.rf
  · have hO : rd h 98 = some (.inr (9, [.int (nI n), .int (nI m), .ref 99, .ref 100, .ref 101, .int (nI a), .ref 102, .int (nI de), .ref 103, .ref 104, .ref 105, .int (nI ((L).length)), .int as_, .int (nI (cnB (sgB n) (L))), .int (nI (cnB (skB n) (L))), .ref 106, .ref 107, .ref 108, .int z, .ref 109, .ref 110, .ref 111, .int (nI am), .ref 112, .ref 113, .ref 114, .ref 115, .ref 116, .int (nI (bI ib)), .int iN, .int iM, .int iT, .ref 117, .ref 118, .ref 119])) := hO
    refine g_iload dX9_searches_11 0 rfl ?_
    refine g_iload_n dX9_searches_13 2 rfl ?_
    refine g_icmp_geN 52 dX9_searches_14 (by decide) (by omega) (by omega) (fun z => absurd z (by omega)) (fun c14 => ?_)
    refine g_aload_n dX9_searches_17 1 rfl ?_
    refine g_getf dX9_searches_18 kX9 wfX9_161 (Nat.le_of_ble_eq_true rfl) (hO) rfl ?_
    refine g_aload_n dX9_searches_21 1 rfl ?_
    refine g_getf dX9_searches_22 kX9 wfX9_164 (Nat.le_of_ble_eq_true rfl) (hO) rfl ?_
    refine g_icmp_ne 52 dX9_searches_25 (by decide) (fun c25 => ?_) (fun z => absurd z he)
    exact K _ _ hK lK (fun z => absurd z he) (fun _ => rfl) Smo.rf _

def mseek (n m a de : Nat) (as_ z : Int32) (am : Nat) (ib : Bool) (iN iM iT : Int32) (d : Nat) : Prop := ∀ (h : List aC) (acc : List Pp) (L : List (List Pp)) (q x2 x3 : Nat), acc.length = q → q + d = (n - 1) / 2 → SSq h n m a de as_ z am ib iN iM iT acc L → vA n acc → nmM x2 acc → dfM n x3 acc → L.length + (E n d acc).length ≤ 2 ^ 30 → Ev mX9_searches (3 + d) 0 0 [.ref 98, .int (nI q), .int (nI x2), .int (nI x3)] h (pq none (fun h2 => SSq h2 n m a de as_ z am ib iN iM iT acc (L ++ E n d acc) ∧ Sm3 h h2))

set_option maxRecDepth 100000 in
set_option maxHeartbeats 4000000 in
theorem mseek_0 {n m a de : Nat} {as_ z : Int32} {am : Nat} {ib : Bool} {iN iM iT : Int32} (h3 : 3 ≤ n) (n3 : n ≤ 13) (odd : n % 2 = 1) : mseek n m a de as_ z am ib iN iM iT 0 := by
  intro h acc L q x2 x3 hl hd hQ hv hB hD hle
  obtain ⟨T, Ke, hO, hT, lT, mt, hK, lK, kp⟩ := id hQ
  have hO : rd h 98 = some (.inr (9, [.int (nI n), .int (nI m), .ref 99, .ref 100, .ref 101, .int (nI a), .ref 102, .int (nI de), .ref 103, .ref 104, .ref 105, .int (nI ((L).length)), .int as_, .int (nI (cnB (sgB n) (L))), .int (nI (cnB (skB n) (L))), .ref 106, .ref 107, .ref 108, .int z, .ref 109, .ref 110, .ref 111, .int (nI am), .ref 112, .ref 113, .ref 114, .ref 115, .ref 116, .int (nI (bI ib)), .int iN, .int iM, .int iT, .ref 117, .ref 118, .ref 119])) := hO
  have c1 := cnB_le (sgB n) L
  have c2 := cnB_le (skB n) L
  have hle : L.length + 1 ≤ 2 ^ 30 := hle
  have hl2 : acc.length = (n - 1) / 2 := by omega
  have eL : (L ++ [acc]).length = L.length + 1 := by rw [List.length_append]; rfl
  refine Ev.of pX9_searches (Nat.le_of_ble_eq_true rfl) ?_
  show G mX9_searches (rmD (3 + 0) 0 0) none _ 0 0 0 [(0, .ref 98), (1, .int (nI q)), (2, .int (nI x2)), (3, .int (nI x3))] [] h
  refine g_iload_n dX9_searches_0 1 rfl ?_
  refine g_aload_n dX9_searches_1 0 rfl ?_
  refine g_callVp dX9_searches_2 (ev_halfR (show MO h n m a de _ _ _ _ z am ib iN iM iT from hO) h3 n3) oX9_half wiX9_half weX9_half wmX9_113 kX9 (hO) rfl ⟨Nat.le_of_ble_eq_true rfl, Nat.le_of_ble_eq_true rfl⟩ ⟨Nat.zero_le _, Nat.zero_le _⟩ (Nat.le_of_ble_eq_true rfl) rfl ?_
  refine g_icmp_neN 117 dX9_searches_5 (by decide) (by omega) (by omega) (fun z => absurd z (by omega)) (fun c5 => ?_)
  refine g_iconst (v := nI 0) dX9_searches_8 (by decide +kernel) ?_
  refine g_istore (ls' := [(4, .int (nI 0)), (0, .ref 98), (1, .int (nI q)), (2, .int (nI x2)), (3, .int (nI x3))]) dX9_searches_9 (Nat.le_of_ble_eq_true rfl) rfl ?_
  refine lp_keep (d := 0) hO hT lT hK lK (by omega) (by omega) (fun Kz hz yz lz ka kb sz jz => ?_)
  have f99_98 : rd hz 98 = some (.inr (9, [.int (nI n), .int (nI m), .ref 99, .ref 100, .ref 101, .int (nI a), .ref 102, .int (nI de), .ref 103, .ref 104, .ref 105, .int (nI ((L).length)), .int as_, .int (nI (cnB (sgB n) (L))), .int (nI (cnB (skB n) (L))), .ref 106, .ref 107, .ref 108, .int z, .ref 109, .ref 110, .ref 111, .int (nI am), .ref 112, .ref 113, .ref 114, .ref 115, .ref 116, .int (nI (bI ib)), .int iN, .int iM, .int iT, .ref 117, .ref 118, .ref 119])) := by rw [sz _ (by omega)]; exact hO
  have f99_106 : rd hz 106 = some (.inl (T)) := by rw [sz _ (by omega)]; exact hT
  refine g_aload_n dX9_searches_52 1 rfl ?_
  refine g_dup dX9_searches_53 rfl ?_
  refine g_getf dX9_searches_54 kX9 wfX9_167 (Nat.le_of_ble_eq_true rfl) (f99_98) rfl ?_
  refine g_aload_n dX9_searches_57 1 rfl ?_
  refine g_aload_n dX9_searches_58 1 rfl ?_
  refine g_getf dX9_searches_59 kX9 wfX9_35 (Nat.le_of_ble_eq_true rfl) (f99_98) rfl ?_
  refine g_iconst (v := nI 2) dX9_searches_62 (by decide +kernel) ?_
  refine g_iconst (v := nI 0) dX9_searches_63 (by decide +kernel) ?_
  refine g_callVp dX9_searches_64 (ev_unlike (show MO hz _ _ _ _ _ _ _ _ _ _ _ _ _ _ from f99_98) h3 n3 (s := 2) f99_106 (by omega) (by omega) (fun k hk => by omega) (F := fL acc) (S := sL acc) (leafF mt hv hl2) (wk := false)) oX9_areUnlike wiX9_areUnlike weX9_areUnlike wmX9_154 kX9 (f99_98) rfl ⟨Nat.le_of_ble_eq_true rfl, Nat.le_of_ble_eq_true rfl⟩ ⟨Nat.zero_le _, Nat.zero_le _⟩ (Nat.le_of_ble_eq_true rfl) rfl ?_
  refine g_top (show nI (bI (unM n false (fL acc) (sL acc) ((n - 1) / 2))) = nI (bI (sgB n acc)) from congrArg (fun z => nI (bI z)) ((un_st (by omega) n3).trans (by unfold sgB; rw [hl2]))) ?_
  refine g_if_eqB 74 dX9_searches_67 (by decide) (fun c67 => ?_) (fun c67 => ?_)
  · refine g_iconst (v := nI 0) dX9_searches_74 (by decide +kernel) ?_
    refine g_iaddN dX9_searches_75 ?_
    refine g_top (show nI ((cnB (sgB n) (L)) + 0) = nI (cnB (sgB n) L + bI (sgB n acc)) from congrArg nI (congrArg (cnB (sgB n) L + ·) (by rw [c67]; rfl))) ?_
    refine g_putv dX9_searches_76 kX9 wfX9_167 (Nat.le_of_ble_eq_true rfl) rfl (fun _ _ => ⟨rfl, rfl⟩) (f99_98) (Nat.le_of_ble_eq_true rfl) (fs' := [.int (nI n), .int (nI m), .ref 99, .ref 100, .ref 101, .int (nI a), .ref 102, .int (nI de), .ref 103, .ref 104, .ref 105, .int (nI ((L).length)), .int as_, .int (nI (cnB (sgB n) L + bI (sgB n acc))), .int (nI (cnB (skB n) (L))), .ref 106, .ref 107, .ref 108, .int z, .ref 109, .ref 110, .ref 111, .int (nI am), .ref 112, .ref 113, .ref 114, .ref 115, .ref 116, .int (nI (bI ib)), .int iN, .int iM, .int iT, .ref 117, .ref 118, .ref 119]) rfl (fun h1 e1 => ?_)
    have f1_98 : rd h1 98 = some (.inr (9, [.int (nI n), .int (nI m), .ref 99, .ref 100, .ref 101, .int (nI a), .ref 102, .int (nI de), .ref 103, .ref 104, .ref 105, .int (nI ((L).length)), .int as_, .int (nI (cnB (sgB n) L + bI (sgB n acc))), .int (nI (cnB (skB n) (L))), .ref 106, .ref 107, .ref 108, .int z, .ref 109, .ref 110, .ref 111, .int (nI am), .ref 112, .ref 113, .ref 114, .ref 115, .ref 116, .int (nI (bI ib)), .int iN, .int iM, .int iT, .ref 117, .ref 118, .ref 119])) := by rw [e1]; exact rd_wr_eq (f99_98)
    have s1 : Smo 98 (98 + 1) hz h1 := by rw [e1]; exact Smo.wr (by omega) (by omega)
    have f1_106 : rd h1 106 = some (.inl (T)) := by rw [s1 _ (by omega)]; exact f99_106
    have f1_107 : rd h1 107 = some (.inl (Kz)) := by rw [s1 _ (by omega)]; exact yz
    refine g_aload_n dX9_searches_79 1 rfl ?_
    refine g_dup dX9_searches_80 rfl ?_
    refine g_getf dX9_searches_81 kX9 wfX9_170 (Nat.le_of_ble_eq_true rfl) (f1_98) rfl ?_
    refine g_aload_n dX9_searches_84 1 rfl ?_
    refine g_aload_n dX9_searches_85 1 rfl ?_
    refine g_getf dX9_searches_86 kX9 wfX9_35 (Nat.le_of_ble_eq_true rfl) (f1_98) rfl ?_
    refine g_iconst (v := nI 2) dX9_searches_89 (by decide +kernel) ?_
    refine g_iconst (v := nI 1) dX9_searches_90 (by decide +kernel) ?_
    refine g_callVp dX9_searches_91 (ev_unlike (show MO h1 _ _ _ _ _ _ _ _ _ _ _ _ _ _ from f1_98) h3 n3 (s := 2) f1_106 (by omega) (by omega) (fun k hk => by omega) (F := fL acc) (S := sL acc) (leafF mt hv hl2) (wk := true)) oX9_areUnlike wiX9_areUnlike weX9_areUnlike wmX9_154 kX9 (f1_98) rfl ⟨Nat.le_of_ble_eq_true rfl, Nat.le_of_ble_eq_true rfl⟩ ⟨Nat.zero_le _, Nat.zero_le _⟩ (Nat.le_of_ble_eq_true rfl) rfl ?_
    refine g_top (show nI (bI (unM n true (fL acc) (sL acc) ((n - 1) / 2))) = nI (bI (skB n acc)) from congrArg (fun z => nI (bI z)) ((un_sk (by omega) n3 odd).trans (by unfold skB; rw [hl2]))) ?_
    refine g_if_eqB 101 dX9_searches_94 (by decide) (fun c94 => ?_) (fun c94 => ?_)
    · refine g_iconst (v := nI 0) dX9_searches_101 (by decide +kernel) ?_
      refine g_iaddN dX9_searches_102 ?_
      refine g_top (show nI ((cnB (skB n) (L)) + 0) = nI (cnB (skB n) L + bI (skB n acc)) from congrArg nI (congrArg (cnB (skB n) L + ·) (by rw [c94]; rfl))) ?_
      refine g_putv dX9_searches_103 kX9 wfX9_170 (Nat.le_of_ble_eq_true rfl) rfl (fun _ _ => ⟨rfl, rfl⟩) (f1_98) (Nat.le_of_ble_eq_true rfl) (fs' := [.int (nI n), .int (nI m), .ref 99, .ref 100, .ref 101, .int (nI a), .ref 102, .int (nI de), .ref 103, .ref 104, .ref 105, .int (nI ((L).length)), .int as_, .int (nI (cnB (sgB n) L + bI (sgB n acc))), .int (nI (cnB (skB n) L + bI (skB n acc))), .ref 106, .ref 107, .ref 108, .int z, .ref 109, .ref 110, .ref 111, .int (nI am), .ref 112, .ref 113, .ref 114, .ref 115, .ref 116, .int (nI (bI ib)), .int iN, .int iM, .int iT, .ref 117, .ref 118, .ref 119]) rfl (fun h2 e2 => ?_)
      have f2_98 : rd h2 98 = some (.inr (9, [.int (nI n), .int (nI m), .ref 99, .ref 100, .ref 101, .int (nI a), .ref 102, .int (nI de), .ref 103, .ref 104, .ref 105, .int (nI ((L).length)), .int as_, .int (nI (cnB (sgB n) L + bI (sgB n acc))), .int (nI (cnB (skB n) L + bI (skB n acc))), .ref 106, .ref 107, .ref 108, .int z, .ref 109, .ref 110, .ref 111, .int (nI am), .ref 112, .ref 113, .ref 114, .ref 115, .ref 116, .int (nI (bI ib)), .int iN, .int iM, .int iT, .ref 117, .ref 118, .ref 119])) := by rw [e2]; exact rd_wr_eq (f1_98)
      have s2 : Smo 98 (98 + 1) h1 h2 := by rw [e2]; exact Smo.wr (by omega) (by omega)
      have f2_106 : rd h2 106 = some (.inl (T)) := by rw [s2 _ (by omega)]; exact f1_106
      have f2_107 : rd h2 107 = some (.inl (Kz)) := by rw [s2 _ (by omega)]; exact f1_107
      refine g_aload_n dX9_searches_106 1 rfl ?_
      refine g_dup dX9_searches_107 rfl ?_
      refine g_getf dX9_searches_108 kX9 wfX9_161 (Nat.le_of_ble_eq_true rfl) (f2_98) rfl ?_
      refine g_iconst (v := nI 1) dX9_searches_111 (by decide +kernel) ?_
      refine g_iaddN dX9_searches_112 ?_
      refine g_putv dX9_searches_113 kX9 wfX9_161 (Nat.le_of_ble_eq_true rfl) rfl (fun _ _ => ⟨rfl, rfl⟩) (f2_98) (Nat.le_of_ble_eq_true rfl) (fs' := [.int (nI n), .int (nI m), .ref 99, .ref 100, .ref 101, .int (nI a), .ref 102, .int (nI de), .ref 103, .ref 104, .ref 105, .int (nI (((L).length) + 1)), .int as_, .int (nI (cnB (sgB n) L + bI (sgB n acc))), .int (nI (cnB (skB n) L + bI (skB n acc))), .ref 106, .ref 107, .ref 108, .int z, .ref 109, .ref 110, .ref 111, .int (nI am), .ref 112, .ref 113, .ref 114, .ref 115, .ref 116, .int (nI (bI ib)), .int iN, .int iM, .int iT, .ref 117, .ref 118, .ref 119]) rfl (fun h3 e3 => ?_)
      have f3_98 : rd h3 98 = some (.inr (9, [.int (nI n), .int (nI m), .ref 99, .ref 100, .ref 101, .int (nI a), .ref 102, .int (nI de), .ref 103, .ref 104, .ref 105, .int (nI (((L).length) + 1)), .int as_, .int (nI (cnB (sgB n) L + bI (sgB n acc))), .int (nI (cnB (skB n) L + bI (skB n acc))), .ref 106, .ref 107, .ref 108, .int z, .ref 109, .ref 110, .ref 111, .int (nI am), .ref 112, .ref 113, .ref 114, .ref 115, .ref 116, .int (nI (bI ib)), .int iN, .int iM, .int iT, .ref 117, .ref 118, .ref 119])) := by rw [e3]; exact rd_wr_eq (f2_98)
      have s3 : Smo 98 (98 + 1) h2 h3 := by rw [e3]; exact Smo.wr (by omega) (by omega)
      have f3_106 : rd h3 106 = some (.inl (T)) := by rw [s3 _ (by omega)]; exact f2_106
      have f3_107 : rd h3 107 = some (.inl (Kz)) := by rw [s3 _ (by omega)]; exact f2_107
      exact g_vret dX9_searches_116 rfl ⟨Nat.zero_le _, Nat.zero_le _⟩ (⟨rfl, ⟨T, Kz, by rw [show L ++ E n 0 acc = L ++ [acc] from rfl, eL, cnB_one, cnB_one]; exact f3_98, f3_106, lT, mt, f3_107, lz, kpR_add kp (by omega) mt (by omega) (fun z j hj => ka z j (by omega)) kb⟩, (fun q hq => by rw [s3 q (by omega), s2 q (by omega), s1 q (by omega), sz q (by omega)])⟩)
    · refine g_iconst (v := nI 1) dX9_searches_97 (by decide +kernel) ?_
      refine g_goto 102 dX9_searches_98 (by decide) ?_
      refine g_iaddN dX9_searches_102 ?_
      refine g_top (show nI ((cnB (skB n) (L)) + 1) = nI (cnB (skB n) L + bI (skB n acc)) from congrArg nI (congrArg (cnB (skB n) L + ·) (by rw [c94]; rfl))) ?_
      refine g_putv dX9_searches_103 kX9 wfX9_170 (Nat.le_of_ble_eq_true rfl) rfl (fun _ _ => ⟨rfl, rfl⟩) (f1_98) (Nat.le_of_ble_eq_true rfl) (fs' := [.int (nI n), .int (nI m), .ref 99, .ref 100, .ref 101, .int (nI a), .ref 102, .int (nI de), .ref 103, .ref 104, .ref 105, .int (nI ((L).length)), .int as_, .int (nI (cnB (sgB n) L + bI (sgB n acc))), .int (nI (cnB (skB n) L + bI (skB n acc))), .ref 106, .ref 107, .ref 108, .int z, .ref 109, .ref 110, .ref 111, .int (nI am), .ref 112, .ref 113, .ref 114, .ref 115, .ref 116, .int (nI (bI ib)), .int iN, .int iM, .int iT, .ref 117, .ref 118, .ref 119]) rfl (fun h4 e4 => ?_)
      have f4_98 : rd h4 98 = some (.inr (9, [.int (nI n), .int (nI m), .ref 99, .ref 100, .ref 101, .int (nI a), .ref 102, .int (nI de), .ref 103, .ref 104, .ref 105, .int (nI ((L).length)), .int as_, .int (nI (cnB (sgB n) L + bI (sgB n acc))), .int (nI (cnB (skB n) L + bI (skB n acc))), .ref 106, .ref 107, .ref 108, .int z, .ref 109, .ref 110, .ref 111, .int (nI am), .ref 112, .ref 113, .ref 114, .ref 115, .ref 116, .int (nI (bI ib)), .int iN, .int iM, .int iT, .ref 117, .ref 118, .ref 119])) := by rw [e4]; exact rd_wr_eq (f1_98)
      have s4 : Smo 98 (98 + 1) h1 h4 := by rw [e4]; exact Smo.wr (by omega) (by omega)
      have f4_106 : rd h4 106 = some (.inl (T)) := by rw [s4 _ (by omega)]; exact f1_106
      have f4_107 : rd h4 107 = some (.inl (Kz)) := by rw [s4 _ (by omega)]; exact f1_107
      refine g_aload_n dX9_searches_106 1 rfl ?_
      refine g_dup dX9_searches_107 rfl ?_
      refine g_getf dX9_searches_108 kX9 wfX9_161 (Nat.le_of_ble_eq_true rfl) (f4_98) rfl ?_
      refine g_iconst (v := nI 1) dX9_searches_111 (by decide +kernel) ?_
      refine g_iaddN dX9_searches_112 ?_
      refine g_putv dX9_searches_113 kX9 wfX9_161 (Nat.le_of_ble_eq_true rfl) rfl (fun _ _ => ⟨rfl, rfl⟩) (f4_98) (Nat.le_of_ble_eq_true rfl) (fs' := [.int (nI n), .int (nI m), .ref 99, .ref 100, .ref 101, .int (nI a), .ref 102, .int (nI de), .ref 103, .ref 104, .ref 105, .int (nI (((L).length) + 1)), .int as_, .int (nI (cnB (sgB n) L + bI (sgB n acc))), .int (nI (cnB (skB n) L + bI (skB n acc))), .ref 106, .ref 107, .ref 108, .int z, .ref 109, .ref 110, .ref 111, .int (nI am), .ref 112, .ref 113, .ref 114, .ref 115, .ref 116, .int (nI (bI ib)), .int iN, .int iM, .int iT, .ref 117, .ref 118, .ref 119]) rfl (fun h5 e5 => ?_)
      have f5_98 : rd h5 98 = some (.inr (9, [.int (nI n), .int (nI m), .ref 99, .ref 100, .ref 101, .int (nI a), .ref 102, .int (nI de), .ref 103, .ref 104, .ref 105, .int (nI (((L).length) + 1)), .int as_, .int (nI (cnB (sgB n) L + bI (sgB n acc))), .int (nI (cnB (skB n) L + bI (skB n acc))), .ref 106, .ref 107, .ref 108, .int z, .ref 109, .ref 110, .ref 111, .int (nI am), .ref 112, .ref 113, .ref 114, .ref 115, .ref 116, .int (nI (bI ib)), .int iN, .int iM, .int iT, .ref 117, .ref 118, .ref 119])) := by rw [e5]; exact rd_wr_eq (f4_98)
      have s5 : Smo 98 (98 + 1) h4 h5 := by rw [e5]; exact Smo.wr (by omega) (by omega)
      have f5_106 : rd h5 106 = some (.inl (T)) := by rw [s5 _ (by omega)]; exact f4_106
      have f5_107 : rd h5 107 = some (.inl (Kz)) := by rw [s5 _ (by omega)]; exact f4_107
      exact g_vret dX9_searches_116 rfl ⟨Nat.zero_le _, Nat.zero_le _⟩ (⟨rfl, ⟨T, Kz, by rw [show L ++ E n 0 acc = L ++ [acc] from rfl, eL, cnB_one, cnB_one]; exact f5_98, f5_106, lT, mt, f5_107, lz, kpR_add kp (by omega) mt (by omega) (fun z j hj => ka z j (by omega)) kb⟩, (fun q hq => by rw [s5 q (by omega), s4 q (by omega), s1 q (by omega), sz q (by omega)])⟩)
  · refine g_iconst (v := nI 1) dX9_searches_70 (by decide +kernel) ?_
    refine g_goto 75 dX9_searches_71 (by decide) ?_
    refine g_iaddN dX9_searches_75 ?_
    refine g_top (show nI ((cnB (sgB n) (L)) + 1) = nI (cnB (sgB n) L + bI (sgB n acc)) from congrArg nI (congrArg (cnB (sgB n) L + ·) (by rw [c67]; rfl))) ?_
    refine g_putv dX9_searches_76 kX9 wfX9_167 (Nat.le_of_ble_eq_true rfl) rfl (fun _ _ => ⟨rfl, rfl⟩) (f99_98) (Nat.le_of_ble_eq_true rfl) (fs' := [.int (nI n), .int (nI m), .ref 99, .ref 100, .ref 101, .int (nI a), .ref 102, .int (nI de), .ref 103, .ref 104, .ref 105, .int (nI ((L).length)), .int as_, .int (nI (cnB (sgB n) L + bI (sgB n acc))), .int (nI (cnB (skB n) (L))), .ref 106, .ref 107, .ref 108, .int z, .ref 109, .ref 110, .ref 111, .int (nI am), .ref 112, .ref 113, .ref 114, .ref 115, .ref 116, .int (nI (bI ib)), .int iN, .int iM, .int iT, .ref 117, .ref 118, .ref 119]) rfl (fun h6 e6 => ?_)
    have f6_98 : rd h6 98 = some (.inr (9, [.int (nI n), .int (nI m), .ref 99, .ref 100, .ref 101, .int (nI a), .ref 102, .int (nI de), .ref 103, .ref 104, .ref 105, .int (nI ((L).length)), .int as_, .int (nI (cnB (sgB n) L + bI (sgB n acc))), .int (nI (cnB (skB n) (L))), .ref 106, .ref 107, .ref 108, .int z, .ref 109, .ref 110, .ref 111, .int (nI am), .ref 112, .ref 113, .ref 114, .ref 115, .ref 116, .int (nI (bI ib)), .int iN, .int iM, .int iT, .ref 117, .ref 118, .ref 119])) := by rw [e6]; exact rd_wr_eq (f99_98)
    have s6 : Smo 98 (98 + 1) hz h6 := by rw [e6]; exact Smo.wr (by omega) (by omega)
    have f6_106 : rd h6 106 = some (.inl (T)) := by rw [s6 _ (by omega)]; exact f99_106
    have f6_107 : rd h6 107 = some (.inl (Kz)) := by rw [s6 _ (by omega)]; exact yz
    refine g_aload_n dX9_searches_79 1 rfl ?_
    refine g_dup dX9_searches_80 rfl ?_
    refine g_getf dX9_searches_81 kX9 wfX9_170 (Nat.le_of_ble_eq_true rfl) (f6_98) rfl ?_
    refine g_aload_n dX9_searches_84 1 rfl ?_
    refine g_aload_n dX9_searches_85 1 rfl ?_
    refine g_getf dX9_searches_86 kX9 wfX9_35 (Nat.le_of_ble_eq_true rfl) (f6_98) rfl ?_
    refine g_iconst (v := nI 2) dX9_searches_89 (by decide +kernel) ?_
    refine g_iconst (v := nI 1) dX9_searches_90 (by decide +kernel) ?_
    refine g_callVp dX9_searches_91 (ev_unlike (show MO h6 _ _ _ _ _ _ _ _ _ _ _ _ _ _ from f6_98) h3 n3 (s := 2) f6_106 (by omega) (by omega) (fun k hk => by omega) (F := fL acc) (S := sL acc) (leafF mt hv hl2) (wk := true)) oX9_areUnlike wiX9_areUnlike weX9_areUnlike wmX9_154 kX9 (f6_98) rfl ⟨Nat.le_of_ble_eq_true rfl, Nat.le_of_ble_eq_true rfl⟩ ⟨Nat.zero_le _, Nat.zero_le _⟩ (Nat.le_of_ble_eq_true rfl) rfl ?_
    refine g_top (show nI (bI (unM n true (fL acc) (sL acc) ((n - 1) / 2))) = nI (bI (skB n acc)) from congrArg (fun z => nI (bI z)) ((un_sk (by omega) n3 odd).trans (by unfold skB; rw [hl2]))) ?_
    refine g_if_eqB 101 dX9_searches_94 (by decide) (fun c94 => ?_) (fun c94 => ?_)
    · refine g_iconst (v := nI 0) dX9_searches_101 (by decide +kernel) ?_
      refine g_iaddN dX9_searches_102 ?_
      refine g_top (show nI ((cnB (skB n) (L)) + 0) = nI (cnB (skB n) L + bI (skB n acc)) from congrArg nI (congrArg (cnB (skB n) L + ·) (by rw [c94]; rfl))) ?_
      refine g_putv dX9_searches_103 kX9 wfX9_170 (Nat.le_of_ble_eq_true rfl) rfl (fun _ _ => ⟨rfl, rfl⟩) (f6_98) (Nat.le_of_ble_eq_true rfl) (fs' := [.int (nI n), .int (nI m), .ref 99, .ref 100, .ref 101, .int (nI a), .ref 102, .int (nI de), .ref 103, .ref 104, .ref 105, .int (nI ((L).length)), .int as_, .int (nI (cnB (sgB n) L + bI (sgB n acc))), .int (nI (cnB (skB n) L + bI (skB n acc))), .ref 106, .ref 107, .ref 108, .int z, .ref 109, .ref 110, .ref 111, .int (nI am), .ref 112, .ref 113, .ref 114, .ref 115, .ref 116, .int (nI (bI ib)), .int iN, .int iM, .int iT, .ref 117, .ref 118, .ref 119]) rfl (fun h7 e7 => ?_)
      have f7_98 : rd h7 98 = some (.inr (9, [.int (nI n), .int (nI m), .ref 99, .ref 100, .ref 101, .int (nI a), .ref 102, .int (nI de), .ref 103, .ref 104, .ref 105, .int (nI ((L).length)), .int as_, .int (nI (cnB (sgB n) L + bI (sgB n acc))), .int (nI (cnB (skB n) L + bI (skB n acc))), .ref 106, .ref 107, .ref 108, .int z, .ref 109, .ref 110, .ref 111, .int (nI am), .ref 112, .ref 113, .ref 114, .ref 115, .ref 116, .int (nI (bI ib)), .int iN, .int iM, .int iT, .ref 117, .ref 118, .ref 119])) := by rw [e7]; exact rd_wr_eq (f6_98)
      have s7 : Smo 98 (98 + 1) h6 h7 := by rw [e7]; exact Smo.wr (by omega) (by omega)
      have f7_106 : rd h7 106 = some (.inl (T)) := by rw [s7 _ (by omega)]; exact f6_106
      have f7_107 : rd h7 107 = some (.inl (Kz)) := by rw [s7 _ (by omega)]; exact f6_107
      refine g_aload_n dX9_searches_106 1 rfl ?_
      refine g_dup dX9_searches_107 rfl ?_
      refine g_getf dX9_searches_108 kX9 wfX9_161 (Nat.le_of_ble_eq_true rfl) (f7_98) rfl ?_
      refine g_iconst (v := nI 1) dX9_searches_111 (by decide +kernel) ?_
      refine g_iaddN dX9_searches_112 ?_
      refine g_putv dX9_searches_113 kX9 wfX9_161 (Nat.le_of_ble_eq_true rfl) rfl (fun _ _ => ⟨rfl, rfl⟩) (f7_98) (Nat.le_of_ble_eq_true rfl) (fs' := [.int (nI n), .int (nI m), .ref 99, .ref 100, .ref 101, .int (nI a), .ref 102, .int (nI de), .ref 103, .ref 104, .ref 105, .int (nI (((L).length) + 1)), .int as_, .int (nI (cnB (sgB n) L + bI (sgB n acc))), .int (nI (cnB (skB n) L + bI (skB n acc))), .ref 106, .ref 107, .ref 108, .int z, .ref 109, .ref 110, .ref 111, .int (nI am), .ref 112, .ref 113, .ref 114, .ref 115, .ref 116, .int (nI (bI ib)), .int iN, .int iM, .int iT, .ref 117, .ref 118, .ref 119]) rfl (fun h8 e8 => ?_)
      have f8_98 : rd h8 98 = some (.inr (9, [.int (nI n), .int (nI m), .ref 99, .ref 100, .ref 101, .int (nI a), .ref 102, .int (nI de), .ref 103, .ref 104, .ref 105, .int (nI (((L).length) + 1)), .int as_, .int (nI (cnB (sgB n) L + bI (sgB n acc))), .int (nI (cnB (skB n) L + bI (skB n acc))), .ref 106, .ref 107, .ref 108, .int z, .ref 109, .ref 110, .ref 111, .int (nI am), .ref 112, .ref 113, .ref 114, .ref 115, .ref 116, .int (nI (bI ib)), .int iN, .int iM, .int iT, .ref 117, .ref 118, .ref 119])) := by rw [e8]; exact rd_wr_eq (f7_98)
      have s8 : Smo 98 (98 + 1) h7 h8 := by rw [e8]; exact Smo.wr (by omega) (by omega)
      have f8_106 : rd h8 106 = some (.inl (T)) := by rw [s8 _ (by omega)]; exact f7_106
      have f8_107 : rd h8 107 = some (.inl (Kz)) := by rw [s8 _ (by omega)]; exact f7_107
      exact g_vret dX9_searches_116 rfl ⟨Nat.zero_le _, Nat.zero_le _⟩ (⟨rfl, ⟨T, Kz, by rw [show L ++ E n 0 acc = L ++ [acc] from rfl, eL, cnB_one, cnB_one]; exact f8_98, f8_106, lT, mt, f8_107, lz, kpR_add kp (by omega) mt (by omega) (fun z j hj => ka z j (by omega)) kb⟩, (fun q hq => by rw [s8 q (by omega), s7 q (by omega), s6 q (by omega), sz q (by omega)])⟩)
    · refine g_iconst (v := nI 1) dX9_searches_97 (by decide +kernel) ?_
      refine g_goto 102 dX9_searches_98 (by decide) ?_
      refine g_iaddN dX9_searches_102 ?_
      refine g_top (show nI ((cnB (skB n) (L)) + 1) = nI (cnB (skB n) L + bI (skB n acc)) from congrArg nI (congrArg (cnB (skB n) L + ·) (by rw [c94]; rfl))) ?_
      refine g_putv dX9_searches_103 kX9 wfX9_170 (Nat.le_of_ble_eq_true rfl) rfl (fun _ _ => ⟨rfl, rfl⟩) (f6_98) (Nat.le_of_ble_eq_true rfl) (fs' := [.int (nI n), .int (nI m), .ref 99, .ref 100, .ref 101, .int (nI a), .ref 102, .int (nI de), .ref 103, .ref 104, .ref 105, .int (nI ((L).length)), .int as_, .int (nI (cnB (sgB n) L + bI (sgB n acc))), .int (nI (cnB (skB n) L + bI (skB n acc))), .ref 106, .ref 107, .ref 108, .int z, .ref 109, .ref 110, .ref 111, .int (nI am), .ref 112, .ref 113, .ref 114, .ref 115, .ref 116, .int (nI (bI ib)), .int iN, .int iM, .int iT, .ref 117, .ref 118, .ref 119]) rfl (fun h9 e9 => ?_)
      have f9_98 : rd h9 98 = some (.inr (9, [.int (nI n), .int (nI m), .ref 99, .ref 100, .ref 101, .int (nI a), .ref 102, .int (nI de), .ref 103, .ref 104, .ref 105, .int (nI ((L).length)), .int as_, .int (nI (cnB (sgB n) L + bI (sgB n acc))), .int (nI (cnB (skB n) L + bI (skB n acc))), .ref 106, .ref 107, .ref 108, .int z, .ref 109, .ref 110, .ref 111, .int (nI am), .ref 112, .ref 113, .ref 114, .ref 115, .ref 116, .int (nI (bI ib)), .int iN, .int iM, .int iT, .ref 117, .ref 118, .ref 119])) := by rw [e9]; exact rd_wr_eq (f6_98)
      have s9 : Smo 98 (98 + 1) h6 h9 := by rw [e9]; exact Smo.wr (by omega) (by omega)
      have f9_106 : rd h9 106 = some (.inl (T)) := by rw [s9 _ (by omega)]; exact f6_106
      have f9_107 : rd h9 107 = some (.inl (Kz)) := by rw [s9 _ (by omega)]; exact f6_107
      refine g_aload_n dX9_searches_106 1 rfl ?_
      refine g_dup dX9_searches_107 rfl ?_
      refine g_getf dX9_searches_108 kX9 wfX9_161 (Nat.le_of_ble_eq_true rfl) (f9_98) rfl ?_
      refine g_iconst (v := nI 1) dX9_searches_111 (by decide +kernel) ?_
      refine g_iaddN dX9_searches_112 ?_
      refine g_putv dX9_searches_113 kX9 wfX9_161 (Nat.le_of_ble_eq_true rfl) rfl (fun _ _ => ⟨rfl, rfl⟩) (f9_98) (Nat.le_of_ble_eq_true rfl) (fs' := [.int (nI n), .int (nI m), .ref 99, .ref 100, .ref 101, .int (nI a), .ref 102, .int (nI de), .ref 103, .ref 104, .ref 105, .int (nI (((L).length) + 1)), .int as_, .int (nI (cnB (sgB n) L + bI (sgB n acc))), .int (nI (cnB (skB n) L + bI (skB n acc))), .ref 106, .ref 107, .ref 108, .int z, .ref 109, .ref 110, .ref 111, .int (nI am), .ref 112, .ref 113, .ref 114, .ref 115, .ref 116, .int (nI (bI ib)), .int iN, .int iM, .int iT, .ref 117, .ref 118, .ref 119]) rfl (fun h10 e10 => ?_)
      have f10_98 : rd h10 98 = some (.inr (9, [.int (nI n), .int (nI m), .ref 99, .ref 100, .ref 101, .int (nI a), .ref 102, .int (nI de), .ref 103, .ref 104, .ref 105, .int (nI (((L).length) + 1)), .int as_, .int (nI (cnB (sgB n) L + bI (sgB n acc))), .int (nI (cnB (skB n) L + bI (skB n acc))), .ref 106, .ref 107, .ref 108, .int z, .ref 109, .ref 110, .ref 111, .int (nI am), .ref 112, .ref 113, .ref 114, .ref 115, .ref 116, .int (nI (bI ib)), .int iN, .int iM, .int iT, .ref 117, .ref 118, .ref 119])) := by rw [e10]; exact rd_wr_eq (f9_98)
      have s10 : Smo 98 (98 + 1) h9 h10 := by rw [e10]; exact Smo.wr (by omega) (by omega)
      have f10_106 : rd h10 106 = some (.inl (T)) := by rw [s10 _ (by omega)]; exact f9_106
      have f10_107 : rd h10 107 = some (.inl (Kz)) := by rw [s10 _ (by omega)]; exact f9_107
      exact g_vret dX9_searches_116 rfl ⟨Nat.zero_le _, Nat.zero_le _⟩ (⟨rfl, ⟨T, Kz, by rw [show L ++ E n 0 acc = L ++ [acc] from rfl, eL, cnB_one, cnB_one]; exact f10_98, f10_106, lT, mt, f10_107, lz, kpR_add kp (by omega) mt (by omega) (fun z j hj => ka z j (by omega)) kb⟩, (fun q hq => by rw [s10 q (by omega), s9 q (by omega), s6 q (by omega), sz q (by omega)])⟩)
