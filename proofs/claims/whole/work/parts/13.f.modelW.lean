def adM (ads : Nat) (acc : List Nat) : Prop := ads < 2 ^ 13 ∧ ∀ i, i < 13 → ads.testBit i = acc.contains i
def shM (n sh : Nat) (F S acc : List Nat) : Prop := sh < 2 ^ 13 ∧ ∀ i, i < 13 → sh.testBit i = shd n F S acc i
theorem adM_add {ads : Nat} {acc : List Nat} (h : adM ads acc) {v : Nat} (hv : v < 13) : adM (ads ||| 2 ^ v) (acc ++ [v]) := by
  refine ⟨or_lt h.1 (pw_lt hv), fun i hi => ?_⟩
  rw [Nat.testBit_or, Nat.testBit_two_pow, h.2 i hi, Bool.eq_iff_iff, Bool.or_eq_true, List.contains_iff_mem, List.contains_iff_mem, decide_eq_true_eq, List.mem_append, List.mem_singleton]
  exact ⟨fun z => z.imp id Eq.symm, fun z => z.imp id Eq.symm⟩
theorem shM_add {n sh : Nat} {F S acc : List Nat} (h : shM n sh F S acc) {v : Nat} (hn : n ≤ 13) (h0 : 0 < n) : shM n ((sh ||| 2 ^ ((F.getD acc.length 0 + v) % n)) ||| 2 ^ ((S.getD acc.length 0 + v) % n)) F S (acc ++ [v]) := by
  have l1 := Nat.mod_lt (F.getD acc.length 0 + v) h0
  have l2 := Nat.mod_lt (S.getD acc.length 0 + v) h0
  refine ⟨or_lt (or_lt h.1 (pw_lt (by omega))) (pw_lt (by omega)), fun i hi => ?_⟩
  rw [Nat.testBit_or, Nat.testBit_or, Nat.testBit_two_pow, Nat.testBit_two_pow, h.2 i hi, shd_snoc, Bool.or_assoc]
  rfl
theorem okV_M {n ads sh : Nat} {F S acc : List Nat} (hA : adM ads acc) (hD : shM n sh F S acc) (hn : n ≤ 13) {v : Nat} (hv : v < n) : okV n F S acc v = (!ads.testBit v && (!(decide ((F.getD acc.length 0 + v) % n = 0) || sh.testBit ((F.getD acc.length 0 + v) % n)) && !(decide ((S.getD acc.length 0 + v) % n = 0) || sh.testBit ((S.getD acc.length 0 + v) % n)))) := by
  have l1 := Nat.mod_lt (F.getD acc.length 0 + v) (show 0 < n by omega)
  have l2 := Nat.mod_lt (S.getD acc.length 0 + v) (show 0 < n by omega)
  unfold okV
  rw [hA.2 v (by omega), hD.2 _ (by omega), hD.2 _ (by omega)]
/-- the tried adders hold acc -/
def mtV (T : List Int32) (acc : List Nat) : Prop := ∀ k, k < acc.length → T.getD k 0 = nI (acc.getD k 0)
theorem mtV_add {T : List Int32} {acc : List Nat} (h : mtV T acc) (l : T.length = 12) (hl : acc.length < 6) (v : Nat) : mtV (T.set acc.length (nI v)) (acc ++ [v]) := fun k hk => by
  rw [List.length_append] at hk
  have hk : k < acc.length + 1 := hk
  by_cases q : k = acc.length
  · subst q; rw [getD_snoc_eq, getD_set_eqI (by omega)]
  · rw [getD_snoc_lt (by omega), getD_set_neI (by omega)]; exact h k (by omega)
theorem mtV_less {T : List Int32} {acc : List Nat} {v : Nat} (h : mtV T (acc ++ [v])) : mtV T acc := fun k hk => by
  have z := h k (by rw [List.length_append]; exact Nat.lt_add_right _ hk)
  rw [getD_snoc_lt hk] at z
  exact z
def kpV (w : Int32) (K : List Int32) (q : Nat) (L : List (List Nat)) : Prop := ∀ i, w = nI i → i < L.length → ∀ j, j < q → K.getD j 0 = nI ((L.getD i []).getD j 0)
theorem kpV_add {w : Int32} {K K2 T : List Int32} {q : Nat} {L : List (List Nat)} {acc : List Nat} (h : kpV w K q L) (hl : L.length ≤ 2 ^ 30) (mt : mtV T acc) (hq : acc.length = q) (a : nI L.length = w → ∀ j, j < q → K2.getD j 0 = T.getD j 0) (b : nI L.length ≠ w → K2 = K) : kpV w K2 q (L ++ [acc]) := fun i hi hlt j hj => by
  rw [List.length_append] at hlt
  have hlt : i < L.length + 1 := hlt
  by_cases e : i = L.length
  · subst e
    rw [lgD_eq, a hi.symm j hj]
    exact mt j (by omega)
  · rw [lgD_lt (by omega), b (fun z => e ((nI_eq (by omega) (by omega)).mp (hi.symm.trans z.symm)))]
    exact h i hi (by omega) j hj
/-- the search's state: what is found so far is L -/
def ASq (h : List aC) (n m a de : Nat) (as_ sm sk z : Int32) (am : Nat) (ib : Bool) (iN iM iT : Int32) (P : List Int32) (acc : List Nat) (L : List (List Nat)) : Prop := ∃ T K, MO h n m a de (nI L.length) as_ sm sk z am ib iN iM iT ∧ rd h 106 = some (.inl T) ∧ T.length = 12 ∧ mtV T acc ∧ rd h 107 = some (.inl K) ∧ K.length = 6 ∧ kpV as_ K m L ∧ rd h 99 = some (.inl P)

set_option maxRecDepth 100000 in
set_option maxHeartbeats 4000000 in
theorem lp_keepA1 {h0 : List aC} {P : Option Value → List aC → Prop} {n m a de : Nat} {as_ sm sk z : Int32} {am : Nat} {ib : Bool} {iN iM iT : Int32} {d : Nat} {L : List (List Nat)} {T Ke : List Int32} (hT : rd h0 106 = some (.inl T)) (lT : T.length = 12) {q x2 x3 : Nat} (hq : q ≤ 6) (he : nI L.length = as_) (K : ∀ K2 h', rd h' 107 = some (.inl K2) → K2.length = 6 → (nI L.length = as_ → ∀ j, j < q → K2.getD j 0 = T.getD j 0) → (nI L.length ≠ as_ → K2 = Ke) → Smo 107 108 h0 h' → ∀ j, G mX9_searchesAdders (rmD (3 + d) 0 0) none P 0 0 48 [(4, .int (nI j)), (0, .ref 98), (1, .int (nI q)), (2, .int (nI x2)), (3, .int (nI x3))] [] h') : ∀ j k (h : List aC) (K1 : List Int32), k + j = q → MO h n m a de (nI L.length) as_ sm sk z am ib iN iM iT → rd h 107 = some (.inl K1) → K1.length = 6 → (∀ j, j < k → K1.getD j 0 = T.getD j 0) → Smo 107 108 h0 h → G mX9_searchesAdders (rmD (3 + d) 0 0) none P 0 0 11 [(4, .int (nI k)), (0, .ref 98), (1, .int (nI q)), (2, .int (nI x2)), (3, .int (nI x3))] [] h := by
  intro j
  induction j with
  | zero =>
    intro k h K1 hk hO hK lK1 hk2 hS
    have hO : rd h 98 = some (.inr (9, [.int (nI n), .int (nI m), .ref 99, .ref 100, .ref 101, .int (nI a), .ref 102, .int (nI de), .ref 103, .ref 104, .ref 105, .int (nI ((L).length)), .int as_, .int sm, .int sk, .ref 106, .ref 107, .ref 108, .int z, .ref 109, .ref 110, .ref 111, .int (nI am), .ref 112, .ref 113, .ref 114, .ref 115, .ref 116, .int (nI (bI ib)), .int iN, .int iM, .int iT, .ref 117, .ref 118, .ref 119])) := hO
    refine g_iload dX9_searchesAdders_11 0 rfl ?_
    refine g_iload_n dX9_searchesAdders_13 2 rfl ?_
    refine g_icmp_geN 48 dX9_searchesAdders_14 (by decide) (by omega) (by omega) (fun c14 => ?_) (fun z => absurd z (by omega))
    have ek : k = q := by omega
    subst ek
    exact K _ _ hK lK1 (fun _ => hk2) (fun z => absurd he z) hS _
  | succ j ih =>
    intro k h K1 hk hO hK lK1 hk2 hS
    have hO : rd h 98 = some (.inr (9, [.int (nI n), .int (nI m), .ref 99, .ref 100, .ref 101, .int (nI a), .ref 102, .int (nI de), .ref 103, .ref 104, .ref 105, .int (nI ((L).length)), .int as_, .int sm, .int sk, .ref 106, .ref 107, .ref 108, .int z, .ref 109, .ref 110, .ref 111, .int (nI am), .ref 112, .ref 113, .ref 114, .ref 115, .ref 116, .int (nI (bI ib)), .int iN, .int iM, .int iT, .ref 117, .ref 118, .ref 119])) := hO
    refine g_iload dX9_searchesAdders_11 0 rfl ?_
    refine g_iload_n dX9_searchesAdders_13 2 rfl ?_
    refine g_icmp_geN 48 dX9_searchesAdders_14 (by decide) (by omega) (by omega) (fun z => absurd z (by omega)) (fun c14 => ?_)
    refine g_aload_n dX9_searchesAdders_17 1 rfl ?_
    refine g_getf dX9_searchesAdders_18 kX9 wfX9_161 (Nat.le_of_ble_eq_true rfl) (hO) rfl ?_
    refine g_aload_n dX9_searchesAdders_21 1 rfl ?_
    refine g_getf dX9_searchesAdders_22 kX9 wfX9_164 (Nat.le_of_ble_eq_true rfl) (hO) rfl ?_
    refine g_icmp_ne 48 dX9_searchesAdders_25 (by decide) (fun z => absurd z (not_not_intro he)) (fun c25 => ?_)
    refine g_aload_n dX9_searchesAdders_28 1 rfl ?_
    refine g_getf dX9_searchesAdders_29 kX9 wfX9_38 (Nat.le_of_ble_eq_true rfl) (hO) rfl ?_
    refine g_iload dX9_searchesAdders_32 0 rfl ?_
    refine g_aload_n dX9_searchesAdders_34 1 rfl ?_
    refine g_getf dX9_searchesAdders_35 kX9 wfX9_35 (Nat.le_of_ble_eq_true rfl) (hO) rfl ?_
    refine g_iload dX9_searchesAdders_38 0 rfl ?_
    refine g_ialI dX9_searchesAdders_40 ((show rd h 106 = some (.inl T) by rw [hS 106 (by omega)]; exact hT)) (by omega) (by omega) ?_
    refine g_iasI dX9_searchesAdders_41 (hK) (by omega) (by omega) (fun h1 e1 => ?_)
    have f1_107 : rd h1 107 = some (.inl ((K1).set k ((T).getD k 0))) := by rw [e1]; exact rd_wr_eq (hK)
    have lf1_107 : ((K1).set k ((T).getD k 0)).length = _ := List.length_set.trans lK1
    have s1 : Smo 107 (107 + 1) h h1 := by rw [e1]; exact Smo.wr (by omega) (by omega)
    have f1_98 : rd h1 98 = some (.inr (9, [.int (nI n), .int (nI m), .ref 99, .ref 100, .ref 101, .int (nI a), .ref 102, .int (nI de), .ref 103, .ref 104, .ref 105, .int (nI ((L).length)), .int as_, .int sm, .int sk, .ref 106, .ref 107, .ref 108, .int z, .ref 109, .ref 110, .ref 111, .int (nI am), .ref 112, .ref 113, .ref 114, .ref 115, .ref 116, .int (nI (bI ib)), .int iN, .int iM, .int iT, .ref 117, .ref 118, .ref 119])) := by rw [s1 _ (by omega)]; exact hO
    have f1_106 : rd h1 106 = some (.inl (T)) := by rw [s1 _ (by omega)]; exact (show rd h 106 = some (.inl T) by rw [hS 106 (by omega)]; exact hT)
    refine g_iinc (q := 0) (v := nI (k + 1)) (ls' := [(4, .int (nI (k + 1))), (0, .ref 98), (1, .int (nI q)), (2, .int (nI x2)), (3, .int (nI x3))]) dX9_searchesAdders_42 rfl (inc1 _) (Nat.le_of_ble_eq_true rfl) rfl ?_
    refine g_goto 11 dX9_searchesAdders_45 (by decide) ?_
    exact ih (k + 1) _ _ (by omega) f1_98 f1_107 (lf1_107) (fun j hj => by by_cases q2 : k = j; (subst q2; exact getD_set_eqI (by omega)); (rw [getD_set_neI q2]; exact hk2 j (by omega))) (hS.tr (fun q hq => by rw [s1 q (by omega)]))

set_option maxRecDepth 100000 in
set_option maxHeartbeats 4000000 in
theorem lp_keepA {h : List aC} {P : Option Value → List aC → Prop} {n m a de : Nat} {as_ sm sk z : Int32} {am : Nat} {ib : Bool} {iN iM iT : Int32} {d : Nat} {L : List (List Nat)} {T Ke : List Int32} (hO : MO h n m a de (nI L.length) as_ sm sk z am ib iN iM iT) (hT : rd h 106 = some (.inl T)) (lT : T.length = 12) (hK : rd h 107 = some (.inl Ke)) (lK : Ke.length = 6) {q x2 x3 : Nat} (hq : q ≤ 6) (h0 : 0 < q) (K : ∀ K2 h', rd h' 107 = some (.inl K2) → K2.length = 6 → (nI L.length = as_ → ∀ j, j < q → K2.getD j 0 = T.getD j 0) → (nI L.length ≠ as_ → K2 = Ke) → Smo 107 108 h h' → ∀ j, G mX9_searchesAdders (rmD (3 + d) 0 0) none P 0 0 48 [(4, .int (nI j)), (0, .ref 98), (1, .int (nI q)), (2, .int (nI x2)), (3, .int (nI x3))] [] h') : G mX9_searchesAdders (rmD (3 + d) 0 0) none P 0 0 11 [(4, .int (nI 0)), (0, .ref 98), (1, .int (nI q)), (2, .int (nI x2)), (3, .int (nI x3))] [] h := by
  by_cases he : nI L.length = as_
  · exact lp_keepA1 hT lT hq he K q 0 h Ke (by omega) hO hK lK (fun j hj => absurd hj (Nat.not_lt_zero j)) Smo.rf
  · have hO : rd h 98 = some (.inr (9, [.int (nI n), .int (nI m), .ref 99, .ref 100, .ref 101, .int (nI a), .ref 102, .int (nI de), .ref 103, .ref 104, .ref 105, .int (nI ((L).length)), .int as_, .int sm, .int sk, .ref 106, .ref 107, .ref 108, .int z, .ref 109, .ref 110, .ref 111, .int (nI am), .ref 112, .ref 113, .ref 114, .ref 115, .ref 116, .int (nI (bI ib)), .int iN, .int iM, .int iT, .ref 117, .ref 118, .ref 119])) := hO
    refine g_iload dX9_searchesAdders_11 0 rfl ?_
    refine g_iload_n dX9_searchesAdders_13 2 rfl ?_
    refine g_icmp_geN 48 dX9_searchesAdders_14 (by decide) (by omega) (by omega) (fun z => absurd z (by omega)) (fun c14 => ?_)
    refine g_aload_n dX9_searchesAdders_17 1 rfl ?_
    refine g_getf dX9_searchesAdders_18 kX9 wfX9_161 (Nat.le_of_ble_eq_true rfl) (hO) rfl ?_
    refine g_aload_n dX9_searchesAdders_21 1 rfl ?_
    refine g_getf dX9_searchesAdders_22 kX9 wfX9_164 (Nat.le_of_ble_eq_true rfl) (hO) rfl ?_
    refine g_icmp_ne 48 dX9_searchesAdders_25 (by decide) (fun c25 => ?_) (fun z => absurd z he)
    exact K _ _ hK lK (fun z => absurd z he) (fun _ => rfl) Smo.rf _

def maseek (n m a de : Nat) (as_ sm sk z : Int32) (am : Nat) (ib : Bool) (iN iM iT : Int32) (P1 : List Int32) (F S : List Nat) (d : Nat) : Prop := ∀ (h : List aC) (acc : List Nat) (L : List (List Nat)) (q x2 x3 : Nat), acc.length = q → q + d = m → ASq h n m a de as_ sm sk z am ib iN iM iT P1 acc L → adM x2 acc → shM n x3 F S acc → L.length + (EA n F S d acc).length ≤ 2 ^ 30 → Ev mX9_searchesAdders (3 + d) 0 0 [.ref 98, .int (nI q), .int (nI x2), .int (nI x3)] h (pq none (fun h2 => ASq h2 n m a de as_ sm sk z am ib iN iM iT P1 acc (L ++ EA n F S d acc) ∧ Sm3 h h2))

set_option maxRecDepth 100000 in
set_option maxHeartbeats 4000000 in
theorem maseek_0 {n m a de : Nat} {as_ sm sk z : Int32} {am : Nat} {ib : Bool} {iN iM iT : Int32} {P1 : List Int32} {F S : List Nat} (h1 : 1 ≤ m) (hm : m ≤ 6) (n3 : n ≤ 12) : maseek n m a de as_ sm sk z am ib iN iM iT P1 F S 0 := by
  intro h acc L q x2 x3 hl hd hQ hB hD hle
  obtain ⟨T, Ke, hO, hT, lT, mt, hK, lK, kp, hP⟩ := id hQ
  have hO : rd h 98 = some (.inr (9, [.int (nI n), .int (nI m), .ref 99, .ref 100, .ref 101, .int (nI a), .ref 102, .int (nI de), .ref 103, .ref 104, .ref 105, .int (nI ((L).length)), .int as_, .int sm, .int sk, .ref 106, .ref 107, .ref 108, .int z, .ref 109, .ref 110, .ref 111, .int (nI am), .ref 112, .ref 113, .ref 114, .ref 115, .ref 116, .int (nI (bI ib)), .int iN, .int iM, .int iT, .ref 117, .ref 118, .ref 119])) := hO
  have hle : L.length + 1 ≤ 2 ^ 30 := hle
  have eL : (L ++ [acc]).length = L.length + 1 := by rw [List.length_append]; rfl
  refine Ev.of pX9_searchesAdders (Nat.le_of_ble_eq_true rfl) ?_
  show G mX9_searchesAdders (rmD (3 + 0) 0 0) none _ 0 0 0 [(0, .ref 98), (1, .int (nI q)), (2, .int (nI x2)), (3, .int (nI x3))] [] h
  refine g_iload_n dX9_searchesAdders_0 1 rfl ?_
  refine g_aload_n dX9_searchesAdders_1 0 rfl ?_
  refine g_getf dX9_searchesAdders_2 kX9 wfX9_87 (Nat.le_of_ble_eq_true rfl) (hO) rfl ?_
  refine g_icmp_neN 59 dX9_searchesAdders_5 (by decide) (by omega) (by omega) (fun z => absurd z (by omega)) (fun c5 => ?_)
  refine g_iconst (v := nI 0) dX9_searchesAdders_8 (by decide +kernel) ?_
  refine g_istore (ls' := [(4, .int (nI 0)), (0, .ref 98), (1, .int (nI q)), (2, .int (nI x2)), (3, .int (nI x3))]) dX9_searchesAdders_9 (Nat.le_of_ble_eq_true rfl) rfl ?_
  refine lp_keepA (d := 0) hO hT lT hK lK (by omega) (by omega) (fun Kz hz yz lz ka kb sz jz => ?_)
  have f99_98 : rd hz 98 = some (.inr (9, [.int (nI n), .int (nI m), .ref 99, .ref 100, .ref 101, .int (nI a), .ref 102, .int (nI de), .ref 103, .ref 104, .ref 105, .int (nI ((L).length)), .int as_, .int sm, .int sk, .ref 106, .ref 107, .ref 108, .int z, .ref 109, .ref 110, .ref 111, .int (nI am), .ref 112, .ref 113, .ref 114, .ref 115, .ref 116, .int (nI (bI ib)), .int iN, .int iM, .int iT, .ref 117, .ref 118, .ref 119])) := by rw [sz _ (by omega)]; exact hO
  have f99_106 : rd hz 106 = some (.inl (T)) := by rw [sz _ (by omega)]; exact hT
  have f99_99 : rd hz 99 = some (.inl (P1)) := by rw [sz _ (by omega)]; exact hP
  refine g_aload_n dX9_searchesAdders_48 1 rfl ?_
  refine g_dup dX9_searchesAdders_49 rfl ?_
  refine g_getf dX9_searchesAdders_50 kX9 wfX9_161 (Nat.le_of_ble_eq_true rfl) (f99_98) rfl ?_
  refine g_iconst (v := nI 1) dX9_searchesAdders_53 (by decide +kernel) ?_
  refine g_iaddN dX9_searchesAdders_54 ?_
  refine g_putv dX9_searchesAdders_55 kX9 wfX9_161 (Nat.le_of_ble_eq_true rfl) rfl (fun _ _ => ⟨rfl, rfl⟩) (f99_98) (Nat.le_of_ble_eq_true rfl) (fs' := [.int (nI n), .int (nI m), .ref 99, .ref 100, .ref 101, .int (nI a), .ref 102, .int (nI de), .ref 103, .ref 104, .ref 105, .int (nI (((L).length) + 1)), .int as_, .int sm, .int sk, .ref 106, .ref 107, .ref 108, .int z, .ref 109, .ref 110, .ref 111, .int (nI am), .ref 112, .ref 113, .ref 114, .ref 115, .ref 116, .int (nI (bI ib)), .int iN, .int iM, .int iT, .ref 117, .ref 118, .ref 119]) rfl (fun h1 e1 => ?_)
  have f1_98 : rd h1 98 = some (.inr (9, [.int (nI n), .int (nI m), .ref 99, .ref 100, .ref 101, .int (nI a), .ref 102, .int (nI de), .ref 103, .ref 104, .ref 105, .int (nI (((L).length) + 1)), .int as_, .int sm, .int sk, .ref 106, .ref 107, .ref 108, .int z, .ref 109, .ref 110, .ref 111, .int (nI am), .ref 112, .ref 113, .ref 114, .ref 115, .ref 116, .int (nI (bI ib)), .int iN, .int iM, .int iT, .ref 117, .ref 118, .ref 119])) := by rw [e1]; exact rd_wr_eq (f99_98)
  have s1 : Smo 98 (98 + 1) hz h1 := by rw [e1]; exact Smo.wr (by omega) (by omega)
  have f1_106 : rd h1 106 = some (.inl (T)) := by rw [s1 _ (by omega)]; exact f99_106
  have f1_99 : rd h1 99 = some (.inl (P1)) := by rw [s1 _ (by omega)]; exact f99_99
  have f1_107 : rd h1 107 = some (.inl (Kz)) := by rw [s1 _ (by omega)]; exact yz
  exact g_vret dX9_searchesAdders_58 rfl ⟨Nat.zero_le _, Nat.zero_le _⟩ (⟨rfl, ⟨T, Kz, by rw [show L ++ EA n F S 0 acc = L ++ [acc] from rfl, eL]; exact f1_98, f1_106, lT, mt, f1_107, lz, kpV_add kp (by omega) mt (by omega) (fun z j hj => ka z j (by omega)) kb, f1_99⟩, (fun q hq => by rw [s1 q (by omega), sz q (by omega)])⟩)

set_option maxRecDepth 100000 in
set_option maxHeartbeats 4000000 in
theorem lp_mas {n m a de : Nat} {as_ sm sk z : Int32} {am : Nat} {ib : Bool} {iN iM iT : Int32} (h1 : 1 ≤ m) (hm : m ≤ 6) (n3 : n ≤ 12) {P1 : List Int32} (lP : P1.length = 18) {F S : List Nat} (vF : ∀ k, k < m → P1.getD (3 * k) 0 = nI (F.getD k 0) ∧ P1.getD (3 * k + 1) 0 = nI (S.getD k 0) ∧ F.getD k 0 < n ∧ S.getD k 0 < n) {d : Nat} (ih0 : maseek n m a de as_ sm sk z am ib iN iM iT P1 F S d) {h0 : List aC} {acc : List Nat} {L0 : List (List Nat)} {q x2 x3 : Nat} (hl : acc.length = q) (hd : q + (d + 1) = m) (hB : adM x2 acc) (hD : shM n x3 F S acc) (hle : (L0 ++ EA n F S (d + 1) acc).length ≤ 2 ^ 30) : ∀ j k (h : List aC) (L : List (List Nat)), k + j = n → 1 ≤ k → ASq h n m a de as_ sm sk z am ib iN iM iT P1 acc L → L ++ EY (fun v => EA n F S d (acc ++ [v])) (okV n F S acc) j k = L0 ++ EA n F S (d + 1) acc → Sm3 h0 h → G mX9_searchesAdders (rmD (3 + (d + 1)) 0 0) none (pq none (fun h2 => ASq h2 n m a de as_ sm sk z am ib iN iM iT P1 acc (L0 ++ EA n F S (d + 1) acc) ∧ Sm3 h0 h2)) 0 0 62 [(4, .int (nI k)), (0, .ref 98), (1, .int (nI q)), (2, .int (nI x2)), (3, .int (nI x3))] [] h := by
  intro j
  induction j with
  | zero =>
    intro k h L hk hk1 hQ hL hS
    obtain ⟨T, Ke, hO, hT, lT, mt, hK, lK, kp, hP⟩ := id hQ
    have hO : rd h 98 = some (.inr (9, [.int (nI n), .int (nI m), .ref 99, .ref 100, .ref 101, .int (nI a), .ref 102, .int (nI de), .ref 103, .ref 104, .ref 105, .int (nI ((L).length)), .int as_, .int sm, .int sk, .ref 106, .ref 107, .ref 108, .int z, .ref 109, .ref 110, .ref 111, .int (nI am), .ref 112, .ref 113, .ref 114, .ref 115, .ref 116, .int (nI (bI ib)), .int iN, .int iM, .int iT, .ref 117, .ref 118, .ref 119])) := hO
    have hb := hB.1
    have hb3 := hD.1
    have z1 : x2 / 2 ^ k ≤ x2 := Nat.div_le_self _ _
    obtain ⟨e1, e2, b1, b2⟩ := vF q (by omega)
    have mx : (F.getD q 0 + k) % n < n := Nat.mod_lt _ (by omega)
    have my : (S.getD q 0 + k) % n < n := Nat.mod_lt _ (by omega)
    have z3 : x3 / 2 ^ ((F.getD q 0 + k) % n) ≤ x3 := Nat.div_le_self _ _
    have z4 : x3 / 2 ^ ((S.getD q 0 + k) % n) ≤ x3 := Nat.div_le_self _ _
    refine g_iload dX9_searchesAdders_62 0 rfl ?_
    refine g_aload_n dX9_searchesAdders_64 1 rfl ?_
    refine g_getf dX9_searchesAdders_65 kX9 wfX9_7 (Nat.le_of_ble_eq_true rfl) (hO) rfl ?_
    refine g_icmp_geN 184 dX9_searchesAdders_68 (by decide) (by omega) (by omega) (fun c68 => ?_) (fun z => absurd z (by omega))
    exact g_vret dX9_searchesAdders_184 rfl ⟨Nat.zero_le _, Nat.zero_le _⟩ (⟨rfl, by rw [← hL]; show ASq h n m a de as_ sm sk z am ib iN iM iT P1 acc (L ++ []); rw [List.append_nil]; exact hQ, hS⟩)
  | succ j ih =>
    intro k h L hk hk1 hQ hL hS
    obtain ⟨T, Ke, hO, hT, lT, mt, hK, lK, kp, hP⟩ := id hQ
    have hO : rd h 98 = some (.inr (9, [.int (nI n), .int (nI m), .ref 99, .ref 100, .ref 101, .int (nI a), .ref 102, .int (nI de), .ref 103, .ref 104, .ref 105, .int (nI ((L).length)), .int as_, .int sm, .int sk, .ref 106, .ref 107, .ref 108, .int z, .ref 109, .ref 110, .ref 111, .int (nI am), .ref 112, .ref 113, .ref 114, .ref 115, .ref 116, .int (nI (bI ib)), .int iN, .int iM, .int iT, .ref 117, .ref 118, .ref 119])) := hO
    have hb := hB.1
    have hb3 := hD.1
    have z1 : x2 / 2 ^ k ≤ x2 := Nat.div_le_self _ _
    obtain ⟨e1, e2, b1, b2⟩ := vF q (by omega)
    have mx : (F.getD q 0 + k) % n < n := Nat.mod_lt _ (by omega)
    have my : (S.getD q 0 + k) % n < n := Nat.mod_lt _ (by omega)
    have z3 : x3 / 2 ^ ((F.getD q 0 + k) % n) ≤ x3 := Nat.div_le_self _ _
    have z4 : x3 / 2 ^ ((S.getD q 0 + k) % n) ≤ x3 := Nat.div_le_self _ _
    refine g_iload dX9_searchesAdders_62 0 rfl ?_
    refine g_aload_n dX9_searchesAdders_64 1 rfl ?_
    refine g_getf dX9_searchesAdders_65 kX9 wfX9_7 (Nat.le_of_ble_eq_true rfl) (hO) rfl ?_
    refine g_icmp_geN 184 dX9_searchesAdders_68 (by decide) (by omega) (by omega) (fun z => absurd z (by omega)) (fun c68 => ?_)
    refine g_aload_n dX9_searchesAdders_71 1 rfl ?_
    refine g_getf dX9_searchesAdders_72 kX9 wfX9_13 (Nat.le_of_ble_eq_true rfl) (hO) rfl ?_
    refine g_iconst (v := nI 3) dX9_searchesAdders_75 (by decide +kernel) ?_
    refine g_iload_n dX9_searchesAdders_76 2 rfl ?_
    refine g_imulN dX9_searchesAdders_77 ?_
    refine g_ialI dX9_searchesAdders_78 (hP) (by omega) (by omega) ?_
    refine g_top (show (P1).getD (3 * q) 0 = nI (F.getD q 0) from e1) ?_
    refine g_iload dX9_searchesAdders_79 0 rfl ?_
    refine g_iaddN dX9_searchesAdders_81 ?_
    refine g_aload_n dX9_searchesAdders_82 1 rfl ?_
    refine g_getf dX9_searchesAdders_83 kX9 wfX9_7 (Nat.le_of_ble_eq_true rfl) (hO) rfl ?_
    refine g_iremN dX9_searchesAdders_86 (by omega) (by omega) (by omega) ?_
    refine g_istore (ls' := [(5, .int (nI (((F.getD q 0) + k) % n))), (4, .int (nI k)), (0, .ref 98), (1, .int (nI q)), (2, .int (nI x2)), (3, .int (nI x3))]) dX9_searchesAdders_87 (Nat.le_of_ble_eq_true rfl) rfl ?_
    refine g_aload_n dX9_searchesAdders_89 2 rfl ?_
    refine g_getf dX9_searchesAdders_90 kX9 wfX9_13 (Nat.le_of_ble_eq_true rfl) (hO) rfl ?_
    refine g_iconst (v := nI 3) dX9_searchesAdders_93 (by decide +kernel) ?_
    refine g_iload_n dX9_searchesAdders_94 3 rfl ?_
    refine g_imulN dX9_searchesAdders_95 ?_
    refine g_iconst (v := nI 1) dX9_searchesAdders_96 (by decide +kernel) ?_
    refine g_iaddN dX9_searchesAdders_97 ?_
    refine g_ialI dX9_searchesAdders_98 (hP) (by omega) (by omega) ?_
    refine g_top (show (P1).getD ((3 * q) + 1) 0 = nI (S.getD q 0) from e2) ?_
    refine g_iload dX9_searchesAdders_99 1 rfl ?_
    refine g_iaddN dX9_searchesAdders_101 ?_
    refine g_aload_n dX9_searchesAdders_102 2 rfl ?_
    refine g_getf dX9_searchesAdders_103 kX9 wfX9_7 (Nat.le_of_ble_eq_true rfl) (hO) rfl ?_
    refine g_iremN dX9_searchesAdders_106 (by omega) (by omega) (by omega) ?_
    refine g_istore (ls' := [(6, .int (nI (((S.getD q 0) + k) % n))), (5, .int (nI (((F.getD q 0) + k) % n))), (4, .int (nI k)), (0, .ref 98), (1, .int (nI q)), (2, .int (nI x2)), (3, .int (nI x3))]) dX9_searchesAdders_107 (Nat.le_of_ble_eq_true rfl) rfl ?_
    refine g_iload_n dX9_searchesAdders_109 5 rfl ?_
    refine g_iload dX9_searchesAdders_110 2 rfl ?_
    refine g_ishrN dX9_searchesAdders_112 (by omega) (by omega) ?_
    refine g_iconst (v := nI 1) dX9_searchesAdders_113 (by decide +kernel) ?_
    refine g_iandN dX9_searchesAdders_114 ?_
    refine g_top (show nI ((x2 / 2 ^ k) &&& 1) = nI (bI (x2.testBit k)) from congrArg nI (shr_bit x2 k)) ?_
    refine g_if_neB 178 dX9_searchesAdders_115 (by decide) (fun c115 => ?_) (fun c115 => ?_)
    · refine g_iinc (q := 2) (v := nI (k + 1)) (ls' := [(4, .int (nI (k + 1))), (6, .int (nI (((S.getD q 0) + k) % n))), (5, .int (nI (((F.getD q 0) + k) % n))), (0, .ref 98), (1, .int (nI q)), (2, .int (nI x2)), (3, .int (nI x3))]) dX9_searchesAdders_178 rfl (inc1 _) (Nat.le_of_ble_eq_true rfl) rfl ?_
      refine g_goto 62 dX9_searchesAdders_181 (by decide) ?_
      refine g_lsub_ (ls2 := [(4, .int (nI (k + 1))), (0, .ref 98), (1, .int (nI q)), (2, .int (nI x2)), (3, .int (nI x3))]) [0, 3, 4, 5, 6] rfl ?_
      have hok : okV n F S acc k = false := by rw [okV_M hB hD (by omega) (show k < n by omega), hl, c115, Bool.not_true, Bool.false_and]
      exact ih (k + 1) _ L (by omega) (by omega) hQ (by rw [EY_f (by rw [hok]; decide)] at hL; exact hL) hS
    · refine g_iload dX9_searchesAdders_118 1 rfl ?_
      refine g_if_eqN 178 dX9_searchesAdders_120 (by decide) (by omega) (fun c120 => ?_) (fun c120 => ?_)
      · refine g_iinc (q := 2) (v := nI (k + 1)) (ls' := [(4, .int (nI (k + 1))), (6, .int (nI (((S.getD q 0) + k) % n))), (5, .int (nI (((F.getD q 0) + k) % n))), (0, .ref 98), (1, .int (nI q)), (2, .int (nI x2)), (3, .int (nI x3))]) dX9_searchesAdders_178 rfl (inc1 _) (Nat.le_of_ble_eq_true rfl) rfl ?_
        refine g_goto 62 dX9_searchesAdders_181 (by decide) ?_
        refine g_lsub_ (ls2 := [(4, .int (nI (k + 1))), (0, .ref 98), (1, .int (nI q)), (2, .int (nI x2)), (3, .int (nI x3))]) [0, 3, 4, 5, 6] rfl ?_
        have hok : okV n F S acc k = false := by rw [okV_M hB hD (by omega) (show k < n by omega), hl, decide_eq_true (show (F.getD q 0 + k) % n = 0 from c120), Bool.true_or, Bool.not_true, Bool.false_and, Bool.and_false]
        exact ih (k + 1) _ L (by omega) (by omega) hQ (by rw [EY_f (by rw [hok]; decide)] at hL; exact hL) hS
      · refine g_iload dX9_searchesAdders_123 0 rfl ?_
        refine g_if_eqN 178 dX9_searchesAdders_125 (by decide) (by omega) (fun c125 => ?_) (fun c125 => ?_)
        · refine g_iinc (q := 2) (v := nI (k + 1)) (ls' := [(4, .int (nI (k + 1))), (6, .int (nI (((S.getD q 0) + k) % n))), (5, .int (nI (((F.getD q 0) + k) % n))), (0, .ref 98), (1, .int (nI q)), (2, .int (nI x2)), (3, .int (nI x3))]) dX9_searchesAdders_178 rfl (inc1 _) (Nat.le_of_ble_eq_true rfl) rfl ?_
          refine g_goto 62 dX9_searchesAdders_181 (by decide) ?_
          refine g_lsub_ (ls2 := [(4, .int (nI (k + 1))), (0, .ref 98), (1, .int (nI q)), (2, .int (nI x2)), (3, .int (nI x3))]) [0, 3, 4, 5, 6] rfl ?_
          have hok : okV n F S acc k = false := by rw [okV_M hB hD (by omega) (show k < n by omega), hl, decide_eq_true (show (S.getD q 0 + k) % n = 0 from c125), Bool.true_or, Bool.not_true, Bool.and_false, Bool.and_false]
          exact ih (k + 1) _ L (by omega) (by omega) hQ (by rw [EY_f (by rw [hok]; decide)] at hL; exact hL) hS
        · refine g_iload_n dX9_searchesAdders_128 6 rfl ?_
          refine g_iload dX9_searchesAdders_129 1 rfl ?_
          refine g_ishrN dX9_searchesAdders_131 (by omega) (by omega) ?_
          refine g_iconst (v := nI 1) dX9_searchesAdders_132 (by decide +kernel) ?_
          refine g_iandN dX9_searchesAdders_133 ?_
          refine g_top (show nI ((x3 / 2 ^ (((F.getD q 0) + k) % n)) &&& 1) = nI (bI (x3.testBit ((F.getD q 0 + k) % n))) from congrArg nI (shr_bit x3 ((F.getD q 0 + k) % n))) ?_
          refine g_if_neB 178 dX9_searchesAdders_134 (by decide) (fun c134 => ?_) (fun c134 => ?_)
          · refine g_iinc (q := 2) (v := nI (k + 1)) (ls' := [(4, .int (nI (k + 1))), (6, .int (nI (((S.getD q 0) + k) % n))), (5, .int (nI (((F.getD q 0) + k) % n))), (0, .ref 98), (1, .int (nI q)), (2, .int (nI x2)), (3, .int (nI x3))]) dX9_searchesAdders_178 rfl (inc1 _) (Nat.le_of_ble_eq_true rfl) rfl ?_
            refine g_goto 62 dX9_searchesAdders_181 (by decide) ?_
            refine g_lsub_ (ls2 := [(4, .int (nI (k + 1))), (0, .ref 98), (1, .int (nI q)), (2, .int (nI x2)), (3, .int (nI x3))]) [0, 3, 4, 5, 6] rfl ?_
            have hok : okV n F S acc k = false := by rw [okV_M hB hD (by omega) (show k < n by omega), hl, c134, Bool.or_true, Bool.not_true, Bool.false_and, Bool.and_false]
            exact ih (k + 1) _ L (by omega) (by omega) hQ (by rw [EY_f (by rw [hok]; decide)] at hL; exact hL) hS
          · refine g_iload_n dX9_searchesAdders_137 6 rfl ?_
            refine g_iload dX9_searchesAdders_138 0 rfl ?_
            refine g_ishrN dX9_searchesAdders_140 (by omega) (by omega) ?_
            refine g_iconst (v := nI 1) dX9_searchesAdders_141 (by decide +kernel) ?_
            refine g_iandN dX9_searchesAdders_142 ?_
            refine g_top (show nI ((x3 / 2 ^ (((S.getD q 0) + k) % n)) &&& 1) = nI (bI (x3.testBit ((S.getD q 0 + k) % n))) from congrArg nI (shr_bit x3 ((S.getD q 0 + k) % n))) ?_
            refine g_if_neB 178 dX9_searchesAdders_143 (by decide) (fun c143 => ?_) (fun c143 => ?_)
            · refine g_iinc (q := 2) (v := nI (k + 1)) (ls' := [(4, .int (nI (k + 1))), (6, .int (nI (((S.getD q 0) + k) % n))), (5, .int (nI (((F.getD q 0) + k) % n))), (0, .ref 98), (1, .int (nI q)), (2, .int (nI x2)), (3, .int (nI x3))]) dX9_searchesAdders_178 rfl (inc1 _) (Nat.le_of_ble_eq_true rfl) rfl ?_
              refine g_goto 62 dX9_searchesAdders_181 (by decide) ?_
              refine g_lsub_ (ls2 := [(4, .int (nI (k + 1))), (0, .ref 98), (1, .int (nI q)), (2, .int (nI x2)), (3, .int (nI x3))]) [0, 3, 4, 5, 6] rfl ?_
              have hok : okV n F S acc k = false := by rw [okV_M hB hD (by omega) (show k < n by omega), hl, c143, Bool.or_true, Bool.not_true, Bool.and_false, Bool.and_false]
              exact ih (k + 1) _ L (by omega) (by omega) hQ (by rw [EY_f (by rw [hok]; decide)] at hL; exact hL) hS
            · have hok : okV n F S acc k = true := by rw [okV_M hB hD (by omega) (show k < n by omega), hl, c115, decide_eq_false (show ¬ (F.getD q 0 + k) % n = 0 by omega), decide_eq_false (show ¬ (S.getD q 0 + k) % n = 0 by omega), c134, c143]; rfl
              refine g_aload_n dX9_searchesAdders_146 3 rfl ?_
              refine g_getf dX9_searchesAdders_147 kX9 wfX9_35 (Nat.le_of_ble_eq_true rfl) (hO) rfl ?_
              refine g_iload_n dX9_searchesAdders_150 4 rfl ?_
              refine g_iload dX9_searchesAdders_151 2 rfl ?_
              refine g_iasI dX9_searchesAdders_153 (hT) (by omega) (by omega) (fun h1 e1 => ?_)
              have f1_106 : rd h1 106 = some (.inl ((T).set q (nI k))) := by rw [e1]; exact rd_wr_eq (hT)
              have lf1_106 : ((T).set q (nI k)).length = _ := List.length_set.trans lT
              have s1 : Smo 106 (106 + 1) h h1 := by rw [e1]; exact Smo.wr (by omega) (by omega)
              have f1_98 : rd h1 98 = some (.inr (9, [.int (nI n), .int (nI m), .ref 99, .ref 100, .ref 101, .int (nI a), .ref 102, .int (nI de), .ref 103, .ref 104, .ref 105, .int (nI ((L).length)), .int as_, .int sm, .int sk, .ref 106, .ref 107, .ref 108, .int z, .ref 109, .ref 110, .ref 111, .int (nI am), .ref 112, .ref 113, .ref 114, .ref 115, .ref 116, .int (nI (bI ib)), .int iN, .int iM, .int iT, .ref 117, .ref 118, .ref 119])) := by rw [s1 _ (by omega)]; exact hO
              have f1_107 : rd h1 107 = some (.inl (Ke)) := by rw [s1 _ (by omega)]; exact hK
              have f1_99 : rd h1 99 = some (.inl (P1)) := by rw [s1 _ (by omega)]; exact hP
              refine g_aload_n dX9_searchesAdders_154 3 rfl ?_
              refine g_iload_n dX9_searchesAdders_155 4 rfl ?_
              refine g_iconst (v := nI 1) dX9_searchesAdders_156 (by decide +kernel) ?_
              refine g_iaddN dX9_searchesAdders_157 ?_
              refine g_iload_n dX9_searchesAdders_158 5 rfl ?_
              refine g_iconst (v := nI 1) dX9_searchesAdders_159 (by decide +kernel) ?_
              refine g_iload dX9_searchesAdders_160 2 rfl ?_
              refine g_ishl1 dX9_searchesAdders_162 (by first | omega | exact Nat.lt_of_lt_of_le (Nat.mod_lt _ (by omega)) (by omega)) ?_
              refine g_iorN dX9_searchesAdders_163 ?_
              refine g_iload_n dX9_searchesAdders_164 6 rfl ?_
              refine g_iconst (v := nI 1) dX9_searchesAdders_165 (by decide +kernel) ?_
              refine g_iload dX9_searchesAdders_166 1 rfl ?_
              refine g_ishl1 dX9_searchesAdders_168 (by first | omega | exact Nat.lt_of_lt_of_le (Nat.mod_lt _ (by omega)) (by omega)) ?_
              refine g_iorN dX9_searchesAdders_169 ?_
              refine g_iconst (v := nI 1) dX9_searchesAdders_170 (by decide +kernel) ?_
              refine g_iload dX9_searchesAdders_171 0 rfl ?_
              refine g_ishl1 dX9_searchesAdders_173 (by first | omega | exact Nat.lt_of_lt_of_le (Nat.mod_lt _ (by omega)) (by omega)) ?_
              refine g_iorN dX9_searchesAdders_174 ?_
              refine g_callVq (st1 := []) dX9_searchesAdders_175 (ih0 _ (acc ++ [k]) L (q + 1) _ _ (by rw [List.length_append, hl]; rfl) (by omega) ⟨_, _, f1_98, f1_106, lf1_106, by subst hl; exact mtV_add mt lT (by omega) k, f1_107, lK, kp, f1_99⟩ (adM_add hB (by omega)) (by subst hl; exact shM_add hD (by omega) (by omega)) (by have y := hL; rw [EY_t hok] at y; have y2 := congrArg List.length y; rw [List.length_append, List.length_append] at y2; omega)) oX9_searchesAdders wiX9_searchesAdders weX9_searchesAdders wmX9_176 kX9 (f1_98) rfl ⟨by show 3 + d + 1 ≤ 3 + (d + 1); omega, by show 8 + (7 + 11) + 41 * (3 + d) ≤ 41 * (3 + (d + 1)); omega⟩ ⟨Nat.zero_le _, Nat.zero_le _⟩ (Nat.le_of_ble_eq_true rfl) rfl rfl (fun h2 q2 => ?_)
              obtain ⟨⟨Tz, Kz, oz, tz, ltz, mtz, yz, lyz, kpz, pz⟩, sz⟩ := q2
              have f2_99 : rd h2 99 = some (.inl (P1)) := by rw [sz _ (by omega)]; exact f1_99
              have oz : rd h2 98 = some (.inr (9, [.int (nI n), .int (nI m), .ref 99, .ref 100, .ref 101, .int (nI a), .ref 102, .int (nI de), .ref 103, .ref 104, .ref 105, .int (nI (((L ++ EA n F S d (acc ++ [k]))).length)), .int as_, .int sm, .int sk, .ref 106, .ref 107, .ref 108, .int z, .ref 109, .ref 110, .ref 111, .int (nI am), .ref 112, .ref 113, .ref 114, .ref 115, .ref 116, .int (nI (bI ib)), .int iN, .int iM, .int iT, .ref 117, .ref 118, .ref 119])) := oz
              refine g_iinc (q := 2) (v := nI (k + 1)) (ls' := [(4, .int (nI (k + 1))), (6, .int (nI (((S.getD q 0) + k) % n))), (5, .int (nI (((F.getD q 0) + k) % n))), (0, .ref 98), (1, .int (nI q)), (2, .int (nI x2)), (3, .int (nI x3))]) dX9_searchesAdders_178 rfl (inc1 _) (Nat.le_of_ble_eq_true rfl) rfl ?_
              refine g_goto 62 dX9_searchesAdders_181 (by decide) ?_
              refine g_lsub_ (ls2 := [(4, .int (nI (k + 1))), (0, .ref 98), (1, .int (nI q)), (2, .int (nI x2)), (3, .int (nI x3))]) [0, 3, 4, 5, 6] rfl ?_
              exact ih (k + 1) _ (L ++ EA n F S d (acc ++ [k])) (by omega) (by omega) ⟨Tz, Kz, oz, tz, ltz, mtV_less mtz, yz, lyz, kpz, f2_99⟩ (by have y := hL; rw [EY_t hok] at y; rw [List.append_assoc]; exact y) (hS.tr (show Sm3 h _ from (fun q hq => by rw [sz q (by omega), s1 q (by omega)])))

set_option maxRecDepth 100000 in
set_option maxHeartbeats 4000000 in
theorem maseek_s {n m a de : Nat} {as_ sm sk z : Int32} {am : Nat} {ib : Bool} {iN iM iT : Int32} (h1 : 1 ≤ m) (hm : m ≤ 6) (n3 : n ≤ 12) (hn1 : 1 ≤ n) {P1 : List Int32} (lP : P1.length = 18) {F S : List Nat} (vF : ∀ k, k < m → P1.getD (3 * k) 0 = nI (F.getD k 0) ∧ P1.getD (3 * k + 1) 0 = nI (S.getD k 0) ∧ F.getD k 0 < n ∧ S.getD k 0 < n) {d : Nat} (ih0 : maseek n m a de as_ sm sk z am ib iN iM iT P1 F S d) : maseek n m a de as_ sm sk z am ib iN iM iT P1 F S (d + 1) := by
  intro h acc L q x2 x3 hl hd hQ hB hD hle
  obtain ⟨T, Ke, hO, hT, lT, mt, hK, lK, kp, hP⟩ := id hQ
  have hO : rd h 98 = some (.inr (9, [.int (nI n), .int (nI m), .ref 99, .ref 100, .ref 101, .int (nI a), .ref 102, .int (nI de), .ref 103, .ref 104, .ref 105, .int (nI ((L).length)), .int as_, .int sm, .int sk, .ref 106, .ref 107, .ref 108, .int z, .ref 109, .ref 110, .ref 111, .int (nI am), .ref 112, .ref 113, .ref 114, .ref 115, .ref 116, .int (nI (bI ib)), .int iN, .int iM, .int iT, .ref 117, .ref 118, .ref 119])) := hO
  refine Ev.of pX9_searchesAdders (Nat.le_of_ble_eq_true rfl) ?_
  show G mX9_searchesAdders (rmD (3 + (d + 1)) 0 0) none _ 0 0 0 [(0, .ref 98), (1, .int (nI q)), (2, .int (nI x2)), (3, .int (nI x3))] [] h
  refine g_iload_n dX9_searchesAdders_0 1 rfl ?_
  refine g_aload_n dX9_searchesAdders_1 0 rfl ?_
  refine g_getf dX9_searchesAdders_2 kX9 wfX9_87 (Nat.le_of_ble_eq_true rfl) (hO) rfl ?_
  refine g_icmp_neN 59 dX9_searchesAdders_5 (by decide) (by omega) (by omega) (fun c5 => ?_) (fun z => absurd z (by omega))
  refine g_iconst (v := nI 1) dX9_searchesAdders_59 (by decide +kernel) ?_
  refine g_istore (ls' := [(4, .int (nI 1)), (0, .ref 98), (1, .int (nI q)), (2, .int (nI x2)), (3, .int (nI x3))]) dX9_searchesAdders_60 (Nat.le_of_ble_eq_true rfl) rfl ?_
  exact lp_mas h1 hm n3 lP vF ih0 hl hd hB hD (by rw [List.length_append]; exact hle) (n - 1) 1 h L (by omega) (by omega) hQ rfl (fun _ _ => rfl)

theorem maseek_all {n m a de : Nat} {as_ sm sk z : Int32} {am : Nat} {ib : Bool} {iN iM iT : Int32} (h1 : 1 ≤ m) (hm : m ≤ 6) (n3 : n ≤ 12) (hn1 : 1 ≤ n) {P1 : List Int32} (lP : P1.length = 18) {F S : List Nat} (vF : ∀ k, k < m → P1.getD (3 * k) 0 = nI (F.getD k 0) ∧ P1.getD (3 * k + 1) 0 = nI (S.getD k 0) ∧ F.getD k 0 < n ∧ S.getD k 0 < n) : ∀ d, maseek n m a de as_ sm sk z am ib iN iM iT P1 F S d
  | 0 => maseek_0 h1 hm n3
  | d + 1 => maseek_s h1 hm n3 hn1 lP vF (maseek_all h1 hm n3 hn1 lP vF d)
theorem adM_0 : adM 0 [] := ⟨Nat.two_pow_pos 13, fun i _ => Nat.zero_testBit i⟩
theorem shM_0 (n : Nat) (F S : List Nat) : shM n 0 F S [] := ⟨Nat.two_pow_pos 13, fun i _ => Nat.zero_testBit i⟩
theorem kpV_0 (w : Int32) (K : List Int32) (q : Nat) : kpV w K q [] := fun i _ hi => absurd hi (Nat.not_lt_zero i)
theorem mtV_0 (T : List Int32) : mtV T [] := fun k hk => absurd hk (Nat.not_lt_zero k)

set_option maxRecDepth 100000 in
set_option maxHeartbeats 4000000 in
theorem ev_findsA {h : List aC} {n m a de : Nat} {fo as_ sm sk z : Int32} {am : Nat} {ib : Bool} {iN iM iT : Int32} (hO : MO h n m a de fo as_ sm sk z am ib iN iM iT) (hm1 : 1 ≤ m) (hm : m ≤ 6) (n3 : n ≤ 12) (hn1 : 1 ≤ n) {T Ke P1 : List Int32} (hT : rd h 106 = some (.inl T)) (lT : T.length = 12) (hK : rd h 107 = some (.inl Ke)) (lK : Ke.length = 6) (hP : rd h 99 = some (.inl P1)) (lP : P1.length = 18) {F S : List Nat} (vF : ∀ k, k < m → P1.getD (3 * k) 0 = nI (F.getD k 0) ∧ P1.getD (3 * k + 1) 0 = nI (S.getD k 0) ∧ F.getD k 0 < n ∧ S.getD k 0 < n) (x : Int32) : Ev mX9_findsAdders 12 0 0 [.ref 98, .int x] h (pq none (fun h2 => ∃ T2 K2, MO h2 n m a de (nI (EA n F S m []).length) x sm sk z am ib iN iM iT ∧ rd h2 106 = some (.inl T2) ∧ T2.length = 12 ∧ rd h2 107 = some (.inl K2) ∧ K2.length = 6 ∧ kpV x K2 m (EA n F S m []) ∧ Sm3 h h2)) := by
  have hO : rd h 98 = some (.inr (9, [.int (nI n), .int (nI m), .ref 99, .ref 100, .ref 101, .int (nI a), .ref 102, .int (nI de), .ref 103, .ref 104, .ref 105, .int fo, .int as_, .int sm, .int sk, .ref 106, .ref 107, .ref 108, .int z, .ref 109, .ref 110, .ref 111, .int (nI am), .ref 112, .ref 113, .ref 114, .ref 115, .ref 116, .int (nI (bI ib)), .int iN, .int iM, .int iT, .ref 117, .ref 118, .ref 119])) := hO
  refine Ev.of pX9_findsAdders (Nat.le_of_ble_eq_true rfl) ?_
  show G mX9_findsAdders (rmD 12 0 0) none _ 0 0 0 [(0, .ref 98), (1, .int x)] [] h
  refine g_aload_n dX9_findsAdders_0 0 rfl ?_
  refine g_iconst (v := nI 0) dX9_findsAdders_1 (by decide +kernel) ?_
  refine g_putv dX9_findsAdders_2 kX9 wfX9_161 (Nat.le_of_ble_eq_true rfl) rfl (fun _ _ => ⟨rfl, rfl⟩) (hO) (Nat.le_of_ble_eq_true rfl) (fs' := [.int (nI n), .int (nI m), .ref 99, .ref 100, .ref 101, .int (nI a), .ref 102, .int (nI de), .ref 103, .ref 104, .ref 105, .int (nI 0), .int as_, .int sm, .int sk, .ref 106, .ref 107, .ref 108, .int z, .ref 109, .ref 110, .ref 111, .int (nI am), .ref 112, .ref 113, .ref 114, .ref 115, .ref 116, .int (nI (bI ib)), .int iN, .int iM, .int iT, .ref 117, .ref 118, .ref 119]) rfl (fun h1 e1 => ?_)
  have f1_98 : rd h1 98 = some (.inr (9, [.int (nI n), .int (nI m), .ref 99, .ref 100, .ref 101, .int (nI a), .ref 102, .int (nI de), .ref 103, .ref 104, .ref 105, .int (nI 0), .int as_, .int sm, .int sk, .ref 106, .ref 107, .ref 108, .int z, .ref 109, .ref 110, .ref 111, .int (nI am), .ref 112, .ref 113, .ref 114, .ref 115, .ref 116, .int (nI (bI ib)), .int iN, .int iM, .int iT, .ref 117, .ref 118, .ref 119])) := by rw [e1]; exact rd_wr_eq (hO)
  have s1 : Smo 98 (98 + 1) h h1 := by rw [e1]; exact Smo.wr (by omega) (by omega)
  have f1_106 : rd h1 106 = some (.inl (T)) := by rw [s1 _ (by omega)]; exact hT
  have f1_107 : rd h1 107 = some (.inl (Ke)) := by rw [s1 _ (by omega)]; exact hK
  have f1_99 : rd h1 99 = some (.inl (P1)) := by rw [s1 _ (by omega)]; exact hP
  refine g_aload_n dX9_findsAdders_5 0 rfl ?_
  refine g_iload_n dX9_findsAdders_6 1 rfl ?_
  refine g_putv dX9_findsAdders_7 kX9 wfX9_164 (Nat.le_of_ble_eq_true rfl) rfl (fun _ _ => ⟨rfl, rfl⟩) (f1_98) (Nat.le_of_ble_eq_true rfl) (fs' := [.int (nI n), .int (nI m), .ref 99, .ref 100, .ref 101, .int (nI a), .ref 102, .int (nI de), .ref 103, .ref 104, .ref 105, .int (nI 0), .int x, .int sm, .int sk, .ref 106, .ref 107, .ref 108, .int z, .ref 109, .ref 110, .ref 111, .int (nI am), .ref 112, .ref 113, .ref 114, .ref 115, .ref 116, .int (nI (bI ib)), .int iN, .int iM, .int iT, .ref 117, .ref 118, .ref 119]) rfl (fun h2 e2 => ?_)
  have f2_98 : rd h2 98 = some (.inr (9, [.int (nI n), .int (nI m), .ref 99, .ref 100, .ref 101, .int (nI a), .ref 102, .int (nI de), .ref 103, .ref 104, .ref 105, .int (nI 0), .int x, .int sm, .int sk, .ref 106, .ref 107, .ref 108, .int z, .ref 109, .ref 110, .ref 111, .int (nI am), .ref 112, .ref 113, .ref 114, .ref 115, .ref 116, .int (nI (bI ib)), .int iN, .int iM, .int iT, .ref 117, .ref 118, .ref 119])) := by rw [e2]; exact rd_wr_eq (f1_98)
  have s2 : Smo 98 (98 + 1) h1 h2 := by rw [e2]; exact Smo.wr (by omega) (by omega)
  have f2_106 : rd h2 106 = some (.inl (T)) := by rw [s2 _ (by omega)]; exact f1_106
  have f2_107 : rd h2 107 = some (.inl (Ke)) := by rw [s2 _ (by omega)]; exact f1_107
  have f2_99 : rd h2 99 = some (.inl (P1)) := by rw [s2 _ (by omega)]; exact f1_99
  refine g_aload_n dX9_findsAdders_10 0 rfl ?_
  refine g_iconst (v := nI 0) dX9_findsAdders_11 (by decide +kernel) ?_
  refine g_iconst (v := nI 0) dX9_findsAdders_12 (by decide +kernel) ?_
  refine g_iconst (v := nI 0) dX9_findsAdders_13 (by decide +kernel) ?_
  refine g_callVq (st1 := []) dX9_findsAdders_14 (maseek_all (n := n) (m := m) (a := a) (de := de) (as_ := x) (sm := sm) (sk := sk) (z := z) (am := am) (ib := ib) (iN := iN) (iM := iM) (iT := iT) hm1 hm n3 (by omega) lP vF m _ [] [] 0 0 0 rfl (by omega) ⟨_, _, f2_98, f2_106, lT, mtV_0 _, f2_107, lK, kpV_0 _ _ _, f2_99⟩ adM_0 (shM_0 n F S) (by have := EA_small (n := n) (d := m) (F := F) (S := S) (by omega) (by omega) []; exact this)) oX9_searchesAdders wiX9_searchesAdders weX9_searchesAdders wmX9_176 kX9 (f2_98) rfl ⟨by show 3 + m + 1 ≤ 12; omega, by show 8 + (7 + 11) + 41 * (3 + m) ≤ 41 * 12; omega⟩ ⟨Nat.zero_le _, Nat.zero_le _⟩ (Nat.le_of_ble_eq_true rfl) rfl rfl (fun h3 q3 => ?_)
  obtain ⟨⟨Tz, Kz, oz, tz, ltz, mtz, yz, lyz, kpz, pz⟩, sz⟩ := q3
  have f3_99 : rd h3 99 = some (.inl (P1)) := by rw [sz _ (by omega)]; exact f2_99
  exact g_vret dX9_findsAdders_17 rfl ⟨Nat.zero_le _, Nat.zero_le _⟩ (⟨rfl, Tz, Kz, oz, tz, ltz, yz, lyz, kpz, (fun q hq => by rw [sz q (by omega), s2 q (by omega), s1 q (by omega)])⟩)
