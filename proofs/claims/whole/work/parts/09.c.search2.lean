/-- the search from acc on, d pairs to come, does what E tells -/
def seekP (n m : Nat) (w : Int32) (A : List Nat) (d : Nat) : Prop := ∀ (h : List aC) (acc : List Pp) (c gs gk : Nat) (F S : List Nat) (nums difs : Nat), acc.length + d = m → XA h w c gs gk → PA h 85 n m F S A → mtS F S acc → vA n acc → nmC nums acc → dfC n difs acc → nd (limOf w) c → c + (E n d acc).length ≤ 2 ^ 30 →
  Ev mX5_seekStarters (6 + d) 0 0 [.ref 84, .int (nI acc.length), .int (nI nums), .int (nI difs)] h (fun r h2 => r = none ∧ ∃ c1 g1 k1 F1 S1, XA h2 w c1 g1 k1 ∧ PA h2 85 n m F1 S1 A ∧ (∀ i, i < acc.length → F1.getD i 0 = F.getD i 0 ∧ S1.getD i 0 = S.getD i 0) ∧ Pst (limOf w) (E n d acc) c c1 (mtS F1 S1) ∧ (limOf w = none → g1 = gs + cnB (sgB n) (E n d acc) ∧ k1 = gk + cnB (skB n) (E n d acc)) ∧ Smo 84 89 h h2)
theorem mtS_snoc {F S : List Nat} {acc : List Pp} {x y : Nat} (h : mtS F S acc) (hF : acc.length < F.length) (hS : acc.length < S.length) : mtS (F.set acc.length x) (S.set acc.length y) (acc ++ [(x, y)]) := by
  intro k hk
  rw [List.length_append] at hk
  have hk2 : k < acc.length + 1 := hk
  by_cases q : acc.length = k
  · subst q
    rw [getD_set_eq hF, getD_set_eq hS, List.getD_eq_getElem?_getD, List.getElem?_append_right (Nat.le_refl _), Nat.sub_self]
    rfl
  · rw [getD_set_ne q, getD_set_ne q, h k (by omega), List.getD_eq_getElem?_getD, List.getD_eq_getElem?_getD, List.getElem?_append_left (by omega)]
theorem mtS_of {F S F1 S1 : List Nat} {acc : List Pp} (h : mtS F S acc) (e : ∀ i, i < acc.length → F1.getD i 0 = F.getD i 0 ∧ S1.getD i 0 = S.getD i 0) : mtS F1 S1 acc := fun k hk => by
  rw [(e k hk).1, (e k hk).2]
  exact h k hk
theorem mtS_bnd {n m : Nat} {F S A : List Nat} {acc : List Pp} (h : mtS F S acc) (hv : vA n acc) (hl : acc.length = m) (hA : ∀ k, k < m → A.getD k 0 < n) : bnd n m F S A := fun k hk => by
  have e := h k (by omega)
  have hm : acc.getD k (0, 0) ∈ acc := by
    rw [List.getD_eq_getElem?_getD, List.getElem?_eq_getElem (by omega)]
    exact List.getElem_mem (by omega)
  obtain ⟨q1, q2, q3⟩ := hv _ hm
  have e1 : F.getD k 0 = (acc.getD k (0, 0)).1 := by rw [← e]
  have e2 : S.getD k 0 = (acc.getD k (0, 0)).2 := by rw [← e]
  exact ⟨by omega, by omega, hA k hk⟩

set_option maxRecDepth 100000 in
set_option maxHeartbeats 4000000 in
theorem seek_0 {n m : Nat} {w : Int32} {A : List Nat} (hn : 3 ≤ n ∧ n ≤ 13) (hm : m ≤ 6) (hA : ∀ k, k < m → A.getD k 0 < n) : seekP n m w A 0 := by
  intro h acc c gs gk F S nums difs hl hX hP hM hV hB hD hnd hle
  have hb := mtS_bnd hM hV (show acc.length = m by omega) hA
  refine Ev.of pX5_seekStarters (Nat.le_of_ble_eq_true rfl) ?_
  show G mX5_seekStarters (rmD (6 + 0) 0 0) none _ 0 0 0 [(0, .ref 84), (1, .int (nI acc.length)), (2, .int (nI nums)), (3, .int (nI difs))] [] h
  refine g_aload_n dX5_seekStarters_0 0 rfl ?_
  refine g_getf dX5_seekStarters_1 kX5 wfX5_10 (Nat.le_of_ble_eq_true rfl) (hX) rfl ?_
  refine g_astore (ls' := [(4, .ref 85), (0, .ref 84), (1, .int (nI acc.length)), (2, .int (nI nums)), (3, .int (nI difs))]) dX5_seekStarters_4 (Nat.le_of_ble_eq_true rfl) rfl ?_
  refine g_aload dX5_seekStarters_6 0 rfl ?_
  refine g_getf dX5_seekStarters_8 kX3 wfX5_60 (Nat.le_of_ble_eq_true rfl) (hP.1) rfl ?_
  refine g_istore (ls' := [(5, .int (nI n)), (4, .ref 85), (0, .ref 84), (1, .int (nI acc.length)), (2, .int (nI nums)), (3, .int (nI difs))]) dX5_seekStarters_11 (Nat.le_of_ble_eq_true rfl) rfl ?_
  refine g_iload_n dX5_seekStarters_13 3 rfl ?_
  refine g_aload dX5_seekStarters_14 1 rfl ?_
  refine g_getf dX5_seekStarters_16 kX3 wfX5_63 (Nat.le_of_ble_eq_true rfl) (hP.1) rfl ?_
  refine g_icmp_ltN 27 dX5_seekStarters_19 (by decide) (by omega) (by omega) (fun z => absurd z (by omega)) (fun c19 => ?_)
  refine g_aload_n dX5_seekStarters_22 2 rfl ?_
  refine g_callVq (st1 := []) dX5_seekStarters_23 (ev_note hX hP hm hn.2 (by omega) hb) oX5_noteStarter wiX5_noteStarter weX5_noteStarter wmX5_66 kX5 (hX) rfl ⟨Nat.le_of_ble_eq_true rfl, Nat.le_of_ble_eq_true rfl⟩ ⟨Nat.zero_le _, Nat.zero_le _⟩ (Nat.le_of_ble_eq_true rfl) rfl rfl (fun h1 q1 => ?_)
  obtain ⟨q1a, q1s⟩ := q1
  refine g_vret dX5_seekStarters_26 rfl ⟨Nat.zero_le _, Nat.zero_le _⟩ (⟨rfl, c + 1, _, _, F, S, q1a, hP.mv q1s (by omega), fun i _ => ⟨rfl, rfl⟩, Pst_one hnd hM, fun _ => ⟨?_, ?_⟩, q1s.wid (by omega) (by omega)⟩)
  · show gs + bI (stS n m F S) = gs + (bI (sgB n acc) + 0)
    unfold sgB
    rw [Nat.add_zero, show acc.length = m by omega, stS_ext (fun i hi => mtS_len hM (show i < acc.length by omega))]
  · show gk + bI (stS n m F S && skS n m F S) = gk + (bI (skB n acc) + 0)
    unfold skB
    rw [Nat.add_zero, show acc.length = m by omega, stS_ext (fun i hi => mtS_len hM (show i < acc.length by omega)), skS_ext (fun i hi => mtS_len hM (show i < acc.length by omega))]

/-- the same contract, the number of pairs written otherwise; told as the callers' row wants it -/
theorem Ev.asS {d : Nat} {h : List aC} {q nums difs : Nat} {Q : List aC → Prop} (E : Ev mX5_seekStarters d 0 0 [.ref 84, .int (nI q), .int (nI nums), .int (nI difs)] h (fun r h2 => r = none ∧ Q h2)) (p : Nat) (e : q = p) : Ev mX5_seekStarters d 0 0 [.ref 84, .int (nI p), .int (nI nums), .int (nI difs)] h (pq none Q) := by
  subst e
  exact E

set_option maxRecDepth 100000 in
set_option maxHeartbeats 4000000 in
theorem lp_seek {n m : Nat} {w : Int32} {A : List Nat} (hn : 3 ≤ n ∧ n ≤ 13) (hm : m ≤ 6) (hA : ∀ k, k < m → A.getD k 0 < n) {d : Nat} (ih0 : seekP n m w A d) {h0 : List aC} {acc : List Pp} {c0 gs0 gk0 : Nat} {F0 S0 : List Nat} {nums difs x B : Nat} (hl : acc.length + (d + 1) = m) (hV : vA n acc) (hB : nmC nums acc) (hD : dfC n difs acc) (hnd : nd (limOf w) c0) (hx : 1 ≤ x ∧ x ≤ n) (hBn : n ≤ B ∧ (B = n ∨ B = x + 1)) (hle : c0 + (E n (d + 1) acc).length ≤ 2 ^ 30) : ∀ j k (h : List aC) (c gs gk : Nat) (F S : List Nat) (Lp : List (List Pp)), k + j = B → x + 1 ≤ k → XA h w c gs gk → PA h 85 n m F S A → mtS F S acc → (∀ i, i < acc.length → F.getD i 0 = F0.getD i 0 ∧ S.getD i 0 = S0.getD i 0) → Lp ++ (EY (fun y => E n d (acc ++ [(x, y)])) (okA n acc x) j k) = (E n (d + 1) acc) → Pst (limOf w) Lp c0 c (mtS F S) → (limOf w = none → gs = gs0 + cnB (sgB n) Lp ∧ gk = gk0 + cnB (skB n) Lp) → Smo 84 89 h0 h → G mX5_seekStarters (rmD (6 + (d + 1)) 0 0) none (fun r h2 => r = none ∧ ∃ c1 g1 k1 F1 S1, XA h2 w c1 g1 k1 ∧ PA h2 85 n m F1 S1 A ∧ (∀ i, i < acc.length → F1.getD i 0 = F0.getD i 0 ∧ S1.getD i 0 = S0.getD i 0) ∧ Pst (limOf w) (E n (d + 1) acc) c0 c1 (mtS F1 S1) ∧ (limOf w = none → g1 = gs0 + cnB (sgB n) (E n (d + 1) acc) ∧ k1 = gk0 + cnB (skB n) (E n (d + 1) acc)) ∧ Smo 84 89 h0 h2) 0 0 41 [(7, .int (nI k)), (6, .int (nI x)), (5, .int (nI n)), (4, .ref 85), (0, .ref 84), (1, .int (nI acc.length)), (2, .int (nI nums)), (3, .int (nI difs))] [] h := by
  have ha1 := hB.1
  have ha2 := hD.1
  intro j
  induction j with
  | zero =>
    intro k h c gs gk F S Lp hk hk1 hX hP hM hE hL hPs hG hS
    refine g_iload dX5_seekStarters_41 0 rfl ?_
    refine g_iload dX5_seekStarters_43 2 rfl ?_
    refine g_icmp_geN 139 dX5_seekStarters_45 (by decide) (by omega) (by omega) (fun c45 => ?_) (fun z => absurd z (by omega))
    exact g_vret dX5_seekStarters_139 rfl ⟨Nat.zero_le _, Nat.zero_le _⟩ (⟨rfl, c, gs, gk, F, S, hX, hP, hE, by rw [← hL]; show Pst (limOf w) (Lp ++ []) c0 c (mtS F S); rw [List.append_nil]; exact hPs, fun z => (by rw [← hL]; show gs = gs0 + cnB (sgB n) (Lp ++ []) ∧ gk = gk0 + cnB (skB n) (Lp ++ []); rw [List.append_nil]; exact hG z), hS⟩)
  | succ j ih =>
    intro k h c gs gk F S Lp hk hk1 hX hP hM hE hL hPs hG hS
    obtain ⟨-, -, -, -, lF, lS, lA⟩ := id hP
    have zle := Pst_le hPs
    have zlen : Lp.length ≤ (E n (d + 1) acc).length := by rw [← hL, List.length_append]; omega
    have z1 : nums &&& 2 ^ k ≤ nums := Nat.and_le_left
    have z2 : difs &&& 2 ^ min (k - x) (n - k + x) ≤ difs := Nat.and_le_left
    refine g_iload dX5_seekStarters_41 0 rfl ?_
    refine g_iload dX5_seekStarters_43 2 rfl ?_
    refine g_icmp_geN 139 dX5_seekStarters_45 (by decide) (by omega) (by omega) (fun z => absurd z (by omega)) (fun c45 => ?_)
    refine g_aload_n dX5_seekStarters_48 4 rfl ?_
    refine g_callVp dX5_seekStarters_49 (ev_hasWanted hX) oX5_hasWanted wiX5_hasWanted weX5_hasWanted wmX5_73 kX5 (hX) rfl ⟨Nat.le_trans (Nat.le_of_ble_eq_true rfl : _ ≤ 6) (by show 6 ≤ 6 + (d + 1); omega), Nat.le_trans (Nat.le_of_ble_eq_true rfl : _ ≤ 41 * 6) (by show 41 * 6 ≤ 41 * (6 + (d + 1)); omega)⟩ ⟨Nat.zero_le _, Nat.zero_le _⟩ (Nat.le_of_ble_eq_true rfl) rfl ?_
    refine g_if_neB 139 dX5_seekStarters_52 (by decide) (fun c52 => ?_) (fun c52 => ?_)
    · exact g_vret dX5_seekStarters_139 rfl ⟨Nat.zero_le _, Nat.zero_le _⟩ (⟨rfl, c, gs, gk, F, S, hX, hP, hE, by rw [← hL]; cases hlim : limOf w with | none => (rw [hw_none hlim] at c52; exact absurd c52 (by decide)) | some i => (rw [hw_some (by omega) hlim] at c52; rw [hlim] at hPs; exact Pst_done (hnd i hlim) hPs (of_decide_eq_true c52)), fun z => (by rw [hw_none z] at c52; exact absurd c52 (by decide)), hS⟩)
    · refine g_iconst (v := nI 1) dX5_seekStarters_55 (by decide +kernel) ?_
      refine g_iload dX5_seekStarters_56 0 rfl ?_
      refine g_ishl1 dX5_seekStarters_58 (by first | omega | exact Nat.lt_of_lt_of_le (Nat.mod_lt _ (by omega)) (by omega)) ?_
      refine g_istore (ls' := [(8, .int (nI (2 ^ k))), (7, .int (nI k)), (6, .int (nI x)), (5, .int (nI n)), (4, .ref 85), (0, .ref 84), (1, .int (nI acc.length)), (2, .int (nI nums)), (3, .int (nI difs))]) dX5_seekStarters_59 (Nat.le_of_ble_eq_true rfl) rfl ?_
      refine g_iconst (v := nI 1) dX5_seekStarters_61 (by decide +kernel) ?_
      refine g_iload dX5_seekStarters_62 1 rfl ?_
      refine g_iload dX5_seekStarters_64 2 rfl ?_
      refine g_isubN dX5_seekStarters_66 (by omega) ?_
      refine g_iload dX5_seekStarters_67 3 rfl ?_
      refine g_iload dX5_seekStarters_69 1 rfl ?_
      refine g_isubN dX5_seekStarters_71 (by omega) ?_
      refine g_iload dX5_seekStarters_72 2 rfl ?_
      refine g_iaddN dX5_seekStarters_74 ?_
      refine g_callSp dX5_seekStarters_75 (ev_min (k - x) ((n - k) + x) (by omega) (by omega) _) oJ9_min_7cf53 wsJ9_min_7cf53 wmX5_76 rfl ⟨Nat.le_trans (Nat.le_of_ble_eq_true rfl : _ ≤ 6) (by show 6 ≤ 6 + (d + 1); omega), Nat.le_trans (Nat.le_of_ble_eq_true rfl : _ ≤ 41 * 6) (by show 41 * 6 ≤ 41 * (6 + (d + 1)); omega)⟩ ⟨Nat.zero_le _, Nat.zero_le _⟩ (Nat.le_of_ble_eq_true rfl) rfl ?_
      refine g_ishl1 dX5_seekStarters_78 (by first | omega | exact Nat.lt_of_lt_of_le (Nat.mod_lt _ (by omega)) (by omega)) ?_
      refine g_istore (ls' := [(9, .int (nI (2 ^ (min (k - x) ((n - k) + x))))), (8, .int (nI (2 ^ k))), (7, .int (nI k)), (6, .int (nI x)), (5, .int (nI n)), (4, .ref 85), (0, .ref 84), (1, .int (nI acc.length)), (2, .int (nI nums)), (3, .int (nI difs))]) dX5_seekStarters_79 (Nat.le_of_ble_eq_true rfl) rfl ?_
      refine g_iload_n dX5_seekStarters_81 8 rfl ?_
      refine g_iload dX5_seekStarters_82 1 rfl ?_
      refine g_iandN dX5_seekStarters_84 ?_
      refine g_if_neN 133 dX5_seekStarters_85 (by decide) (by omega) (fun c85 => ?_) (fun c85 => ?_)
      · refine g_iinc (q := 2) (v := nI (k + 1)) (ls' := [(7, .int (nI (k + 1))), (9, .int (nI (2 ^ (min (k - x) ((n - k) + x))))), (8, .int (nI (2 ^ k))), (6, .int (nI x)), (5, .int (nI n)), (4, .ref 85), (0, .ref 84), (1, .int (nI acc.length)), (2, .int (nI nums)), (3, .int (nI difs))]) dX5_seekStarters_133 rfl (inc1 _) (Nat.le_of_ble_eq_true rfl) rfl ?_
        refine g_goto 41 dX5_seekStarters_136 (by decide) ?_
        refine g_lsub_ (ls2 := [(7, .int (nI (k + 1))), (6, .int (nI x)), (5, .int (nI n)), (4, .ref 85), (0, .ref 84), (1, .int (nI acc.length)), (2, .int (nI nums)), (3, .int (nI difs))]) [0, 3, 4, 5, 6, 7, 8, 9] rfl ?_
        have hok : ¬ okA n acc x k = true := by unfold okA; rw [← nmC_t hB (show 1 ≤ k by omega) (by omega), ← dfC_t hD hV hn.2 (show x < k by omega) (by omega)]; first | (rw [and_pow1 c85, Bool.not_true, Bool.false_and]; decide) | (rw [and_pow1 c92, Bool.not_true, Bool.and_false]; decide)
        exact ih (k + 1) h c gs gk F S Lp (by omega) (by omega) hX hP hM hE (by rw [EY_f hok] at hL; exact hL) hPs hG hS
      · refine g_iload_n dX5_seekStarters_88 9 rfl ?_
        refine g_iload dX5_seekStarters_89 0 rfl ?_
        refine g_iandN dX5_seekStarters_91 ?_
        refine g_if_neN 133 dX5_seekStarters_92 (by decide) (by omega) (fun c92 => ?_) (fun c92 => ?_)
        · refine g_iinc (q := 2) (v := nI (k + 1)) (ls' := [(7, .int (nI (k + 1))), (9, .int (nI (2 ^ (min (k - x) ((n - k) + x))))), (8, .int (nI (2 ^ k))), (6, .int (nI x)), (5, .int (nI n)), (4, .ref 85), (0, .ref 84), (1, .int (nI acc.length)), (2, .int (nI nums)), (3, .int (nI difs))]) dX5_seekStarters_133 rfl (inc1 _) (Nat.le_of_ble_eq_true rfl) rfl ?_
          refine g_goto 41 dX5_seekStarters_136 (by decide) ?_
          refine g_lsub_ (ls2 := [(7, .int (nI (k + 1))), (6, .int (nI x)), (5, .int (nI n)), (4, .ref 85), (0, .ref 84), (1, .int (nI acc.length)), (2, .int (nI nums)), (3, .int (nI difs))]) [0, 3, 4, 5, 6, 7, 8, 9] rfl ?_
          have hok : ¬ okA n acc x k = true := by unfold okA; rw [← nmC_t hB (show 1 ≤ k by omega) (by omega), ← dfC_t hD hV hn.2 (show x < k by omega) (by omega)]; first | (rw [and_pow1 c85, Bool.not_true, Bool.false_and]; decide) | (rw [and_pow1 c92, Bool.not_true, Bool.and_false]; decide)
          exact ih (k + 1) h c gs gk F S Lp (by omega) (by omega) hX hP hM hE (by rw [EY_f hok] at hL; exact hL) hPs hG hS
        · refine g_aload dX5_seekStarters_95 5 rfl ?_
          refine g_getf dX5_seekStarters_97 kX3 wfX5_81 (Nat.le_of_ble_eq_true rfl) (hP.1) rfl ?_
          refine g_iload_n dX5_seekStarters_100 7 rfl ?_
          refine g_iload dX5_seekStarters_101 3 rfl ?_
          refine g_iasN dX5_seekStarters_103 (hP.2.1) (by omega) (by omega) (fun h1 e1 => ?_)
          have f1_86 : rd h1 86 = some (.inl (((F).set acc.length x).map nI)) := by rw [e1]; exact rd_wr_eq (hP.2.1)
          have s1 : Smo 86 (86 + 1) h h1 := by rw [e1]; exact Smo.wr (by omega) (by omega)
          have b1_84 := hX.mv s1 (by omega)
          have f1_85 : rd h1 85 = some (.inr (3, [.ref 86, .ref 87, .ref 88, .int (nI n), .int (nI m)])) := by rw [s1 _ (by omega)]; exact hP.1
          have f1_87 : rd h1 87 = some (.inl ((S).map nI)) := by rw [s1 _ (by omega)]; exact hP.2.2.1
          have f1_88 : rd h1 88 = some (.inl ((A).map nI)) := by rw [s1 _ (by omega)]; exact hP.2.2.2.1
          refine g_aload dX5_seekStarters_104 5 rfl ?_
          refine g_getf dX5_seekStarters_106 kX3 wfX5_85 (Nat.le_of_ble_eq_true rfl) (f1_85) rfl ?_
          refine g_iload_n dX5_seekStarters_109 7 rfl ?_
          refine g_iload dX5_seekStarters_110 2 rfl ?_
          refine g_iasN dX5_seekStarters_112 (f1_87) (by omega) (by omega) (fun h2 e2 => ?_)
          have f2_87 : rd h2 87 = some (.inl (((S).set acc.length k).map nI)) := by rw [e2]; exact rd_wr_eq (f1_87)
          have s2 : Smo 87 (87 + 1) h1 h2 := by rw [e2]; exact Smo.wr (by omega) (by omega)
          have b2_84 := b1_84.mv s2 (by omega)
          have f2_85 : rd h2 85 = some (.inr (3, [.ref 86, .ref 87, .ref 88, .int (nI n), .int (nI m)])) := by rw [s2 _ (by omega)]; exact f1_85
          have f2_86 : rd h2 86 = some (.inl (((F).set acc.length x).map nI)) := by rw [s2 _ (by omega)]; exact f1_86
          have f2_88 : rd h2 88 = some (.inl ((A).map nI)) := by rw [s2 _ (by omega)]; exact f1_88
          refine g_aload_n dX5_seekStarters_113 6 rfl ?_
          refine g_iload_n dX5_seekStarters_114 7 rfl ?_
          refine g_iconst (v := nI 1) dX5_seekStarters_115 (by decide +kernel) ?_
          refine g_iaddN dX5_seekStarters_116 ?_
          refine g_iload_n dX5_seekStarters_117 8 rfl ?_
          refine g_iconst (v := nI 1) dX5_seekStarters_118 (by decide +kernel) ?_
          refine g_iload dX5_seekStarters_119 3 rfl ?_
          refine g_ishl1 dX5_seekStarters_121 (by first | omega | exact Nat.lt_of_lt_of_le (Nat.mod_lt _ (by omega)) (by omega)) ?_
          refine g_iorN dX5_seekStarters_122 ?_
          refine g_iload dX5_seekStarters_123 1 rfl ?_
          refine g_iorN dX5_seekStarters_125 ?_
          refine g_iload_n dX5_seekStarters_126 9 rfl ?_
          refine g_iload dX5_seekStarters_127 0 rfl ?_
          refine g_iorN dX5_seekStarters_129 ?_
          have hnc : nd (limOf w) c := fun i hi => by rw [hw_some (by omega) hi] at c52; have := of_decide_eq_false c52; omega
          have hok : okA n acc x k = true := by unfold okA; rw [← nmC_t hB (show 1 ≤ k by omega) (by omega), ← dfC_t hD hV hn.2 (show x < k by omega) (by omega), (and_pow0 _ _).mp c85, (and_pow0 _ _).mp c92]; rfl
          refine g_callSq (st1 := []) dX5_seekStarters_130 ((ih0 h2 (acc ++ [(x, k)]) c gs gk (F.set acc.length x) (S.set acc.length k) _ _ (by rw [List.length_append]; show acc.length + 1 + d = m; omega) b2_84 ⟨f2_85, f2_86, f2_87, f2_88, by simp [lF], by simp [lS], lA⟩ (mtS_snoc hM (by omega) (by omega)) (vA_add hV hx.1 (by omega) (by omega)) (nmC_add hB (by omega) (by omega)) (dfC_add hD hn.2 (by omega) (by omega)) hnc (by have y := Pst_len hPs hnc; rw [← hL, EY_t hok, List.length_append, List.length_append] at hle; omega)).asS (acc.length + 1) (by rw [List.length_append]; rfl)) oX5_seekStarters wsX5_seekStarters wmX5_36 rfl ⟨by show 6 + d + 1 ≤ 6 + (d + 1); omega, by show 8 + (10 + 11) + 41 * (6 + d) ≤ 41 * (6 + (d + 1)); omega⟩ ⟨Nat.zero_le _, Nat.zero_le _⟩ (Nat.le_of_ble_eq_true rfl) rfl rfl (fun h3 q3 => ?_)
          obtain ⟨c1, g1, k1, F1, S1, r1, r2, r3, r4, r5, r6⟩ := q3
          refine g_iinc (q := 2) (v := nI (k + 1)) (ls' := [(7, .int (nI (k + 1))), (9, .int (nI (2 ^ (min (k - x) ((n - k) + x))))), (8, .int (nI (2 ^ k))), (6, .int (nI x)), (5, .int (nI n)), (4, .ref 85), (0, .ref 84), (1, .int (nI acc.length)), (2, .int (nI nums)), (3, .int (nI difs))]) dX5_seekStarters_133 rfl (inc1 _) (Nat.le_of_ble_eq_true rfl) rfl ?_
          refine g_goto 41 dX5_seekStarters_136 (by decide) ?_
          refine g_lsub_ (ls2 := [(7, .int (nI (k + 1))), (6, .int (nI x)), (5, .int (nI n)), (4, .ref 85), (0, .ref 84), (1, .int (nI acc.length)), (2, .int (nI nums)), (3, .int (nI difs))]) [0, 3, 4, 5, 6, 7, 8, 9] rfl ?_
          exact ih (k + 1) _ c1 g1 k1 F1 S1 (Lp ++ E n d (acc ++ [(x, k)])) (by omega) (by omega) r1 r2 (mtS_of (mtS_of hM (fun i hi => ⟨getD_set_ne (x := x) (by omega), getD_set_ne (x := k) (by omega)⟩)) (fun i hi => r3 i (by rw [List.length_append]; omega))) (fun i hi => by obtain ⟨y1, y2⟩ := r3 i (by rw [List.length_append]; omega); rw [y1, y2, getD_set_ne (by omega), getD_set_ne (by omega)]; exact hE i hi) (by have y := hL; rw [EY_t hok] at y; rw [List.append_assoc]; exact y) (Pst_app hPs hnc r4) (fun z => by rw [cnB_app, cnB_app, ← Nat.add_assoc, ← Nat.add_assoc, ← (hG z).1, ← (hG z).2]; exact r5 z) (hS.tr (Smo.tr (fun q hq => by rw [s2 q (by omega), s1 q (by omega)]) r6))
