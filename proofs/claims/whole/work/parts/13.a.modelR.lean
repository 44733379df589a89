set_option maxRecDepth 100000 in
set_option maxHeartbeats 4000000 in
theorem ev_draws {h : List aC} {n m a de : Nat} {fo as_ sm sk z : Int32} {am : Nat} {ib : Bool} {iN iM iT : Int32} (hO : MO h n m a de fo as_ sm sk z am ib iN iM iT) (q : Nat) (h0q : 0 < q) (hq : q < 2 ^ 31) : Ev mX9_draws 1 0 0 [.ref 98, .int (nI q)] h (pq (some (.int (nI (blw (drw z) q)))) (fun h2 => MO h2 n m a de fo as_ sm sk (drw z) am ib iN iM iT ∧ Smo 98 99 h h2)) := by
  have hO : rd h 98 = some (.inr (9, [.int (nI n), .int (nI m), .ref 99, .ref 100, .ref 101, .int (nI a), .ref 102, .int (nI de), .ref 103, .ref 104, .ref 105, .int fo, .int as_, .int sm, .int sk, .ref 106, .ref 107, .ref 108, .int z, .ref 109, .ref 110, .ref 111, .int (nI am), .ref 112, .ref 113, .ref 114, .ref 115, .ref 116, .int (nI (bI ib)), .int iN, .int iM, .int iT, .ref 117, .ref 118, .ref 119])) := hO
  refine Ev.of pX9_draws (Nat.le_of_ble_eq_true rfl) ?_
  show G mX9_draws (rmD 1 0 0) none _ 0 0 0 [(0, .ref 98), (1, .int (nI q))] [] h
  refine g_aload_n dX9_draws_0 0 rfl ?_
  refine g_aload_n dX9_draws_1 0 rfl ?_
  refine g_getf dX9_draws_2 kX9 wfX9_218 (Nat.le_of_ble_eq_true rfl) (hO) rfl ?_
  refine g_ldc dX9_draws_5 wxX9_221 ?_
  refine g_top (show ((1664525) : Int32) = nI 1664525 by decide +kernel) ?_
  refine g_imul dX9_draws_7 ?_
  refine g_ldc dX9_draws_8 wxX9_222 ?_
  refine g_top (show ((1013904223) : Int32) = nI 1013904223 by decide +kernel) ?_
  refine g_iadd dX9_draws_10 ?_
  refine g_putv dX9_draws_11 kX9 wfX9_218 (Nat.le_of_ble_eq_true rfl) rfl (fun _ _ => ⟨rfl, rfl⟩) (hO) (Nat.le_of_ble_eq_true rfl) (fs' := [.int (nI n), .int (nI m), .ref 99, .ref 100, .ref 101, .int (nI a), .ref 102, .int (nI de), .ref 103, .ref 104, .ref 105, .int fo, .int as_, .int sm, .int sk, .ref 106, .ref 107, .ref 108, .int ((z * (nI 1664525)) + (nI 1013904223)), .ref 109, .ref 110, .ref 111, .int (nI am), .ref 112, .ref 113, .ref 114, .ref 115, .ref 116, .int (nI (bI ib)), .int iN, .int iM, .int iT, .ref 117, .ref 118, .ref 119]) rfl (fun h1 e1 => ?_)
  have f1_98 : rd h1 98 = some (.inr (9, [.int (nI n), .int (nI m), .ref 99, .ref 100, .ref 101, .int (nI a), .ref 102, .int (nI de), .ref 103, .ref 104, .ref 105, .int fo, .int as_, .int sm, .int sk, .ref 106, .ref 107, .ref 108, .int ((z * (nI 1664525)) + (nI 1013904223)), .ref 109, .ref 110, .ref 111, .int (nI am), .ref 112, .ref 113, .ref 114, .ref 115, .ref 116, .int (nI (bI ib)), .int iN, .int iM, .int iT, .ref 117, .ref 118, .ref 119])) := by rw [e1]; exact rd_wr_eq (hO)
  have s1 : Smo 98 (98 + 1) h h1 := by rw [e1]; exact Smo.wr (by omega) (by omega)
  refine g_aload_n dX9_draws_14 0 rfl ?_
  refine g_getf dX9_draws_15 kX9 wfX9_218 (Nat.le_of_ble_eq_true rfl) (f1_98) rfl ?_
  refine g_ldc dX9_draws_18 wxX9_223 ?_
  refine g_top (show ((2147483647) : Int32) = nI 2147483647 by decide +kernel) ?_
  refine g_iand dX9_draws_20 ?_
  refine g_top (show ((z * (nI 1664525)) + (nI 1013904223)) &&& (nI 2147483647) = nI (lwb (drw z)) from lwb_and (drw z)) ?_
  have zl := lwb_lt (drw z)
  refine g_sipush (v := nI 256) dX9_draws_21 (by decide +kernel) ?_
  refine g_idivN dX9_draws_24 (by omega) (by omega) (by omega) ?_
  refine g_iload_n dX9_draws_25 1 rfl ?_
  refine g_iremN dX9_draws_26 (by omega) (by omega) (by omega) ?_
  exact g_iret dX9_draws_27 rfl ⟨Nat.zero_le _, Nat.zero_le _⟩ (⟨rfl, f1_98, (fun q hq => by rw [s1 q (by omega)])⟩)

def Sm2 (a b : Nat) (h h2 : List aC) : Prop := ∀ q, (q ≠ a ∧ q ≠ b) → rd h2 q = rd h q
theorem Sm2.tr {a b : Nat} {h h2 h3 : List aC} (s : Sm2 a b h h2) (t : Sm2 a b h2 h3) : Sm2 a b h h3 := fun q hq => (t q hq).trans (s q hq)
/-- two rows of what is thought -/
def tS (T : List Int32) (m : Nat) (F S : List Nat) : Prop := ∀ i, i < m → T.getD (3 * i) 0 = nI (F.getD i 0) ∧ T.getD (3 * i + 1) 0 = nI (S.getD i 0)
theorem tS_set {T : List Int32} {m : Nat} {F S : List Nat} (h : tS T m F S) (l : T.length = 18) (hm : m ≤ 6) (lS : S.length = 6) {a b : Nat} (ha : a < m) (hb : b < m) : tS ((T.set (3 * a + 1) (nI (S.getD b 0))).set (3 * b + 1) (nI (S.getD a 0))) m F ((S.set a (S.getD b 0)).set b (S.getD a 0)) := fun i hi => by
  obtain ⟨h1, h2⟩ := h i hi
  refine ⟨by rw [getD_set_neI (by omega), getD_set_neI (by omega)]; exact h1, ?_⟩
  by_cases q : b = i
  · subst q; rw [getD_set_eqI (by rw [List.length_set]; omega), getD_set_eq (by rw [List.length_set]; omega)]
  · rw [getD_set_neI (by omega), getD_set_ne q]
    by_cases w : a = i
    · subst w; rw [getD_set_eqI (by omega), getD_set_eq (by omega)]
    · rw [getD_set_neI (by omega), getD_set_ne w]; exact h2
theorem sS_set {n m : Nat} {F S : List Nat} (h : ∀ i, i < m → S.getD i 0 < n ∧ F.getD i 0 ≠ S.getD i 0) (lS : S.length = 6) (hm : m ≤ 6) {a b : Nat} (ha : a < m) (hb : b < m) (n1 : F.getD a 0 ≠ S.getD b 0) (n2 : F.getD b 0 ≠ S.getD a 0) : ∀ i, i < m → ((S.set a (S.getD b 0)).set b (S.getD a 0)).getD i 0 < n ∧ F.getD i 0 ≠ ((S.set a (S.getD b 0)).set b (S.getD a 0)).getD i 0 := fun i hi => by
  by_cases q : b = i
  · subst q; rw [getD_set_eq (by rw [List.length_set]; omega)]; exact ⟨(h a ha).1, n2⟩
  · rw [getD_set_ne q]
    by_cases w : a = i
    · subst w; rw [getD_set_eq (by omega)]; exact ⟨(h b hb).1, n1⟩
    · rw [getD_set_ne w]; exact h i hi

set_option maxRecDepth 100000 in
set_option maxHeartbeats 4000000 in
theorem lp_mlots {h0 : List aC} {P : Option Value → List aC → Prop} {n m a de : Nat} {fo as_ sm sk : Int32} {am : Nat} {ib : Bool} {iN iM iT : Int32} (hm : m ≤ 6) (h0m : 0 < m) (n3 : n ≤ 13) {F : List Nat} (hF : ∀ i, i < m → F.getD i 0 < n) {x1 y1 : Nat} {zz : Int32} (hx : x1 ≤ 50) {res : Nat × List Nat} (K : ∀ T z h', MO h' n m a de fo as_ sm sk z am ib iN iM iT → rd h' 109 = some (.inl T) → T.length = 18 → tS T m F res.2 → (∀ i, i < m → res.2.getD i 0 < n ∧ F.getD i 0 ≠ res.2.getD i 0) → Sm2 98 109 h0 h' → G mX9_lots (rmD 3 0 0) none P 0 0 222 [(5, .int (nI x1)), (0, .ref 98), (1, .int (nI x1)), (2, .int zz), (3, .int (nI y1)), (4, .int (nI res.1))] [] h') : ∀ j k (h : List aC) (T : List Int32) (c : Nat) (z : Int32) (S : List Nat), k + j = x1 → lotGo m F j z c S = res → MO h n m a de fo as_ sm sk z am ib iN iM iT → rd h 109 = some (.inl T) → T.length = 18 → tS T m F S → (∀ i, i < m → S.getD i 0 < n ∧ F.getD i 0 ≠ S.getD i 0) → S.length = 6 → Sm2 98 109 h0 h → G mX9_lots (rmD 3 0 0) none P 0 0 86 [(5, .int (nI k)), (0, .ref 98), (1, .int (nI x1)), (2, .int zz), (3, .int (nI y1)), (4, .int (nI c))] [] h := by
  intro j
  induction j with
  | zero =>
    intro k h T c z S hk he hO hT lT vT hs lS hS
    have hO : rd h 98 = some (.inr (9, [.int (nI n), .int (nI m), .ref 99, .ref 100, .ref 101, .int (nI a), .ref 102, .int (nI de), .ref 103, .ref 104, .ref 105, .int fo, .int as_, .int sm, .int sk, .ref 106, .ref 107, .ref 108, .int z, .ref 109, .ref 110, .ref 111, .int (nI am), .ref 112, .ref 113, .ref 114, .ref 115, .ref 116, .int (nI (bI ib)), .int iN, .int iM, .int iT, .ref 117, .ref 118, .ref 119])) := hO
    refine g_iload dX9_lots_86 0 rfl ?_
    refine g_iload_n dX9_lots_88 2 rfl ?_
    refine g_icmp_geN 222 dX9_lots_89 (by decide) (by omega) (by omega) (fun c89 => ?_) (fun z => absurd z (by omega))
    have ek : k = x1 := by omega
    have e1 : res.1 = c := by rw [← he]; rfl
    have e2 : res.2 = S := by rw [← he]; rfl
    have z9 := K T z h hO hT lT (by rw [e2]; exact vT) (by rw [e2]; exact hs) hS
    subst ek
    rw [e1] at z9
    exact z9
  | succ j ih =>
    intro k h T c z S hk he hO hT lT vT hs lS hS
    have hO : rd h 98 = some (.inr (9, [.int (nI n), .int (nI m), .ref 99, .ref 100, .ref 101, .int (nI a), .ref 102, .int (nI de), .ref 103, .ref 104, .ref 105, .int fo, .int as_, .int sm, .int sk, .ref 106, .ref 107, .ref 108, .int z, .ref 109, .ref 110, .ref 111, .int (nI am), .ref 112, .ref 113, .ref 114, .ref 115, .ref 116, .int (nI (bI ib)), .int iN, .int iM, .int iT, .ref 117, .ref 118, .ref 119])) := hO
    have al : blw (drw z) m < m := blw_lt h0m
    have bl : blw (drw (drw z)) m < m := blw_lt h0m
    have fa := hF _ al
    have fb := hF _ bl
    have sa := (hs _ al).1
    have sb := (hs _ bl).1
    refine g_iload dX9_lots_86 0 rfl ?_
    refine g_iload_n dX9_lots_88 2 rfl ?_
    refine g_icmp_geN 222 dX9_lots_89 (by decide) (by omega) (by omega) (fun z => absurd z (by omega)) (fun c89 => ?_)
    refine g_aload_n dX9_lots_92 1 rfl ?_
    refine g_aload_n dX9_lots_93 1 rfl ?_
    refine g_getf dX9_lots_94 kX9 wfX9_87 (Nat.le_of_ble_eq_true rfl) (hO) rfl ?_
    refine g_callVq (st1 := [.int (nI (blw (drw z) m))]) dX9_lots_97 (ev_draws (z := z) (show MO h _ _ _ _ _ _ _ _ _ _ _ _ _ _ from hO) m (by omega) (by omega)) oX9_draws wiX9_draws weX9_draws wmX9_226 kX9 (hO) rfl ⟨(Nat.le_of_ble_eq_true rfl), (Nat.le_of_ble_eq_true rfl)⟩ ⟨Nat.zero_le _, Nat.zero_le _⟩ (Nat.le_of_ble_eq_true rfl) rfl rfl (fun h1 q1 => ?_)
    obtain ⟨q1o, q1s⟩ := q1
    have f1_109 : rd h1 109 = some (.inl (T)) := by rw [q1s _ (by omega)]; exact hT
    refine g_istore (ls' := [(6, .int (nI (blw (drw z) m))), (5, .int (nI k)), (0, .ref 98), (1, .int (nI x1)), (2, .int zz), (3, .int (nI y1)), (4, .int (nI c))]) dX9_lots_100 (Nat.le_of_ble_eq_true rfl) rfl ?_
    refine g_aload_n dX9_lots_102 2 rfl ?_
    refine g_aload_n dX9_lots_103 2 rfl ?_
    refine g_getf dX9_lots_104 kX9 wfX9_87 (Nat.le_of_ble_eq_true rfl) (q1o) rfl ?_
    refine g_callVq (st1 := [.int (nI (blw (drw (drw z)) m))]) dX9_lots_107 (ev_draws (z := drw z) (show MO h1 _ _ _ _ _ _ _ _ _ _ _ _ _ _ from q1o) m (by omega) (by omega)) oX9_draws wiX9_draws weX9_draws wmX9_226 kX9 (q1o) rfl ⟨(Nat.le_of_ble_eq_true rfl), (Nat.le_of_ble_eq_true rfl)⟩ ⟨Nat.zero_le _, Nat.zero_le _⟩ (Nat.le_of_ble_eq_true rfl) rfl rfl (fun h2 q2 => ?_)
    obtain ⟨q2o, q2s⟩ := q2
    have f2_109 : rd h2 109 = some (.inl (T)) := by rw [q2s _ (by omega)]; exact f1_109
    refine g_istore (ls' := [(7, .int (nI (blw (drw (drw z)) m))), (6, .int (nI (blw (drw z) m))), (5, .int (nI k)), (0, .ref 98), (1, .int (nI x1)), (2, .int zz), (3, .int (nI y1)), (4, .int (nI c))]) dX9_lots_110 (Nat.le_of_ble_eq_true rfl) rfl ?_
    refine g_iload dX9_lots_112 1 rfl ?_
    refine g_iload dX9_lots_114 0 rfl ?_
    refine g_icmp_eqN 165 dX9_lots_116 (by decide) (by omega) (by omega) (fun c116 => ?_) (fun c116 => ?_)
    · refine g_aload_n dX9_lots_165 3 rfl ?_
      refine g_getf dX9_lots_166 kX9 wfX9_44 (Nat.le_of_ble_eq_true rfl) (q2o) rfl ?_
      refine g_iconst (v := nI 3) dX9_lots_169 (by decide +kernel) ?_
      refine g_iload dX9_lots_170 1 rfl ?_
      refine g_imulN dX9_lots_172 ?_
      refine g_iconst (v := nI 1) dX9_lots_173 (by decide +kernel) ?_
      refine g_iaddN dX9_lots_174 ?_
      refine g_ialI dX9_lots_175 (f2_109) (by omega) (by omega) ?_
      refine g_top (show (T).getD ((3 * (blw (drw z) m)) + 1) 0 = nI (S.getD (blw (drw z) m) 0) from (vT _ (by omega)).2) ?_
      refine g_istore (ls' := [(8, .int (nI (S.getD (blw (drw z) m) 0))), (7, .int (nI (blw (drw (drw z)) m))), (6, .int (nI (blw (drw z) m))), (5, .int (nI k)), (0, .ref 98), (1, .int (nI x1)), (2, .int zz), (3, .int (nI y1)), (4, .int (nI c))]) dX9_lots_176 (Nat.le_of_ble_eq_true rfl) rfl ?_
      refine g_aload_n dX9_lots_178 4 rfl ?_
      refine g_getf dX9_lots_179 kX9 wfX9_44 (Nat.le_of_ble_eq_true rfl) (q2o) rfl ?_
      refine g_iconst (v := nI 3) dX9_lots_182 (by decide +kernel) ?_
      refine g_iload dX9_lots_183 2 rfl ?_
      refine g_imulN dX9_lots_185 ?_
      refine g_iconst (v := nI 1) dX9_lots_186 (by decide +kernel) ?_
      refine g_iaddN dX9_lots_187 ?_
      refine g_aload_n dX9_lots_188 4 rfl ?_
      refine g_getf dX9_lots_189 kX9 wfX9_44 (Nat.le_of_ble_eq_true rfl) (q2o) rfl ?_
      refine g_iconst (v := nI 3) dX9_lots_192 (by decide +kernel) ?_
      refine g_iload dX9_lots_193 1 rfl ?_
      refine g_imulN dX9_lots_195 ?_
      refine g_iconst (v := nI 1) dX9_lots_196 (by decide +kernel) ?_
      refine g_iaddN dX9_lots_197 ?_
      refine g_ialI dX9_lots_198 (f2_109) (by omega) (by omega) ?_
      refine g_top (show (T).getD ((3 * (blw (drw (drw z)) m)) + 1) 0 = nI (S.getD (blw (drw (drw z)) m) 0) from (vT _ (by omega)).2) ?_
      refine g_iasI dX9_lots_199 (f2_109) (by omega) (by omega) (fun h3 e3 => ?_)
      have f3_109 : rd h3 109 = some (.inl ((T).set ((3 * (blw (drw z) m)) + 1) (nI (S.getD (blw (drw (drw z)) m) 0)))) := by rw [e3]; exact rd_wr_eq (f2_109)
      have lf3_109 : ((T).set ((3 * (blw (drw z) m)) + 1) (nI (S.getD (blw (drw (drw z)) m) 0))).length = _ := List.length_set.trans lT
      have s3 : Smo 109 (109 + 1) h2 h3 := by rw [e3]; exact Smo.wr (by omega) (by omega)
      have f3_98 : rd h3 98 = some (.inr (9, [.int (nI n), .int (nI m), .ref 99, .ref 100, .ref 101, .int (nI a), .ref 102, .int (nI de), .ref 103, .ref 104, .ref 105, .int fo, .int as_, .int sm, .int sk, .ref 106, .ref 107, .ref 108, .int (drw (drw z)), .ref 109, .ref 110, .ref 111, .int (nI am), .ref 112, .ref 113, .ref 114, .ref 115, .ref 116, .int (nI (bI ib)), .int iN, .int iM, .int iT, .ref 117, .ref 118, .ref 119])) := by rw [s3 _ (by omega)]; exact q2o
      refine g_aload_n dX9_lots_200 4 rfl ?_
      refine g_getf dX9_lots_201 kX9 wfX9_44 (Nat.le_of_ble_eq_true rfl) (f3_98) rfl ?_
      refine g_iconst (v := nI 3) dX9_lots_204 (by decide +kernel) ?_
      refine g_iload dX9_lots_205 1 rfl ?_
      refine g_imulN dX9_lots_207 ?_
      refine g_iconst (v := nI 1) dX9_lots_208 (by decide +kernel) ?_
      refine g_iaddN dX9_lots_209 ?_
      refine g_iload dX9_lots_210 0 rfl ?_
      refine g_iasI dX9_lots_212 (f3_109) (by rw [List.length_set]; omega) (by simp only [List.length_set]; omega) (fun h4 e4 => ?_)
      have f4_109 : rd h4 109 = some (.inl (((T).set ((3 * (blw (drw z) m)) + 1) (nI (S.getD (blw (drw (drw z)) m) 0))).set ((3 * (blw (drw (drw z)) m)) + 1) (nI (S.getD (blw (drw z) m) 0)))) := by rw [e4]; exact rd_wr_eq (f3_109)
      have lf4_109 : (((T).set ((3 * (blw (drw z) m)) + 1) (nI (S.getD (blw (drw (drw z)) m) 0))).set ((3 * (blw (drw (drw z)) m)) + 1) (nI (S.getD (blw (drw z) m) 0))).length = _ := List.length_set.trans lf3_109
      have s4 : Smo 109 (109 + 1) h3 h4 := by rw [e4]; exact Smo.wr (by omega) (by omega)
      have f4_98 : rd h4 98 = some (.inr (9, [.int (nI n), .int (nI m), .ref 99, .ref 100, .ref 101, .int (nI a), .ref 102, .int (nI de), .ref 103, .ref 104, .ref 105, .int fo, .int as_, .int sm, .int sk, .ref 106, .ref 107, .ref 108, .int (drw (drw z)), .ref 109, .ref 110, .ref 111, .int (nI am), .ref 112, .ref 113, .ref 114, .ref 115, .ref 116, .int (nI (bI ib)), .int iN, .int iM, .int iT, .ref 117, .ref 118, .ref 119])) := by rw [s4 _ (by omega)]; exact f3_98
      refine g_iinc (q := 8) (v := nI (c + 1)) (ls' := [(4, .int (nI (c + 1))), (8, .int (nI (S.getD (blw (drw z) m) 0))), (7, .int (nI (blw (drw (drw z)) m))), (6, .int (nI (blw (drw z) m))), (5, .int (nI k)), (0, .ref 98), (1, .int (nI x1)), (2, .int zz), (3, .int (nI y1))]) dX9_lots_213 rfl (inc1 _) (Nat.le_of_ble_eq_true rfl) rfl ?_
      refine g_iinc (q := 4) (v := nI (k + 1)) (ls' := [(5, .int (nI (k + 1))), (4, .int (nI (c + 1))), (8, .int (nI (S.getD (blw (drw z) m) 0))), (7, .int (nI (blw (drw (drw z)) m))), (6, .int (nI (blw (drw z) m))), (0, .ref 98), (1, .int (nI x1)), (2, .int zz), (3, .int (nI y1))]) dX9_lots_216 rfl (inc1 _) (Nat.le_of_ble_eq_true rfl) rfl ?_
      refine g_goto 86 dX9_lots_219 (by decide) ?_
      refine g_lsub_ (ls2 := [(5, .int (nI (k + 1))), (0, .ref 98), (1, .int (nI x1)), (2, .int zz), (3, .int (nI y1)), (4, .int (nI (c + 1)))]) [0, 5, 6, 7, 8, 1] rfl ?_
      have n1 : F.getD (blw (drw z) m) 0 ≠ S.getD (blw (drw (drw z)) m) 0 := (by rw [c116]; exact (hs _ bl).2)
      have n2 : F.getD (blw (drw (drw z)) m) 0 ≠ S.getD (blw (drw z) m) 0 := (by rw [c116]; exact (hs _ bl).2)
      rw [lotGo_pos n1 n2] at he
      exact ih (k + 1) _ _ (c + 1) _ _ (by omega) he f4_98 f4_109 (lf4_109) (tS_set vT lT hm lS al bl) (sS_set hs lS hm al bl n1 n2) (by rw [List.length_set, List.length_set]; exact lS) (hS.tr (show Sm2 98 109 h _ from (fun q hq => by rw [s4 q (by omega), s3 q (by omega), q2s q (by omega), q1s q (by omega)])))
    · refine g_aload_n dX9_lots_119 3 rfl ?_
      refine g_getf dX9_lots_120 kX9 wfX9_44 (Nat.le_of_ble_eq_true rfl) (q2o) rfl ?_
      refine g_iconst (v := nI 3) dX9_lots_123 (by decide +kernel) ?_
      refine g_iload dX9_lots_124 1 rfl ?_
      refine g_imulN dX9_lots_126 ?_
      refine g_ialI dX9_lots_127 (f2_109) (by omega) (by omega) ?_
      refine g_top (show (T).getD (3 * (blw (drw z) m)) 0 = nI ((F).getD (blw (drw z) m) 0) from (vT _ (by omega)).1) ?_
      refine g_aload_n dX9_lots_128 3 rfl ?_
      refine g_getf dX9_lots_129 kX9 wfX9_44 (Nat.le_of_ble_eq_true rfl) (q2o) rfl ?_
      refine g_iconst (v := nI 3) dX9_lots_132 (by decide +kernel) ?_
      refine g_iload dX9_lots_133 0 rfl ?_
      refine g_imulN dX9_lots_135 ?_
      refine g_iconst (v := nI 1) dX9_lots_136 (by decide +kernel) ?_
      refine g_iaddN dX9_lots_137 ?_
      refine g_ialI dX9_lots_138 (f2_109) (by omega) (by omega) ?_
      refine g_top (show (T).getD ((3 * (blw (drw (drw z)) m)) + 1) 0 = nI ((S).getD (blw (drw (drw z)) m) 0) from (vT _ (by omega)).2) ?_
      refine g_icmp_eqN 216 dX9_lots_139 (by decide) (by omega) (by omega) (fun c139 => ?_) (fun c139 => ?_)
      · refine g_iinc (q := 2) (v := nI (k + 1)) (ls' := [(5, .int (nI (k + 1))), (7, .int (nI (blw (drw (drw z)) m))), (6, .int (nI (blw (drw z) m))), (0, .ref 98), (1, .int (nI x1)), (2, .int zz), (3, .int (nI y1)), (4, .int (nI c))]) dX9_lots_216 rfl (inc1 _) (Nat.le_of_ble_eq_true rfl) rfl ?_
        refine g_goto 86 dX9_lots_219 (by decide) ?_
        refine g_lsub_ (ls2 := [(5, .int (nI (k + 1))), (0, .ref 98), (1, .int (nI x1)), (2, .int zz), (3, .int (nI y1)), (4, .int (nI c))]) [0, 3, 4, 5, 6, 7] rfl ?_
        rw [lotGo_neg (fun z => z.1 c139)] at he
        exact ih (k + 1) _ T c _ S (by omega) he q2o f2_109 lT vT hs lS (hS.tr (show Sm2 98 109 h _ from (fun q hq => by rw [q2s q (by omega), q1s q (by omega)])))
      · refine g_aload_n dX9_lots_142 3 rfl ?_
        refine g_getf dX9_lots_143 kX9 wfX9_44 (Nat.le_of_ble_eq_true rfl) (q2o) rfl ?_
        refine g_iconst (v := nI 3) dX9_lots_146 (by decide +kernel) ?_
        refine g_iload dX9_lots_147 0 rfl ?_
        refine g_imulN dX9_lots_149 ?_
        refine g_ialI dX9_lots_150 (f2_109) (by omega) (by omega) ?_
        refine g_top (show (T).getD (3 * (blw (drw (drw z)) m)) 0 = nI ((F).getD (blw (drw (drw z)) m) 0) from (vT _ (by omega)).1) ?_
        refine g_aload_n dX9_lots_151 3 rfl ?_
        refine g_getf dX9_lots_152 kX9 wfX9_44 (Nat.le_of_ble_eq_true rfl) (q2o) rfl ?_
        refine g_iconst (v := nI 3) dX9_lots_155 (by decide +kernel) ?_
        refine g_iload dX9_lots_156 1 rfl ?_
        refine g_imulN dX9_lots_158 ?_
        refine g_iconst (v := nI 1) dX9_lots_159 (by decide +kernel) ?_
        refine g_iaddN dX9_lots_160 ?_
        refine g_ialI dX9_lots_161 (f2_109) (by omega) (by omega) ?_
        refine g_top (show (T).getD ((3 * (blw (drw z) m)) + 1) 0 = nI ((S).getD (blw (drw z) m) 0) from (vT _ (by omega)).2) ?_
        refine g_icmp_eqN 216 dX9_lots_162 (by decide) (by omega) (by omega) (fun c162 => ?_) (fun c162 => ?_)
        · refine g_iinc (q := 2) (v := nI (k + 1)) (ls' := [(5, .int (nI (k + 1))), (7, .int (nI (blw (drw (drw z)) m))), (6, .int (nI (blw (drw z) m))), (0, .ref 98), (1, .int (nI x1)), (2, .int zz), (3, .int (nI y1)), (4, .int (nI c))]) dX9_lots_216 rfl (inc1 _) (Nat.le_of_ble_eq_true rfl) rfl ?_
          refine g_goto 86 dX9_lots_219 (by decide) ?_
          refine g_lsub_ (ls2 := [(5, .int (nI (k + 1))), (0, .ref 98), (1, .int (nI x1)), (2, .int zz), (3, .int (nI y1)), (4, .int (nI c))]) [0, 3, 4, 5, 6, 7] rfl ?_
          rw [lotGo_neg (fun z => z.2 c162)] at he
          exact ih (k + 1) _ T c _ S (by omega) he q2o f2_109 lT vT hs lS (hS.tr (show Sm2 98 109 h _ from (fun q hq => by rw [q2s q (by omega), q1s q (by omega)])))
        · refine g_aload_n dX9_lots_165 3 rfl ?_
          refine g_getf dX9_lots_166 kX9 wfX9_44 (Nat.le_of_ble_eq_true rfl) (q2o) rfl ?_
          refine g_iconst (v := nI 3) dX9_lots_169 (by decide +kernel) ?_
          refine g_iload dX9_lots_170 1 rfl ?_
          refine g_imulN dX9_lots_172 ?_
          refine g_iconst (v := nI 1) dX9_lots_173 (by decide +kernel) ?_
          refine g_iaddN dX9_lots_174 ?_
          refine g_ialI dX9_lots_175 (f2_109) (by omega) (by omega) ?_
          refine g_top (show (T).getD ((3 * (blw (drw z) m)) + 1) 0 = nI (S.getD (blw (drw z) m) 0) from (vT _ (by omega)).2) ?_
          refine g_istore (ls' := [(8, .int (nI (S.getD (blw (drw z) m) 0))), (7, .int (nI (blw (drw (drw z)) m))), (6, .int (nI (blw (drw z) m))), (5, .int (nI k)), (0, .ref 98), (1, .int (nI x1)), (2, .int zz), (3, .int (nI y1)), (4, .int (nI c))]) dX9_lots_176 (Nat.le_of_ble_eq_true rfl) rfl ?_
          refine g_aload_n dX9_lots_178 4 rfl ?_
          refine g_getf dX9_lots_179 kX9 wfX9_44 (Nat.le_of_ble_eq_true rfl) (q2o) rfl ?_
          refine g_iconst (v := nI 3) dX9_lots_182 (by decide +kernel) ?_
          refine g_iload dX9_lots_183 2 rfl ?_
          refine g_imulN dX9_lots_185 ?_
          refine g_iconst (v := nI 1) dX9_lots_186 (by decide +kernel) ?_
          refine g_iaddN dX9_lots_187 ?_
          refine g_aload_n dX9_lots_188 4 rfl ?_
          refine g_getf dX9_lots_189 kX9 wfX9_44 (Nat.le_of_ble_eq_true rfl) (q2o) rfl ?_
          refine g_iconst (v := nI 3) dX9_lots_192 (by decide +kernel) ?_
          refine g_iload dX9_lots_193 1 rfl ?_
          refine g_imulN dX9_lots_195 ?_
          refine g_iconst (v := nI 1) dX9_lots_196 (by decide +kernel) ?_
          refine g_iaddN dX9_lots_197 ?_
          refine g_ialI dX9_lots_198 (f2_109) (by omega) (by omega) ?_
          refine g_top (show (T).getD ((3 * (blw (drw (drw z)) m)) + 1) 0 = nI (S.getD (blw (drw (drw z)) m) 0) from (vT _ (by omega)).2) ?_
          refine g_iasI dX9_lots_199 (f2_109) (by omega) (by omega) (fun h5 e5 => ?_)
          have f5_109 : rd h5 109 = some (.inl ((T).set ((3 * (blw (drw z) m)) + 1) (nI (S.getD (blw (drw (drw z)) m) 0)))) := by rw [e5]; exact rd_wr_eq (f2_109)
          have lf5_109 : ((T).set ((3 * (blw (drw z) m)) + 1) (nI (S.getD (blw (drw (drw z)) m) 0))).length = _ := List.length_set.trans lT
          have s5 : Smo 109 (109 + 1) h2 h5 := by rw [e5]; exact Smo.wr (by omega) (by omega)
          have f5_98 : rd h5 98 = some (.inr (9, [.int (nI n), .int (nI m), .ref 99, .ref 100, .ref 101, .int (nI a), .ref 102, .int (nI de), .ref 103, .ref 104, .ref 105, .int fo, .int as_, .int sm, .int sk, .ref 106, .ref 107, .ref 108, .int (drw (drw z)), .ref 109, .ref 110, .ref 111, .int (nI am), .ref 112, .ref 113, .ref 114, .ref 115, .ref 116, .int (nI (bI ib)), .int iN, .int iM, .int iT, .ref 117, .ref 118, .ref 119])) := by rw [s5 _ (by omega)]; exact q2o
          refine g_aload_n dX9_lots_200 4 rfl ?_
          refine g_getf dX9_lots_201 kX9 wfX9_44 (Nat.le_of_ble_eq_true rfl) (f5_98) rfl ?_
          refine g_iconst (v := nI 3) dX9_lots_204 (by decide +kernel) ?_
          refine g_iload dX9_lots_205 1 rfl ?_
          refine g_imulN dX9_lots_207 ?_
          refine g_iconst (v := nI 1) dX9_lots_208 (by decide +kernel) ?_
          refine g_iaddN dX9_lots_209 ?_
          refine g_iload dX9_lots_210 0 rfl ?_
          refine g_iasI dX9_lots_212 (f5_109) (by rw [List.length_set]; omega) (by simp only [List.length_set]; omega) (fun h6 e6 => ?_)
          have f6_109 : rd h6 109 = some (.inl (((T).set ((3 * (blw (drw z) m)) + 1) (nI (S.getD (blw (drw (drw z)) m) 0))).set ((3 * (blw (drw (drw z)) m)) + 1) (nI (S.getD (blw (drw z) m) 0)))) := by rw [e6]; exact rd_wr_eq (f5_109)
          have lf6_109 : (((T).set ((3 * (blw (drw z) m)) + 1) (nI (S.getD (blw (drw (drw z)) m) 0))).set ((3 * (blw (drw (drw z)) m)) + 1) (nI (S.getD (blw (drw z) m) 0))).length = _ := List.length_set.trans lf5_109
          have s6 : Smo 109 (109 + 1) h5 h6 := by rw [e6]; exact Smo.wr (by omega) (by omega)
          have f6_98 : rd h6 98 = some (.inr (9, [.int (nI n), .int (nI m), .ref 99, .ref 100, .ref 101, .int (nI a), .ref 102, .int (nI de), .ref 103, .ref 104, .ref 105, .int fo, .int as_, .int sm, .int sk, .ref 106, .ref 107, .ref 108, .int (drw (drw z)), .ref 109, .ref 110, .ref 111, .int (nI am), .ref 112, .ref 113, .ref 114, .ref 115, .ref 116, .int (nI (bI ib)), .int iN, .int iM, .int iT, .ref 117, .ref 118, .ref 119])) := by rw [s6 _ (by omega)]; exact f5_98
          refine g_iinc (q := 8) (v := nI (c + 1)) (ls' := [(4, .int (nI (c + 1))), (8, .int (nI (S.getD (blw (drw z) m) 0))), (7, .int (nI (blw (drw (drw z)) m))), (6, .int (nI (blw (drw z) m))), (5, .int (nI k)), (0, .ref 98), (1, .int (nI x1)), (2, .int zz), (3, .int (nI y1))]) dX9_lots_213 rfl (inc1 _) (Nat.le_of_ble_eq_true rfl) rfl ?_
          refine g_iinc (q := 4) (v := nI (k + 1)) (ls' := [(5, .int (nI (k + 1))), (4, .int (nI (c + 1))), (8, .int (nI (S.getD (blw (drw z) m) 0))), (7, .int (nI (blw (drw (drw z)) m))), (6, .int (nI (blw (drw z) m))), (0, .ref 98), (1, .int (nI x1)), (2, .int zz), (3, .int (nI y1))]) dX9_lots_216 rfl (inc1 _) (Nat.le_of_ble_eq_true rfl) rfl ?_
          refine g_goto 86 dX9_lots_219 (by decide) ?_
          refine g_lsub_ (ls2 := [(5, .int (nI (k + 1))), (0, .ref 98), (1, .int (nI x1)), (2, .int zz), (3, .int (nI y1)), (4, .int (nI (c + 1)))]) [0, 5, 6, 7, 8, 1] rfl ?_
          have n1 : F.getD (blw (drw z) m) 0 ≠ S.getD (blw (drw (drw z)) m) 0 := c139
          have n2 : F.getD (blw (drw (drw z)) m) 0 ≠ S.getD (blw (drw z) m) 0 := c162
          rw [lotGo_pos n1 n2] at he
          exact ih (k + 1) _ _ (c + 1) _ _ (by omega) he f6_98 f6_109 (lf6_109) (tS_set vT lT hm lS al bl) (sS_set hs lS hm al bl n1 n2) (by rw [List.length_set, List.length_set]; exact lS) (hS.tr (show Sm2 98 109 h _ from (fun q hq => by rw [s6 q (by omega), s5 q (by omega), q2s q (by omega), q1s q (by omega)])))

set_option maxRecDepth 100000 in
set_option maxHeartbeats 4000000 in
theorem lp_mlb {h : List aC} {P : Option Value → List aC → Prop} {n m a de : Nat} {fo as_ sm sk z : Int32} {am : Nat} {ib : Bool} {iN iM iT : Int32} (hO : MO h n m a de fo as_ sm sk z am ib iN iM iT) (hm : m ≤ 6) (n3 : n ≤ 13) {T : List Int32} (hT : rd h 109 = some (.inl T)) (lT : T.length = 18) {F S : List Nat} (vT : tS T m F S) (hF : ∀ i, i < m → F.getD i 0 < n) (hs : ∀ i, i < m → S.getD i 0 < n ∧ F.getD i 0 ≠ S.getD i 0) {x1 y1 c : Nat} {zz : Int32} (K : G mX9_lots (rmD 3 0 0) none P 0 0 289 [(6, .int (nI m)), (0, .ref 98), (1, .int (nI x1)), (2, .int zz), (3, .int (nI y1)), (4, .int (nI c)), (5, .int (nI (dBits n F S m)))] [] h) : ∀ j k , k + j = m → G mX9_lots (rmD 3 0 0) none P 0 0 228 [(6, .int (nI k)), (0, .ref 98), (1, .int (nI x1)), (2, .int zz), (3, .int (nI y1)), (4, .int (nI c)), (5, .int (nI (dBits n F S k)))] [] h := by
  intro j
  induction j with
  | zero =>
    intro k  hk 
    have hO : rd h 98 = some (.inr (9, [.int (nI n), .int (nI m), .ref 99, .ref 100, .ref 101, .int (nI a), .ref 102, .int (nI de), .ref 103, .ref 104, .ref 105, .int fo, .int as_, .int sm, .int sk, .ref 106, .ref 107, .ref 108, .int z, .ref 109, .ref 110, .ref 111, .int (nI am), .ref 112, .ref 113, .ref 114, .ref 115, .ref 116, .int (nI (bI ib)), .int iN, .int iM, .int iT, .ref 117, .ref 118, .ref 119])) := hO
    refine g_iload dX9_lots_228 0 rfl ?_
    refine g_aload_n dX9_lots_230 1 rfl ?_
    refine g_getf dX9_lots_231 kX9 wfX9_87 (Nat.le_of_ble_eq_true rfl) (hO) rfl ?_
    refine g_icmp_geN 289 dX9_lots_234 (by decide) (by omega) (by omega) (fun c234 => ?_) (fun z => absurd z (by omega))
    have ek : k = m := by omega
    subst ek
    exact K
  | succ j ih =>
    intro k  hk 
    have hO : rd h 98 = some (.inr (9, [.int (nI n), .int (nI m), .ref 99, .ref 100, .ref 101, .int (nI a), .ref 102, .int (nI de), .ref 103, .ref 104, .ref 105, .int fo, .int as_, .int sm, .int sk, .ref 106, .ref 107, .ref 108, .int z, .ref 109, .ref 110, .ref 111, .int (nI am), .ref 112, .ref 113, .ref 114, .ref 115, .ref 116, .int (nI (bI ib)), .int iN, .int iM, .int iT, .ref 117, .ref 118, .ref 119])) := hO
    have b1 := hF k (by omega)
    obtain ⟨b2, b3⟩ := hs k (by omega)
    have op := opp b1 b2
    have ml := Nat.mod_lt (F.getD k 0 + n - S.getD k 0) (show 0 < n by omega)
    refine g_iload dX9_lots_228 0 rfl ?_
    refine g_aload_n dX9_lots_230 1 rfl ?_
    refine g_getf dX9_lots_231 kX9 wfX9_87 (Nat.le_of_ble_eq_true rfl) (hO) rfl ?_
    refine g_icmp_geN 289 dX9_lots_234 (by decide) (by omega) (by omega) (fun z => absurd z (by omega)) (fun c234 => ?_)
    refine g_aload_n dX9_lots_237 1 rfl ?_
    refine g_aload_n dX9_lots_238 1 rfl ?_
    refine g_getf dX9_lots_239 kX9 wfX9_44 (Nat.le_of_ble_eq_true rfl) (hO) rfl ?_
    refine g_iconst (v := nI 3) dX9_lots_242 (by decide +kernel) ?_
    refine g_iload dX9_lots_243 0 rfl ?_
    refine g_imulN dX9_lots_245 ?_
    refine g_ialI dX9_lots_246 (hT) (by omega) (by omega) ?_
    refine g_top (show (T).getD (3 * k) 0 = nI ((F).getD (k) 0) from (vT _ (by omega)).1) ?_
    refine g_aload_n dX9_lots_247 1 rfl ?_
    refine g_getf dX9_lots_248 kX9 wfX9_44 (Nat.le_of_ble_eq_true rfl) (hO) rfl ?_
    refine g_iconst (v := nI 3) dX9_lots_251 (by decide +kernel) ?_
    refine g_iload dX9_lots_252 0 rfl ?_
    refine g_imulN dX9_lots_254 ?_
    refine g_iconst (v := nI 1) dX9_lots_255 (by decide +kernel) ?_
    refine g_iaddN dX9_lots_256 ?_
    refine g_ialI dX9_lots_257 (hT) (by omega) (by omega) ?_
    refine g_top (show (T).getD ((3 * k) + 1) 0 = nI ((S).getD (k) 0) from (vT _ (by omega)).2) ?_
    refine g_isub dX9_lots_258 ?_
    refine g_callVp dX9_lots_259 (ev_wholeR hO n3 (F.getD k 0) (S.getD k 0) b1 b2) oX9_whole wiX9_whole weX9_whole wmX9_129 kX9 (hO) rfl ⟨(Nat.le_of_ble_eq_true rfl), (Nat.le_of_ble_eq_true rfl)⟩ ⟨Nat.zero_le _, Nat.zero_le _⟩ (Nat.le_of_ble_eq_true rfl) rfl ?_
    refine g_istore (ls' := [(7, .int (nI ((F.getD k 0 + n - S.getD k 0) % n))), (6, .int (nI k)), (0, .ref 98), (1, .int (nI x1)), (2, .int zz), (3, .int (nI y1)), (4, .int (nI c)), (5, .int (nI (dBits n F S k)))]) dX9_lots_262 (Nat.le_of_ble_eq_true rfl) rfl ?_
    refine g_iload dX9_lots_264 7 rfl ?_
    refine g_iconst (v := nI 1) dX9_lots_266 (by decide +kernel) ?_
    refine g_iload dX9_lots_267 0 rfl ?_
    refine g_ishl1 dX9_lots_269 (by omega) ?_
    refine g_iconst (v := nI 1) dX9_lots_270 (by decide +kernel) ?_
    refine g_aload_n dX9_lots_271 2 rfl ?_
    refine g_getf dX9_lots_272 kX9 wfX9_7 (Nat.le_of_ble_eq_true rfl) (hO) rfl ?_
    refine g_iload dX9_lots_275 0 rfl ?_
    refine g_isubN dX9_lots_277 (by omega) ?_
    refine g_top (show nI (n - ((F.getD k 0 + n - S.getD k 0) % n)) = nI ((S.getD k 0 + n - F.getD k 0) % n) from congrArg nI (show n - (F.getD k 0 + n - S.getD k 0) % n = (S.getD k 0 + n - F.getD k 0) % n by omega)) ?_
    refine g_ishl1 dX9_lots_278 (by omega) ?_
    refine g_iorN dX9_lots_279 ?_
    refine g_iorN dX9_lots_280 ?_
    refine g_top (show nI ((dBits n F S k) ||| ((2 ^ ((F.getD k 0 + n - S.getD k 0) % n)) ||| (2 ^ ((S.getD k 0 + n - F.getD k 0) % n)))) = nI (dBits n F S (k + 1)) from congrArg nI (Nat.or_assoc _ _ _).symm) ?_
    refine g_istore (ls' := [(5, .int (nI (dBits n F S (k + 1)))), (7, .int (nI ((F.getD k 0 + n - S.getD k 0) % n))), (6, .int (nI k)), (0, .ref 98), (1, .int (nI x1)), (2, .int zz), (3, .int (nI y1)), (4, .int (nI c))]) dX9_lots_281 (Nat.le_of_ble_eq_true rfl) rfl ?_
    refine g_iinc (q := 2) (v := nI (k + 1)) (ls' := [(6, .int (nI (k + 1))), (5, .int (nI (dBits n F S (k + 1)))), (7, .int (nI ((F.getD k 0 + n - S.getD k 0) % n))), (0, .ref 98), (1, .int (nI x1)), (2, .int zz), (3, .int (nI y1)), (4, .int (nI c))]) dX9_lots_283 rfl (inc1 _) (Nat.le_of_ble_eq_true rfl) rfl ?_
    refine g_goto 228 dX9_lots_286 (by decide) ?_
    refine g_lsub_ (ls2 := [(6, .int (nI (k + 1))), (0, .ref 98), (1, .int (nI x1)), (2, .int zz), (3, .int (nI y1)), (4, .int (nI c)), (5, .int (nI (dBits n F S (k + 1))))]) [0, 3, 4, 5, 6, 7, 1] rfl ?_
    exact ih (k + 1) (by omega)

set_option maxRecDepth 100000 in
set_option maxHeartbeats 4000000 in
theorem ev_y_lots {h : List aC} {σ : Sg} (H : RM h σ) (ok : okSg σ) (x zz y : Int32) : Ev mX9_lots 3 0 0 [.ref 98, .int x, .int zz, .int y] h (spM h (oLots σ x zz y)) := by
  obtain ⟨fo, as_, sm, sk, z, iN, iM, iT, P, Ro, U, rf, WM, WP, WR, Tr, Ke, Co, Th, Be, Le, AP, AR, AU, Sz, It, IP, IR, IU, mO, mP, mRo, mU, mrf, mWM, mWP, mWR, mTr, mKe, mCo, mTh, mBe, mLe, mAP, mAR, mAU, mSz, mIt, mIP, mIR, mIU, vP, vR, vU, vF, vH, vL, vS, vI, vG⟩ := id H
  have mO : rd h 98 = some (.inr (9, [.int (nI σ.1.1), .int (nI σ.1.2.1), .ref 99, .ref 100, .ref 101, .int (nI σ.1.2.2.2.1), .ref 102, .int (nI ((σ.2.2.2.1).length)), .ref 103, .ref 104, .ref 105, .int fo, .int as_, .int sm, .int sk, .ref 106, .ref 107, .ref 108, .int z, .ref 109, .ref 110, .ref 111, .int (nI σ.2.1.1), .ref 112, .ref 113, .ref 114, .ref 115, .ref 116, .int (nI (bI σ.2.2.2.2.1.isSome)), .int iN, .int iM, .int iT, .ref 117, .ref 118, .ref 119])) := mO
  obtain ⟨mP, lP⟩ := mP
  obtain ⟨mRo, lRo⟩ := mRo
  obtain ⟨mU, lU⟩ := mU
  obtain ⟨mrf, lrf⟩ := mrf
  obtain ⟨mWM, lWM⟩ := mWM
  obtain ⟨mWP, lWP⟩ := mWP
  obtain ⟨mWR, lWR⟩ := mWR
  obtain ⟨mTr, lTr⟩ := mTr
  obtain ⟨mKe, lKe⟩ := mKe
  obtain ⟨mCo, lCo⟩ := mCo
  obtain ⟨mTh, lTh⟩ := mTh
  obtain ⟨mBe, lBe⟩ := mBe
  obtain ⟨mLe, lLe⟩ := mLe
  obtain ⟨mAP, lAP⟩ := mAP
  obtain ⟨mAR, lAR⟩ := mAR
  obtain ⟨mAU, lAU⟩ := mAU
  obtain ⟨mSz, lSz⟩ := mSz
  obtain ⟨mIt, lIt⟩ := mIt
  obtain ⟨mIP, lIP⟩ := mIP
  obtain ⟨mIR, lIR⟩ := mIR
  obtain ⟨mIU, lIU⟩ := mIU
  obtain ⟨okc, ⟨okl, okw⟩, okn, ⟨okh, oke⟩, oki, okr⟩ := id ok
  obtain ⟨k1, k2, k3, k4, k5, k6, k7, k8, k9⟩ := id okc
  refine Ev.of pX9_lots (Nat.le_of_ble_eq_true rfl) ?_
  show G mX9_lots (rmD 3 0 0) none _ 0 0 0 [(0, .ref 98), (1, .int x), (2, .int zz), (3, .int y)] [] h
  refine g_iload_n dX9_lots_0 1 rfl ?_
  refine g_i2l dX9_lots_1 rfl ?_
  refine g_lconst (v := lN 1) dX9_lots_2 rfl ?_
  refine g_ldc2 dX9_lots_3 wlX9_224 ?_
  refine g_callSp dX9_lots_6 (ev_inN (x) (1) (50) (by omega) (by omega) _) oX9_in wsX9_in wmX9_98 rfl ⟨(Nat.le_of_ble_eq_true rfl), (Nat.le_of_ble_eq_true rfl)⟩ ⟨Nat.zero_le _, Nat.zero_le _⟩ (Nat.le_of_ble_eq_true rfl) rfl ?_
  refine g_if_neB 29 dX9_lots_9 (by decide) (fun c9 => ?_) (fun c9 => ?_)
  · have n1 := of_decide_eq_true c9
    rw [show oLots σ x zz y = _ from (if_pos n1.1).trans (if_pos n1.2)]
    refine g_iload_n dX9_lots_29 3 rfl ?_
    refine g_i2l dX9_lots_30 rfl ?_
    refine g_lconst (v := lN 0) dX9_lots_31 rfl ?_
    refine g_lconst (v := lN 1) dX9_lots_32 rfl ?_
    refine g_callSp dX9_lots_33 (ev_inN (y) (0) (1) (by omega) (by omega) _) oX9_in wsX9_in wmX9_98 rfl ⟨(Nat.le_of_ble_eq_true rfl), (Nat.le_of_ble_eq_true rfl)⟩ ⟨Nat.zero_le _, Nat.zero_le _⟩ (Nat.le_of_ble_eq_true rfl) rfl ?_
    refine g_if_neB 46 dX9_lots_36 (by decide) (fun c36 => ?_) (fun c36 => ?_)
    · rw [if_neg (in4_t c36)]
      have n2 := of_decide_eq_true c36
      refine g_aload_n dX9_lots_46 0 rfl ?_
      refine g_getf dX9_lots_47 kX9 wfX9_87 (Nat.le_of_ble_eq_true rfl) (mO) rfl ?_
      refine g_if_neN 60 dX9_lots_50 (by decide) (by omega) (fun c50 => ?_) (fun c50 => ?_)
      · rw [if_pos (show 1 ≤ σ.1.2.1 by omega)]
        clear c9 c36
        obtain ⟨x1, hx1, rfl⟩ := nn_of (le_nn n1.1)
        obtain ⟨y1, hy1, rfl⟩ := nn_of n2.1
        rw [cl_ hx1, cl_ hy1]
        have b1 := (nI_leI hx1 (by omega)).mp n1.2
        have b2 := (nI_leI hy1 (by omega)).mp n2.2
        refine g_aload_n dX9_lots_60 0 rfl ?_
        refine g_iload_n dX9_lots_61 2 rfl ?_
        refine g_putv dX9_lots_62 kX9 wfX9_218 (Nat.le_of_ble_eq_true rfl) rfl (fun _ _ => ⟨rfl, rfl⟩) (mO) (Nat.le_of_ble_eq_true rfl) (fs' := [.int (nI σ.1.1), .int (nI σ.1.2.1), .ref 99, .ref 100, .ref 101, .int (nI σ.1.2.2.2.1), .ref 102, .int (nI ((σ.2.2.2.1).length)), .ref 103, .ref 104, .ref 105, .int fo, .int as_, .int sm, .int sk, .ref 106, .ref 107, .ref 108, .int zz, .ref 109, .ref 110, .ref 111, .int (nI σ.2.1.1), .ref 112, .ref 113, .ref 114, .ref 115, .ref 116, .int (nI (bI σ.2.2.2.2.1.isSome)), .int iN, .int iM, .int iT, .ref 117, .ref 118, .ref 119]) rfl (fun h1 e1 => ?_)
        have f1_98 : rd h1 98 = some (.inr (9, [.int (nI σ.1.1), .int (nI σ.1.2.1), .ref 99, .ref 100, .ref 101, .int (nI σ.1.2.2.2.1), .ref 102, .int (nI ((σ.2.2.2.1).length)), .ref 103, .ref 104, .ref 105, .int fo, .int as_, .int sm, .int sk, .ref 106, .ref 107, .ref 108, .int zz, .ref 109, .ref 110, .ref 111, .int (nI σ.2.1.1), .ref 112, .ref 113, .ref 114, .ref 115, .ref 116, .int (nI (bI σ.2.2.2.2.1.isSome)), .int iN, .int iM, .int iT, .ref 117, .ref 118, .ref 119])) := by rw [e1]; exact rd_wr_eq (mO)
        have s1 : Smo 98 (98 + 1) h h1 := by rw [e1]; exact Smo.wr (by omega) (by omega)
        have f1_99 : rd h1 99 = some (.inl (P)) := by rw [s1 _ (by omega)]; exact mP
        have f1_100 : rd h1 100 = some (.inl (Ro)) := by rw [s1 _ (by omega)]; exact mRo
        have f1_101 : rd h1 101 = some (.inl (U)) := by rw [s1 _ (by omega)]; exact mU
        have f1_102 : rd h1 102 = some (.inl (rf)) := by rw [s1 _ (by omega)]; exact mrf
        have f1_103 : rd h1 103 = some (.inl (WM)) := by rw [s1 _ (by omega)]; exact mWM
        have f1_104 : rd h1 104 = some (.inl (WP)) := by rw [s1 _ (by omega)]; exact mWP
        have f1_105 : rd h1 105 = some (.inl (WR)) := by rw [s1 _ (by omega)]; exact mWR
        have f1_106 : rd h1 106 = some (.inl (Tr)) := by rw [s1 _ (by omega)]; exact mTr
        have f1_107 : rd h1 107 = some (.inl (Ke)) := by rw [s1 _ (by omega)]; exact mKe
        have f1_108 : rd h1 108 = some (.inl (Co)) := by rw [s1 _ (by omega)]; exact mCo
        have f1_109 : rd h1 109 = some (.inl (Th)) := by rw [s1 _ (by omega)]; exact mTh
        have f1_110 : rd h1 110 = some (.inl (Be)) := by rw [s1 _ (by omega)]; exact mBe
        have f1_111 : rd h1 111 = some (.inl (Le)) := by rw [s1 _ (by omega)]; exact mLe
        have f1_112 : rd h1 112 = some (.inl (AP)) := by rw [s1 _ (by omega)]; exact mAP
        have f1_113 : rd h1 113 = some (.inl (AR)) := by rw [s1 _ (by omega)]; exact mAR
        have f1_114 : rd h1 114 = some (.inl (AU)) := by rw [s1 _ (by omega)]; exact mAU
        have f1_115 : rd h1 115 = some (.inl (Sz)) := by rw [s1 _ (by omega)]; exact mSz
        have f1_116 : rd h1 116 = some (.inl (It)) := by rw [s1 _ (by omega)]; exact mIt
        have f1_117 : rd h1 117 = some (.inl (IP)) := by rw [s1 _ (by omega)]; exact mIP
        have f1_118 : rd h1 118 = some (.inl (IR)) := by rw [s1 _ (by omega)]; exact mIR
        have f1_119 : rd h1 119 = some (.inl (IU)) := by rw [s1 _ (by omega)]; exact mIU
        refine g_aload_n dX9_lots_65 0 rfl ?_
        refine g_getf dX9_lots_66 kX9 wfX9_13 (Nat.le_of_ble_eq_true rfl) (f1_98) rfl ?_
        refine g_iconst (v := nI 0) dX9_lots_69 (by decide +kernel) ?_
        refine g_aload_n dX9_lots_70 0 rfl ?_
        refine g_getf dX9_lots_71 kX9 wfX9_44 (Nat.le_of_ble_eq_true rfl) (f1_98) rfl ?_
        refine g_iconst (v := nI 0) dX9_lots_74 (by decide +kernel) ?_
        refine g_bipush (v := nI 18) dX9_lots_75 (by decide +kernel) ?_
        have la2 : (P).length = 18 := lP
        have lb2 : (Th).length = 18 := lTh
        refine g_callSq (st1 := []) dX9_lots_77 (ev_mlays (a := 0) (b := 0) (s := 18) (show 99 ≠ 109 by decide) (by omega) (by omega) ⟨by omega, by omega⟩ (f1_99) (f1_109)) oX9_lays wsX9_lays wmX9_83 rfl ⟨(Nat.le_of_ble_eq_true rfl), (Nat.le_of_ble_eq_true rfl)⟩ ⟨Nat.zero_le _, Nat.zero_le _⟩ (Nat.le_of_ble_eq_true rfl) rfl rfl (fun h3 q3 => ?_)
        obtain ⟨q3a, q3s⟩ := q3
        have f3_98 : rd h3 98 = some (.inr (9, [.int (nI σ.1.1), .int (nI σ.1.2.1), .ref 99, .ref 100, .ref 101, .int (nI σ.1.2.2.2.1), .ref 102, .int (nI ((σ.2.2.2.1).length)), .ref 103, .ref 104, .ref 105, .int fo, .int as_, .int sm, .int sk, .ref 106, .ref 107, .ref 108, .int zz, .ref 109, .ref 110, .ref 111, .int (nI σ.2.1.1), .ref 112, .ref 113, .ref 114, .ref 115, .ref 116, .int (nI (bI σ.2.2.2.2.1.isSome)), .int iN, .int iM, .int iT, .ref 117, .ref 118, .ref 119])) := by rw [q3s _ (by omega)]; exact f1_98
        have f3_99 : rd h3 99 = some (.inl (P)) := by rw [q3s _ (by omega)]; exact f1_99
        have f3_100 : rd h3 100 = some (.inl (Ro)) := by rw [q3s _ (by omega)]; exact f1_100
        have f3_101 : rd h3 101 = some (.inl (U)) := by rw [q3s _ (by omega)]; exact f1_101
        have f3_102 : rd h3 102 = some (.inl (rf)) := by rw [q3s _ (by omega)]; exact f1_102
        have f3_103 : rd h3 103 = some (.inl (WM)) := by rw [q3s _ (by omega)]; exact f1_103
        have f3_104 : rd h3 104 = some (.inl (WP)) := by rw [q3s _ (by omega)]; exact f1_104
        have f3_105 : rd h3 105 = some (.inl (WR)) := by rw [q3s _ (by omega)]; exact f1_105
        have f3_106 : rd h3 106 = some (.inl (Tr)) := by rw [q3s _ (by omega)]; exact f1_106
        have f3_107 : rd h3 107 = some (.inl (Ke)) := by rw [q3s _ (by omega)]; exact f1_107
        have f3_108 : rd h3 108 = some (.inl (Co)) := by rw [q3s _ (by omega)]; exact f1_108
        have f3_110 : rd h3 110 = some (.inl (Be)) := by rw [q3s _ (by omega)]; exact f1_110
        have f3_111 : rd h3 111 = some (.inl (Le)) := by rw [q3s _ (by omega)]; exact f1_111
        have f3_112 : rd h3 112 = some (.inl (AP)) := by rw [q3s _ (by omega)]; exact f1_112
        have f3_113 : rd h3 113 = some (.inl (AR)) := by rw [q3s _ (by omega)]; exact f1_113
        have f3_114 : rd h3 114 = some (.inl (AU)) := by rw [q3s _ (by omega)]; exact f1_114
        have f3_115 : rd h3 115 = some (.inl (Sz)) := by rw [q3s _ (by omega)]; exact f1_115
        have f3_116 : rd h3 116 = some (.inl (It)) := by rw [q3s _ (by omega)]; exact f1_116
        have f3_117 : rd h3 117 = some (.inl (IP)) := by rw [q3s _ (by omega)]; exact f1_117
        have f3_118 : rd h3 118 = some (.inl (IR)) := by rw [q3s _ (by omega)]; exact f1_118
        have f3_119 : rd h3 119 = some (.inl (IU)) := by rw [q3s _ (by omega)]; exact f1_119
        refine g_iconst (v := nI 0) dX9_lots_80 (by decide +kernel) ?_
        refine g_istore (ls' := [(4, .int (nI 0)), (0, .ref 98), (1, .int (nI x1)), (2, .int zz), (3, .int (nI y1))]) dX9_lots_81 (Nat.le_of_ble_eq_true rfl) rfl ?_
        refine g_iconst (v := nI 0) dX9_lots_83 (by decide +kernel) ?_
        refine g_istore (ls' := [(5, .int (nI 0)), (4, .int (nI 0)), (0, .ref 98), (1, .int (nI x1)), (2, .int zz), (3, .int (nI y1))]) dX9_lots_84 (Nat.le_of_ble_eq_true rfl) rfl ?_
        refine g_lsub_ (ls2 := [(5, .int (nI 0)), (0, .ref 98), (1, .int (nI x1)), (2, .int zz), (3, .int (nI y1)), (4, .int (nI 0))]) [0, 2, 3, 4, 5, 1] rfl ?_
        have m6 : σ.1.2.1 ≤ 6 := by omega
        have tS0 : tS (cpL (P) 0 (Th) 0 18) σ.1.2.1 (qF σ.1.2.2.1) (qS σ.1.2.2.1) := fun i hi => by
          have z9 := pR_cp (R := Th) vP lTh lP m6
          obtain ⟨a1, a2, -⟩ := pq_ (n := σ.1.1) z9 m6 hi
          exact ⟨a1, a2⟩
        have hF0 : ∀ i, i < σ.1.2.1 → (qF σ.1.2.2.1).getD i 0 < σ.1.1 := fun i hi => (bnd_q m6 k5 i hi).1
        have hs0 : ∀ i, i < σ.1.2.1 → (qS σ.1.2.2.1).getD i 0 < σ.1.1 ∧ (qF σ.1.2.2.1).getD i 0 ≠ (qS σ.1.2.2.1).getD i 0 := fun i hi => ⟨(bnd_q m6 k5 i hi).2.1, by rw [(q_eq (n := σ.1.1) (f := σ.1.2.2.1) m6 hi).1, (q_eq (n := σ.1.1) (f := σ.1.2.2.1) m6 hi).2.1]; exact (k5 i hi).2.2.2.2.1⟩
        refine lp_mlots (by omega) (by omega) k2 hF0 b1 (fun T9 z9 h9 o9 t9 lt9 v9 u9 s9 => ?_) x1 0 _ _ 0 zz (qS σ.1.2.2.1) (by omega) rfl (show MO h3 _ _ _ _ _ _ _ _ _ _ _ _ _ _ from f3_98) (q3a) (((cpL_len _ _ _ _ _).trans lb2)) tS0 hs0 (qS_len _) (fun _ _ => rfl)
        have f9_99 : rd h9 99 = some (.inl (P)) := by rw [s9 _ (by omega)]; exact f3_99
        have f9_100 : rd h9 100 = some (.inl (Ro)) := by rw [s9 _ (by omega)]; exact f3_100
        have f9_101 : rd h9 101 = some (.inl (U)) := by rw [s9 _ (by omega)]; exact f3_101
        have f9_102 : rd h9 102 = some (.inl (rf)) := by rw [s9 _ (by omega)]; exact f3_102
        have f9_103 : rd h9 103 = some (.inl (WM)) := by rw [s9 _ (by omega)]; exact f3_103
        have f9_104 : rd h9 104 = some (.inl (WP)) := by rw [s9 _ (by omega)]; exact f3_104
        have f9_105 : rd h9 105 = some (.inl (WR)) := by rw [s9 _ (by omega)]; exact f3_105
        have f9_106 : rd h9 106 = some (.inl (Tr)) := by rw [s9 _ (by omega)]; exact f3_106
        have f9_107 : rd h9 107 = some (.inl (Ke)) := by rw [s9 _ (by omega)]; exact f3_107
        have f9_108 : rd h9 108 = some (.inl (Co)) := by rw [s9 _ (by omega)]; exact f3_108
        have f9_110 : rd h9 110 = some (.inl (Be)) := by rw [s9 _ (by omega)]; exact f3_110
        have f9_111 : rd h9 111 = some (.inl (Le)) := by rw [s9 _ (by omega)]; exact f3_111
        have f9_112 : rd h9 112 = some (.inl (AP)) := by rw [s9 _ (by omega)]; exact f3_112
        have f9_113 : rd h9 113 = some (.inl (AR)) := by rw [s9 _ (by omega)]; exact f3_113
        have f9_114 : rd h9 114 = some (.inl (AU)) := by rw [s9 _ (by omega)]; exact f3_114
        have f9_115 : rd h9 115 = some (.inl (Sz)) := by rw [s9 _ (by omega)]; exact f3_115
        have f9_116 : rd h9 116 = some (.inl (It)) := by rw [s9 _ (by omega)]; exact f3_116
        have f9_117 : rd h9 117 = some (.inl (IP)) := by rw [s9 _ (by omega)]; exact f3_117
        have f9_118 : rd h9 118 = some (.inl (IR)) := by rw [s9 _ (by omega)]; exact f3_118
        have f9_119 : rd h9 119 = some (.inl (IU)) := by rw [s9 _ (by omega)]; exact f3_119
        have o9 : rd h9 98 = some (.inr (9, [.int (nI σ.1.1), .int (nI σ.1.2.1), .ref 99, .ref 100, .ref 101, .int (nI σ.1.2.2.2.1), .ref 102, .int (nI ((σ.2.2.2.1).length)), .ref 103, .ref 104, .ref 105, .int fo, .int as_, .int sm, .int sk, .ref 106, .ref 107, .ref 108, .int z9, .ref 109, .ref 110, .ref 111, .int (nI σ.2.1.1), .ref 112, .ref 113, .ref 114, .ref 115, .ref 116, .int (nI (bI σ.2.2.2.2.1.isSome)), .int iN, .int iM, .int iT, .ref 117, .ref 118, .ref 119])) := o9
        refine g_iconst (v := nI 0) dX9_lots_222 (by decide +kernel) ?_
        refine g_istore (ls' := [(5, .int (nI 0)), (0, .ref 98), (1, .int (nI x1)), (2, .int zz), (3, .int (nI y1)), (4, .int (nI ((lotGo σ.1.2.1 (qF σ.1.2.2.1) x1 zz 0 (qS σ.1.2.2.1)).1)))]) dX9_lots_223 (Nat.le_of_ble_eq_true rfl) rfl ?_
        refine g_iconst (v := nI 0) dX9_lots_225 (by decide +kernel) ?_
        refine g_istore (ls' := [(6, .int (nI 0)), (5, .int (nI 0)), (0, .ref 98), (1, .int (nI x1)), (2, .int zz), (3, .int (nI y1)), (4, .int (nI ((lotGo σ.1.2.1 (qF σ.1.2.2.1) x1 zz 0 (qS σ.1.2.2.1)).1)))]) dX9_lots_226 (Nat.le_of_ble_eq_true rfl) rfl ?_
        refine g_lsub_ (ls2 := [(6, .int (nI 0)), (0, .ref 98), (1, .int (nI x1)), (2, .int zz), (3, .int (nI y1)), (4, .int (nI ((lotGo σ.1.2.1 (qF σ.1.2.2.1) x1 zz 0 (qS σ.1.2.2.1)).1))), (5, .int (nI 0))]) [0, 2, 3, 4, 5, 6, 1] rfl ?_
        refine lp_mlb (show MO h9 _ _ _ _ _ _ _ _ _ _ _ _ _ _ from o9) (by omega) k2 t9 lt9 v9 hF0 u9 ?_ σ.1.2.1 0 (by omega)
        refine g_iload_n dX9_lots_289 4 rfl ?_
        refine g_if_neN 298 dX9_lots_290 (by decide) (by omega) (fun c290 => ?_) (fun c290 => ?_)
        · refine g_iload dX9_lots_298 6 rfl ?_
          have bq9 : bnd σ.1.1 σ.1.2.1 (qF σ.1.2.2.1) (lotGo σ.1.2.1 (qF σ.1.2.2.1) x1 zz 0 (qS σ.1.2.2.1)).2 (qA σ.1.2.2.1) := fun i hi => ⟨hF0 i hi, (u9 i hi).1, (bnd_q m6 k5 i hi).2.2⟩
          have dbl : dBits σ.1.1 (qF σ.1.2.2.1) (lotGo σ.1.2.1 (qF σ.1.2.2.1) x1 zz 0 (qS σ.1.2.2.1)).2 σ.1.2.1 < 2 ^ 14 := Nat.lt_of_lt_of_le (dBits_lt bq9 k2 _ (Nat.le_refl _)) (by decide)
          refine g_callSp dX9_lots_300 (ev_bitCount (dBits σ.1.1 (qF σ.1.2.2.1) (lotGo σ.1.2.1 (qF σ.1.2.2.1) x1 zz 0 (qS σ.1.2.2.1)).2 σ.1.2.1) dbl _) oJ6_bitCount_0f7a4 wsJ6_bitCount_0f7a4 wmX9_149 rfl ⟨(Nat.le_of_ble_eq_true rfl), (Nat.le_of_ble_eq_true rfl)⟩ ⟨Nat.zero_le _, Nat.zero_le _⟩ (Nat.le_of_ble_eq_true rfl) rfl ?_
          exact g_iret dX9_lots_303 rfl ⟨Nat.zero_le _, Nat.zero_le _⟩ (⟨by rw [if_neg (by omega)], ⟨_, _, _, _, _, _, _, _, _, _, _, _, _, _, _, _, _, _, _, _, _, _, _, _, _, _, _, _, _, o9, ⟨f9_99, lP⟩, ⟨f9_100, lRo⟩, ⟨f9_101, lU⟩, ⟨f9_102, lrf⟩, ⟨f9_103, lWM⟩, ⟨f9_104, lWP⟩, ⟨f9_105, lWR⟩, ⟨f9_106, lTr⟩, ⟨f9_107, lKe⟩, ⟨f9_108, lCo⟩, ⟨t9, lt9⟩, ⟨f9_110, lBe⟩, ⟨f9_111, lLe⟩, ⟨f9_112, lAP⟩, ⟨f9_113, lAR⟩, ⟨f9_114, lAU⟩, ⟨f9_115, lSz⟩, ⟨f9_116, lIt⟩, ⟨f9_117, lIP⟩, ⟨f9_118, lIR⟩, ⟨f9_119, lIU⟩, vP, vR, vU, vF, vH, vL, vS, vI, vG⟩, (fun q hq => by rw [s9 q (by omega), q3s q (by omega), s1 q (by omega)])⟩)
        · refine g_iload dX9_lots_293 5 rfl ?_
          refine g_goto 303 dX9_lots_295 (by decide) ?_
          exact g_iret dX9_lots_303 rfl ⟨Nat.zero_le _, Nat.zero_le _⟩ (⟨by rw [if_pos c290], ⟨_, _, _, _, _, _, _, _, _, _, _, _, _, _, _, _, _, _, _, _, _, _, _, _, _, _, _, _, _, o9, ⟨f9_99, lP⟩, ⟨f9_100, lRo⟩, ⟨f9_101, lU⟩, ⟨f9_102, lrf⟩, ⟨f9_103, lWM⟩, ⟨f9_104, lWP⟩, ⟨f9_105, lWR⟩, ⟨f9_106, lTr⟩, ⟨f9_107, lKe⟩, ⟨f9_108, lCo⟩, ⟨t9, lt9⟩, ⟨f9_110, lBe⟩, ⟨f9_111, lLe⟩, ⟨f9_112, lAP⟩, ⟨f9_113, lAR⟩, ⟨f9_114, lAU⟩, ⟨f9_115, lSz⟩, ⟨f9_116, lIt⟩, ⟨f9_117, lIP⟩, ⟨f9_118, lIR⟩, ⟨f9_119, lIU⟩, vP, vR, vU, vF, vH, vL, vS, vI, vG⟩, (fun q hq => by rw [s9 q (by omega), q3s q (by omega), s1 q (by omega)])⟩)
      · refine g_aload_n dX9_lots_53 0 rfl ?_
        refine g_bipush (v := (-3)) dX9_lots_54 (by decide +kernel) ?_
        rw [if_neg (show ¬ 1 ≤ σ.1.2.1 by omega)]
        refine g_callVq (st1 := [.int (-nI 3)]) dX9_lots_56 (ev_refused H ok 3 (by unfold noN; omega)) oX9_refused wiX9_refused weX9_refused wmX9_90 kX9 (mO) rfl ⟨(Nat.le_of_ble_eq_true rfl), (Nat.le_of_ble_eq_true rfl)⟩ ⟨Nat.zero_le _, Nat.zero_le _⟩ (Nat.le_of_ble_eq_true rfl) rfl rfl (fun h4 q4 => ?_)
        exact g_iret dX9_lots_59 rfl ⟨Nat.zero_le _, Nat.zero_le _⟩ (⟨rfl, q4⟩)
    · refine g_aload_n dX9_lots_39 0 rfl ?_
      refine g_bipush (v := (-2)) dX9_lots_40 (by decide +kernel) ?_
      rw [if_pos (in4_f c36)]
      refine g_callVq (st1 := [.int (-nI 2)]) dX9_lots_42 (ev_refused H ok 2 (by unfold noN; omega)) oX9_refused wiX9_refused weX9_refused wmX9_90 kX9 (mO) rfl ⟨(Nat.le_of_ble_eq_true rfl), (Nat.le_of_ble_eq_true rfl)⟩ ⟨Nat.zero_le _, Nat.zero_le _⟩ (Nat.le_of_ble_eq_true rfl) rfl rfl (fun h5 q5 => ?_)
      exact g_iret dX9_lots_45 rfl ⟨Nat.zero_le _, Nat.zero_le _⟩ (⟨rfl, q5⟩)
  · refine g_aload_n dX9_lots_12 0 rfl ?_
    refine g_iload_n dX9_lots_13 1 rfl ?_
    refine g_iconst (v := nI 1) dX9_lots_14 (by decide +kernel) ?_
    refine g_icmp_ge 23 dX9_lots_15 (by decide) (fun c15 => ?_) (fun c15 => ?_)
    · refine g_bipush (v := (-6)) dX9_lots_23 (by decide +kernel) ?_
      rw [show oLots σ x zz y = rfS σ (-6) from (if_pos c15).trans (if_neg (fun z => of_decide_eq_false c9 ⟨c15, z⟩))]
      refine g_callVq (st1 := [.int (-nI 6)]) dX9_lots_25 (ev_refused H ok 6 (by unfold noN; omega)) oX9_refused wiX9_refused weX9_refused wmX9_90 kX9 (mO) rfl ⟨(Nat.le_of_ble_eq_true rfl), (Nat.le_of_ble_eq_true rfl)⟩ ⟨Nat.zero_le _, Nat.zero_le _⟩ (Nat.le_of_ble_eq_true rfl) rfl rfl (fun h6 q6 => ?_)
      exact g_iret dX9_lots_28 rfl ⟨Nat.zero_le _, Nat.zero_le _⟩ (⟨rfl, q6⟩)
    · refine g_bipush (v := (-4)) dX9_lots_18 (by decide +kernel) ?_
      refine g_goto 25 dX9_lots_20 (by decide) ?_
      rw [show oLots σ x zz y = rfS σ (-4) from if_neg c15]
      refine g_callVq (st1 := [.int (-nI 4)]) dX9_lots_25 (ev_refused H ok 4 (by unfold noN; omega)) oX9_refused wiX9_refused weX9_refused wmX9_90 kX9 (mO) rfl ⟨(Nat.le_of_ble_eq_true rfl), (Nat.le_of_ble_eq_true rfl)⟩ ⟨Nat.zero_le _, Nat.zero_le _⟩ (Nat.le_of_ble_eq_true rfl) rfl rfl (fun h7 q7 => ?_)
      exact g_iret dX9_lots_28 rfl ⟨Nat.zero_le _, Nat.zero_le _⟩ (⟨rfl, q7⟩)
