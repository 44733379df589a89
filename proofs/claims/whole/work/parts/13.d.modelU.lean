set_option maxRecDepth 100000 in
set_option maxHeartbeats 4000000 in
theorem lp_lf {h : List aC} {P : Option Value → List aC → Prop} {d n q x2 x3 X : Nat} {acc : List Pp} (n3 : n ≤ 12) (hv : vA n acc) (hB : nmM x2 acc) (K : G mX9_searches (rmD (3 + (d + 1)) 0 0) none P 0 0 135 [(4, .int (nI X)), (0, .ref 98), (1, .int (nI q)), (2, .int (nI x2)), (3, .int (nI x3))] [] h) : ∀ j k, k + j = n → 1 ≤ k → lfG acc j k = X → G mX9_searches (rmD (3 + (d + 1)) 0 0) none P 0 0 120 [(4, .int (nI k)), (0, .ref 98), (1, .int (nI q)), (2, .int (nI x2)), (3, .int (nI x3))] [] h := by
  have hb := hB.1
  intro j
  induction j with
  | zero =>
    intro k hk h1 e
    have bt := hB.2 k (by omega)
    have z1 : x2 / 2 ^ k ≤ x2 := Nat.div_le_self _ _
    have ek : k = n := by omega
    have bf0 : x2.testBit k = false := by rw [bt, ek]; exact usd_n hv
    refine g_iload_n dX9_searches_120 3 rfl ?_
    refine g_iload dX9_searches_121 0 rfl ?_
    refine g_ishrN dX9_searches_123 (by omega) (by omega) ?_
    refine g_iconst (v := nI 1) dX9_searches_124 (by decide +kernel) ?_
    refine g_iandN dX9_searches_125 ?_
    refine g_top (show nI ((x2 / 2 ^ k) &&& 1) = nI (bI (x2.testBit k)) from congrArg nI (shr_bit x2 k)) ?_
    refine g_if_eqB 135 dX9_searches_126 (by decide) (fun c126 => ?_) (fun z => absurd z (by rw [bf0]; decide))
    have e : k = X := e
    subst e
    exact K
  | succ j ih =>
    intro k hk h1 e
    have bt := hB.2 k (by omega)
    have z1 : x2 / 2 ^ k ≤ x2 := Nat.div_le_self _ _
    refine g_iload_n dX9_searches_120 3 rfl ?_
    refine g_iload dX9_searches_121 0 rfl ?_
    refine g_ishrN dX9_searches_123 (by omega) (by omega) ?_
    refine g_iconst (v := nI 1) dX9_searches_124 (by decide +kernel) ?_
    refine g_iandN dX9_searches_125 ?_
    refine g_top (show nI ((x2 / 2 ^ k) &&& 1) = nI (bI (x2.testBit k)) from congrArg nI (shr_bit x2 k)) ?_
    refine g_if_eqB 135 dX9_searches_126 (by decide) (fun c126 => ?_) (fun c126 => ?_)
    · have e2 : k = X := by rw [← e]; exact (if_neg (by rw [← bt, c126]; decide)).symm
      subst e2
      exact K
    · refine g_iinc (q := 0) (v := nI (k + 1)) (ls' := [(4, .int (nI (k + 1))), (0, .ref 98), (1, .int (nI q)), (2, .int (nI x2)), (3, .int (nI x3))]) dX9_searches_129 rfl (inc1 _) (Nat.le_of_ble_eq_true rfl) rfl ?_
      refine g_goto 120 dX9_searches_132 (by decide) ?_
      exact ih (k + 1) (by omega) (by omega) (by rw [← e]; exact (if_pos (by rw [← bt, c126])).symm)

set_option maxRecDepth 100000 in
set_option maxHeartbeats 4000000 in
theorem lp_mys {n m a de : Nat} {as_ z : Int32} {am : Nat} {ib : Bool} {iN iM iT : Int32} (h3 : 3 ≤ n) (n3 : n ≤ 13) {d : Nat} (ih0 : mseek n m a de as_ z am ib iN iM iT d) {h0 : List aC} {acc : List Pp} {L0 : List (List Pp)} {q x2 x3 X : Nat} (hl : acc.length = q) (hd : q + (d + 1) = (n - 1) / 2) (hv : vA n acc) (hB : nmM x2 acc) (hD : dfM n x3 acc) (hX : 1 ≤ X) {B : Nat} (hBn : n ≤ B) (hB2 : B ≤ n + 1) (hle : (L0 ++ E n (d + 1) acc).length ≤ 2 ^ 30) : ∀ j k (h : List aC) (L : List (List Pp)), k + j = B → X < k → (0 < j → B = n) → SSq h n m a de as_ z am ib iN iM iT acc L → L ++ EY (fun y => E n d (acc ++ [(X, y)])) (okA n acc X) j k = L0 ++ E n (d + 1) acc → Sm3 h0 h → G mX9_searches (rmD (3 + (d + 1)) 0 0) none (pq none (fun h2 => SSq h2 n m a de as_ z am ib iN iM iT acc (L0 ++ E n (d + 1) acc) ∧ Sm3 h0 h2)) 0 0 141 [(5, .int (nI k)), (4, .int (nI X)), (0, .ref 98), (1, .int (nI q)), (2, .int (nI x2)), (3, .int (nI x3))] [] h := by
  intro j
  induction j with
  | zero =>
    intro k h L hk hk1 hj hQ hL hS
    obtain ⟨T, Ke, hO, hT, lT, mt, hK, lK, kp⟩ := id hQ
    have hO : rd h 98 = some (.inr (9, [.int (nI n), .int (nI m), .ref 99, .ref 100, .ref 101, .int (nI a), .ref 102, .int (nI de), .ref 103, .ref 104, .ref 105, .int (nI ((L).length)), .int as_, .int (nI (cnB (sgB n) (L))), .int (nI (cnB (skB n) (L))), .ref 106, .ref 107, .ref 108, .int z, .ref 109, .ref 110, .ref 111, .int (nI am), .ref 112, .ref 113, .ref 114, .ref 115, .ref 116, .int (nI (bI ib)), .int iN, .int iM, .int iT, .ref 117, .ref 118, .ref 119])) := hO
    have hb := hB.1
    have hb3 := hD.1
    have z1 : x2 / 2 ^ k ≤ x2 := Nat.div_le_self _ _
    have z3 : x3 &&& (2 ^ (k - X) ||| 2 ^ (n - k + X)) ≤ x3 := Nat.and_le_left
    refine g_iload dX9_searches_141 0 rfl ?_
    refine g_aload_n dX9_searches_143 2 rfl ?_
    refine g_getf dX9_searches_144 kX9 wfX9_7 (Nat.le_of_ble_eq_true rfl) (hO) rfl ?_
    refine g_icmp_geN 238 dX9_searches_147 (by decide) (by omega) (by omega) (fun c147 => ?_) (fun z => absurd z (by omega))
    exact g_vret dX9_searches_238 rfl ⟨Nat.zero_le _, Nat.zero_le _⟩ (⟨rfl, by rw [← hL]; show SSq h n m a de as_ z am ib iN iM iT acc (L ++ []); rw [List.append_nil]; exact hQ, hS⟩)
  | succ j ih =>
    intro k h L hk hk1 hj hQ hL hS
    obtain ⟨T, Ke, hO, hT, lT, mt, hK, lK, kp⟩ := id hQ
    have hO : rd h 98 = some (.inr (9, [.int (nI n), .int (nI m), .ref 99, .ref 100, .ref 101, .int (nI a), .ref 102, .int (nI de), .ref 103, .ref 104, .ref 105, .int (nI ((L).length)), .int as_, .int (nI (cnB (sgB n) (L))), .int (nI (cnB (skB n) (L))), .ref 106, .ref 107, .ref 108, .int z, .ref 109, .ref 110, .ref 111, .int (nI am), .ref 112, .ref 113, .ref 114, .ref 115, .ref 116, .int (nI (bI ib)), .int iN, .int iM, .int iT, .ref 117, .ref 118, .ref 119])) := hO
    have hb := hB.1
    have hb3 := hD.1
    have z1 : x2 / 2 ^ k ≤ x2 := Nat.div_le_self _ _
    have z3 : x3 &&& (2 ^ (k - X) ||| 2 ^ (n - k + X)) ≤ x3 := Nat.and_le_left
    have hk3 : k < n := by have := hj (by omega); omega
    refine g_iload dX9_searches_141 0 rfl ?_
    refine g_aload_n dX9_searches_143 2 rfl ?_
    refine g_getf dX9_searches_144 kX9 wfX9_7 (Nat.le_of_ble_eq_true rfl) (hO) rfl ?_
    refine g_icmp_geN 238 dX9_searches_147 (by decide) (by omega) (by omega) (fun z => absurd z (by omega)) (fun c147 => ?_)
    refine g_iconst (v := nI 1) dX9_searches_150 (by decide +kernel) ?_
    refine g_iload dX9_searches_151 0 rfl ?_
    refine g_iload dX9_searches_153 1 rfl ?_
    refine g_isubN dX9_searches_155 (by omega) ?_
    refine g_ishl1 dX9_searches_156 (by omega) ?_
    refine g_iconst (v := nI 1) dX9_searches_157 (by decide +kernel) ?_
    refine g_aload_n dX9_searches_158 2 rfl ?_
    refine g_getf dX9_searches_159 kX9 wfX9_7 (Nat.le_of_ble_eq_true rfl) (hO) rfl ?_
    refine g_iload dX9_searches_162 0 rfl ?_
    refine g_isubN dX9_searches_164 (by omega) ?_
    refine g_iload dX9_searches_165 1 rfl ?_
    refine g_iaddN dX9_searches_167 ?_
    refine g_ishl1 dX9_searches_168 (by omega) ?_
    refine g_iorN dX9_searches_169 ?_
    refine g_istore (ls' := [(6, .int (nI ((2 ^ (k - X)) ||| (2 ^ ((n - k) + X))))), (5, .int (nI k)), (4, .int (nI X)), (0, .ref 98), (1, .int (nI q)), (2, .int (nI x2)), (3, .int (nI x3))]) dX9_searches_170 (Nat.le_of_ble_eq_true rfl) rfl ?_
    refine g_iload_n dX9_searches_172 5 rfl ?_
    refine g_iload dX9_searches_173 1 rfl ?_
    refine g_ishrN dX9_searches_175 (by omega) (by omega) ?_
    refine g_iconst (v := nI 1) dX9_searches_176 (by decide +kernel) ?_
    refine g_iandN dX9_searches_177 ?_
    refine g_top (show nI ((x2 / 2 ^ k) &&& 1) = nI (bI (x2.testBit k)) from congrArg nI (shr_bit x2 k)) ?_
    refine g_if_neB 232 dX9_searches_178 (by decide) (fun c178 => ?_) (fun c178 => ?_)
    · refine g_iinc (q := 1) (v := nI (k + 1)) (ls' := [(5, .int (nI (k + 1))), (6, .int (nI ((2 ^ (k - X)) ||| (2 ^ ((n - k) + X))))), (4, .int (nI X)), (0, .ref 98), (1, .int (nI q)), (2, .int (nI x2)), (3, .int (nI x3))]) dX9_searches_232 rfl (inc1 _) (Nat.le_of_ble_eq_true rfl) rfl ?_
      refine g_goto 141 dX9_searches_235 (by decide) ?_
      refine g_lsub_ (ls2 := [(5, .int (nI (k + 1))), (4, .int (nI X)), (0, .ref 98), (1, .int (nI q)), (2, .int (nI x2)), (3, .int (nI x3))]) [0, 2, 3, 4, 5, 6] rfl ?_
      have hok : okA n acc X k = false := by rw [okA_M hB hD hv n3 hX (show X < k by omega) (show k < n by omega), c178]; rfl
      exact ih (k + 1) _ L (by omega) (by omega) (fun z => hj (by omega)) hQ (by rw [EY_f (by rw [hok]; decide)] at hL; exact hL) hS
    · refine g_iload_n dX9_searches_181 6 rfl ?_
      refine g_iload dX9_searches_182 0 rfl ?_
      refine g_iandN dX9_searches_184 ?_
      refine g_if_neN 232 dX9_searches_185 (by decide) (by omega) (fun c185 => ?_) (fun c185 => ?_)
      · refine g_iinc (q := 1) (v := nI (k + 1)) (ls' := [(5, .int (nI (k + 1))), (6, .int (nI ((2 ^ (k - X)) ||| (2 ^ ((n - k) + X))))), (4, .int (nI X)), (0, .ref 98), (1, .int (nI q)), (2, .int (nI x2)), (3, .int (nI x3))]) dX9_searches_232 rfl (inc1 _) (Nat.le_of_ble_eq_true rfl) rfl ?_
        refine g_goto 141 dX9_searches_235 (by decide) ?_
        refine g_lsub_ (ls2 := [(5, .int (nI (k + 1))), (4, .int (nI X)), (0, .ref 98), (1, .int (nI q)), (2, .int (nI x2)), (3, .int (nI x3))]) [0, 2, 3, 4, 5, 6] rfl ?_
        have hok : okA n acc X k = false := by rw [okA_M hB hD hv n3 hX (show X < k by omega) (show k < n by omega), decide_eq_false (show ¬ x3 &&& (2 ^ (k - X) ||| 2 ^ (n - k + X)) = 0 by omega), Bool.and_false]
        exact ih (k + 1) _ L (by omega) (by omega) (fun z => hj (by omega)) hQ (by rw [EY_f (by rw [hok]; decide)] at hL; exact hL) hS
      · have hok : okA n acc X k = true := by rw [okA_M hB hD hv n3 hX (show X < k by omega) (show k < n by omega), c178, decide_eq_true (show x3 &&& (2 ^ (k - X) ||| 2 ^ (n - k + X)) = 0 from c185)]; rfl
        refine g_aload_n dX9_searches_188 3 rfl ?_
        refine g_getf dX9_searches_189 kX9 wfX9_35 (Nat.le_of_ble_eq_true rfl) (hO) rfl ?_
        refine g_iconst (v := nI 2) dX9_searches_192 (by decide +kernel) ?_
        refine g_iload_n dX9_searches_193 4 rfl ?_
        refine g_imulN dX9_searches_194 ?_
        refine g_iload dX9_searches_195 2 rfl ?_
        refine g_iasI dX9_searches_197 (hT) (by omega) (by omega) (fun h1 e1 => ?_)
        have f1_106 : rd h1 106 = some (.inl ((T).set (2 * q) (nI X))) := by rw [e1]; exact rd_wr_eq (hT)
        have lf1_106 : ((T).set (2 * q) (nI X)).length = _ := List.length_set.trans lT
        have s1 : Smo 106 (106 + 1) h h1 := by rw [e1]; exact Smo.wr (by omega) (by omega)
        have f1_98 : rd h1 98 = some (.inr (9, [.int (nI n), .int (nI m), .ref 99, .ref 100, .ref 101, .int (nI a), .ref 102, .int (nI de), .ref 103, .ref 104, .ref 105, .int (nI ((L).length)), .int as_, .int (nI (cnB (sgB n) (L))), .int (nI (cnB (skB n) (L))), .ref 106, .ref 107, .ref 108, .int z, .ref 109, .ref 110, .ref 111, .int (nI am), .ref 112, .ref 113, .ref 114, .ref 115, .ref 116, .int (nI (bI ib)), .int iN, .int iM, .int iT, .ref 117, .ref 118, .ref 119])) := by rw [s1 _ (by omega)]; exact hO
        have f1_107 : rd h1 107 = some (.inl (Ke)) := by rw [s1 _ (by omega)]; exact hK
        refine g_aload_n dX9_searches_198 3 rfl ?_
        refine g_getf dX9_searches_199 kX9 wfX9_35 (Nat.le_of_ble_eq_true rfl) (f1_98) rfl ?_
        refine g_iconst (v := nI 2) dX9_searches_202 (by decide +kernel) ?_
        refine g_iload_n dX9_searches_203 4 rfl ?_
        refine g_imulN dX9_searches_204 ?_
        refine g_iconst (v := nI 1) dX9_searches_205 (by decide +kernel) ?_
        refine g_iaddN dX9_searches_206 ?_
        refine g_iload dX9_searches_207 1 rfl ?_
        refine g_iasI dX9_searches_209 (f1_106) (by rw [List.length_set]; omega) (by simp only [List.length_set]; omega) (fun h2 e2 => ?_)
        have f2_106 : rd h2 106 = some (.inl (((T).set (2 * q) (nI X)).set ((2 * q) + 1) (nI k))) := by rw [e2]; exact rd_wr_eq (f1_106)
        have lf2_106 : (((T).set (2 * q) (nI X)).set ((2 * q) + 1) (nI k)).length = _ := List.length_set.trans lf1_106
        have s2 : Smo 106 (106 + 1) h1 h2 := by rw [e2]; exact Smo.wr (by omega) (by omega)
        have f2_98 : rd h2 98 = some (.inr (9, [.int (nI n), .int (nI m), .ref 99, .ref 100, .ref 101, .int (nI a), .ref 102, .int (nI de), .ref 103, .ref 104, .ref 105, .int (nI ((L).length)), .int as_, .int (nI (cnB (sgB n) (L))), .int (nI (cnB (skB n) (L))), .ref 106, .ref 107, .ref 108, .int z, .ref 109, .ref 110, .ref 111, .int (nI am), .ref 112, .ref 113, .ref 114, .ref 115, .ref 116, .int (nI (bI ib)), .int iN, .int iM, .int iT, .ref 117, .ref 118, .ref 119])) := by rw [s2 _ (by omega)]; exact f1_98
        have f2_107 : rd h2 107 = some (.inl (Ke)) := by rw [s2 _ (by omega)]; exact f1_107
        refine g_aload_n dX9_searches_210 3 rfl ?_
        refine g_iload_n dX9_searches_211 4 rfl ?_
        refine g_iconst (v := nI 1) dX9_searches_212 (by decide +kernel) ?_
        refine g_iaddN dX9_searches_213 ?_
        refine g_iload_n dX9_searches_214 5 rfl ?_
        refine g_iconst (v := nI 1) dX9_searches_215 (by decide +kernel) ?_
        refine g_iload dX9_searches_216 2 rfl ?_
        refine g_ishl1 dX9_searches_218 (by first | omega | exact Nat.lt_of_lt_of_le (Nat.mod_lt _ (by omega)) (by omega)) ?_
        refine g_iorN dX9_searches_219 ?_
        refine g_iconst (v := nI 1) dX9_searches_220 (by decide +kernel) ?_
        refine g_iload dX9_searches_221 1 rfl ?_
        refine g_ishl1 dX9_searches_223 (by first | omega | exact Nat.lt_of_lt_of_le (Nat.mod_lt _ (by omega)) (by omega)) ?_
        refine g_iorN dX9_searches_224 ?_
        refine g_iload_n dX9_searches_225 6 rfl ?_
        refine g_iload dX9_searches_226 0 rfl ?_
        refine g_iorN dX9_searches_228 ?_
        refine g_callVq (st1 := []) dX9_searches_229 (ih0 _ (acc ++ [(X, k)]) L (q + 1) _ _ (by rw [List.length_append, hl]; rfl) (by omega) ⟨_, _, f2_98, f2_106, lf2_106, by subst hl; exact mtT_add mt lT (by omega) X k, f2_107, lK, kp⟩ (vA_add hv hX (by omega) (by omega)) (nmM_add hB (by omega) (by omega)) (dfM_add hD n3 (by omega) (by omega)) (by have y := hL; rw [EY_t hok] at y; have y2 := congrArg List.length y; rw [List.length_append, List.length_append] at y2; omega)) oX9_searches wiX9_searches weX9_searches wmX9_173 kX9 (f2_98) rfl ⟨by show 3 + d + 1 ≤ 3 + (d + 1); omega, by show 8 + (7 + 11) + 41 * (3 + d) ≤ 41 * (3 + (d + 1)); omega⟩ ⟨Nat.zero_le _, Nat.zero_le _⟩ (Nat.le_of_ble_eq_true rfl) rfl rfl (fun h3 q3 => ?_)
        obtain ⟨⟨Tz, Kz, oz, tz, ltz, mtz, yz, lyz, kpz⟩, sz⟩ := q3
        have oz : rd h3 98 = some (.inr (9, [.int (nI n), .int (nI m), .ref 99, .ref 100, .ref 101, .int (nI a), .ref 102, .int (nI de), .ref 103, .ref 104, .ref 105, .int (nI (((L ++ E n d (acc ++ [(X, k)]))).length)), .int as_, .int (nI (cnB (sgB n) ((L ++ E n d (acc ++ [(X, k)]))))), .int (nI (cnB (skB n) ((L ++ E n d (acc ++ [(X, k)]))))), .ref 106, .ref 107, .ref 108, .int z, .ref 109, .ref 110, .ref 111, .int (nI am), .ref 112, .ref 113, .ref 114, .ref 115, .ref 116, .int (nI (bI ib)), .int iN, .int iM, .int iT, .ref 117, .ref 118, .ref 119])) := oz
        refine g_iinc (q := 1) (v := nI (k + 1)) (ls' := [(5, .int (nI (k + 1))), (6, .int (nI ((2 ^ (k - X)) ||| (2 ^ ((n - k) + X))))), (4, .int (nI X)), (0, .ref 98), (1, .int (nI q)), (2, .int (nI x2)), (3, .int (nI x3))]) dX9_searches_232 rfl (inc1 _) (Nat.le_of_ble_eq_true rfl) rfl ?_
        refine g_goto 141 dX9_searches_235 (by decide) ?_
        refine g_lsub_ (ls2 := [(5, .int (nI (k + 1))), (4, .int (nI X)), (0, .ref 98), (1, .int (nI q)), (2, .int (nI x2)), (3, .int (nI x3))]) [0, 2, 3, 4, 5, 6] rfl ?_
        exact ih (k + 1) _ (L ++ E n d (acc ++ [(X, k)])) (by omega) (by omega) (fun z => hj (by omega)) ⟨Tz, Kz, oz, tz, ltz, mtT_less mtz, yz, lyz, kpz⟩ (by have y := hL; rw [EY_t hok] at y; rw [List.append_assoc]; exact y) (hS.tr (show Sm3 h _ from (fun q hq => by rw [sz q (by omega), s2 q (by omega), s1 q (by omega)])))

set_option maxRecDepth 100000 in
set_option maxHeartbeats 4000000 in
theorem mseek_s {n m a de : Nat} {as_ z : Int32} {am : Nat} {ib : Bool} {iN iM iT : Int32} (h3 : 3 ≤ n) (n3 : n ≤ 12) {d : Nat} (ih0 : mseek n m a de as_ z am ib iN iM iT d) : mseek n m a de as_ z am ib iN iM iT (d + 1) := by
  intro h acc L q x2 x3 hl hd hQ hv hB hD hle
  obtain ⟨T, Ke, hO, hT, lT, mt, hK, lK, kp⟩ := id hQ
  have hO : rd h 98 = some (.inr (9, [.int (nI n), .int (nI m), .ref 99, .ref 100, .ref 101, .int (nI a), .ref 102, .int (nI de), .ref 103, .ref 104, .ref 105, .int (nI ((L).length)), .int as_, .int (nI (cnB (sgB n) (L))), .int (nI (cnB (skB n) (L))), .ref 106, .ref 107, .ref 108, .int z, .ref 109, .ref 110, .ref 111, .int (nI am), .ref 112, .ref 113, .ref 114, .ref 115, .ref 116, .int (nI (bI ib)), .int iN, .int iM, .int iT, .ref 117, .ref 118, .ref 119])) := hO
  refine Ev.of pX9_searches (Nat.le_of_ble_eq_true rfl) ?_
  show G mX9_searches (rmD (3 + (d + 1)) 0 0) none _ 0 0 0 [(0, .ref 98), (1, .int (nI q)), (2, .int (nI x2)), (3, .int (nI x3))] [] h
  have lf := lfA_in n (by omega) acc
  refine g_iload_n dX9_searches_0 1 rfl ?_
  refine g_aload_n dX9_searches_1 0 rfl ?_
  refine g_callVp dX9_searches_2 (ev_halfR (show MO h n m a de _ _ _ _ z am ib iN iM iT from hO) h3 (by omega)) oX9_half wiX9_half weX9_half wmX9_113 kX9 (hO) rfl ⟨Nat.le_trans (Nat.le_of_ble_eq_true rfl : _ ≤ 3) (Nat.le_add_right 3 (d + 1)), Nat.le_trans (Nat.le_of_ble_eq_true rfl : _ ≤ 41 * 3) (Nat.mul_le_mul_left 41 (Nat.le_add_right 3 (d + 1)))⟩ ⟨Nat.zero_le _, Nat.zero_le _⟩ (Nat.le_of_ble_eq_true rfl) rfl ?_
  refine g_icmp_neN 117 dX9_searches_5 (by decide) (by omega) (by omega) (fun c5 => ?_) (fun z => absurd z (by omega))
  refine g_iconst (v := nI 1) dX9_searches_117 (by decide +kernel) ?_
  refine g_istore (ls' := [(4, .int (nI 1)), (0, .ref 98), (1, .int (nI q)), (2, .int (nI x2)), (3, .int (nI x3))]) dX9_searches_118 (Nat.le_of_ble_eq_true rfl) rfl ?_
  refine lp_lf (by omega) hv hB ?_ (n - 1) 1 (by omega) (Nat.le_refl 1) (show lfG acc (n - 1) 1 = lfA n acc from rfl)
  refine g_iload dX9_searches_135 0 rfl ?_
  refine g_iconst (v := nI 1) dX9_searches_137 (by decide +kernel) ?_
  refine g_iaddN dX9_searches_138 ?_
  refine g_istore (ls' := [(5, .int (nI ((lfA n acc) + 1))), (4, .int (nI (lfA n acc))), (0, .ref 98), (1, .int (nI q)), (2, .int (nI x2)), (3, .int (nI x3))]) dX9_searches_139 (Nat.le_of_ble_eq_true rfl) rfl ?_
  exact lp_mys h3 (by omega) ih0 hl hd hv hB hD lf.1 (B := lfA n acc + 1 + (n - (lfA n acc + 1))) (by omega) (by omega) (by rw [List.length_append]; exact hle) (n - (lfA n acc + 1)) (lfA n acc + 1) h L (by omega) (by omega) (fun z => by omega) hQ rfl (fun _ _ => rfl)

theorem mseek_all {n m a de : Nat} {as_ z : Int32} {am : Nat} {ib : Bool} {iN iM iT : Int32} (h3 : 3 ≤ n) (n3 : n ≤ 12) (odd : n % 2 = 1) : ∀ d, mseek n m a de as_ z am ib iN iM iT d
  | 0 => mseek_0 h3 (by omega) odd
  | d + 1 => mseek_s h3 n3 (mseek_all h3 n3 odd d)
theorem nmM_0 : nmM 0 [] := ⟨Nat.two_pow_pos 13, fun i _ => Nat.zero_testBit i⟩
theorem dfM_0 (n : Nat) : dfM n 0 [] := ⟨Nat.two_pow_pos 14, fun i _ => Nat.zero_testBit i⟩
theorem kpR_0 (w : Int32) (K : List Int32) (q : Nat) : kpR w K q [] := fun i _ hi => absurd hi (Nat.not_lt_zero i)
theorem mtT_0 (T : List Int32) : mtT T [] := fun k hk => absurd hk (Nat.not_lt_zero k)

set_option maxRecDepth 100000 in
set_option maxHeartbeats 4000000 in
theorem ev_findsS {h : List aC} {n m a de : Nat} {fo as_ sm sk z : Int32} {am : Nat} {ib : Bool} {iN iM iT : Int32} (hO : MO h n m a de fo as_ sm sk z am ib iN iM iT) (hn3 : 3 ≤ n) (n3 : n ≤ 12) (odd : n % 2 = 1) {T Ke : List Int32} (hT : rd h 106 = some (.inl T)) (lT : T.length = 12) (hK : rd h 107 = some (.inl Ke)) (lK : Ke.length = 6) (x : Int32) : Ev mX9_findsStarters 12 0 0 [.ref 98, .int x] h (pq none (fun h2 => ∃ T2 K2, MO h2 n m a de (nI (stL n).length) x (nI (cnB (sgB n) (stL n))) (nI (cnB (skB n) (stL n))) z am ib iN iM iT ∧ rd h2 106 = some (.inl T2) ∧ T2.length = 12 ∧ rd h2 107 = some (.inl K2) ∧ K2.length = 6 ∧ kpR x K2 ((n - 1) / 2) (stL n) ∧ Sm3 h h2)) := by
  have hO : rd h 98 = some (.inr (9, [.int (nI n), .int (nI m), .ref 99, .ref 100, .ref 101, .int (nI a), .ref 102, .int (nI de), .ref 103, .ref 104, .ref 105, .int fo, .int as_, .int sm, .int sk, .ref 106, .ref 107, .ref 108, .int z, .ref 109, .ref 110, .ref 111, .int (nI am), .ref 112, .ref 113, .ref 114, .ref 115, .ref 116, .int (nI (bI ib)), .int iN, .int iM, .int iT, .ref 117, .ref 118, .ref 119])) := hO
  refine Ev.of pX9_findsStarters (Nat.le_of_ble_eq_true rfl) ?_
  show G mX9_findsStarters (rmD 12 0 0) none _ 0 0 0 [(0, .ref 98), (1, .int x)] [] h
  refine g_aload_n dX9_findsStarters_0 0 rfl ?_
  refine g_iconst (v := nI 0) dX9_findsStarters_1 (by decide +kernel) ?_
  refine g_putv dX9_findsStarters_2 kX9 wfX9_161 (Nat.le_of_ble_eq_true rfl) rfl (fun _ _ => ⟨rfl, rfl⟩) (hO) (Nat.le_of_ble_eq_true rfl) (fs' := [.int (nI n), .int (nI m), .ref 99, .ref 100, .ref 101, .int (nI a), .ref 102, .int (nI de), .ref 103, .ref 104, .ref 105, .int (nI 0), .int as_, .int sm, .int sk, .ref 106, .ref 107, .ref 108, .int z, .ref 109, .ref 110, .ref 111, .int (nI am), .ref 112, .ref 113, .ref 114, .ref 115, .ref 116, .int (nI (bI ib)), .int iN, .int iM, .int iT, .ref 117, .ref 118, .ref 119]) rfl (fun h1 e1 => ?_)
  have f1_98 : rd h1 98 = some (.inr (9, [.int (nI n), .int (nI m), .ref 99, .ref 100, .ref 101, .int (nI a), .ref 102, .int (nI de), .ref 103, .ref 104, .ref 105, .int (nI 0), .int as_, .int sm, .int sk, .ref 106, .ref 107, .ref 108, .int z, .ref 109, .ref 110, .ref 111, .int (nI am), .ref 112, .ref 113, .ref 114, .ref 115, .ref 116, .int (nI (bI ib)), .int iN, .int iM, .int iT, .ref 117, .ref 118, .ref 119])) := by rw [e1]; exact rd_wr_eq (hO)
  have s1 : Smo 98 (98 + 1) h h1 := by rw [e1]; exact Smo.wr (by omega) (by omega)
  have f1_106 : rd h1 106 = some (.inl (T)) := by rw [s1 _ (by omega)]; exact hT
  have f1_107 : rd h1 107 = some (.inl (Ke)) := by rw [s1 _ (by omega)]; exact hK
  refine g_aload_n dX9_findsStarters_5 0 rfl ?_
  refine g_iload_n dX9_findsStarters_6 1 rfl ?_
  refine g_putv dX9_findsStarters_7 kX9 wfX9_164 (Nat.le_of_ble_eq_true rfl) rfl (fun _ _ => ⟨rfl, rfl⟩) (f1_98) (Nat.le_of_ble_eq_true rfl) (fs' := [.int (nI n), .int (nI m), .ref 99, .ref 100, .ref 101, .int (nI a), .ref 102, .int (nI de), .ref 103, .ref 104, .ref 105, .int (nI 0), .int x, .int sm, .int sk, .ref 106, .ref 107, .ref 108, .int z, .ref 109, .ref 110, .ref 111, .int (nI am), .ref 112, .ref 113, .ref 114, .ref 115, .ref 116, .int (nI (bI ib)), .int iN, .int iM, .int iT, .ref 117, .ref 118, .ref 119]) rfl (fun h2 e2 => ?_)
  have f2_98 : rd h2 98 = some (.inr (9, [.int (nI n), .int (nI m), .ref 99, .ref 100, .ref 101, .int (nI a), .ref 102, .int (nI de), .ref 103, .ref 104, .ref 105, .int (nI 0), .int x, .int sm, .int sk, .ref 106, .ref 107, .ref 108, .int z, .ref 109, .ref 110, .ref 111, .int (nI am), .ref 112, .ref 113, .ref 114, .ref 115, .ref 116, .int (nI (bI ib)), .int iN, .int iM, .int iT, .ref 117, .ref 118, .ref 119])) := by rw [e2]; exact rd_wr_eq (f1_98)
  have s2 : Smo 98 (98 + 1) h1 h2 := by rw [e2]; exact Smo.wr (by omega) (by omega)
  have f2_106 : rd h2 106 = some (.inl (T)) := by rw [s2 _ (by omega)]; exact f1_106
  have f2_107 : rd h2 107 = some (.inl (Ke)) := by rw [s2 _ (by omega)]; exact f1_107
  refine g_aload_n dX9_findsStarters_10 0 rfl ?_
  refine g_iconst (v := nI 0) dX9_findsStarters_11 (by decide +kernel) ?_
  refine g_putv dX9_findsStarters_12 kX9 wfX9_167 (Nat.le_of_ble_eq_true rfl) rfl (fun _ _ => ⟨rfl, rfl⟩) (f2_98) (Nat.le_of_ble_eq_true rfl) (fs' := [.int (nI n), .int (nI m), .ref 99, .ref 100, .ref 101, .int (nI a), .ref 102, .int (nI de), .ref 103, .ref 104, .ref 105, .int (nI 0), .int x, .int (nI 0), .int sk, .ref 106, .ref 107, .ref 108, .int z, .ref 109, .ref 110, .ref 111, .int (nI am), .ref 112, .ref 113, .ref 114, .ref 115, .ref 116, .int (nI (bI ib)), .int iN, .int iM, .int iT, .ref 117, .ref 118, .ref 119]) rfl (fun h3 e3 => ?_)
  have f3_98 : rd h3 98 = some (.inr (9, [.int (nI n), .int (nI m), .ref 99, .ref 100, .ref 101, .int (nI a), .ref 102, .int (nI de), .ref 103, .ref 104, .ref 105, .int (nI 0), .int x, .int (nI 0), .int sk, .ref 106, .ref 107, .ref 108, .int z, .ref 109, .ref 110, .ref 111, .int (nI am), .ref 112, .ref 113, .ref 114, .ref 115, .ref 116, .int (nI (bI ib)), .int iN, .int iM, .int iT, .ref 117, .ref 118, .ref 119])) := by rw [e3]; exact rd_wr_eq (f2_98)
  have s3 : Smo 98 (98 + 1) h2 h3 := by rw [e3]; exact Smo.wr (by omega) (by omega)
  have f3_106 : rd h3 106 = some (.inl (T)) := by rw [s3 _ (by omega)]; exact f2_106
  have f3_107 : rd h3 107 = some (.inl (Ke)) := by rw [s3 _ (by omega)]; exact f2_107
  refine g_aload_n dX9_findsStarters_15 0 rfl ?_
  refine g_iconst (v := nI 0) dX9_findsStarters_16 (by decide +kernel) ?_
  refine g_putv dX9_findsStarters_17 kX9 wfX9_170 (Nat.le_of_ble_eq_true rfl) rfl (fun _ _ => ⟨rfl, rfl⟩) (f3_98) (Nat.le_of_ble_eq_true rfl) (fs' := [.int (nI n), .int (nI m), .ref 99, .ref 100, .ref 101, .int (nI a), .ref 102, .int (nI de), .ref 103, .ref 104, .ref 105, .int (nI 0), .int x, .int (nI 0), .int (nI 0), .ref 106, .ref 107, .ref 108, .int z, .ref 109, .ref 110, .ref 111, .int (nI am), .ref 112, .ref 113, .ref 114, .ref 115, .ref 116, .int (nI (bI ib)), .int iN, .int iM, .int iT, .ref 117, .ref 118, .ref 119]) rfl (fun h4 e4 => ?_)
  have f4_98 : rd h4 98 = some (.inr (9, [.int (nI n), .int (nI m), .ref 99, .ref 100, .ref 101, .int (nI a), .ref 102, .int (nI de), .ref 103, .ref 104, .ref 105, .int (nI 0), .int x, .int (nI 0), .int (nI 0), .ref 106, .ref 107, .ref 108, .int z, .ref 109, .ref 110, .ref 111, .int (nI am), .ref 112, .ref 113, .ref 114, .ref 115, .ref 116, .int (nI (bI ib)), .int iN, .int iM, .int iT, .ref 117, .ref 118, .ref 119])) := by rw [e4]; exact rd_wr_eq (f3_98)
  have s4 : Smo 98 (98 + 1) h3 h4 := by rw [e4]; exact Smo.wr (by omega) (by omega)
  have f4_106 : rd h4 106 = some (.inl (T)) := by rw [s4 _ (by omega)]; exact f3_106
  have f4_107 : rd h4 107 = some (.inl (Ke)) := by rw [s4 _ (by omega)]; exact f3_107
  refine g_aload_n dX9_findsStarters_20 0 rfl ?_
  refine g_iconst (v := nI 0) dX9_findsStarters_21 (by decide +kernel) ?_
  refine g_iconst (v := nI 0) dX9_findsStarters_22 (by decide +kernel) ?_
  refine g_iconst (v := nI 0) dX9_findsStarters_23 (by decide +kernel) ?_
  refine g_callVq (st1 := []) dX9_findsStarters_24 (mseek_all (n := n) (m := m) (a := a) (de := de) (as_ := x) (z := z) (am := am) (ib := ib) (iN := iN) (iM := iM) (iT := iT) hn3 n3 odd ((n - 1) / 2) _ [] [] 0 0 0 rfl (by omega) ⟨_, _, f4_98, f4_106, lT, mtT_0 _, f4_107, lK, kpR_0 _ _ _⟩ (fun q hq => absurd hq (List.not_mem_nil)) nmM_0 (dfM_0 n) (by have := E_small (n := n) (d := (n - 1) / 2) (by omega) (by omega) []; exact this)) oX9_searches wiX9_searches weX9_searches wmX9_173 kX9 (f4_98) rfl ⟨by show 3 + (n - 1) / 2 + 1 ≤ 12; omega, by show 8 + (7 + 11) + 41 * (3 + (n - 1) / 2) ≤ 41 * 12; omega⟩ ⟨Nat.zero_le _, Nat.zero_le _⟩ (Nat.le_of_ble_eq_true rfl) rfl rfl (fun h5 q5 => ?_)
  obtain ⟨⟨Tz, Kz, oz, tz, ltz, mtz, yz, lyz, kpz⟩, sz⟩ := q5
  exact g_vret dX9_findsStarters_27 rfl ⟨Nat.zero_le _, Nat.zero_le _⟩ (⟨rfl, Tz, Kz, oz, tz, ltz, yz, lyz, kpz, (fun q hq => by rw [sz q (by omega), s4 q (by omega), s3 q (by omega), s2 q (by omega), s1 q (by omega)])⟩)
