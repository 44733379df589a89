def r3 (R : List Int32) (k : Nat) (a b c : Int32) : List Int32 := ((R.set (3 * k + 0) a).set (3 * k + (0 + 1)) b).set (3 * k + (0 + 1 + 1)) c
theorem r3_len (R : List Int32) (k : Nat) (a b c : Int32) : (r3 R k a b c).length = R.length := by unfold r3; rw [List.length_set, List.length_set, List.length_set]
theorem pR_row {R : List Int32} {k : Nat} {g : Nat → Pr} (h : pR R 0 k g) (l : R.length = 18) (hk : k < 6) {a b c : Int32} (ea : a = nI (g k).1) (eb : b = nI (g k).2.1) (ec : c = nI (g k).2.2) : pR (r3 R k a b c) 0 (k + 1) g := by
  subst ea; subst eb; subst ec
  have z := pR_P3 h l hk (g k).1 (g k).2.1 (g k).2.2
  have e : upF g k ((g k).1, (g k).2.1, (g k).2.2) = g := funext fun i => by
    by_cases q : i = k
    · subst q; rw [upF_eq]
    · rw [upF_ne q]
  rw [e] at z
  exact z
theorem pR_cp {R P : List Int32} {m : Nat} {f : Nat → Pr} (h : pR P 0 m f) (lR : R.length = 18) (lP : P.length = 18) (hm : m ≤ 6) : pR (cpL P 0 R 0 18) 0 m f := pR_cg h hm (fun i hi => by rw [Nat.zero_add]; exact cp0 (by omega) hi)

set_option maxRecDepth 100000 in
set_option maxHeartbeats 4000000 in
theorem lp_tb0 {h0 : List aC} {P : Option Value → List aC → Prop} {n m a de : Nat} {fo as_ sm sk z : Int32} {am : Nat} {ib : Bool} {iN iM iT : Int32} (n3 : n ≤ 13) (h0n : 0 < n) (hm : m ≤ 6) {B1 : List Int32} (hB : rd h0 110 = some (.inl B1)) (lB : B1.length = 18) {f : Nat → Pr} (vB : pR B1 0 m f) (hb : bf n m f) {u : Nat} (hu : u ≤ 12) (K : ∀ R h', MO h' n m a de fo as_ sm sk z am ib iN iM iT → rd h' 109 = some (.inl R) → R.length = 18 → pR R 0 m (tOne n m 0 u f) → Smo 109 110 h0 h' → G mX9_turnsBy (rmD 2 0 0) none P 0 0 257 [(0, .ref 98), (1, .int (nI 0)), (2, .int (nI u)), (3, .int (nI m))] [] h') : ∀ j k (h : List aC) (R : List Int32), k + j = m → MO h n m a de fo as_ sm sk z am ib iN iM iT → rd h 109 = some (.inl R) → R.length = 18 → pR R 0 k (tOne n m 0 u f) → Smo 109 110 h0 h → G mX9_turnsBy (rmD 2 0 0) none P 0 0 17 [(3, .int (nI k)), (0, .ref 98), (1, .int (nI 0)), (2, .int (nI u))] [] h := by
  intro j
  induction j with
  | zero =>
    intro k h R hk hO hR lR vR hS
    have hO : rd h 98 = some (.inr (9, [.int (nI n), .int (nI m), .ref 99, .ref 100, .ref 101, .int (nI a), .ref 102, .int (nI de), .ref 103, .ref 104, .ref 105, .int fo, .int as_, .int sm, .int sk, .ref 106, .ref 107, .ref 108, .int z, .ref 109, .ref 110, .ref 111, .int (nI am), .ref 112, .ref 113, .ref 114, .ref 115, .ref 116, .int (nI (bI ib)), .int iN, .int iM, .int iT, .ref 117, .ref 118, .ref 119])) := hO
    refine g_iload_n dX9_turnsBy_17 0 rfl ?_
    refine g_aload_n dX9_turnsBy_18 1 rfl ?_
    refine g_getf dX9_turnsBy_19 kX9 wfX9_87 (Nat.le_of_ble_eq_true rfl) (hO) rfl ?_
    refine g_icmp_geN 257 dX9_turnsBy_22 (by decide) (by omega) (by omega) (fun c22 => ?_) (fun z => absurd z (by omega))
    refine g_lsub_ (ls2 := [(0, .ref 98), (1, .int (nI 0)), (2, .int (nI u)), (3, .int (nI k))]) [1, 2, 3, 0] rfl ?_
    have ek : k = m := by omega
    subst ek
    exact K _ _ hO hR lR vR hS
  | succ j ih =>
    intro k h R hk hO hR lR vR hS
    have hO : rd h 98 = some (.inr (9, [.int (nI n), .int (nI m), .ref 99, .ref 100, .ref 101, .int (nI a), .ref 102, .int (nI de), .ref 103, .ref 104, .ref 105, .int fo, .int as_, .int sm, .int sk, .ref 106, .ref 107, .ref 108, .int z, .ref 109, .ref 110, .ref 111, .int (nI am), .ref 112, .ref 113, .ref 114, .ref 115, .ref 116, .int (nI (bI ib)), .int iN, .int iM, .int iT, .ref 117, .ref 118, .ref 119])) := hO
    obtain ⟨b1, b2, b3⟩ := hb k (by omega)
    have z1 : (f k).1 * u ≤ 13 * 12 := Nat.mul_le_mul (by omega) hu
    have z2 : (f k).2.1 * u ≤ 13 * 12 := Nat.mul_le_mul (by omega) hu
    have z3 : (f k).2.2 * u ≤ 13 * 12 := Nat.mul_le_mul (by omega) hu
    refine g_iload_n dX9_turnsBy_17 0 rfl ?_
    refine g_aload_n dX9_turnsBy_18 1 rfl ?_
    refine g_getf dX9_turnsBy_19 kX9 wfX9_87 (Nat.le_of_ble_eq_true rfl) (hO) rfl ?_
    refine g_icmp_geN 257 dX9_turnsBy_22 (by decide) (by omega) (by omega) (fun z => absurd z (by omega)) (fun c22 => ?_)
    refine g_iload_n dX9_turnsBy_25 2 rfl ?_
    refine g_iconst (v := nI 2) dX9_turnsBy_26 (by decide +kernel) ?_
    refine g_icmp_neN 41 dX9_turnsBy_27 (by decide) (by omega) (by omega) (fun c27 => ?_) (fun z => absurd z (by omega))
    refine g_iload_n dX9_turnsBy_41 2 rfl ?_
    refine g_iconst (v := nI 3) dX9_turnsBy_42 (by decide +kernel) ?_
    refine g_icmp_eqN 51 dX9_turnsBy_43 (by decide) (by omega) (by omega) (fun z => absurd z (by omega)) (fun c43 => ?_)
    refine g_iload_n dX9_turnsBy_46 2 rfl ?_
    refine g_iconst (v := nI 5) dX9_turnsBy_47 (by decide +kernel) ?_
    refine g_icmp_neN 62 dX9_turnsBy_48 (by decide) (by omega) (by omega) (fun c48 => ?_) (fun z => absurd z (by omega))
    refine g_iload_n dX9_turnsBy_62 0 rfl ?_
    refine g_istore (ls' := [(4, .int (nI k)), (3, .int (nI k)), (0, .ref 98), (1, .int (nI 0)), (2, .int (nI u))]) dX9_turnsBy_63 (Nat.le_of_ble_eq_true rfl) rfl ?_
    refine g_iconst (v := nI 0) dX9_turnsBy_65 (by decide +kernel) ?_
    refine g_istore (ls' := [(5, .int (nI 0)), (4, .int (nI k)), (3, .int (nI k)), (0, .ref 98), (1, .int (nI 0)), (2, .int (nI u))]) dX9_turnsBy_66 (Nat.le_of_ble_eq_true rfl) rfl ?_
    refine g_iload dX9_turnsBy_68 0 rfl ?_
    refine g_iconst (v := nI 3) dX9_turnsBy_70 (by decide +kernel) ?_
    refine g_icmp_geN 251 dX9_turnsBy_71 (by decide) (by omega) (by omega) (fun z => absurd z (by omega)) (fun c71 => ?_)
    refine g_aload_n dX9_turnsBy_74 3 rfl ?_
    refine g_getf dX9_turnsBy_75 kX9 wfX9_47 (Nat.le_of_ble_eq_true rfl) (hO) rfl ?_
    refine g_iconst (v := nI 3) dX9_turnsBy_78 (by decide +kernel) ?_
    refine g_iload_n dX9_turnsBy_79 2 rfl ?_
    refine g_imulN dX9_turnsBy_80 ?_
    refine g_iload dX9_turnsBy_81 0 rfl ?_
    refine g_iaddN dX9_turnsBy_83 ?_
    refine g_ialI dX9_turnsBy_84 ((show rd h 110 = some (.inl B1) by rw [hS 110 (by omega)]; exact hB)) (by omega) (by omega) ?_
    refine g_top (show (B1).getD ((3 * k) + 0) 0 = nI ((f k).1) from pR0 vB (show k < m by omega)) ?_
    refine g_istore (ls' := [(6, .int (nI ((f k).1))), (5, .int (nI 0)), (4, .int (nI k)), (3, .int (nI k)), (0, .ref 98), (1, .int (nI 0)), (2, .int (nI u))]) dX9_turnsBy_85 (Nat.le_of_ble_eq_true rfl) rfl ?_
    refine g_iload_n dX9_turnsBy_87 5 rfl ?_
    refine g_tableIn 124 dX9_turnsBy_88 (by decide +kernel) (by decide +kernel) (off := 36) (by decide +kernel) (by decide) ?_
    refine g_iload dX9_turnsBy_124 0 rfl ?_
    refine g_iload_n dX9_turnsBy_126 6 rfl ?_
    refine g_imulN dX9_turnsBy_127 ?_
    refine g_aload_n dX9_turnsBy_128 4 rfl ?_
    refine g_getf dX9_turnsBy_129 kX9 wfX9_7 (Nat.le_of_ble_eq_true rfl) (hO) rfl ?_
    refine g_iremN dX9_turnsBy_132 (by omega) (by omega) (by omega) ?_
    refine g_istore (ls' := [(6, .int (nI ((((f k).1) * u) % n))), (5, .int (nI 0)), (4, .int (nI k)), (3, .int (nI k)), (0, .ref 98), (1, .int (nI 0)), (2, .int (nI u))]) dX9_turnsBy_133 (Nat.le_of_ble_eq_true rfl) rfl ?_
    refine g_goto 232 dX9_turnsBy_135 (by decide) ?_
    refine g_aload_n dX9_turnsBy_232 4 rfl ?_
    refine g_getf dX9_turnsBy_233 kX9 wfX9_44 (Nat.le_of_ble_eq_true rfl) (hO) rfl ?_
    refine g_iconst (v := nI 3) dX9_turnsBy_236 (by decide +kernel) ?_
    refine g_iload_n dX9_turnsBy_237 3 rfl ?_
    refine g_imulN dX9_turnsBy_238 ?_
    refine g_iload dX9_turnsBy_239 1 rfl ?_
    refine g_iaddN dX9_turnsBy_241 ?_
    refine g_iload dX9_turnsBy_242 0 rfl ?_
    refine g_iasI dX9_turnsBy_244 (hR) (by first | omega | (rw [List.length_set]; omega) | (rw [List.length_set, List.length_set]; omega)) (by omega) (fun h1 e1 => ?_)
    have f1_109 : rd h1 109 = some (.inl ((R).set ((3 * k) + 0) (nI ((((f k).1) * u) % n)))) := by rw [e1]; exact rd_wr_eq (hR)
    have lf1_109 : ((R).set ((3 * k) + 0) (nI ((((f k).1) * u) % n))).length = _ := List.length_set.trans lR
    have s1 : Smo 109 (109 + 1) h h1 := by rw [e1]; exact Smo.wr (by omega) (by omega)
    have f1_98 : rd h1 98 = some (.inr (9, [.int (nI n), .int (nI m), .ref 99, .ref 100, .ref 101, .int (nI a), .ref 102, .int (nI de), .ref 103, .ref 104, .ref 105, .int fo, .int as_, .int sm, .int sk, .ref 106, .ref 107, .ref 108, .int z, .ref 109, .ref 110, .ref 111, .int (nI am), .ref 112, .ref 113, .ref 114, .ref 115, .ref 116, .int (nI (bI ib)), .int iN, .int iM, .int iT, .ref 117, .ref 118, .ref 119])) := by rw [s1 _ (by omega)]; exact hO
    have f1_110 : rd h1 110 = some (.inl (B1)) := by rw [s1 _ (by omega)]; exact (show rd h 110 = some (.inl B1) by rw [hS 110 (by omega)]; exact hB)
    refine g_iinc (q := 1) (v := nI (0 + 1)) (ls' := [(5, .int (nI (0 + 1))), (6, .int (nI ((((f k).1) * u) % n))), (4, .int (nI k)), (3, .int (nI k)), (0, .ref 98), (1, .int (nI 0)), (2, .int (nI u))]) dX9_turnsBy_245 rfl (inc1 _) (Nat.le_of_ble_eq_true rfl) rfl ?_
    refine g_goto 68 dX9_turnsBy_248 (by decide) ?_
    refine g_iload dX9_turnsBy_68 0 rfl ?_
    refine g_iconst (v := nI 3) dX9_turnsBy_70 (by decide +kernel) ?_
    refine g_icmp_geN 251 dX9_turnsBy_71 (by decide) (by omega) (by omega) (fun z => absurd z (by omega)) (fun c71 => ?_)
    refine g_aload_n dX9_turnsBy_74 4 rfl ?_
    refine g_getf dX9_turnsBy_75 kX9 wfX9_47 (Nat.le_of_ble_eq_true rfl) (f1_98) rfl ?_
    refine g_iconst (v := nI 3) dX9_turnsBy_78 (by decide +kernel) ?_
    refine g_iload_n dX9_turnsBy_79 3 rfl ?_
    refine g_imulN dX9_turnsBy_80 ?_
    refine g_iload dX9_turnsBy_81 0 rfl ?_
    refine g_iaddN dX9_turnsBy_83 ?_
    refine g_ialI dX9_turnsBy_84 (f1_110) (by omega) (by omega) ?_
    refine g_top (show (B1).getD ((3 * k) + (0 + 1)) 0 = nI ((f k).2.1) from pR1 vB (show k < m by omega)) ?_
    refine g_istore (ls' := [(6, .int (nI ((f k).2.1))), (5, .int (nI (0 + 1))), (4, .int (nI k)), (3, .int (nI k)), (0, .ref 98), (1, .int (nI 0)), (2, .int (nI u))]) dX9_turnsBy_85 (Nat.le_of_ble_eq_true rfl) rfl ?_
    refine g_iload_n dX9_turnsBy_87 5 rfl ?_
    refine g_tableIn 124 dX9_turnsBy_88 (by decide +kernel) (by decide +kernel) (off := 36) (by decide +kernel) (by decide) ?_
    refine g_iload dX9_turnsBy_124 0 rfl ?_
    refine g_iload_n dX9_turnsBy_126 6 rfl ?_
    refine g_imulN dX9_turnsBy_127 ?_
    refine g_aload_n dX9_turnsBy_128 4 rfl ?_
    refine g_getf dX9_turnsBy_129 kX9 wfX9_7 (Nat.le_of_ble_eq_true rfl) (f1_98) rfl ?_
    refine g_iremN dX9_turnsBy_132 (by omega) (by omega) (by omega) ?_
    refine g_istore (ls' := [(6, .int (nI ((((f k).2.1) * u) % n))), (5, .int (nI (0 + 1))), (4, .int (nI k)), (3, .int (nI k)), (0, .ref 98), (1, .int (nI 0)), (2, .int (nI u))]) dX9_turnsBy_133 (Nat.le_of_ble_eq_true rfl) rfl ?_
    refine g_goto 232 dX9_turnsBy_135 (by decide) ?_
    refine g_aload_n dX9_turnsBy_232 4 rfl ?_
    refine g_getf dX9_turnsBy_233 kX9 wfX9_44 (Nat.le_of_ble_eq_true rfl) (f1_98) rfl ?_
    refine g_iconst (v := nI 3) dX9_turnsBy_236 (by decide +kernel) ?_
    refine g_iload_n dX9_turnsBy_237 3 rfl ?_
    refine g_imulN dX9_turnsBy_238 ?_
    refine g_iload dX9_turnsBy_239 1 rfl ?_
    refine g_iaddN dX9_turnsBy_241 ?_
    refine g_iload dX9_turnsBy_242 0 rfl ?_
    refine g_iasI dX9_turnsBy_244 (f1_109) (by first | omega | (rw [List.length_set]; omega) | (rw [List.length_set, List.length_set]; omega)) (by simp only [List.length_set]; omega) (fun h2 e2 => ?_)
    have f2_109 : rd h2 109 = some (.inl (((R).set ((3 * k) + 0) (nI ((((f k).1) * u) % n))).set ((3 * k) + (0 + 1)) (nI ((((f k).2.1) * u) % n)))) := by rw [e2]; exact rd_wr_eq (f1_109)
    have lf2_109 : (((R).set ((3 * k) + 0) (nI ((((f k).1) * u) % n))).set ((3 * k) + (0 + 1)) (nI ((((f k).2.1) * u) % n))).length = _ := List.length_set.trans lf1_109
    have s2 : Smo 109 (109 + 1) h1 h2 := by rw [e2]; exact Smo.wr (by omega) (by omega)
    have f2_98 : rd h2 98 = some (.inr (9, [.int (nI n), .int (nI m), .ref 99, .ref 100, .ref 101, .int (nI a), .ref 102, .int (nI de), .ref 103, .ref 104, .ref 105, .int fo, .int as_, .int sm, .int sk, .ref 106, .ref 107, .ref 108, .int z, .ref 109, .ref 110, .ref 111, .int (nI am), .ref 112, .ref 113, .ref 114, .ref 115, .ref 116, .int (nI (bI ib)), .int iN, .int iM, .int iT, .ref 117, .ref 118, .ref 119])) := by rw [s2 _ (by omega)]; exact f1_98
    have f2_110 : rd h2 110 = some (.inl (B1)) := by rw [s2 _ (by omega)]; exact f1_110
    refine g_iinc (q := 1) (v := nI (0 + 1 + 1)) (ls' := [(5, .int (nI (0 + 1 + 1))), (6, .int (nI ((((f k).2.1) * u) % n))), (4, .int (nI k)), (3, .int (nI k)), (0, .ref 98), (1, .int (nI 0)), (2, .int (nI u))]) dX9_turnsBy_245 rfl (inc1 _) (Nat.le_of_ble_eq_true rfl) rfl ?_
    refine g_goto 68 dX9_turnsBy_248 (by decide) ?_
    refine g_iload dX9_turnsBy_68 0 rfl ?_
    refine g_iconst (v := nI 3) dX9_turnsBy_70 (by decide +kernel) ?_
    refine g_icmp_geN 251 dX9_turnsBy_71 (by decide) (by omega) (by omega) (fun z => absurd z (by omega)) (fun c71 => ?_)
    refine g_aload_n dX9_turnsBy_74 4 rfl ?_
    refine g_getf dX9_turnsBy_75 kX9 wfX9_47 (Nat.le_of_ble_eq_true rfl) (f2_98) rfl ?_
    refine g_iconst (v := nI 3) dX9_turnsBy_78 (by decide +kernel) ?_
    refine g_iload_n dX9_turnsBy_79 3 rfl ?_
    refine g_imulN dX9_turnsBy_80 ?_
    refine g_iload dX9_turnsBy_81 0 rfl ?_
    refine g_iaddN dX9_turnsBy_83 ?_
    refine g_ialI dX9_turnsBy_84 (f2_110) (by omega) (by omega) ?_
    refine g_top (show (B1).getD ((3 * k) + (0 + 1 + 1)) 0 = nI ((f k).2.2) from pR2 vB (show k < m by omega)) ?_
    refine g_istore (ls' := [(6, .int (nI ((f k).2.2))), (5, .int (nI (0 + 1 + 1))), (4, .int (nI k)), (3, .int (nI k)), (0, .ref 98), (1, .int (nI 0)), (2, .int (nI u))]) dX9_turnsBy_85 (Nat.le_of_ble_eq_true rfl) rfl ?_
    refine g_iload_n dX9_turnsBy_87 5 rfl ?_
    refine g_tableIn 124 dX9_turnsBy_88 (by decide +kernel) (by decide +kernel) (off := 36) (by decide +kernel) (by decide) ?_
    refine g_iload dX9_turnsBy_124 0 rfl ?_
    refine g_iload_n dX9_turnsBy_126 6 rfl ?_
    refine g_imulN dX9_turnsBy_127 ?_
    refine g_aload_n dX9_turnsBy_128 4 rfl ?_
    refine g_getf dX9_turnsBy_129 kX9 wfX9_7 (Nat.le_of_ble_eq_true rfl) (f2_98) rfl ?_
    refine g_iremN dX9_turnsBy_132 (by omega) (by omega) (by omega) ?_
    refine g_istore (ls' := [(6, .int (nI ((((f k).2.2) * u) % n))), (5, .int (nI (0 + 1 + 1))), (4, .int (nI k)), (3, .int (nI k)), (0, .ref 98), (1, .int (nI 0)), (2, .int (nI u))]) dX9_turnsBy_133 (Nat.le_of_ble_eq_true rfl) rfl ?_
    refine g_goto 232 dX9_turnsBy_135 (by decide) ?_
    refine g_aload_n dX9_turnsBy_232 4 rfl ?_
    refine g_getf dX9_turnsBy_233 kX9 wfX9_44 (Nat.le_of_ble_eq_true rfl) (f2_98) rfl ?_
    refine g_iconst (v := nI 3) dX9_turnsBy_236 (by decide +kernel) ?_
    refine g_iload_n dX9_turnsBy_237 3 rfl ?_
    refine g_imulN dX9_turnsBy_238 ?_
    refine g_iload dX9_turnsBy_239 1 rfl ?_
    refine g_iaddN dX9_turnsBy_241 ?_
    refine g_iload dX9_turnsBy_242 0 rfl ?_
    refine g_iasI dX9_turnsBy_244 (f2_109) (by first | omega | (rw [List.length_set]; omega) | (rw [List.length_set, List.length_set]; omega)) (by simp only [List.length_set]; omega) (fun h3 e3 => ?_)
    have f3_109 : rd h3 109 = some (.inl ((((R).set ((3 * k) + 0) (nI ((((f k).1) * u) % n))).set ((3 * k) + (0 + 1)) (nI ((((f k).2.1) * u) % n))).set ((3 * k) + (0 + 1 + 1)) (nI ((((f k).2.2) * u) % n)))) := by rw [e3]; exact rd_wr_eq (f2_109)
    have lf3_109 : ((((R).set ((3 * k) + 0) (nI ((((f k).1) * u) % n))).set ((3 * k) + (0 + 1)) (nI ((((f k).2.1) * u) % n))).set ((3 * k) + (0 + 1 + 1)) (nI ((((f k).2.2) * u) % n))).length = _ := List.length_set.trans lf2_109
    have s3 : Smo 109 (109 + 1) h2 h3 := by rw [e3]; exact Smo.wr (by omega) (by omega)
    have f3_98 : rd h3 98 = some (.inr (9, [.int (nI n), .int (nI m), .ref 99, .ref 100, .ref 101, .int (nI a), .ref 102, .int (nI de), .ref 103, .ref 104, .ref 105, .int fo, .int as_, .int sm, .int sk, .ref 106, .ref 107, .ref 108, .int z, .ref 109, .ref 110, .ref 111, .int (nI am), .ref 112, .ref 113, .ref 114, .ref 115, .ref 116, .int (nI (bI ib)), .int iN, .int iM, .int iT, .ref 117, .ref 118, .ref 119])) := by rw [s3 _ (by omega)]; exact f2_98
    have f3_110 : rd h3 110 = some (.inl (B1)) := by rw [s3 _ (by omega)]; exact f2_110
    refine g_iinc (q := 1) (v := nI (0 + 1 + 1 + 1)) (ls' := [(5, .int (nI (0 + 1 + 1 + 1))), (6, .int (nI ((((f k).2.2) * u) % n))), (4, .int (nI k)), (3, .int (nI k)), (0, .ref 98), (1, .int (nI 0)), (2, .int (nI u))]) dX9_turnsBy_245 rfl (inc1 _) (Nat.le_of_ble_eq_true rfl) rfl ?_
    refine g_goto 68 dX9_turnsBy_248 (by decide) ?_
    refine g_iload dX9_turnsBy_68 0 rfl ?_
    refine g_iconst (v := nI 3) dX9_turnsBy_70 (by decide +kernel) ?_
    refine g_icmp_geN 251 dX9_turnsBy_71 (by decide) (by omega) (by omega) (fun c71 => ?_) (fun z => absurd z (by omega))
    refine g_iinc (q := 3) (v := nI (k + 1)) (ls' := [(3, .int (nI (k + 1))), (5, .int (nI (0 + 1 + 1 + 1))), (6, .int (nI ((((f k).2.2) * u) % n))), (4, .int (nI k)), (0, .ref 98), (1, .int (nI 0)), (2, .int (nI u))]) dX9_turnsBy_251 rfl (inc1 _) (Nat.le_of_ble_eq_true rfl) rfl ?_
    refine g_goto 17 dX9_turnsBy_254 (by decide) ?_
    refine g_lsub_ (ls2 := [(3, .int (nI (k + 1))), (0, .ref 98), (1, .int (nI 0)), (2, .int (nI u))]) [0, 4, 5, 6] rfl ?_
    refine ih (k + 1) _ _ (by omega) f3_98 (f3_109) (lf3_109) (pR_row vR lR (by omega) ?_ ?_ ?_) (hS.tr (fun q hq => by rw [s3 q (by omega), s2 q (by omega), s1 q (by omega)]))
    · exact congrArg nI (congrArg (· % n) (Nat.mul_comm _ _))
    · exact congrArg nI (congrArg (· % n) (Nat.mul_comm _ _))
    · exact congrArg nI (congrArg (· % n) (Nat.mul_comm _ _))

set_option maxRecDepth 100000 in
set_option maxHeartbeats 4000000 in
theorem ev_tb0 {h : List aC} {n m a de : Nat} {fo as_ sm sk z : Int32} {am : Nat} {ib : Bool} {iN iM iT : Int32} (hO : MO h n m a de fo as_ sm sk z am ib iN iM iT) (n3 : n ≤ 13) (h0n : 0 < n) (hm : m ≤ 6) {Th Be : List Int32} (hT : rd h 109 = some (.inl Th)) (lTh : Th.length = 18) (hB : rd h 110 = some (.inl Be)) (lBe : Be.length = 18) {f : Nat → Pr} (vT : pR Th 0 m f) (hb : bf n m f) (u : Nat) (hu : u ≤ 12) : Ev mX9_turnsBy 2 0 0 [.ref 98, .int (nI 0), .int (nI u)] h (pq none (fun h2 => ∃ T2 B2, MO h2 n m a de fo as_ sm sk z am ib iN iM iT ∧ rd h2 109 = some (.inl T2) ∧ T2.length = 18 ∧ pR T2 0 m (tOne n m 0 u f) ∧ rd h2 110 = some (.inl B2) ∧ B2.length = 18 ∧ Smo 109 111 h h2)) := by
  have hO : rd h 98 = some (.inr (9, [.int (nI n), .int (nI m), .ref 99, .ref 100, .ref 101, .int (nI a), .ref 102, .int (nI de), .ref 103, .ref 104, .ref 105, .int fo, .int as_, .int sm, .int sk, .ref 106, .ref 107, .ref 108, .int z, .ref 109, .ref 110, .ref 111, .int (nI am), .ref 112, .ref 113, .ref 114, .ref 115, .ref 116, .int (nI (bI ib)), .int iN, .int iM, .int iT, .ref 117, .ref 118, .ref 119])) := hO
  refine Ev.of pX9_turnsBy (Nat.le_of_ble_eq_true rfl) ?_
  show G mX9_turnsBy (rmD 2 0 0) none _ 0 0 0 [(0, .ref 98), (1, .int (nI 0)), (2, .int (nI u))] [] h
  refine g_aload_n dX9_turnsBy_0 0 rfl ?_
  refine g_getf dX9_turnsBy_1 kX9 wfX9_44 (Nat.le_of_ble_eq_true rfl) (hO) rfl ?_
  refine g_iconst (v := nI 0) dX9_turnsBy_4 (by decide +kernel) ?_
  refine g_aload_n dX9_turnsBy_5 0 rfl ?_
  refine g_getf dX9_turnsBy_6 kX9 wfX9_47 (Nat.le_of_ble_eq_true rfl) (hO) rfl ?_
  refine g_iconst (v := nI 0) dX9_turnsBy_9 (by decide +kernel) ?_
  refine g_bipush (v := nI 18) dX9_turnsBy_10 (by decide +kernel) ?_
  have la1 : (Th).length = 18 := lTh
  have lb1 : (Be).length = 18 := lBe
  refine g_callSq (st1 := []) dX9_turnsBy_12 (ev_mlays (a := 0) (b := 0) (s := 18) (show 109 ≠ 110 by decide) (by omega) (by omega) ⟨by omega, by omega⟩ (hT) (hB)) oX9_lays wsX9_lays wmX9_83 rfl ⟨(Nat.le_of_ble_eq_true rfl), (Nat.le_of_ble_eq_true rfl)⟩ ⟨Nat.zero_le _, Nat.zero_le _⟩ (Nat.le_of_ble_eq_true rfl) rfl rfl (fun h2 q2 => ?_)
  obtain ⟨q2a, q2s⟩ := q2
  have f2_98 : rd h2 98 = some (.inr (9, [.int (nI n), .int (nI m), .ref 99, .ref 100, .ref 101, .int (nI a), .ref 102, .int (nI de), .ref 103, .ref 104, .ref 105, .int fo, .int as_, .int sm, .int sk, .ref 106, .ref 107, .ref 108, .int z, .ref 109, .ref 110, .ref 111, .int (nI am), .ref 112, .ref 113, .ref 114, .ref 115, .ref 116, .int (nI (bI ib)), .int iN, .int iM, .int iT, .ref 117, .ref 118, .ref 119])) := by rw [q2s _ (by omega)]; exact hO
  have f2_109 : rd h2 109 = some (.inl (Th)) := by rw [q2s _ (by omega)]; exact hT
  refine g_iconst (v := nI 0) dX9_turnsBy_15 (by decide +kernel) ?_
  refine g_istore_n (ls' := [(3, .int (nI 0)), (0, .ref 98), (1, .int (nI 0)), (2, .int (nI u))]) dX9_turnsBy_16 (Nat.le_of_ble_eq_true rfl) rfl ?_
  refine lp_tb0 n3 h0n hm (show rd h2 110 = some (.inl (cpL Th 0 Be 0 18)) from q2a) ((cpL_len _ _ _ _ _).trans lBe) (pR_cp vT lBe lTh hm) hb hu (fun R9 h9 o9 y9 l9 v9 s9 => ?_) m 0 _ _ (by omega) f2_98 (f2_109) lTh (fun j hj => absurd hj (Nat.not_lt_zero j)) Smo.rf
  have f9_110 : rd h9 110 = some (.inl (cpL (Th) 0 (Be) 0 18)) := by rw [s9 _ (by omega)]; exact q2a
  exact g_vret dX9_turnsBy_257 rfl ⟨Nat.zero_le _, Nat.zero_le _⟩ (⟨rfl, _, _, o9, y9, l9, v9, f9_110, ((cpL_len _ _ _ _ _).trans lb1), (fun q hq => by rw [s9 q (by omega), q2s q (by omega)])⟩)

set_option maxRecDepth 100000 in
set_option maxHeartbeats 4000000 in
theorem lp_tb1 {h0 : List aC} {P : Option Value → List aC → Prop} {n m a de : Nat} {fo as_ sm sk z : Int32} {am : Nat} {ib : Bool} {iN iM iT : Int32} (n3 : n ≤ 13) (h0n : 0 < n) (hm : m ≤ 6) {B1 : List Int32} (hB : rd h0 110 = some (.inl B1)) (lB : B1.length = 18) {f : Nat → Pr} (vB : pR B1 0 m f) (hb : bf n m f) {u : Nat} (hu : u ≤ 12) (K : ∀ R h', MO h' n m a de fo as_ sm sk z am ib iN iM iT → rd h' 109 = some (.inl R) → R.length = 18 → pR R 0 m (tOne n m 1 u f) → Smo 109 110 h0 h' → G mX9_turnsBy (rmD 2 0 0) none P 0 0 257 [(0, .ref 98), (1, .int (nI 1)), (2, .int (nI u)), (3, .int (nI m))] [] h') : ∀ j k (h : List aC) (R : List Int32), k + j = m → MO h n m a de fo as_ sm sk z am ib iN iM iT → rd h 109 = some (.inl R) → R.length = 18 → pR R 0 k (tOne n m 1 u f) → Smo 109 110 h0 h → G mX9_turnsBy (rmD 2 0 0) none P 0 0 17 [(3, .int (nI k)), (0, .ref 98), (1, .int (nI 1)), (2, .int (nI u))] [] h := by
  intro j
  induction j with
  | zero =>
    intro k h R hk hO hR lR vR hS
    have hO : rd h 98 = some (.inr (9, [.int (nI n), .int (nI m), .ref 99, .ref 100, .ref 101, .int (nI a), .ref 102, .int (nI de), .ref 103, .ref 104, .ref 105, .int fo, .int as_, .int sm, .int sk, .ref 106, .ref 107, .ref 108, .int z, .ref 109, .ref 110, .ref 111, .int (nI am), .ref 112, .ref 113, .ref 114, .ref 115, .ref 116, .int (nI (bI ib)), .int iN, .int iM, .int iT, .ref 117, .ref 118, .ref 119])) := hO
    refine g_iload_n dX9_turnsBy_17 0 rfl ?_
    refine g_aload_n dX9_turnsBy_18 1 rfl ?_
    refine g_getf dX9_turnsBy_19 kX9 wfX9_87 (Nat.le_of_ble_eq_true rfl) (hO) rfl ?_
    refine g_icmp_geN 257 dX9_turnsBy_22 (by decide) (by omega) (by omega) (fun c22 => ?_) (fun z => absurd z (by omega))
    refine g_lsub_ (ls2 := [(0, .ref 98), (1, .int (nI 1)), (2, .int (nI u)), (3, .int (nI k))]) [1, 2, 3, 0] rfl ?_
    have ek : k = m := by omega
    subst ek
    exact K _ _ hO hR lR vR hS
  | succ j ih =>
    intro k h R hk hO hR lR vR hS
    have hO : rd h 98 = some (.inr (9, [.int (nI n), .int (nI m), .ref 99, .ref 100, .ref 101, .int (nI a), .ref 102, .int (nI de), .ref 103, .ref 104, .ref 105, .int fo, .int as_, .int sm, .int sk, .ref 106, .ref 107, .ref 108, .int z, .ref 109, .ref 110, .ref 111, .int (nI am), .ref 112, .ref 113, .ref 114, .ref 115, .ref 116, .int (nI (bI ib)), .int iN, .int iM, .int iT, .ref 117, .ref 118, .ref 119])) := hO
    obtain ⟨b1, b2, b3⟩ := hb k (by omega)
    refine g_iload_n dX9_turnsBy_17 0 rfl ?_
    refine g_aload_n dX9_turnsBy_18 1 rfl ?_
    refine g_getf dX9_turnsBy_19 kX9 wfX9_87 (Nat.le_of_ble_eq_true rfl) (hO) rfl ?_
    refine g_icmp_geN 257 dX9_turnsBy_22 (by decide) (by omega) (by omega) (fun z => absurd z (by omega)) (fun c22 => ?_)
    refine g_iload_n dX9_turnsBy_25 2 rfl ?_
    refine g_iconst (v := nI 2) dX9_turnsBy_26 (by decide +kernel) ?_
    refine g_icmp_neN 41 dX9_turnsBy_27 (by decide) (by omega) (by omega) (fun c27 => ?_) (fun z => absurd z (by omega))
    refine g_iload_n dX9_turnsBy_41 2 rfl ?_
    refine g_iconst (v := nI 3) dX9_turnsBy_42 (by decide +kernel) ?_
    refine g_icmp_eqN 51 dX9_turnsBy_43 (by decide) (by omega) (by omega) (fun z => absurd z (by omega)) (fun c43 => ?_)
    refine g_iload_n dX9_turnsBy_46 2 rfl ?_
    refine g_iconst (v := nI 5) dX9_turnsBy_47 (by decide +kernel) ?_
    refine g_icmp_neN 62 dX9_turnsBy_48 (by decide) (by omega) (by omega) (fun c48 => ?_) (fun z => absurd z (by omega))
    refine g_iload_n dX9_turnsBy_62 0 rfl ?_
    refine g_istore (ls' := [(4, .int (nI k)), (3, .int (nI k)), (0, .ref 98), (1, .int (nI 1)), (2, .int (nI u))]) dX9_turnsBy_63 (Nat.le_of_ble_eq_true rfl) rfl ?_
    refine g_iconst (v := nI 0) dX9_turnsBy_65 (by decide +kernel) ?_
    refine g_istore (ls' := [(5, .int (nI 0)), (4, .int (nI k)), (3, .int (nI k)), (0, .ref 98), (1, .int (nI 1)), (2, .int (nI u))]) dX9_turnsBy_66 (Nat.le_of_ble_eq_true rfl) rfl ?_
    refine g_iload dX9_turnsBy_68 0 rfl ?_
    refine g_iconst (v := nI 3) dX9_turnsBy_70 (by decide +kernel) ?_
    refine g_icmp_geN 251 dX9_turnsBy_71 (by decide) (by omega) (by omega) (fun z => absurd z (by omega)) (fun c71 => ?_)
    refine g_aload_n dX9_turnsBy_74 3 rfl ?_
    refine g_getf dX9_turnsBy_75 kX9 wfX9_47 (Nat.le_of_ble_eq_true rfl) (hO) rfl ?_
    refine g_iconst (v := nI 3) dX9_turnsBy_78 (by decide +kernel) ?_
    refine g_iload_n dX9_turnsBy_79 2 rfl ?_
    refine g_imulN dX9_turnsBy_80 ?_
    refine g_iload dX9_turnsBy_81 0 rfl ?_
    refine g_iaddN dX9_turnsBy_83 ?_
    refine g_ialI dX9_turnsBy_84 ((show rd h 110 = some (.inl B1) by rw [hS 110 (by omega)]; exact hB)) (by omega) (by omega) ?_
    refine g_top (show (B1).getD ((3 * k) + 0) 0 = nI ((f k).1) from pR0 vB (show k < m by omega)) ?_
    refine g_istore (ls' := [(6, .int (nI ((f k).1))), (5, .int (nI 0)), (4, .int (nI k)), (3, .int (nI k)), (0, .ref 98), (1, .int (nI 1)), (2, .int (nI u))]) dX9_turnsBy_85 (Nat.le_of_ble_eq_true rfl) rfl ?_
    refine g_iload_n dX9_turnsBy_87 5 rfl ?_
    refine g_tableIn 138 dX9_turnsBy_88 (by decide +kernel) (by decide +kernel) (off := 50) (by decide +kernel) (by decide) ?_
    refine g_aload_n dX9_turnsBy_138 4 rfl ?_
    refine g_getf dX9_turnsBy_139 kX9 wfX9_7 (Nat.le_of_ble_eq_true rfl) (hO) rfl ?_
    refine g_iload dX9_turnsBy_142 0 rfl ?_
    refine g_isubN dX9_turnsBy_144 (by omega) ?_
    refine g_aload_n dX9_turnsBy_145 4 rfl ?_
    refine g_getf dX9_turnsBy_146 kX9 wfX9_7 (Nat.le_of_ble_eq_true rfl) (hO) rfl ?_
    refine g_iremN dX9_turnsBy_149 (by omega) (by omega) (by omega) ?_
    refine g_istore (ls' := [(6, .int (nI ((n - ((f k).1)) % n))), (5, .int (nI 0)), (4, .int (nI k)), (3, .int (nI k)), (0, .ref 98), (1, .int (nI 1)), (2, .int (nI u))]) dX9_turnsBy_150 (Nat.le_of_ble_eq_true rfl) rfl ?_
    refine g_goto 232 dX9_turnsBy_152 (by decide) ?_
    refine g_aload_n dX9_turnsBy_232 4 rfl ?_
    refine g_getf dX9_turnsBy_233 kX9 wfX9_44 (Nat.le_of_ble_eq_true rfl) (hO) rfl ?_
    refine g_iconst (v := nI 3) dX9_turnsBy_236 (by decide +kernel) ?_
    refine g_iload_n dX9_turnsBy_237 3 rfl ?_
    refine g_imulN dX9_turnsBy_238 ?_
    refine g_iload dX9_turnsBy_239 1 rfl ?_
    refine g_iaddN dX9_turnsBy_241 ?_
    refine g_iload dX9_turnsBy_242 0 rfl ?_
    refine g_iasI dX9_turnsBy_244 (hR) (by first | omega | (rw [List.length_set]; omega) | (rw [List.length_set, List.length_set]; omega)) (by omega) (fun h1 e1 => ?_)
    have f1_109 : rd h1 109 = some (.inl ((R).set ((3 * k) + 0) (nI ((n - ((f k).1)) % n)))) := by rw [e1]; exact rd_wr_eq (hR)
    have lf1_109 : ((R).set ((3 * k) + 0) (nI ((n - ((f k).1)) % n))).length = _ := List.length_set.trans lR
    have s1 : Smo 109 (109 + 1) h h1 := by rw [e1]; exact Smo.wr (by omega) (by omega)
    have f1_98 : rd h1 98 = some (.inr (9, [.int (nI n), .int (nI m), .ref 99, .ref 100, .ref 101, .int (nI a), .ref 102, .int (nI de), .ref 103, .ref 104, .ref 105, .int fo, .int as_, .int sm, .int sk, .ref 106, .ref 107, .ref 108, .int z, .ref 109, .ref 110, .ref 111, .int (nI am), .ref 112, .ref 113, .ref 114, .ref 115, .ref 116, .int (nI (bI ib)), .int iN, .int iM, .int iT, .ref 117, .ref 118, .ref 119])) := by rw [s1 _ (by omega)]; exact hO
    have f1_110 : rd h1 110 = some (.inl (B1)) := by rw [s1 _ (by omega)]; exact (show rd h 110 = some (.inl B1) by rw [hS 110 (by omega)]; exact hB)
    refine g_iinc (q := 1) (v := nI (0 + 1)) (ls' := [(5, .int (nI (0 + 1))), (6, .int (nI ((n - ((f k).1)) % n))), (4, .int (nI k)), (3, .int (nI k)), (0, .ref 98), (1, .int (nI 1)), (2, .int (nI u))]) dX9_turnsBy_245 rfl (inc1 _) (Nat.le_of_ble_eq_true rfl) rfl ?_
    refine g_goto 68 dX9_turnsBy_248 (by decide) ?_
    refine g_iload dX9_turnsBy_68 0 rfl ?_
    refine g_iconst (v := nI 3) dX9_turnsBy_70 (by decide +kernel) ?_
    refine g_icmp_geN 251 dX9_turnsBy_71 (by decide) (by omega) (by omega) (fun z => absurd z (by omega)) (fun c71 => ?_)
    refine g_aload_n dX9_turnsBy_74 4 rfl ?_
    refine g_getf dX9_turnsBy_75 kX9 wfX9_47 (Nat.le_of_ble_eq_true rfl) (f1_98) rfl ?_
    refine g_iconst (v := nI 3) dX9_turnsBy_78 (by decide +kernel) ?_
    refine g_iload_n dX9_turnsBy_79 3 rfl ?_
    refine g_imulN dX9_turnsBy_80 ?_
    refine g_iload dX9_turnsBy_81 0 rfl ?_
    refine g_iaddN dX9_turnsBy_83 ?_
    refine g_ialI dX9_turnsBy_84 (f1_110) (by omega) (by omega) ?_
    refine g_top (show (B1).getD ((3 * k) + (0 + 1)) 0 = nI ((f k).2.1) from pR1 vB (show k < m by omega)) ?_
    refine g_istore (ls' := [(6, .int (nI ((f k).2.1))), (5, .int (nI (0 + 1))), (4, .int (nI k)), (3, .int (nI k)), (0, .ref 98), (1, .int (nI 1)), (2, .int (nI u))]) dX9_turnsBy_85 (Nat.le_of_ble_eq_true rfl) rfl ?_
    refine g_iload_n dX9_turnsBy_87 5 rfl ?_
    refine g_tableIn 138 dX9_turnsBy_88 (by decide +kernel) (by decide +kernel) (off := 50) (by decide +kernel) (by decide) ?_
    refine g_aload_n dX9_turnsBy_138 4 rfl ?_
    refine g_getf dX9_turnsBy_139 kX9 wfX9_7 (Nat.le_of_ble_eq_true rfl) (f1_98) rfl ?_
    refine g_iload dX9_turnsBy_142 0 rfl ?_
    refine g_isubN dX9_turnsBy_144 (by omega) ?_
    refine g_aload_n dX9_turnsBy_145 4 rfl ?_
    refine g_getf dX9_turnsBy_146 kX9 wfX9_7 (Nat.le_of_ble_eq_true rfl) (f1_98) rfl ?_
    refine g_iremN dX9_turnsBy_149 (by omega) (by omega) (by omega) ?_
    refine g_istore (ls' := [(6, .int (nI ((n - ((f k).2.1)) % n))), (5, .int (nI (0 + 1))), (4, .int (nI k)), (3, .int (nI k)), (0, .ref 98), (1, .int (nI 1)), (2, .int (nI u))]) dX9_turnsBy_150 (Nat.le_of_ble_eq_true rfl) rfl ?_
    refine g_goto 232 dX9_turnsBy_152 (by decide) ?_
    refine g_aload_n dX9_turnsBy_232 4 rfl ?_
    refine g_getf dX9_turnsBy_233 kX9 wfX9_44 (Nat.le_of_ble_eq_true rfl) (f1_98) rfl ?_
    refine g_iconst (v := nI 3) dX9_turnsBy_236 (by decide +kernel) ?_
    refine g_iload_n dX9_turnsBy_237 3 rfl ?_
    refine g_imulN dX9_turnsBy_238 ?_
    refine g_iload dX9_turnsBy_239 1 rfl ?_
    refine g_iaddN dX9_turnsBy_241 ?_
    refine g_iload dX9_turnsBy_242 0 rfl ?_
    refine g_iasI dX9_turnsBy_244 (f1_109) (by first | omega | (rw [List.length_set]; omega) | (rw [List.length_set, List.length_set]; omega)) (by simp only [List.length_set]; omega) (fun h2 e2 => ?_)
    have f2_109 : rd h2 109 = some (.inl (((R).set ((3 * k) + 0) (nI ((n - ((f k).1)) % n))).set ((3 * k) + (0 + 1)) (nI ((n - ((f k).2.1)) % n)))) := by rw [e2]; exact rd_wr_eq (f1_109)
    have lf2_109 : (((R).set ((3 * k) + 0) (nI ((n - ((f k).1)) % n))).set ((3 * k) + (0 + 1)) (nI ((n - ((f k).2.1)) % n))).length = _ := List.length_set.trans lf1_109
    have s2 : Smo 109 (109 + 1) h1 h2 := by rw [e2]; exact Smo.wr (by omega) (by omega)
    have f2_98 : rd h2 98 = some (.inr (9, [.int (nI n), .int (nI m), .ref 99, .ref 100, .ref 101, .int (nI a), .ref 102, .int (nI de), .ref 103, .ref 104, .ref 105, .int fo, .int as_, .int sm, .int sk, .ref 106, .ref 107, .ref 108, .int z, .ref 109, .ref 110, .ref 111, .int (nI am), .ref 112, .ref 113, .ref 114, .ref 115, .ref 116, .int (nI (bI ib)), .int iN, .int iM, .int iT, .ref 117, .ref 118, .ref 119])) := by rw [s2 _ (by omega)]; exact f1_98
    have f2_110 : rd h2 110 = some (.inl (B1)) := by rw [s2 _ (by omega)]; exact f1_110
    refine g_iinc (q := 1) (v := nI (0 + 1 + 1)) (ls' := [(5, .int (nI (0 + 1 + 1))), (6, .int (nI ((n - ((f k).2.1)) % n))), (4, .int (nI k)), (3, .int (nI k)), (0, .ref 98), (1, .int (nI 1)), (2, .int (nI u))]) dX9_turnsBy_245 rfl (inc1 _) (Nat.le_of_ble_eq_true rfl) rfl ?_
    refine g_goto 68 dX9_turnsBy_248 (by decide) ?_
    refine g_iload dX9_turnsBy_68 0 rfl ?_
    refine g_iconst (v := nI 3) dX9_turnsBy_70 (by decide +kernel) ?_
    refine g_icmp_geN 251 dX9_turnsBy_71 (by decide) (by omega) (by omega) (fun z => absurd z (by omega)) (fun c71 => ?_)
    refine g_aload_n dX9_turnsBy_74 4 rfl ?_
    refine g_getf dX9_turnsBy_75 kX9 wfX9_47 (Nat.le_of_ble_eq_true rfl) (f2_98) rfl ?_
    refine g_iconst (v := nI 3) dX9_turnsBy_78 (by decide +kernel) ?_
    refine g_iload_n dX9_turnsBy_79 3 rfl ?_
    refine g_imulN dX9_turnsBy_80 ?_
    refine g_iload dX9_turnsBy_81 0 rfl ?_
    refine g_iaddN dX9_turnsBy_83 ?_
    refine g_ialI dX9_turnsBy_84 (f2_110) (by omega) (by omega) ?_
    refine g_top (show (B1).getD ((3 * k) + (0 + 1 + 1)) 0 = nI ((f k).2.2) from pR2 vB (show k < m by omega)) ?_
    refine g_istore (ls' := [(6, .int (nI ((f k).2.2))), (5, .int (nI (0 + 1 + 1))), (4, .int (nI k)), (3, .int (nI k)), (0, .ref 98), (1, .int (nI 1)), (2, .int (nI u))]) dX9_turnsBy_85 (Nat.le_of_ble_eq_true rfl) rfl ?_
    refine g_iload_n dX9_turnsBy_87 5 rfl ?_
    refine g_tableIn 138 dX9_turnsBy_88 (by decide +kernel) (by decide +kernel) (off := 50) (by decide +kernel) (by decide) ?_
    refine g_aload_n dX9_turnsBy_138 4 rfl ?_
    refine g_getf dX9_turnsBy_139 kX9 wfX9_7 (Nat.le_of_ble_eq_true rfl) (f2_98) rfl ?_
    refine g_iload dX9_turnsBy_142 0 rfl ?_
    refine g_isubN dX9_turnsBy_144 (by omega) ?_
    refine g_aload_n dX9_turnsBy_145 4 rfl ?_
    refine g_getf dX9_turnsBy_146 kX9 wfX9_7 (Nat.le_of_ble_eq_true rfl) (f2_98) rfl ?_
    refine g_iremN dX9_turnsBy_149 (by omega) (by omega) (by omega) ?_
    refine g_istore (ls' := [(6, .int (nI ((n - ((f k).2.2)) % n))), (5, .int (nI (0 + 1 + 1))), (4, .int (nI k)), (3, .int (nI k)), (0, .ref 98), (1, .int (nI 1)), (2, .int (nI u))]) dX9_turnsBy_150 (Nat.le_of_ble_eq_true rfl) rfl ?_
    refine g_goto 232 dX9_turnsBy_152 (by decide) ?_
    refine g_aload_n dX9_turnsBy_232 4 rfl ?_
    refine g_getf dX9_turnsBy_233 kX9 wfX9_44 (Nat.le_of_ble_eq_true rfl) (f2_98) rfl ?_
    refine g_iconst (v := nI 3) dX9_turnsBy_236 (by decide +kernel) ?_
    refine g_iload_n dX9_turnsBy_237 3 rfl ?_
    refine g_imulN dX9_turnsBy_238 ?_
    refine g_iload dX9_turnsBy_239 1 rfl ?_
    refine g_iaddN dX9_turnsBy_241 ?_
    refine g_iload dX9_turnsBy_242 0 rfl ?_
    refine g_iasI dX9_turnsBy_244 (f2_109) (by first | omega | (rw [List.length_set]; omega) | (rw [List.length_set, List.length_set]; omega)) (by simp only [List.length_set]; omega) (fun h3 e3 => ?_)
    have f3_109 : rd h3 109 = some (.inl ((((R).set ((3 * k) + 0) (nI ((n - ((f k).1)) % n))).set ((3 * k) + (0 + 1)) (nI ((n - ((f k).2.1)) % n))).set ((3 * k) + (0 + 1 + 1)) (nI ((n - ((f k).2.2)) % n)))) := by rw [e3]; exact rd_wr_eq (f2_109)
    have lf3_109 : ((((R).set ((3 * k) + 0) (nI ((n - ((f k).1)) % n))).set ((3 * k) + (0 + 1)) (nI ((n - ((f k).2.1)) % n))).set ((3 * k) + (0 + 1 + 1)) (nI ((n - ((f k).2.2)) % n))).length = _ := List.length_set.trans lf2_109
    have s3 : Smo 109 (109 + 1) h2 h3 := by rw [e3]; exact Smo.wr (by omega) (by omega)
    have f3_98 : rd h3 98 = some (.inr (9, [.int (nI n), .int (nI m), .ref 99, .ref 100, .ref 101, .int (nI a), .ref 102, .int (nI de), .ref 103, .ref 104, .ref 105, .int fo, .int as_, .int sm, .int sk, .ref 106, .ref 107, .ref 108, .int z, .ref 109, .ref 110, .ref 111, .int (nI am), .ref 112, .ref 113, .ref 114, .ref 115, .ref 116, .int (nI (bI ib)), .int iN, .int iM, .int iT, .ref 117, .ref 118, .ref 119])) := by rw [s3 _ (by omega)]; exact f2_98
    have f3_110 : rd h3 110 = some (.inl (B1)) := by rw [s3 _ (by omega)]; exact f2_110
    refine g_iinc (q := 1) (v := nI (0 + 1 + 1 + 1)) (ls' := [(5, .int (nI (0 + 1 + 1 + 1))), (6, .int (nI ((n - ((f k).2.2)) % n))), (4, .int (nI k)), (3, .int (nI k)), (0, .ref 98), (1, .int (nI 1)), (2, .int (nI u))]) dX9_turnsBy_245 rfl (inc1 _) (Nat.le_of_ble_eq_true rfl) rfl ?_
    refine g_goto 68 dX9_turnsBy_248 (by decide) ?_
    refine g_iload dX9_turnsBy_68 0 rfl ?_
    refine g_iconst (v := nI 3) dX9_turnsBy_70 (by decide +kernel) ?_
    refine g_icmp_geN 251 dX9_turnsBy_71 (by decide) (by omega) (by omega) (fun c71 => ?_) (fun z => absurd z (by omega))
    refine g_iinc (q := 3) (v := nI (k + 1)) (ls' := [(3, .int (nI (k + 1))), (5, .int (nI (0 + 1 + 1 + 1))), (6, .int (nI ((n - ((f k).2.2)) % n))), (4, .int (nI k)), (0, .ref 98), (1, .int (nI 1)), (2, .int (nI u))]) dX9_turnsBy_251 rfl (inc1 _) (Nat.le_of_ble_eq_true rfl) rfl ?_
    refine g_goto 17 dX9_turnsBy_254 (by decide) ?_
    refine g_lsub_ (ls2 := [(3, .int (nI (k + 1))), (0, .ref 98), (1, .int (nI 1)), (2, .int (nI u))]) [0, 4, 5, 6] rfl ?_
    refine ih (k + 1) _ _ (by omega) f3_98 (f3_109) (lf3_109) (pR_row vR lR (by omega) ?_ ?_ ?_) (hS.tr (fun q hq => by rw [s3 q (by omega), s2 q (by omega), s1 q (by omega)]))
    · exact rfl
    · exact rfl
    · exact rfl

set_option maxRecDepth 100000 in
set_option maxHeartbeats 4000000 in
theorem ev_tb1 {h : List aC} {n m a de : Nat} {fo as_ sm sk z : Int32} {am : Nat} {ib : Bool} {iN iM iT : Int32} (hO : MO h n m a de fo as_ sm sk z am ib iN iM iT) (n3 : n ≤ 13) (h0n : 0 < n) (hm : m ≤ 6) {Th Be : List Int32} (hT : rd h 109 = some (.inl Th)) (lTh : Th.length = 18) (hB : rd h 110 = some (.inl Be)) (lBe : Be.length = 18) {f : Nat → Pr} (vT : pR Th 0 m f) (hb : bf n m f) (u : Nat) (hu : u ≤ 12) : Ev mX9_turnsBy 2 0 0 [.ref 98, .int (nI 1), .int (nI u)] h (pq none (fun h2 => ∃ T2 B2, MO h2 n m a de fo as_ sm sk z am ib iN iM iT ∧ rd h2 109 = some (.inl T2) ∧ T2.length = 18 ∧ pR T2 0 m (tOne n m 1 u f) ∧ rd h2 110 = some (.inl B2) ∧ B2.length = 18 ∧ Smo 109 111 h h2)) := by
  have hO : rd h 98 = some (.inr (9, [.int (nI n), .int (nI m), .ref 99, .ref 100, .ref 101, .int (nI a), .ref 102, .int (nI de), .ref 103, .ref 104, .ref 105, .int fo, .int as_, .int sm, .int sk, .ref 106, .ref 107, .ref 108, .int z, .ref 109, .ref 110, .ref 111, .int (nI am), .ref 112, .ref 113, .ref 114, .ref 115, .ref 116, .int (nI (bI ib)), .int iN, .int iM, .int iT, .ref 117, .ref 118, .ref 119])) := hO
  refine Ev.of pX9_turnsBy (Nat.le_of_ble_eq_true rfl) ?_
  show G mX9_turnsBy (rmD 2 0 0) none _ 0 0 0 [(0, .ref 98), (1, .int (nI 1)), (2, .int (nI u))] [] h
  refine g_aload_n dX9_turnsBy_0 0 rfl ?_
  refine g_getf dX9_turnsBy_1 kX9 wfX9_44 (Nat.le_of_ble_eq_true rfl) (hO) rfl ?_
  refine g_iconst (v := nI 0) dX9_turnsBy_4 (by decide +kernel) ?_
  refine g_aload_n dX9_turnsBy_5 0 rfl ?_
  refine g_getf dX9_turnsBy_6 kX9 wfX9_47 (Nat.le_of_ble_eq_true rfl) (hO) rfl ?_
  refine g_iconst (v := nI 0) dX9_turnsBy_9 (by decide +kernel) ?_
  refine g_bipush (v := nI 18) dX9_turnsBy_10 (by decide +kernel) ?_
  have la1 : (Th).length = 18 := lTh
  have lb1 : (Be).length = 18 := lBe
  refine g_callSq (st1 := []) dX9_turnsBy_12 (ev_mlays (a := 0) (b := 0) (s := 18) (show 109 ≠ 110 by decide) (by omega) (by omega) ⟨by omega, by omega⟩ (hT) (hB)) oX9_lays wsX9_lays wmX9_83 rfl ⟨(Nat.le_of_ble_eq_true rfl), (Nat.le_of_ble_eq_true rfl)⟩ ⟨Nat.zero_le _, Nat.zero_le _⟩ (Nat.le_of_ble_eq_true rfl) rfl rfl (fun h2 q2 => ?_)
  obtain ⟨q2a, q2s⟩ := q2
  have f2_98 : rd h2 98 = some (.inr (9, [.int (nI n), .int (nI m), .ref 99, .ref 100, .ref 101, .int (nI a), .ref 102, .int (nI de), .ref 103, .ref 104, .ref 105, .int fo, .int as_, .int sm, .int sk, .ref 106, .ref 107, .ref 108, .int z, .ref 109, .ref 110, .ref 111, .int (nI am), .ref 112, .ref 113, .ref 114, .ref 115, .ref 116, .int (nI (bI ib)), .int iN, .int iM, .int iT, .ref 117, .ref 118, .ref 119])) := by rw [q2s _ (by omega)]; exact hO
  have f2_109 : rd h2 109 = some (.inl (Th)) := by rw [q2s _ (by omega)]; exact hT
  refine g_iconst (v := nI 0) dX9_turnsBy_15 (by decide +kernel) ?_
  refine g_istore_n (ls' := [(3, .int (nI 0)), (0, .ref 98), (1, .int (nI 1)), (2, .int (nI u))]) dX9_turnsBy_16 (Nat.le_of_ble_eq_true rfl) rfl ?_
  refine lp_tb1 n3 h0n hm (show rd h2 110 = some (.inl (cpL Th 0 Be 0 18)) from q2a) ((cpL_len _ _ _ _ _).trans lBe) (pR_cp vT lBe lTh hm) hb hu (fun R9 h9 o9 y9 l9 v9 s9 => ?_) m 0 _ _ (by omega) f2_98 (f2_109) lTh (fun j hj => absurd hj (Nat.not_lt_zero j)) Smo.rf
  have f9_110 : rd h9 110 = some (.inl (cpL (Th) 0 (Be) 0 18)) := by rw [s9 _ (by omega)]; exact q2a
  exact g_vret dX9_turnsBy_257 rfl ⟨Nat.zero_le _, Nat.zero_le _⟩ (⟨rfl, _, _, o9, y9, l9, v9, f9_110, ((cpL_len _ _ _ _ _).trans lb1), (fun q hq => by rw [s9 q (by omega), q2s q (by omega)])⟩)

set_option maxRecDepth 100000 in
set_option maxHeartbeats 4000000 in
theorem lp_tb2 {h0 : List aC} {P : Option Value → List aC → Prop} {n m a de : Nat} {fo as_ sm sk z : Int32} {am : Nat} {ib : Bool} {iN iM iT : Int32} (n3 : n ≤ 13) (h0n : 0 < n) (hm : m ≤ 6) {B1 : List Int32} (hB : rd h0 110 = some (.inl B1)) (lB : B1.length = 18) {f : Nat → Pr} (vB : pR B1 0 m f) (hb : bf n m f) {u : Nat} (hu : u ≤ 12) (K : ∀ R h', MO h' n m a de fo as_ sm sk z am ib iN iM iT → rd h' 109 = some (.inl R) → R.length = 18 → pR R 0 m (tOne n m 2 u f) → Smo 109 110 h0 h' → G mX9_turnsBy (rmD 2 0 0) none P 0 0 257 [(0, .ref 98), (1, .int (nI 2)), (2, .int (nI u)), (3, .int (nI m))] [] h') : ∀ j k (h : List aC) (R : List Int32), k + j = m → MO h n m a de fo as_ sm sk z am ib iN iM iT → rd h 109 = some (.inl R) → R.length = 18 → pR R 0 k (tOne n m 2 u f) → Smo 109 110 h0 h → G mX9_turnsBy (rmD 2 0 0) none P 0 0 17 [(3, .int (nI k)), (0, .ref 98), (1, .int (nI 2)), (2, .int (nI u))] [] h := by
  intro j
  induction j with
  | zero =>
    intro k h R hk hO hR lR vR hS
    have hO : rd h 98 = some (.inr (9, [.int (nI n), .int (nI m), .ref 99, .ref 100, .ref 101, .int (nI a), .ref 102, .int (nI de), .ref 103, .ref 104, .ref 105, .int fo, .int as_, .int sm, .int sk, .ref 106, .ref 107, .ref 108, .int z, .ref 109, .ref 110, .ref 111, .int (nI am), .ref 112, .ref 113, .ref 114, .ref 115, .ref 116, .int (nI (bI ib)), .int iN, .int iM, .int iT, .ref 117, .ref 118, .ref 119])) := hO
    refine g_iload_n dX9_turnsBy_17 0 rfl ?_
    refine g_aload_n dX9_turnsBy_18 1 rfl ?_
    refine g_getf dX9_turnsBy_19 kX9 wfX9_87 (Nat.le_of_ble_eq_true rfl) (hO) rfl ?_
    refine g_icmp_geN 257 dX9_turnsBy_22 (by decide) (by omega) (by omega) (fun c22 => ?_) (fun z => absurd z (by omega))
    refine g_lsub_ (ls2 := [(0, .ref 98), (1, .int (nI 2)), (2, .int (nI u)), (3, .int (nI k))]) [1, 2, 3, 0] rfl ?_
    have ek : k = m := by omega
    subst ek
    exact K _ _ hO hR lR vR hS
  | succ j ih =>
    intro k h R hk hO hR lR vR hS
    have hO : rd h 98 = some (.inr (9, [.int (nI n), .int (nI m), .ref 99, .ref 100, .ref 101, .int (nI a), .ref 102, .int (nI de), .ref 103, .ref 104, .ref 105, .int fo, .int as_, .int sm, .int sk, .ref 106, .ref 107, .ref 108, .int z, .ref 109, .ref 110, .ref 111, .int (nI am), .ref 112, .ref 113, .ref 114, .ref 115, .ref 116, .int (nI (bI ib)), .int iN, .int iM, .int iT, .ref 117, .ref 118, .ref 119])) := hO
    obtain ⟨b1, b2, b3⟩ := hb k (by omega)
    refine g_iload_n dX9_turnsBy_17 0 rfl ?_
    refine g_aload_n dX9_turnsBy_18 1 rfl ?_
    refine g_getf dX9_turnsBy_19 kX9 wfX9_87 (Nat.le_of_ble_eq_true rfl) (hO) rfl ?_
    refine g_icmp_geN 257 dX9_turnsBy_22 (by decide) (by omega) (by omega) (fun z => absurd z (by omega)) (fun c22 => ?_)
    refine g_iload_n dX9_turnsBy_25 2 rfl ?_
    refine g_iconst (v := nI 2) dX9_turnsBy_26 (by decide +kernel) ?_
    refine g_icmp_neN 41 dX9_turnsBy_27 (by decide) (by omega) (by omega) (fun z => absurd z (by omega)) (fun c27 => ?_)
    refine g_aload_n dX9_turnsBy_30 1 rfl ?_
    refine g_getf dX9_turnsBy_31 kX9 wfX9_87 (Nat.le_of_ble_eq_true rfl) (hO) rfl ?_
    refine g_iconst (v := nI 1) dX9_turnsBy_34 (by decide +kernel) ?_
    refine g_isubN dX9_turnsBy_35 (by omega) ?_
    refine g_iload_n dX9_turnsBy_36 0 rfl ?_
    refine g_isubN dX9_turnsBy_37 (by omega) ?_
    refine g_goto 63 dX9_turnsBy_38 (by decide) ?_
    refine g_istore (ls' := [(4, .int (nI ((m - 1) - k))), (3, .int (nI k)), (0, .ref 98), (1, .int (nI 2)), (2, .int (nI u))]) dX9_turnsBy_63 (Nat.le_of_ble_eq_true rfl) rfl ?_
    refine g_iconst (v := nI 0) dX9_turnsBy_65 (by decide +kernel) ?_
    refine g_istore (ls' := [(5, .int (nI 0)), (4, .int (nI ((m - 1) - k))), (3, .int (nI k)), (0, .ref 98), (1, .int (nI 2)), (2, .int (nI u))]) dX9_turnsBy_66 (Nat.le_of_ble_eq_true rfl) rfl ?_
    refine g_iload dX9_turnsBy_68 0 rfl ?_
    refine g_iconst (v := nI 3) dX9_turnsBy_70 (by decide +kernel) ?_
    refine g_icmp_geN 251 dX9_turnsBy_71 (by decide) (by omega) (by omega) (fun z => absurd z (by omega)) (fun c71 => ?_)
    refine g_aload_n dX9_turnsBy_74 3 rfl ?_
    refine g_getf dX9_turnsBy_75 kX9 wfX9_47 (Nat.le_of_ble_eq_true rfl) (hO) rfl ?_
    refine g_iconst (v := nI 3) dX9_turnsBy_78 (by decide +kernel) ?_
    refine g_iload_n dX9_turnsBy_79 2 rfl ?_
    refine g_imulN dX9_turnsBy_80 ?_
    refine g_iload dX9_turnsBy_81 0 rfl ?_
    refine g_iaddN dX9_turnsBy_83 ?_
    refine g_ialI dX9_turnsBy_84 ((show rd h 110 = some (.inl B1) by rw [hS 110 (by omega)]; exact hB)) (by omega) (by omega) ?_
    refine g_top (show (B1).getD ((3 * k) + 0) 0 = nI ((f k).1) from pR0 vB (show k < m by omega)) ?_
    refine g_istore (ls' := [(6, .int (nI ((f k).1))), (5, .int (nI 0)), (4, .int (nI ((m - 1) - k))), (3, .int (nI k)), (0, .ref 98), (1, .int (nI 2)), (2, .int (nI u))]) dX9_turnsBy_85 (Nat.le_of_ble_eq_true rfl) rfl ?_
    refine g_iload_n dX9_turnsBy_87 5 rfl ?_
    refine g_tableIn 155 dX9_turnsBy_88 (by decide +kernel) (by decide +kernel) (off := 67) (by decide +kernel) (by decide) ?_
    refine g_aload_n dX9_turnsBy_155 4 rfl ?_
    refine g_getf dX9_turnsBy_156 kX9 wfX9_47 (Nat.le_of_ble_eq_true rfl) (hO) rfl ?_
    refine g_iconst (v := nI 3) dX9_turnsBy_159 (by decide +kernel) ?_
    refine g_iload dX9_turnsBy_160 2 rfl ?_
    refine g_imulN dX9_turnsBy_162 ?_
    refine g_iload dX9_turnsBy_163 1 rfl ?_
    refine g_iaddN dX9_turnsBy_165 ?_
    refine g_ialI dX9_turnsBy_166 ((show rd h 110 = some (.inl B1) by rw [hS 110 (by omega)]; exact hB)) (by omega) (by omega) ?_
    refine g_top (show (B1).getD ((3 * ((m - 1) - k)) + 0) 0 = nI ((f (m - 1 - k)).1) from pR0 vB (show m - 1 - k < m by omega)) ?_
    refine g_istore (ls' := [(6, .int (nI ((f (m - 1 - k)).1))), (5, .int (nI 0)), (4, .int (nI ((m - 1) - k))), (3, .int (nI k)), (0, .ref 98), (1, .int (nI 2)), (2, .int (nI u))]) dX9_turnsBy_167 (Nat.le_of_ble_eq_true rfl) rfl ?_
    refine g_goto 232 dX9_turnsBy_169 (by decide) ?_
    refine g_aload_n dX9_turnsBy_232 4 rfl ?_
    refine g_getf dX9_turnsBy_233 kX9 wfX9_44 (Nat.le_of_ble_eq_true rfl) (hO) rfl ?_
    refine g_iconst (v := nI 3) dX9_turnsBy_236 (by decide +kernel) ?_
    refine g_iload_n dX9_turnsBy_237 3 rfl ?_
    refine g_imulN dX9_turnsBy_238 ?_
    refine g_iload dX9_turnsBy_239 1 rfl ?_
    refine g_iaddN dX9_turnsBy_241 ?_
    refine g_iload dX9_turnsBy_242 0 rfl ?_
    refine g_iasI dX9_turnsBy_244 (hR) (by first | omega | (rw [List.length_set]; omega) | (rw [List.length_set, List.length_set]; omega)) (by omega) (fun h1 e1 => ?_)
    have f1_109 : rd h1 109 = some (.inl ((R).set ((3 * k) + 0) (nI ((f (m - 1 - k)).1)))) := by rw [e1]; exact rd_wr_eq (hR)
    have lf1_109 : ((R).set ((3 * k) + 0) (nI ((f (m - 1 - k)).1))).length = _ := List.length_set.trans lR
    have s1 : Smo 109 (109 + 1) h h1 := by rw [e1]; exact Smo.wr (by omega) (by omega)
    have f1_98 : rd h1 98 = some (.inr (9, [.int (nI n), .int (nI m), .ref 99, .ref 100, .ref 101, .int (nI a), .ref 102, .int (nI de), .ref 103, .ref 104, .ref 105, .int fo, .int as_, .int sm, .int sk, .ref 106, .ref 107, .ref 108, .int z, .ref 109, .ref 110, .ref 111, .int (nI am), .ref 112, .ref 113, .ref 114, .ref 115, .ref 116, .int (nI (bI ib)), .int iN, .int iM, .int iT, .ref 117, .ref 118, .ref 119])) := by rw [s1 _ (by omega)]; exact hO
    have f1_110 : rd h1 110 = some (.inl (B1)) := by rw [s1 _ (by omega)]; exact (show rd h 110 = some (.inl B1) by rw [hS 110 (by omega)]; exact hB)
    refine g_iinc (q := 1) (v := nI (0 + 1)) (ls' := [(5, .int (nI (0 + 1))), (6, .int (nI ((f (m - 1 - k)).1))), (4, .int (nI ((m - 1) - k))), (3, .int (nI k)), (0, .ref 98), (1, .int (nI 2)), (2, .int (nI u))]) dX9_turnsBy_245 rfl (inc1 _) (Nat.le_of_ble_eq_true rfl) rfl ?_
    refine g_goto 68 dX9_turnsBy_248 (by decide) ?_
    refine g_iload dX9_turnsBy_68 0 rfl ?_
    refine g_iconst (v := nI 3) dX9_turnsBy_70 (by decide +kernel) ?_
    refine g_icmp_geN 251 dX9_turnsBy_71 (by decide) (by omega) (by omega) (fun z => absurd z (by omega)) (fun c71 => ?_)
    refine g_aload_n dX9_turnsBy_74 4 rfl ?_
    refine g_getf dX9_turnsBy_75 kX9 wfX9_47 (Nat.le_of_ble_eq_true rfl) (f1_98) rfl ?_
    refine g_iconst (v := nI 3) dX9_turnsBy_78 (by decide +kernel) ?_
    refine g_iload_n dX9_turnsBy_79 3 rfl ?_
    refine g_imulN dX9_turnsBy_80 ?_
    refine g_iload dX9_turnsBy_81 0 rfl ?_
    refine g_iaddN dX9_turnsBy_83 ?_
    refine g_ialI dX9_turnsBy_84 (f1_110) (by omega) (by omega) ?_
    refine g_top (show (B1).getD ((3 * k) + (0 + 1)) 0 = nI ((f k).2.1) from pR1 vB (show k < m by omega)) ?_
    refine g_istore (ls' := [(6, .int (nI ((f k).2.1))), (5, .int (nI (0 + 1))), (4, .int (nI ((m - 1) - k))), (3, .int (nI k)), (0, .ref 98), (1, .int (nI 2)), (2, .int (nI u))]) dX9_turnsBy_85 (Nat.le_of_ble_eq_true rfl) rfl ?_
    refine g_iload_n dX9_turnsBy_87 5 rfl ?_
    refine g_tableIn 155 dX9_turnsBy_88 (by decide +kernel) (by decide +kernel) (off := 67) (by decide +kernel) (by decide) ?_
    refine g_aload_n dX9_turnsBy_155 4 rfl ?_
    refine g_getf dX9_turnsBy_156 kX9 wfX9_47 (Nat.le_of_ble_eq_true rfl) (f1_98) rfl ?_
    refine g_iconst (v := nI 3) dX9_turnsBy_159 (by decide +kernel) ?_
    refine g_iload dX9_turnsBy_160 2 rfl ?_
    refine g_imulN dX9_turnsBy_162 ?_
    refine g_iload dX9_turnsBy_163 1 rfl ?_
    refine g_iaddN dX9_turnsBy_165 ?_
    refine g_ialI dX9_turnsBy_166 (f1_110) (by omega) (by omega) ?_
    refine g_top (show (B1).getD ((3 * ((m - 1) - k)) + (0 + 1)) 0 = nI ((f (m - 1 - k)).2.1) from pR1 vB (show m - 1 - k < m by omega)) ?_
    refine g_istore (ls' := [(6, .int (nI ((f (m - 1 - k)).2.1))), (5, .int (nI (0 + 1))), (4, .int (nI ((m - 1) - k))), (3, .int (nI k)), (0, .ref 98), (1, .int (nI 2)), (2, .int (nI u))]) dX9_turnsBy_167 (Nat.le_of_ble_eq_true rfl) rfl ?_
    refine g_goto 232 dX9_turnsBy_169 (by decide) ?_
    refine g_aload_n dX9_turnsBy_232 4 rfl ?_
    refine g_getf dX9_turnsBy_233 kX9 wfX9_44 (Nat.le_of_ble_eq_true rfl) (f1_98) rfl ?_
    refine g_iconst (v := nI 3) dX9_turnsBy_236 (by decide +kernel) ?_
    refine g_iload_n dX9_turnsBy_237 3 rfl ?_
    refine g_imulN dX9_turnsBy_238 ?_
    refine g_iload dX9_turnsBy_239 1 rfl ?_
    refine g_iaddN dX9_turnsBy_241 ?_
    refine g_iload dX9_turnsBy_242 0 rfl ?_
    refine g_iasI dX9_turnsBy_244 (f1_109) (by first | omega | (rw [List.length_set]; omega) | (rw [List.length_set, List.length_set]; omega)) (by simp only [List.length_set]; omega) (fun h2 e2 => ?_)
    have f2_109 : rd h2 109 = some (.inl (((R).set ((3 * k) + 0) (nI ((f (m - 1 - k)).1))).set ((3 * k) + (0 + 1)) (nI ((f (m - 1 - k)).2.1)))) := by rw [e2]; exact rd_wr_eq (f1_109)
    have lf2_109 : (((R).set ((3 * k) + 0) (nI ((f (m - 1 - k)).1))).set ((3 * k) + (0 + 1)) (nI ((f (m - 1 - k)).2.1))).length = _ := List.length_set.trans lf1_109
    have s2 : Smo 109 (109 + 1) h1 h2 := by rw [e2]; exact Smo.wr (by omega) (by omega)
    have f2_98 : rd h2 98 = some (.inr (9, [.int (nI n), .int (nI m), .ref 99, .ref 100, .ref 101, .int (nI a), .ref 102, .int (nI de), .ref 103, .ref 104, .ref 105, .int fo, .int as_, .int sm, .int sk, .ref 106, .ref 107, .ref 108, .int z, .ref 109, .ref 110, .ref 111, .int (nI am), .ref 112, .ref 113, .ref 114, .ref 115, .ref 116, .int (nI (bI ib)), .int iN, .int iM, .int iT, .ref 117, .ref 118, .ref 119])) := by rw [s2 _ (by omega)]; exact f1_98
    have f2_110 : rd h2 110 = some (.inl (B1)) := by rw [s2 _ (by omega)]; exact f1_110
    refine g_iinc (q := 1) (v := nI (0 + 1 + 1)) (ls' := [(5, .int (nI (0 + 1 + 1))), (6, .int (nI ((f (m - 1 - k)).2.1))), (4, .int (nI ((m - 1) - k))), (3, .int (nI k)), (0, .ref 98), (1, .int (nI 2)), (2, .int (nI u))]) dX9_turnsBy_245 rfl (inc1 _) (Nat.le_of_ble_eq_true rfl) rfl ?_
    refine g_goto 68 dX9_turnsBy_248 (by decide) ?_
    refine g_iload dX9_turnsBy_68 0 rfl ?_
    refine g_iconst (v := nI 3) dX9_turnsBy_70 (by decide +kernel) ?_
    refine g_icmp_geN 251 dX9_turnsBy_71 (by decide) (by omega) (by omega) (fun z => absurd z (by omega)) (fun c71 => ?_)
    refine g_aload_n dX9_turnsBy_74 4 rfl ?_
    refine g_getf dX9_turnsBy_75 kX9 wfX9_47 (Nat.le_of_ble_eq_true rfl) (f2_98) rfl ?_
    refine g_iconst (v := nI 3) dX9_turnsBy_78 (by decide +kernel) ?_
    refine g_iload_n dX9_turnsBy_79 3 rfl ?_
    refine g_imulN dX9_turnsBy_80 ?_
    refine g_iload dX9_turnsBy_81 0 rfl ?_
    refine g_iaddN dX9_turnsBy_83 ?_
    refine g_ialI dX9_turnsBy_84 (f2_110) (by omega) (by omega) ?_
    refine g_top (show (B1).getD ((3 * k) + (0 + 1 + 1)) 0 = nI ((f k).2.2) from pR2 vB (show k < m by omega)) ?_
    refine g_istore (ls' := [(6, .int (nI ((f k).2.2))), (5, .int (nI (0 + 1 + 1))), (4, .int (nI ((m - 1) - k))), (3, .int (nI k)), (0, .ref 98), (1, .int (nI 2)), (2, .int (nI u))]) dX9_turnsBy_85 (Nat.le_of_ble_eq_true rfl) rfl ?_
    refine g_iload_n dX9_turnsBy_87 5 rfl ?_
    refine g_tableIn 155 dX9_turnsBy_88 (by decide +kernel) (by decide +kernel) (off := 67) (by decide +kernel) (by decide) ?_
    refine g_aload_n dX9_turnsBy_155 4 rfl ?_
    refine g_getf dX9_turnsBy_156 kX9 wfX9_47 (Nat.le_of_ble_eq_true rfl) (f2_98) rfl ?_
    refine g_iconst (v := nI 3) dX9_turnsBy_159 (by decide +kernel) ?_
    refine g_iload dX9_turnsBy_160 2 rfl ?_
    refine g_imulN dX9_turnsBy_162 ?_
    refine g_iload dX9_turnsBy_163 1 rfl ?_
    refine g_iaddN dX9_turnsBy_165 ?_
    refine g_ialI dX9_turnsBy_166 (f2_110) (by omega) (by omega) ?_
    refine g_top (show (B1).getD ((3 * ((m - 1) - k)) + (0 + 1 + 1)) 0 = nI ((f (m - 1 - k)).2.2) from pR2 vB (show m - 1 - k < m by omega)) ?_
    refine g_istore (ls' := [(6, .int (nI ((f (m - 1 - k)).2.2))), (5, .int (nI (0 + 1 + 1))), (4, .int (nI ((m - 1) - k))), (3, .int (nI k)), (0, .ref 98), (1, .int (nI 2)), (2, .int (nI u))]) dX9_turnsBy_167 (Nat.le_of_ble_eq_true rfl) rfl ?_
    refine g_goto 232 dX9_turnsBy_169 (by decide) ?_
    refine g_aload_n dX9_turnsBy_232 4 rfl ?_
    refine g_getf dX9_turnsBy_233 kX9 wfX9_44 (Nat.le_of_ble_eq_true rfl) (f2_98) rfl ?_
    refine g_iconst (v := nI 3) dX9_turnsBy_236 (by decide +kernel) ?_
    refine g_iload_n dX9_turnsBy_237 3 rfl ?_
    refine g_imulN dX9_turnsBy_238 ?_
    refine g_iload dX9_turnsBy_239 1 rfl ?_
    refine g_iaddN dX9_turnsBy_241 ?_
    refine g_iload dX9_turnsBy_242 0 rfl ?_
    refine g_iasI dX9_turnsBy_244 (f2_109) (by first | omega | (rw [List.length_set]; omega) | (rw [List.length_set, List.length_set]; omega)) (by simp only [List.length_set]; omega) (fun h3 e3 => ?_)
    have f3_109 : rd h3 109 = some (.inl ((((R).set ((3 * k) + 0) (nI ((f (m - 1 - k)).1))).set ((3 * k) + (0 + 1)) (nI ((f (m - 1 - k)).2.1))).set ((3 * k) + (0 + 1 + 1)) (nI ((f (m - 1 - k)).2.2)))) := by rw [e3]; exact rd_wr_eq (f2_109)
    have lf3_109 : ((((R).set ((3 * k) + 0) (nI ((f (m - 1 - k)).1))).set ((3 * k) + (0 + 1)) (nI ((f (m - 1 - k)).2.1))).set ((3 * k) + (0 + 1 + 1)) (nI ((f (m - 1 - k)).2.2))).length = _ := List.length_set.trans lf2_109
    have s3 : Smo 109 (109 + 1) h2 h3 := by rw [e3]; exact Smo.wr (by omega) (by omega)
    have f3_98 : rd h3 98 = some (.inr (9, [.int (nI n), .int (nI m), .ref 99, .ref 100, .ref 101, .int (nI a), .ref 102, .int (nI de), .ref 103, .ref 104, .ref 105, .int fo, .int as_, .int sm, .int sk, .ref 106, .ref 107, .ref 108, .int z, .ref 109, .ref 110, .ref 111, .int (nI am), .ref 112, .ref 113, .ref 114, .ref 115, .ref 116, .int (nI (bI ib)), .int iN, .int iM, .int iT, .ref 117, .ref 118, .ref 119])) := by rw [s3 _ (by omega)]; exact f2_98
    have f3_110 : rd h3 110 = some (.inl (B1)) := by rw [s3 _ (by omega)]; exact f2_110
    refine g_iinc (q := 1) (v := nI (0 + 1 + 1 + 1)) (ls' := [(5, .int (nI (0 + 1 + 1 + 1))), (6, .int (nI ((f (m - 1 - k)).2.2))), (4, .int (nI ((m - 1) - k))), (3, .int (nI k)), (0, .ref 98), (1, .int (nI 2)), (2, .int (nI u))]) dX9_turnsBy_245 rfl (inc1 _) (Nat.le_of_ble_eq_true rfl) rfl ?_
    refine g_goto 68 dX9_turnsBy_248 (by decide) ?_
    refine g_iload dX9_turnsBy_68 0 rfl ?_
    refine g_iconst (v := nI 3) dX9_turnsBy_70 (by decide +kernel) ?_
    refine g_icmp_geN 251 dX9_turnsBy_71 (by decide) (by omega) (by omega) (fun c71 => ?_) (fun z => absurd z (by omega))
    refine g_iinc (q := 3) (v := nI (k + 1)) (ls' := [(3, .int (nI (k + 1))), (5, .int (nI (0 + 1 + 1 + 1))), (6, .int (nI ((f (m - 1 - k)).2.2))), (4, .int (nI ((m - 1) - k))), (0, .ref 98), (1, .int (nI 2)), (2, .int (nI u))]) dX9_turnsBy_251 rfl (inc1 _) (Nat.le_of_ble_eq_true rfl) rfl ?_
    refine g_goto 17 dX9_turnsBy_254 (by decide) ?_
    refine g_lsub_ (ls2 := [(3, .int (nI (k + 1))), (0, .ref 98), (1, .int (nI 2)), (2, .int (nI u))]) [0, 4, 5, 6] rfl ?_
    refine ih (k + 1) _ _ (by omega) f3_98 (f3_109) (lf3_109) (pR_row vR lR (by omega) ?_ ?_ ?_) (hS.tr (fun q hq => by rw [s3 q (by omega), s2 q (by omega), s1 q (by omega)]))
    · exact rfl
    · exact rfl
    · exact rfl

set_option maxRecDepth 100000 in
set_option maxHeartbeats 4000000 in
theorem ev_tb2 {h : List aC} {n m a de : Nat} {fo as_ sm sk z : Int32} {am : Nat} {ib : Bool} {iN iM iT : Int32} (hO : MO h n m a de fo as_ sm sk z am ib iN iM iT) (n3 : n ≤ 13) (h0n : 0 < n) (hm : m ≤ 6) {Th Be : List Int32} (hT : rd h 109 = some (.inl Th)) (lTh : Th.length = 18) (hB : rd h 110 = some (.inl Be)) (lBe : Be.length = 18) {f : Nat → Pr} (vT : pR Th 0 m f) (hb : bf n m f) (u : Nat) (hu : u ≤ 12) : Ev mX9_turnsBy 2 0 0 [.ref 98, .int (nI 2), .int (nI u)] h (pq none (fun h2 => ∃ T2 B2, MO h2 n m a de fo as_ sm sk z am ib iN iM iT ∧ rd h2 109 = some (.inl T2) ∧ T2.length = 18 ∧ pR T2 0 m (tOne n m 2 u f) ∧ rd h2 110 = some (.inl B2) ∧ B2.length = 18 ∧ Smo 109 111 h h2)) := by
  have hO : rd h 98 = some (.inr (9, [.int (nI n), .int (nI m), .ref 99, .ref 100, .ref 101, .int (nI a), .ref 102, .int (nI de), .ref 103, .ref 104, .ref 105, .int fo, .int as_, .int sm, .int sk, .ref 106, .ref 107, .ref 108, .int z, .ref 109, .ref 110, .ref 111, .int (nI am), .ref 112, .ref 113, .ref 114, .ref 115, .ref 116, .int (nI (bI ib)), .int iN, .int iM, .int iT, .ref 117, .ref 118, .ref 119])) := hO
  refine Ev.of pX9_turnsBy (Nat.le_of_ble_eq_true rfl) ?_
  show G mX9_turnsBy (rmD 2 0 0) none _ 0 0 0 [(0, .ref 98), (1, .int (nI 2)), (2, .int (nI u))] [] h
  refine g_aload_n dX9_turnsBy_0 0 rfl ?_
  refine g_getf dX9_turnsBy_1 kX9 wfX9_44 (Nat.le_of_ble_eq_true rfl) (hO) rfl ?_
  refine g_iconst (v := nI 0) dX9_turnsBy_4 (by decide +kernel) ?_
  refine g_aload_n dX9_turnsBy_5 0 rfl ?_
  refine g_getf dX9_turnsBy_6 kX9 wfX9_47 (Nat.le_of_ble_eq_true rfl) (hO) rfl ?_
  refine g_iconst (v := nI 0) dX9_turnsBy_9 (by decide +kernel) ?_
  refine g_bipush (v := nI 18) dX9_turnsBy_10 (by decide +kernel) ?_
  have la1 : (Th).length = 18 := lTh
  have lb1 : (Be).length = 18 := lBe
  refine g_callSq (st1 := []) dX9_turnsBy_12 (ev_mlays (a := 0) (b := 0) (s := 18) (show 109 ≠ 110 by decide) (by omega) (by omega) ⟨by omega, by omega⟩ (hT) (hB)) oX9_lays wsX9_lays wmX9_83 rfl ⟨(Nat.le_of_ble_eq_true rfl), (Nat.le_of_ble_eq_true rfl)⟩ ⟨Nat.zero_le _, Nat.zero_le _⟩ (Nat.le_of_ble_eq_true rfl) rfl rfl (fun h2 q2 => ?_)
  obtain ⟨q2a, q2s⟩ := q2
  have f2_98 : rd h2 98 = some (.inr (9, [.int (nI n), .int (nI m), .ref 99, .ref 100, .ref 101, .int (nI a), .ref 102, .int (nI de), .ref 103, .ref 104, .ref 105, .int fo, .int as_, .int sm, .int sk, .ref 106, .ref 107, .ref 108, .int z, .ref 109, .ref 110, .ref 111, .int (nI am), .ref 112, .ref 113, .ref 114, .ref 115, .ref 116, .int (nI (bI ib)), .int iN, .int iM, .int iT, .ref 117, .ref 118, .ref 119])) := by rw [q2s _ (by omega)]; exact hO
  have f2_109 : rd h2 109 = some (.inl (Th)) := by rw [q2s _ (by omega)]; exact hT
  refine g_iconst (v := nI 0) dX9_turnsBy_15 (by decide +kernel) ?_
  refine g_istore_n (ls' := [(3, .int (nI 0)), (0, .ref 98), (1, .int (nI 2)), (2, .int (nI u))]) dX9_turnsBy_16 (Nat.le_of_ble_eq_true rfl) rfl ?_
  refine lp_tb2 n3 h0n hm (show rd h2 110 = some (.inl (cpL Th 0 Be 0 18)) from q2a) ((cpL_len _ _ _ _ _).trans lBe) (pR_cp vT lBe lTh hm) hb hu (fun R9 h9 o9 y9 l9 v9 s9 => ?_) m 0 _ _ (by omega) f2_98 (f2_109) lTh (fun j hj => absurd hj (Nat.not_lt_zero j)) Smo.rf
  have f9_110 : rd h9 110 = some (.inl (cpL (Th) 0 (Be) 0 18)) := by rw [s9 _ (by omega)]; exact q2a
  exact g_vret dX9_turnsBy_257 rfl ⟨Nat.zero_le _, Nat.zero_le _⟩ (⟨rfl, _, _, o9, y9, l9, v9, f9_110, ((cpL_len _ _ _ _ _).trans lb1), (fun q hq => by rw [s9 q (by omega), q2s q (by omega)])⟩)

set_option maxRecDepth 100000 in
set_option maxHeartbeats 4000000 in
theorem lp_tb3 {h0 : List aC} {P : Option Value → List aC → Prop} {n m a de : Nat} {fo as_ sm sk z : Int32} {am : Nat} {ib : Bool} {iN iM iT : Int32} (n3 : n ≤ 13) (h0n : 0 < n) (hm : m ≤ 6) {B1 : List Int32} (hB : rd h0 110 = some (.inl B1)) (lB : B1.length = 18) {f : Nat → Pr} (vB : pR B1 0 m f) (hb : bf n m f) {u : Nat} (hu : u ≤ 12) (K : ∀ R h', MO h' n m a de fo as_ sm sk z am ib iN iM iT → rd h' 109 = some (.inl R) → R.length = 18 → pR R 0 m (tOne n m 3 u f) → Smo 109 110 h0 h' → G mX9_turnsBy (rmD 2 0 0) none P 0 0 257 [(0, .ref 98), (1, .int (nI 3)), (2, .int (nI u)), (3, .int (nI m))] [] h') : ∀ j k (h : List aC) (R : List Int32), k + j = m → MO h n m a de fo as_ sm sk z am ib iN iM iT → rd h 109 = some (.inl R) → R.length = 18 → pR R 0 k (tOne n m 3 u f) → Smo 109 110 h0 h → G mX9_turnsBy (rmD 2 0 0) none P 0 0 17 [(3, .int (nI k)), (0, .ref 98), (1, .int (nI 3)), (2, .int (nI u))] [] h := by
  intro j
  induction j with
  | zero =>
    intro k h R hk hO hR lR vR hS
    have hO : rd h 98 = some (.inr (9, [.int (nI n), .int (nI m), .ref 99, .ref 100, .ref 101, .int (nI a), .ref 102, .int (nI de), .ref 103, .ref 104, .ref 105, .int fo, .int as_, .int sm, .int sk, .ref 106, .ref 107, .ref 108, .int z, .ref 109, .ref 110, .ref 111, .int (nI am), .ref 112, .ref 113, .ref 114, .ref 115, .ref 116, .int (nI (bI ib)), .int iN, .int iM, .int iT, .ref 117, .ref 118, .ref 119])) := hO
    refine g_iload_n dX9_turnsBy_17 0 rfl ?_
    refine g_aload_n dX9_turnsBy_18 1 rfl ?_
    refine g_getf dX9_turnsBy_19 kX9 wfX9_87 (Nat.le_of_ble_eq_true rfl) (hO) rfl ?_
    refine g_icmp_geN 257 dX9_turnsBy_22 (by decide) (by omega) (by omega) (fun c22 => ?_) (fun z => absurd z (by omega))
    refine g_lsub_ (ls2 := [(0, .ref 98), (1, .int (nI 3)), (2, .int (nI u)), (3, .int (nI k))]) [1, 2, 3, 0] rfl ?_
    have ek : k = m := by omega
    subst ek
    exact K _ _ hO hR lR vR hS
  | succ j ih =>
    intro k h R hk hO hR lR vR hS
    have hO : rd h 98 = some (.inr (9, [.int (nI n), .int (nI m), .ref 99, .ref 100, .ref 101, .int (nI a), .ref 102, .int (nI de), .ref 103, .ref 104, .ref 105, .int fo, .int as_, .int sm, .int sk, .ref 106, .ref 107, .ref 108, .int z, .ref 109, .ref 110, .ref 111, .int (nI am), .ref 112, .ref 113, .ref 114, .ref 115, .ref 116, .int (nI (bI ib)), .int iN, .int iM, .int iT, .ref 117, .ref 118, .ref 119])) := hO
    obtain ⟨b1, b2, b3⟩ := hb k (by omega)
    have mk : (k + u) % m < m := Nat.mod_lt _ (by omega)
    refine g_iload_n dX9_turnsBy_17 0 rfl ?_
    refine g_aload_n dX9_turnsBy_18 1 rfl ?_
    refine g_getf dX9_turnsBy_19 kX9 wfX9_87 (Nat.le_of_ble_eq_true rfl) (hO) rfl ?_
    refine g_icmp_geN 257 dX9_turnsBy_22 (by decide) (by omega) (by omega) (fun z => absurd z (by omega)) (fun c22 => ?_)
    refine g_iload_n dX9_turnsBy_25 2 rfl ?_
    refine g_iconst (v := nI 2) dX9_turnsBy_26 (by decide +kernel) ?_
    refine g_icmp_neN 41 dX9_turnsBy_27 (by decide) (by omega) (by omega) (fun c27 => ?_) (fun z => absurd z (by omega))
    refine g_iload_n dX9_turnsBy_41 2 rfl ?_
    refine g_iconst (v := nI 3) dX9_turnsBy_42 (by decide +kernel) ?_
    refine g_icmp_eqN 51 dX9_turnsBy_43 (by decide) (by omega) (by omega) (fun c43 => ?_) (fun z => absurd z (by omega))
    refine g_iload_n dX9_turnsBy_51 0 rfl ?_
    refine g_iload_n dX9_turnsBy_52 3 rfl ?_
    refine g_iaddN dX9_turnsBy_53 ?_
    refine g_aload_n dX9_turnsBy_54 1 rfl ?_
    refine g_getf dX9_turnsBy_55 kX9 wfX9_87 (Nat.le_of_ble_eq_true rfl) (hO) rfl ?_
    refine g_iremN dX9_turnsBy_58 (by omega) (by omega) (by omega) ?_
    refine g_goto 63 dX9_turnsBy_59 (by decide) ?_
    refine g_istore (ls' := [(4, .int (nI ((k + u) % m))), (3, .int (nI k)), (0, .ref 98), (1, .int (nI 3)), (2, .int (nI u))]) dX9_turnsBy_63 (Nat.le_of_ble_eq_true rfl) rfl ?_
    refine g_iconst (v := nI 0) dX9_turnsBy_65 (by decide +kernel) ?_
    refine g_istore (ls' := [(5, .int (nI 0)), (4, .int (nI ((k + u) % m))), (3, .int (nI k)), (0, .ref 98), (1, .int (nI 3)), (2, .int (nI u))]) dX9_turnsBy_66 (Nat.le_of_ble_eq_true rfl) rfl ?_
    refine g_iload dX9_turnsBy_68 0 rfl ?_
    refine g_iconst (v := nI 3) dX9_turnsBy_70 (by decide +kernel) ?_
    refine g_icmp_geN 251 dX9_turnsBy_71 (by decide) (by omega) (by omega) (fun z => absurd z (by omega)) (fun c71 => ?_)
    refine g_aload_n dX9_turnsBy_74 3 rfl ?_
    refine g_getf dX9_turnsBy_75 kX9 wfX9_47 (Nat.le_of_ble_eq_true rfl) (hO) rfl ?_
    refine g_iconst (v := nI 3) dX9_turnsBy_78 (by decide +kernel) ?_
    refine g_iload_n dX9_turnsBy_79 2 rfl ?_
    refine g_imulN dX9_turnsBy_80 ?_
    refine g_iload dX9_turnsBy_81 0 rfl ?_
    refine g_iaddN dX9_turnsBy_83 ?_
    refine g_ialI dX9_turnsBy_84 ((show rd h 110 = some (.inl B1) by rw [hS 110 (by omega)]; exact hB)) (by omega) (by omega) ?_
    refine g_top (show (B1).getD ((3 * k) + 0) 0 = nI ((f k).1) from pR0 vB (show k < m by omega)) ?_
    refine g_istore (ls' := [(6, .int (nI ((f k).1))), (5, .int (nI 0)), (4, .int (nI ((k + u) % m))), (3, .int (nI k)), (0, .ref 98), (1, .int (nI 3)), (2, .int (nI u))]) dX9_turnsBy_85 (Nat.le_of_ble_eq_true rfl) rfl ?_
    refine g_iload_n dX9_turnsBy_87 5 rfl ?_
    refine g_tableIn 155 dX9_turnsBy_88 (by decide +kernel) (by decide +kernel) (off := 67) (by decide +kernel) (by decide) ?_
    refine g_aload_n dX9_turnsBy_155 4 rfl ?_
    refine g_getf dX9_turnsBy_156 kX9 wfX9_47 (Nat.le_of_ble_eq_true rfl) (hO) rfl ?_
    refine g_iconst (v := nI 3) dX9_turnsBy_159 (by decide +kernel) ?_
    refine g_iload dX9_turnsBy_160 2 rfl ?_
    refine g_imulN dX9_turnsBy_162 ?_
    refine g_iload dX9_turnsBy_163 1 rfl ?_
    refine g_iaddN dX9_turnsBy_165 ?_
    refine g_ialI dX9_turnsBy_166 ((show rd h 110 = some (.inl B1) by rw [hS 110 (by omega)]; exact hB)) (by omega) (by omega) ?_
    refine g_top (show (B1).getD ((3 * ((k + u) % m)) + 0) 0 = nI ((f ((k + u) % m)).1) from pR0 vB (show (k + u) % m < m by omega)) ?_
    refine g_istore (ls' := [(6, .int (nI ((f ((k + u) % m)).1))), (5, .int (nI 0)), (4, .int (nI ((k + u) % m))), (3, .int (nI k)), (0, .ref 98), (1, .int (nI 3)), (2, .int (nI u))]) dX9_turnsBy_167 (Nat.le_of_ble_eq_true rfl) rfl ?_
    refine g_goto 232 dX9_turnsBy_169 (by decide) ?_
    refine g_aload_n dX9_turnsBy_232 4 rfl ?_
    refine g_getf dX9_turnsBy_233 kX9 wfX9_44 (Nat.le_of_ble_eq_true rfl) (hO) rfl ?_
    refine g_iconst (v := nI 3) dX9_turnsBy_236 (by decide +kernel) ?_
    refine g_iload_n dX9_turnsBy_237 3 rfl ?_
    refine g_imulN dX9_turnsBy_238 ?_
    refine g_iload dX9_turnsBy_239 1 rfl ?_
    refine g_iaddN dX9_turnsBy_241 ?_
    refine g_iload dX9_turnsBy_242 0 rfl ?_
    refine g_iasI dX9_turnsBy_244 (hR) (by first | omega | (rw [List.length_set]; omega) | (rw [List.length_set, List.length_set]; omega)) (by omega) (fun h1 e1 => ?_)
    have f1_109 : rd h1 109 = some (.inl ((R).set ((3 * k) + 0) (nI ((f ((k + u) % m)).1)))) := by rw [e1]; exact rd_wr_eq (hR)
    have lf1_109 : ((R).set ((3 * k) + 0) (nI ((f ((k + u) % m)).1))).length = _ := List.length_set.trans lR
    have s1 : Smo 109 (109 + 1) h h1 := by rw [e1]; exact Smo.wr (by omega) (by omega)
    have f1_98 : rd h1 98 = some (.inr (9, [.int (nI n), .int (nI m), .ref 99, .ref 100, .ref 101, .int (nI a), .ref 102, .int (nI de), .ref 103, .ref 104, .ref 105, .int fo, .int as_, .int sm, .int sk, .ref 106, .ref 107, .ref 108, .int z, .ref 109, .ref 110, .ref 111, .int (nI am), .ref 112, .ref 113, .ref 114, .ref 115, .ref 116, .int (nI (bI ib)), .int iN, .int iM, .int iT, .ref 117, .ref 118, .ref 119])) := by rw [s1 _ (by omega)]; exact hO
    have f1_110 : rd h1 110 = some (.inl (B1)) := by rw [s1 _ (by omega)]; exact (show rd h 110 = some (.inl B1) by rw [hS 110 (by omega)]; exact hB)
    refine g_iinc (q := 1) (v := nI (0 + 1)) (ls' := [(5, .int (nI (0 + 1))), (6, .int (nI ((f ((k + u) % m)).1))), (4, .int (nI ((k + u) % m))), (3, .int (nI k)), (0, .ref 98), (1, .int (nI 3)), (2, .int (nI u))]) dX9_turnsBy_245 rfl (inc1 _) (Nat.le_of_ble_eq_true rfl) rfl ?_
    refine g_goto 68 dX9_turnsBy_248 (by decide) ?_
    refine g_iload dX9_turnsBy_68 0 rfl ?_
    refine g_iconst (v := nI 3) dX9_turnsBy_70 (by decide +kernel) ?_
    refine g_icmp_geN 251 dX9_turnsBy_71 (by decide) (by omega) (by omega) (fun z => absurd z (by omega)) (fun c71 => ?_)
    refine g_aload_n dX9_turnsBy_74 4 rfl ?_
    refine g_getf dX9_turnsBy_75 kX9 wfX9_47 (Nat.le_of_ble_eq_true rfl) (f1_98) rfl ?_
    refine g_iconst (v := nI 3) dX9_turnsBy_78 (by decide +kernel) ?_
    refine g_iload_n dX9_turnsBy_79 3 rfl ?_
    refine g_imulN dX9_turnsBy_80 ?_
    refine g_iload dX9_turnsBy_81 0 rfl ?_
    refine g_iaddN dX9_turnsBy_83 ?_
    refine g_ialI dX9_turnsBy_84 (f1_110) (by omega) (by omega) ?_
    refine g_top (show (B1).getD ((3 * k) + (0 + 1)) 0 = nI ((f k).2.1) from pR1 vB (show k < m by omega)) ?_
    refine g_istore (ls' := [(6, .int (nI ((f k).2.1))), (5, .int (nI (0 + 1))), (4, .int (nI ((k + u) % m))), (3, .int (nI k)), (0, .ref 98), (1, .int (nI 3)), (2, .int (nI u))]) dX9_turnsBy_85 (Nat.le_of_ble_eq_true rfl) rfl ?_
    refine g_iload_n dX9_turnsBy_87 5 rfl ?_
    refine g_tableIn 155 dX9_turnsBy_88 (by decide +kernel) (by decide +kernel) (off := 67) (by decide +kernel) (by decide) ?_
    refine g_aload_n dX9_turnsBy_155 4 rfl ?_
    refine g_getf dX9_turnsBy_156 kX9 wfX9_47 (Nat.le_of_ble_eq_true rfl) (f1_98) rfl ?_
    refine g_iconst (v := nI 3) dX9_turnsBy_159 (by decide +kernel) ?_
    refine g_iload dX9_turnsBy_160 2 rfl ?_
    refine g_imulN dX9_turnsBy_162 ?_
    refine g_iload dX9_turnsBy_163 1 rfl ?_
    refine g_iaddN dX9_turnsBy_165 ?_
    refine g_ialI dX9_turnsBy_166 (f1_110) (by omega) (by omega) ?_
    refine g_top (show (B1).getD ((3 * ((k + u) % m)) + (0 + 1)) 0 = nI ((f ((k + u) % m)).2.1) from pR1 vB (show (k + u) % m < m by omega)) ?_
    refine g_istore (ls' := [(6, .int (nI ((f ((k + u) % m)).2.1))), (5, .int (nI (0 + 1))), (4, .int (nI ((k + u) % m))), (3, .int (nI k)), (0, .ref 98), (1, .int (nI 3)), (2, .int (nI u))]) dX9_turnsBy_167 (Nat.le_of_ble_eq_true rfl) rfl ?_
    refine g_goto 232 dX9_turnsBy_169 (by decide) ?_
    refine g_aload_n dX9_turnsBy_232 4 rfl ?_
    refine g_getf dX9_turnsBy_233 kX9 wfX9_44 (Nat.le_of_ble_eq_true rfl) (f1_98) rfl ?_
    refine g_iconst (v := nI 3) dX9_turnsBy_236 (by decide +kernel) ?_
    refine g_iload_n dX9_turnsBy_237 3 rfl ?_
    refine g_imulN dX9_turnsBy_238 ?_
    refine g_iload dX9_turnsBy_239 1 rfl ?_
    refine g_iaddN dX9_turnsBy_241 ?_
    refine g_iload dX9_turnsBy_242 0 rfl ?_
    refine g_iasI dX9_turnsBy_244 (f1_109) (by first | omega | (rw [List.length_set]; omega) | (rw [List.length_set, List.length_set]; omega)) (by simp only [List.length_set]; omega) (fun h2 e2 => ?_)
    have f2_109 : rd h2 109 = some (.inl (((R).set ((3 * k) + 0) (nI ((f ((k + u) % m)).1))).set ((3 * k) + (0 + 1)) (nI ((f ((k + u) % m)).2.1)))) := by rw [e2]; exact rd_wr_eq (f1_109)
    have lf2_109 : (((R).set ((3 * k) + 0) (nI ((f ((k + u) % m)).1))).set ((3 * k) + (0 + 1)) (nI ((f ((k + u) % m)).2.1))).length = _ := List.length_set.trans lf1_109
    have s2 : Smo 109 (109 + 1) h1 h2 := by rw [e2]; exact Smo.wr (by omega) (by omega)
    have f2_98 : rd h2 98 = some (.inr (9, [.int (nI n), .int (nI m), .ref 99, .ref 100, .ref 101, .int (nI a), .ref 102, .int (nI de), .ref 103, .ref 104, .ref 105, .int fo, .int as_, .int sm, .int sk, .ref 106, .ref 107, .ref 108, .int z, .ref 109, .ref 110, .ref 111, .int (nI am), .ref 112, .ref 113, .ref 114, .ref 115, .ref 116, .int (nI (bI ib)), .int iN, .int iM, .int iT, .ref 117, .ref 118, .ref 119])) := by rw [s2 _ (by omega)]; exact f1_98
    have f2_110 : rd h2 110 = some (.inl (B1)) := by rw [s2 _ (by omega)]; exact f1_110
    refine g_iinc (q := 1) (v := nI (0 + 1 + 1)) (ls' := [(5, .int (nI (0 + 1 + 1))), (6, .int (nI ((f ((k + u) % m)).2.1))), (4, .int (nI ((k + u) % m))), (3, .int (nI k)), (0, .ref 98), (1, .int (nI 3)), (2, .int (nI u))]) dX9_turnsBy_245 rfl (inc1 _) (Nat.le_of_ble_eq_true rfl) rfl ?_
    refine g_goto 68 dX9_turnsBy_248 (by decide) ?_
    refine g_iload dX9_turnsBy_68 0 rfl ?_
    refine g_iconst (v := nI 3) dX9_turnsBy_70 (by decide +kernel) ?_
    refine g_icmp_geN 251 dX9_turnsBy_71 (by decide) (by omega) (by omega) (fun z => absurd z (by omega)) (fun c71 => ?_)
    refine g_aload_n dX9_turnsBy_74 4 rfl ?_
    refine g_getf dX9_turnsBy_75 kX9 wfX9_47 (Nat.le_of_ble_eq_true rfl) (f2_98) rfl ?_
    refine g_iconst (v := nI 3) dX9_turnsBy_78 (by decide +kernel) ?_
    refine g_iload_n dX9_turnsBy_79 3 rfl ?_
    refine g_imulN dX9_turnsBy_80 ?_
    refine g_iload dX9_turnsBy_81 0 rfl ?_
    refine g_iaddN dX9_turnsBy_83 ?_
    refine g_ialI dX9_turnsBy_84 (f2_110) (by omega) (by omega) ?_
    refine g_top (show (B1).getD ((3 * k) + (0 + 1 + 1)) 0 = nI ((f k).2.2) from pR2 vB (show k < m by omega)) ?_
    refine g_istore (ls' := [(6, .int (nI ((f k).2.2))), (5, .int (nI (0 + 1 + 1))), (4, .int (nI ((k + u) % m))), (3, .int (nI k)), (0, .ref 98), (1, .int (nI 3)), (2, .int (nI u))]) dX9_turnsBy_85 (Nat.le_of_ble_eq_true rfl) rfl ?_
    refine g_iload_n dX9_turnsBy_87 5 rfl ?_
    refine g_tableIn 155 dX9_turnsBy_88 (by decide +kernel) (by decide +kernel) (off := 67) (by decide +kernel) (by decide) ?_
    refine g_aload_n dX9_turnsBy_155 4 rfl ?_
    refine g_getf dX9_turnsBy_156 kX9 wfX9_47 (Nat.le_of_ble_eq_true rfl) (f2_98) rfl ?_
    refine g_iconst (v := nI 3) dX9_turnsBy_159 (by decide +kernel) ?_
    refine g_iload dX9_turnsBy_160 2 rfl ?_
    refine g_imulN dX9_turnsBy_162 ?_
    refine g_iload dX9_turnsBy_163 1 rfl ?_
    refine g_iaddN dX9_turnsBy_165 ?_
    refine g_ialI dX9_turnsBy_166 (f2_110) (by omega) (by omega) ?_
    refine g_top (show (B1).getD ((3 * ((k + u) % m)) + (0 + 1 + 1)) 0 = nI ((f ((k + u) % m)).2.2) from pR2 vB (show (k + u) % m < m by omega)) ?_
    refine g_istore (ls' := [(6, .int (nI ((f ((k + u) % m)).2.2))), (5, .int (nI (0 + 1 + 1))), (4, .int (nI ((k + u) % m))), (3, .int (nI k)), (0, .ref 98), (1, .int (nI 3)), (2, .int (nI u))]) dX9_turnsBy_167 (Nat.le_of_ble_eq_true rfl) rfl ?_
    refine g_goto 232 dX9_turnsBy_169 (by decide) ?_
    refine g_aload_n dX9_turnsBy_232 4 rfl ?_
    refine g_getf dX9_turnsBy_233 kX9 wfX9_44 (Nat.le_of_ble_eq_true rfl) (f2_98) rfl ?_
    refine g_iconst (v := nI 3) dX9_turnsBy_236 (by decide +kernel) ?_
    refine g_iload_n dX9_turnsBy_237 3 rfl ?_
    refine g_imulN dX9_turnsBy_238 ?_
    refine g_iload dX9_turnsBy_239 1 rfl ?_
    refine g_iaddN dX9_turnsBy_241 ?_
    refine g_iload dX9_turnsBy_242 0 rfl ?_
    refine g_iasI dX9_turnsBy_244 (f2_109) (by first | omega | (rw [List.length_set]; omega) | (rw [List.length_set, List.length_set]; omega)) (by simp only [List.length_set]; omega) (fun h3 e3 => ?_)
    have f3_109 : rd h3 109 = some (.inl ((((R).set ((3 * k) + 0) (nI ((f ((k + u) % m)).1))).set ((3 * k) + (0 + 1)) (nI ((f ((k + u) % m)).2.1))).set ((3 * k) + (0 + 1 + 1)) (nI ((f ((k + u) % m)).2.2)))) := by rw [e3]; exact rd_wr_eq (f2_109)
    have lf3_109 : ((((R).set ((3 * k) + 0) (nI ((f ((k + u) % m)).1))).set ((3 * k) + (0 + 1)) (nI ((f ((k + u) % m)).2.1))).set ((3 * k) + (0 + 1 + 1)) (nI ((f ((k + u) % m)).2.2))).length = _ := List.length_set.trans lf2_109
    have s3 : Smo 109 (109 + 1) h2 h3 := by rw [e3]; exact Smo.wr (by omega) (by omega)
    have f3_98 : rd h3 98 = some (.inr (9, [.int (nI n), .int (nI m), .ref 99, .ref 100, .ref 101, .int (nI a), .ref 102, .int (nI de), .ref 103, .ref 104, .ref 105, .int fo, .int as_, .int sm, .int sk, .ref 106, .ref 107, .ref 108, .int z, .ref 109, .ref 110, .ref 111, .int (nI am), .ref 112, .ref 113, .ref 114, .ref 115, .ref 116, .int (nI (bI ib)), .int iN, .int iM, .int iT, .ref 117, .ref 118, .ref 119])) := by rw [s3 _ (by omega)]; exact f2_98
    have f3_110 : rd h3 110 = some (.inl (B1)) := by rw [s3 _ (by omega)]; exact f2_110
    refine g_iinc (q := 1) (v := nI (0 + 1 + 1 + 1)) (ls' := [(5, .int (nI (0 + 1 + 1 + 1))), (6, .int (nI ((f ((k + u) % m)).2.2))), (4, .int (nI ((k + u) % m))), (3, .int (nI k)), (0, .ref 98), (1, .int (nI 3)), (2, .int (nI u))]) dX9_turnsBy_245 rfl (inc1 _) (Nat.le_of_ble_eq_true rfl) rfl ?_
    refine g_goto 68 dX9_turnsBy_248 (by decide) ?_
    refine g_iload dX9_turnsBy_68 0 rfl ?_
    refine g_iconst (v := nI 3) dX9_turnsBy_70 (by decide +kernel) ?_
    refine g_icmp_geN 251 dX9_turnsBy_71 (by decide) (by omega) (by omega) (fun c71 => ?_) (fun z => absurd z (by omega))
    refine g_iinc (q := 3) (v := nI (k + 1)) (ls' := [(3, .int (nI (k + 1))), (5, .int (nI (0 + 1 + 1 + 1))), (6, .int (nI ((f ((k + u) % m)).2.2))), (4, .int (nI ((k + u) % m))), (0, .ref 98), (1, .int (nI 3)), (2, .int (nI u))]) dX9_turnsBy_251 rfl (inc1 _) (Nat.le_of_ble_eq_true rfl) rfl ?_
    refine g_goto 17 dX9_turnsBy_254 (by decide) ?_
    refine g_lsub_ (ls2 := [(3, .int (nI (k + 1))), (0, .ref 98), (1, .int (nI 3)), (2, .int (nI u))]) [0, 4, 5, 6] rfl ?_
    refine ih (k + 1) _ _ (by omega) f3_98 (f3_109) (lf3_109) (pR_row vR lR (by omega) ?_ ?_ ?_) (hS.tr (fun q hq => by rw [s3 q (by omega), s2 q (by omega), s1 q (by omega)]))
    · exact rfl
    · exact rfl
    · exact rfl

set_option maxRecDepth 100000 in
set_option maxHeartbeats 4000000 in
theorem ev_tb3 {h : List aC} {n m a de : Nat} {fo as_ sm sk z : Int32} {am : Nat} {ib : Bool} {iN iM iT : Int32} (hO : MO h n m a de fo as_ sm sk z am ib iN iM iT) (n3 : n ≤ 13) (h0n : 0 < n) (hm : m ≤ 6) {Th Be : List Int32} (hT : rd h 109 = some (.inl Th)) (lTh : Th.length = 18) (hB : rd h 110 = some (.inl Be)) (lBe : Be.length = 18) {f : Nat → Pr} (vT : pR Th 0 m f) (hb : bf n m f) (u : Nat) (hu : u ≤ 12) : Ev mX9_turnsBy 2 0 0 [.ref 98, .int (nI 3), .int (nI u)] h (pq none (fun h2 => ∃ T2 B2, MO h2 n m a de fo as_ sm sk z am ib iN iM iT ∧ rd h2 109 = some (.inl T2) ∧ T2.length = 18 ∧ pR T2 0 m (tOne n m 3 u f) ∧ rd h2 110 = some (.inl B2) ∧ B2.length = 18 ∧ Smo 109 111 h h2)) := by
  have hO : rd h 98 = some (.inr (9, [.int (nI n), .int (nI m), .ref 99, .ref 100, .ref 101, .int (nI a), .ref 102, .int (nI de), .ref 103, .ref 104, .ref 105, .int fo, .int as_, .int sm, .int sk, .ref 106, .ref 107, .ref 108, .int z, .ref 109, .ref 110, .ref 111, .int (nI am), .ref 112, .ref 113, .ref 114, .ref 115, .ref 116, .int (nI (bI ib)), .int iN, .int iM, .int iT, .ref 117, .ref 118, .ref 119])) := hO
  refine Ev.of pX9_turnsBy (Nat.le_of_ble_eq_true rfl) ?_
  show G mX9_turnsBy (rmD 2 0 0) none _ 0 0 0 [(0, .ref 98), (1, .int (nI 3)), (2, .int (nI u))] [] h
  refine g_aload_n dX9_turnsBy_0 0 rfl ?_
  refine g_getf dX9_turnsBy_1 kX9 wfX9_44 (Nat.le_of_ble_eq_true rfl) (hO) rfl ?_
  refine g_iconst (v := nI 0) dX9_turnsBy_4 (by decide +kernel) ?_
  refine g_aload_n dX9_turnsBy_5 0 rfl ?_
  refine g_getf dX9_turnsBy_6 kX9 wfX9_47 (Nat.le_of_ble_eq_true rfl) (hO) rfl ?_
  refine g_iconst (v := nI 0) dX9_turnsBy_9 (by decide +kernel) ?_
  refine g_bipush (v := nI 18) dX9_turnsBy_10 (by decide +kernel) ?_
  have la1 : (Th).length = 18 := lTh
  have lb1 : (Be).length = 18 := lBe
  refine g_callSq (st1 := []) dX9_turnsBy_12 (ev_mlays (a := 0) (b := 0) (s := 18) (show 109 ≠ 110 by decide) (by omega) (by omega) ⟨by omega, by omega⟩ (hT) (hB)) oX9_lays wsX9_lays wmX9_83 rfl ⟨(Nat.le_of_ble_eq_true rfl), (Nat.le_of_ble_eq_true rfl)⟩ ⟨Nat.zero_le _, Nat.zero_le _⟩ (Nat.le_of_ble_eq_true rfl) rfl rfl (fun h2 q2 => ?_)
  obtain ⟨q2a, q2s⟩ := q2
  have f2_98 : rd h2 98 = some (.inr (9, [.int (nI n), .int (nI m), .ref 99, .ref 100, .ref 101, .int (nI a), .ref 102, .int (nI de), .ref 103, .ref 104, .ref 105, .int fo, .int as_, .int sm, .int sk, .ref 106, .ref 107, .ref 108, .int z, .ref 109, .ref 110, .ref 111, .int (nI am), .ref 112, .ref 113, .ref 114, .ref 115, .ref 116, .int (nI (bI ib)), .int iN, .int iM, .int iT, .ref 117, .ref 118, .ref 119])) := by rw [q2s _ (by omega)]; exact hO
  have f2_109 : rd h2 109 = some (.inl (Th)) := by rw [q2s _ (by omega)]; exact hT
  refine g_iconst (v := nI 0) dX9_turnsBy_15 (by decide +kernel) ?_
  refine g_istore_n (ls' := [(3, .int (nI 0)), (0, .ref 98), (1, .int (nI 3)), (2, .int (nI u))]) dX9_turnsBy_16 (Nat.le_of_ble_eq_true rfl) rfl ?_
  refine lp_tb3 n3 h0n hm (show rd h2 110 = some (.inl (cpL Th 0 Be 0 18)) from q2a) ((cpL_len _ _ _ _ _).trans lBe) (pR_cp vT lBe lTh hm) hb hu (fun R9 h9 o9 y9 l9 v9 s9 => ?_) m 0 _ _ (by omega) f2_98 (f2_109) lTh (fun j hj => absurd hj (Nat.not_lt_zero j)) Smo.rf
  have f9_110 : rd h9 110 = some (.inl (cpL (Th) 0 (Be) 0 18)) := by rw [s9 _ (by omega)]; exact q2a
  exact g_vret dX9_turnsBy_257 rfl ⟨Nat.zero_le _, Nat.zero_le _⟩ (⟨rfl, _, _, o9, y9, l9, v9, f9_110, ((cpL_len _ _ _ _ _).trans lb1), (fun q hq => by rw [s9 q (by omega), q2s q (by omega)])⟩)

set_option maxRecDepth 100000 in
set_option maxHeartbeats 4000000 in
theorem lp_tb4 {h0 : List aC} {P : Option Value → List aC → Prop} {n m a de : Nat} {fo as_ sm sk z : Int32} {am : Nat} {ib : Bool} {iN iM iT : Int32} (n3 : n ≤ 13) (h0n : 0 < n) (hm : m ≤ 6) {B1 : List Int32} (hB : rd h0 110 = some (.inl B1)) (lB : B1.length = 18) {f : Nat → Pr} (vB : pR B1 0 m f) (hb : bf n m f) {u : Nat} (hu : u ≤ 12) (K : ∀ R h', MO h' n m a de fo as_ sm sk z am ib iN iM iT → rd h' 109 = some (.inl R) → R.length = 18 → pR R 0 m (tOne n m 4 u f) → Smo 109 110 h0 h' → G mX9_turnsBy (rmD 2 0 0) none P 0 0 257 [(0, .ref 98), (1, .int (nI 4)), (2, .int (nI u)), (3, .int (nI m))] [] h') : ∀ j k (h : List aC) (R : List Int32), k + j = m → MO h n m a de fo as_ sm sk z am ib iN iM iT → rd h 109 = some (.inl R) → R.length = 18 → pR R 0 k (tOne n m 4 u f) → Smo 109 110 h0 h → G mX9_turnsBy (rmD 2 0 0) none P 0 0 17 [(3, .int (nI k)), (0, .ref 98), (1, .int (nI 4)), (2, .int (nI u))] [] h := by
  intro j
  induction j with
  | zero =>
    intro k h R hk hO hR lR vR hS
    have hO : rd h 98 = some (.inr (9, [.int (nI n), .int (nI m), .ref 99, .ref 100, .ref 101, .int (nI a), .ref 102, .int (nI de), .ref 103, .ref 104, .ref 105, .int fo, .int as_, .int sm, .int sk, .ref 106, .ref 107, .ref 108, .int z, .ref 109, .ref 110, .ref 111, .int (nI am), .ref 112, .ref 113, .ref 114, .ref 115, .ref 116, .int (nI (bI ib)), .int iN, .int iM, .int iT, .ref 117, .ref 118, .ref 119])) := hO
    refine g_iload_n dX9_turnsBy_17 0 rfl ?_
    refine g_aload_n dX9_turnsBy_18 1 rfl ?_
    refine g_getf dX9_turnsBy_19 kX9 wfX9_87 (Nat.le_of_ble_eq_true rfl) (hO) rfl ?_
    refine g_icmp_geN 257 dX9_turnsBy_22 (by decide) (by omega) (by omega) (fun c22 => ?_) (fun z => absurd z (by omega))
    refine g_lsub_ (ls2 := [(0, .ref 98), (1, .int (nI 4)), (2, .int (nI u)), (3, .int (nI k))]) [1, 2, 3, 0] rfl ?_
    have ek : k = m := by omega
    subst ek
    exact K _ _ hO hR lR vR hS
  | succ j ih =>
    intro k h R hk hO hR lR vR hS
    have hO : rd h 98 = some (.inr (9, [.int (nI n), .int (nI m), .ref 99, .ref 100, .ref 101, .int (nI a), .ref 102, .int (nI de), .ref 103, .ref 104, .ref 105, .int fo, .int as_, .int sm, .int sk, .ref 106, .ref 107, .ref 108, .int z, .ref 109, .ref 110, .ref 111, .int (nI am), .ref 112, .ref 113, .ref 114, .ref 115, .ref 116, .int (nI (bI ib)), .int iN, .int iM, .int iT, .ref 117, .ref 118, .ref 119])) := hO
    obtain ⟨b1, b2, b3⟩ := hb k (by omega)
    refine g_iload_n dX9_turnsBy_17 0 rfl ?_
    refine g_aload_n dX9_turnsBy_18 1 rfl ?_
    refine g_getf dX9_turnsBy_19 kX9 wfX9_87 (Nat.le_of_ble_eq_true rfl) (hO) rfl ?_
    refine g_icmp_geN 257 dX9_turnsBy_22 (by decide) (by omega) (by omega) (fun z => absurd z (by omega)) (fun c22 => ?_)
    refine g_iload_n dX9_turnsBy_25 2 rfl ?_
    refine g_iconst (v := nI 2) dX9_turnsBy_26 (by decide +kernel) ?_
    refine g_icmp_neN 41 dX9_turnsBy_27 (by decide) (by omega) (by omega) (fun c27 => ?_) (fun z => absurd z (by omega))
    refine g_iload_n dX9_turnsBy_41 2 rfl ?_
    refine g_iconst (v := nI 3) dX9_turnsBy_42 (by decide +kernel) ?_
    refine g_icmp_eqN 51 dX9_turnsBy_43 (by decide) (by omega) (by omega) (fun z => absurd z (by omega)) (fun c43 => ?_)
    refine g_iload_n dX9_turnsBy_46 2 rfl ?_
    refine g_iconst (v := nI 5) dX9_turnsBy_47 (by decide +kernel) ?_
    refine g_icmp_neN 62 dX9_turnsBy_48 (by decide) (by omega) (by omega) (fun c48 => ?_) (fun z => absurd z (by omega))
    refine g_iload_n dX9_turnsBy_62 0 rfl ?_
    refine g_istore (ls' := [(4, .int (nI k)), (3, .int (nI k)), (0, .ref 98), (1, .int (nI 4)), (2, .int (nI u))]) dX9_turnsBy_63 (Nat.le_of_ble_eq_true rfl) rfl ?_
    refine g_iconst (v := nI 0) dX9_turnsBy_65 (by decide +kernel) ?_
    refine g_istore (ls' := [(5, .int (nI 0)), (4, .int (nI k)), (3, .int (nI k)), (0, .ref 98), (1, .int (nI 4)), (2, .int (nI u))]) dX9_turnsBy_66 (Nat.le_of_ble_eq_true rfl) rfl ?_
    refine g_iload dX9_turnsBy_68 0 rfl ?_
    refine g_iconst (v := nI 3) dX9_turnsBy_70 (by decide +kernel) ?_
    refine g_icmp_geN 251 dX9_turnsBy_71 (by decide) (by omega) (by omega) (fun z => absurd z (by omega)) (fun c71 => ?_)
    refine g_aload_n dX9_turnsBy_74 3 rfl ?_
    refine g_getf dX9_turnsBy_75 kX9 wfX9_47 (Nat.le_of_ble_eq_true rfl) (hO) rfl ?_
    refine g_iconst (v := nI 3) dX9_turnsBy_78 (by decide +kernel) ?_
    refine g_iload_n dX9_turnsBy_79 2 rfl ?_
    refine g_imulN dX9_turnsBy_80 ?_
    refine g_iload dX9_turnsBy_81 0 rfl ?_
    refine g_iaddN dX9_turnsBy_83 ?_
    refine g_ialI dX9_turnsBy_84 ((show rd h 110 = some (.inl B1) by rw [hS 110 (by omega)]; exact hB)) (by omega) (by omega) ?_
    refine g_top (show (B1).getD ((3 * k) + 0) 0 = nI ((f k).1) from pR0 vB (show k < m by omega)) ?_
    refine g_istore (ls' := [(6, .int (nI ((f k).1))), (5, .int (nI 0)), (4, .int (nI k)), (3, .int (nI k)), (0, .ref 98), (1, .int (nI 4)), (2, .int (nI u))]) dX9_turnsBy_85 (Nat.le_of_ble_eq_true rfl) rfl ?_
    refine g_iload_n dX9_turnsBy_87 5 rfl ?_
    refine g_tableIn 172 dX9_turnsBy_88 (by decide +kernel) (by decide +kernel) (off := 84) (by decide +kernel) (by decide) ?_
    refine g_iload dX9_turnsBy_172 1 rfl ?_
    refine g_iconst (v := nI 2) dX9_turnsBy_174 (by decide +kernel) ?_
    refine g_icmp_geN 201 dX9_turnsBy_175 (by decide) (by omega) (by omega) (fun z => absurd z (by omega)) (fun c175 => ?_)
    refine g_iload_n dX9_turnsBy_178 6 rfl ?_
    refine g_iconst (v := nI 2) dX9_turnsBy_179 (by decide +kernel) ?_
    refine g_iremN dX9_turnsBy_180 (by omega) (by omega) (by omega) ?_
    refine g_iconst (v := nI 1) dX9_turnsBy_181 (by decide +kernel) ?_
    refine g_icmp_neN 201 dX9_turnsBy_182 (by decide) (by omega) (by omega) (fun c182 => ?_) (fun c182 => ?_)
    · refine g_iload dX9_turnsBy_201 0 rfl ?_
      refine g_istore (ls' := [(6, .int (nI ((f k).1))), (5, .int (nI 0)), (4, .int (nI k)), (3, .int (nI k)), (0, .ref 98), (1, .int (nI 4)), (2, .int (nI u))]) dX9_turnsBy_203 (Nat.le_of_ble_eq_true rfl) rfl ?_
      refine g_goto 232 dX9_turnsBy_205 (by decide) ?_
      refine g_aload_n dX9_turnsBy_232 4 rfl ?_
      refine g_getf dX9_turnsBy_233 kX9 wfX9_44 (Nat.le_of_ble_eq_true rfl) (hO) rfl ?_
      refine g_iconst (v := nI 3) dX9_turnsBy_236 (by decide +kernel) ?_
      refine g_iload_n dX9_turnsBy_237 3 rfl ?_
      refine g_imulN dX9_turnsBy_238 ?_
      refine g_iload dX9_turnsBy_239 1 rfl ?_
      refine g_iaddN dX9_turnsBy_241 ?_
      refine g_iload dX9_turnsBy_242 0 rfl ?_
      refine g_iasI dX9_turnsBy_244 (hR) (by first | omega | (rw [List.length_set]; omega) | (rw [List.length_set, List.length_set]; omega)) (by omega) (fun h1 e1 => ?_)
      have f1_109 : rd h1 109 = some (.inl ((R).set ((3 * k) + 0) (nI ((f k).1)))) := by rw [e1]; exact rd_wr_eq (hR)
      have lf1_109 : ((R).set ((3 * k) + 0) (nI ((f k).1))).length = _ := List.length_set.trans lR
      have s1 : Smo 109 (109 + 1) h h1 := by rw [e1]; exact Smo.wr (by omega) (by omega)
      have f1_98 : rd h1 98 = some (.inr (9, [.int (nI n), .int (nI m), .ref 99, .ref 100, .ref 101, .int (nI a), .ref 102, .int (nI de), .ref 103, .ref 104, .ref 105, .int fo, .int as_, .int sm, .int sk, .ref 106, .ref 107, .ref 108, .int z, .ref 109, .ref 110, .ref 111, .int (nI am), .ref 112, .ref 113, .ref 114, .ref 115, .ref 116, .int (nI (bI ib)), .int iN, .int iM, .int iT, .ref 117, .ref 118, .ref 119])) := by rw [s1 _ (by omega)]; exact hO
      have f1_110 : rd h1 110 = some (.inl (B1)) := by rw [s1 _ (by omega)]; exact (show rd h 110 = some (.inl B1) by rw [hS 110 (by omega)]; exact hB)
      refine g_iinc (q := 1) (v := nI (0 + 1)) (ls' := [(5, .int (nI (0 + 1))), (6, .int (nI ((f k).1))), (4, .int (nI k)), (3, .int (nI k)), (0, .ref 98), (1, .int (nI 4)), (2, .int (nI u))]) dX9_turnsBy_245 rfl (inc1 _) (Nat.le_of_ble_eq_true rfl) rfl ?_
      refine g_goto 68 dX9_turnsBy_248 (by decide) ?_
      refine g_iload dX9_turnsBy_68 0 rfl ?_
      refine g_iconst (v := nI 3) dX9_turnsBy_70 (by decide +kernel) ?_
      refine g_icmp_geN 251 dX9_turnsBy_71 (by decide) (by omega) (by omega) (fun z => absurd z (by omega)) (fun c71 => ?_)
      refine g_aload_n dX9_turnsBy_74 4 rfl ?_
      refine g_getf dX9_turnsBy_75 kX9 wfX9_47 (Nat.le_of_ble_eq_true rfl) (f1_98) rfl ?_
      refine g_iconst (v := nI 3) dX9_turnsBy_78 (by decide +kernel) ?_
      refine g_iload_n dX9_turnsBy_79 3 rfl ?_
      refine g_imulN dX9_turnsBy_80 ?_
      refine g_iload dX9_turnsBy_81 0 rfl ?_
      refine g_iaddN dX9_turnsBy_83 ?_
      refine g_ialI dX9_turnsBy_84 (f1_110) (by omega) (by omega) ?_
      refine g_top (show (B1).getD ((3 * k) + (0 + 1)) 0 = nI ((f k).2.1) from pR1 vB (show k < m by omega)) ?_
      refine g_istore (ls' := [(6, .int (nI ((f k).2.1))), (5, .int (nI (0 + 1))), (4, .int (nI k)), (3, .int (nI k)), (0, .ref 98), (1, .int (nI 4)), (2, .int (nI u))]) dX9_turnsBy_85 (Nat.le_of_ble_eq_true rfl) rfl ?_
      refine g_iload_n dX9_turnsBy_87 5 rfl ?_
      refine g_tableIn 172 dX9_turnsBy_88 (by decide +kernel) (by decide +kernel) (off := 84) (by decide +kernel) (by decide) ?_
      refine g_iload dX9_turnsBy_172 1 rfl ?_
      refine g_iconst (v := nI 2) dX9_turnsBy_174 (by decide +kernel) ?_
      refine g_icmp_geN 201 dX9_turnsBy_175 (by decide) (by omega) (by omega) (fun z => absurd z (by omega)) (fun c175 => ?_)
      refine g_iload_n dX9_turnsBy_178 6 rfl ?_
      refine g_iconst (v := nI 2) dX9_turnsBy_179 (by decide +kernel) ?_
      refine g_iremN dX9_turnsBy_180 (by omega) (by omega) (by omega) ?_
      refine g_iconst (v := nI 1) dX9_turnsBy_181 (by decide +kernel) ?_
      refine g_icmp_neN 201 dX9_turnsBy_182 (by decide) (by omega) (by omega) (fun c182 => ?_) (fun z => absurd z (by omega))
      refine g_iload dX9_turnsBy_201 0 rfl ?_
      refine g_istore (ls' := [(6, .int (nI ((f k).2.1))), (5, .int (nI (0 + 1))), (4, .int (nI k)), (3, .int (nI k)), (0, .ref 98), (1, .int (nI 4)), (2, .int (nI u))]) dX9_turnsBy_203 (Nat.le_of_ble_eq_true rfl) rfl ?_
      refine g_goto 232 dX9_turnsBy_205 (by decide) ?_
      refine g_aload_n dX9_turnsBy_232 4 rfl ?_
      refine g_getf dX9_turnsBy_233 kX9 wfX9_44 (Nat.le_of_ble_eq_true rfl) (f1_98) rfl ?_
      refine g_iconst (v := nI 3) dX9_turnsBy_236 (by decide +kernel) ?_
      refine g_iload_n dX9_turnsBy_237 3 rfl ?_
      refine g_imulN dX9_turnsBy_238 ?_
      refine g_iload dX9_turnsBy_239 1 rfl ?_
      refine g_iaddN dX9_turnsBy_241 ?_
      refine g_iload dX9_turnsBy_242 0 rfl ?_
      refine g_iasI dX9_turnsBy_244 (f1_109) (by first | omega | (rw [List.length_set]; omega) | (rw [List.length_set, List.length_set]; omega)) (by simp only [List.length_set]; omega) (fun h2 e2 => ?_)
      have f2_109 : rd h2 109 = some (.inl (((R).set ((3 * k) + 0) (nI ((f k).1))).set ((3 * k) + (0 + 1)) (nI ((f k).2.1)))) := by rw [e2]; exact rd_wr_eq (f1_109)
      have lf2_109 : (((R).set ((3 * k) + 0) (nI ((f k).1))).set ((3 * k) + (0 + 1)) (nI ((f k).2.1))).length = _ := List.length_set.trans lf1_109
      have s2 : Smo 109 (109 + 1) h1 h2 := by rw [e2]; exact Smo.wr (by omega) (by omega)
      have f2_98 : rd h2 98 = some (.inr (9, [.int (nI n), .int (nI m), .ref 99, .ref 100, .ref 101, .int (nI a), .ref 102, .int (nI de), .ref 103, .ref 104, .ref 105, .int fo, .int as_, .int sm, .int sk, .ref 106, .ref 107, .ref 108, .int z, .ref 109, .ref 110, .ref 111, .int (nI am), .ref 112, .ref 113, .ref 114, .ref 115, .ref 116, .int (nI (bI ib)), .int iN, .int iM, .int iT, .ref 117, .ref 118, .ref 119])) := by rw [s2 _ (by omega)]; exact f1_98
      have f2_110 : rd h2 110 = some (.inl (B1)) := by rw [s2 _ (by omega)]; exact f1_110
      refine g_iinc (q := 1) (v := nI (0 + 1 + 1)) (ls' := [(5, .int (nI (0 + 1 + 1))), (6, .int (nI ((f k).2.1))), (4, .int (nI k)), (3, .int (nI k)), (0, .ref 98), (1, .int (nI 4)), (2, .int (nI u))]) dX9_turnsBy_245 rfl (inc1 _) (Nat.le_of_ble_eq_true rfl) rfl ?_
      refine g_goto 68 dX9_turnsBy_248 (by decide) ?_
      refine g_iload dX9_turnsBy_68 0 rfl ?_
      refine g_iconst (v := nI 3) dX9_turnsBy_70 (by decide +kernel) ?_
      refine g_icmp_geN 251 dX9_turnsBy_71 (by decide) (by omega) (by omega) (fun z => absurd z (by omega)) (fun c71 => ?_)
      refine g_aload_n dX9_turnsBy_74 4 rfl ?_
      refine g_getf dX9_turnsBy_75 kX9 wfX9_47 (Nat.le_of_ble_eq_true rfl) (f2_98) rfl ?_
      refine g_iconst (v := nI 3) dX9_turnsBy_78 (by decide +kernel) ?_
      refine g_iload_n dX9_turnsBy_79 3 rfl ?_
      refine g_imulN dX9_turnsBy_80 ?_
      refine g_iload dX9_turnsBy_81 0 rfl ?_
      refine g_iaddN dX9_turnsBy_83 ?_
      refine g_ialI dX9_turnsBy_84 (f2_110) (by omega) (by omega) ?_
      refine g_top (show (B1).getD ((3 * k) + (0 + 1 + 1)) 0 = nI ((f k).2.2) from pR2 vB (show k < m by omega)) ?_
      refine g_istore (ls' := [(6, .int (nI ((f k).2.2))), (5, .int (nI (0 + 1 + 1))), (4, .int (nI k)), (3, .int (nI k)), (0, .ref 98), (1, .int (nI 4)), (2, .int (nI u))]) dX9_turnsBy_85 (Nat.le_of_ble_eq_true rfl) rfl ?_
      refine g_iload_n dX9_turnsBy_87 5 rfl ?_
      refine g_tableIn 172 dX9_turnsBy_88 (by decide +kernel) (by decide +kernel) (off := 84) (by decide +kernel) (by decide) ?_
      refine g_iload dX9_turnsBy_172 1 rfl ?_
      refine g_iconst (v := nI 2) dX9_turnsBy_174 (by decide +kernel) ?_
      refine g_icmp_geN 201 dX9_turnsBy_175 (by decide) (by omega) (by omega) (fun c175 => ?_) (fun z => absurd z (by omega))
      refine g_iload dX9_turnsBy_201 0 rfl ?_
      refine g_istore (ls' := [(6, .int (nI ((f k).2.2))), (5, .int (nI (0 + 1 + 1))), (4, .int (nI k)), (3, .int (nI k)), (0, .ref 98), (1, .int (nI 4)), (2, .int (nI u))]) dX9_turnsBy_203 (Nat.le_of_ble_eq_true rfl) rfl ?_
      refine g_goto 232 dX9_turnsBy_205 (by decide) ?_
      refine g_aload_n dX9_turnsBy_232 4 rfl ?_
      refine g_getf dX9_turnsBy_233 kX9 wfX9_44 (Nat.le_of_ble_eq_true rfl) (f2_98) rfl ?_
      refine g_iconst (v := nI 3) dX9_turnsBy_236 (by decide +kernel) ?_
      refine g_iload_n dX9_turnsBy_237 3 rfl ?_
      refine g_imulN dX9_turnsBy_238 ?_
      refine g_iload dX9_turnsBy_239 1 rfl ?_
      refine g_iaddN dX9_turnsBy_241 ?_
      refine g_iload dX9_turnsBy_242 0 rfl ?_
      refine g_iasI dX9_turnsBy_244 (f2_109) (by first | omega | (rw [List.length_set]; omega) | (rw [List.length_set, List.length_set]; omega)) (by simp only [List.length_set]; omega) (fun h3 e3 => ?_)
      have f3_109 : rd h3 109 = some (.inl ((((R).set ((3 * k) + 0) (nI ((f k).1))).set ((3 * k) + (0 + 1)) (nI ((f k).2.1))).set ((3 * k) + (0 + 1 + 1)) (nI ((f k).2.2)))) := by rw [e3]; exact rd_wr_eq (f2_109)
      have lf3_109 : ((((R).set ((3 * k) + 0) (nI ((f k).1))).set ((3 * k) + (0 + 1)) (nI ((f k).2.1))).set ((3 * k) + (0 + 1 + 1)) (nI ((f k).2.2))).length = _ := List.length_set.trans lf2_109
      have s3 : Smo 109 (109 + 1) h2 h3 := by rw [e3]; exact Smo.wr (by omega) (by omega)
      have f3_98 : rd h3 98 = some (.inr (9, [.int (nI n), .int (nI m), .ref 99, .ref 100, .ref 101, .int (nI a), .ref 102, .int (nI de), .ref 103, .ref 104, .ref 105, .int fo, .int as_, .int sm, .int sk, .ref 106, .ref 107, .ref 108, .int z, .ref 109, .ref 110, .ref 111, .int (nI am), .ref 112, .ref 113, .ref 114, .ref 115, .ref 116, .int (nI (bI ib)), .int iN, .int iM, .int iT, .ref 117, .ref 118, .ref 119])) := by rw [s3 _ (by omega)]; exact f2_98
      have f3_110 : rd h3 110 = some (.inl (B1)) := by rw [s3 _ (by omega)]; exact f2_110
      refine g_iinc (q := 1) (v := nI (0 + 1 + 1 + 1)) (ls' := [(5, .int (nI (0 + 1 + 1 + 1))), (6, .int (nI ((f k).2.2))), (4, .int (nI k)), (3, .int (nI k)), (0, .ref 98), (1, .int (nI 4)), (2, .int (nI u))]) dX9_turnsBy_245 rfl (inc1 _) (Nat.le_of_ble_eq_true rfl) rfl ?_
      refine g_goto 68 dX9_turnsBy_248 (by decide) ?_
      refine g_iload dX9_turnsBy_68 0 rfl ?_
      refine g_iconst (v := nI 3) dX9_turnsBy_70 (by decide +kernel) ?_
      refine g_icmp_geN 251 dX9_turnsBy_71 (by decide) (by omega) (by omega) (fun c71 => ?_) (fun z => absurd z (by omega))
      refine g_iinc (q := 3) (v := nI (k + 1)) (ls' := [(3, .int (nI (k + 1))), (5, .int (nI (0 + 1 + 1 + 1))), (6, .int (nI ((f k).2.2))), (4, .int (nI k)), (0, .ref 98), (1, .int (nI 4)), (2, .int (nI u))]) dX9_turnsBy_251 rfl (inc1 _) (Nat.le_of_ble_eq_true rfl) rfl ?_
      refine g_goto 17 dX9_turnsBy_254 (by decide) ?_
      refine g_lsub_ (ls2 := [(3, .int (nI (k + 1))), (0, .ref 98), (1, .int (nI 4)), (2, .int (nI u))]) [0, 4, 5, 6] rfl ?_
      refine ih (k + 1) _ _ (by omega) f3_98 (f3_109) (lf3_109) (pR_row vR lR (by omega) ?_ ?_ ?_) (hS.tr (fun q hq => by rw [s3 q (by omega), s2 q (by omega), s1 q (by omega)]))
      · exact show nI _ = nI (tOne n m 4 u f k).1 from congrArg nI (by show _ = (if u % 2 = 1 then ((f k).2.1, (f k).1, (f k).2.2) else f k).1; rw [if_neg c182])
      · exact show nI _ = nI (tOne n m 4 u f k).2.1 from congrArg nI (by show _ = (if u % 2 = 1 then ((f k).2.1, (f k).1, (f k).2.2) else f k).2.1; rw [if_neg c182])
      · exact show nI _ = nI (tOne n m 4 u f k).2.2 from congrArg nI (by show _ = (if u % 2 = 1 then ((f k).2.1, (f k).1, (f k).2.2) else f k).2.2; rw [if_neg c182])
    · refine g_aload_n dX9_turnsBy_185 4 rfl ?_
      refine g_getf dX9_turnsBy_186 kX9 wfX9_47 (Nat.le_of_ble_eq_true rfl) (hO) rfl ?_
      refine g_iconst (v := nI 3) dX9_turnsBy_189 (by decide +kernel) ?_
      refine g_iload_n dX9_turnsBy_190 3 rfl ?_
      refine g_imulN dX9_turnsBy_191 ?_
      refine g_iconst (v := nI 1) dX9_turnsBy_192 (by decide +kernel) ?_
      refine g_iaddN dX9_turnsBy_193 ?_
      refine g_iload dX9_turnsBy_194 1 rfl ?_
      refine g_isubN dX9_turnsBy_196 (by omega) ?_
      refine g_ialI dX9_turnsBy_197 ((show rd h 110 = some (.inl B1) by rw [hS 110 (by omega)]; exact hB)) (by omega) (by omega) ?_
      refine g_top (show (B1).getD (((3 * k) + 1) - 0) 0 = nI ((f k).2.1) from pR1 vB (show k < m by omega)) ?_
      refine g_goto 203 dX9_turnsBy_198 (by decide) ?_
      refine g_istore (ls' := [(6, .int (nI ((f k).2.1))), (5, .int (nI 0)), (4, .int (nI k)), (3, .int (nI k)), (0, .ref 98), (1, .int (nI 4)), (2, .int (nI u))]) dX9_turnsBy_203 (Nat.le_of_ble_eq_true rfl) rfl ?_
      refine g_goto 232 dX9_turnsBy_205 (by decide) ?_
      refine g_aload_n dX9_turnsBy_232 4 rfl ?_
      refine g_getf dX9_turnsBy_233 kX9 wfX9_44 (Nat.le_of_ble_eq_true rfl) (hO) rfl ?_
      refine g_iconst (v := nI 3) dX9_turnsBy_236 (by decide +kernel) ?_
      refine g_iload_n dX9_turnsBy_237 3 rfl ?_
      refine g_imulN dX9_turnsBy_238 ?_
      refine g_iload dX9_turnsBy_239 1 rfl ?_
      refine g_iaddN dX9_turnsBy_241 ?_
      refine g_iload dX9_turnsBy_242 0 rfl ?_
      refine g_iasI dX9_turnsBy_244 (hR) (by first | omega | (rw [List.length_set]; omega) | (rw [List.length_set, List.length_set]; omega)) (by omega) (fun h4 e4 => ?_)
      have f4_109 : rd h4 109 = some (.inl ((R).set ((3 * k) + 0) (nI ((f k).2.1)))) := by rw [e4]; exact rd_wr_eq (hR)
      have lf4_109 : ((R).set ((3 * k) + 0) (nI ((f k).2.1))).length = _ := List.length_set.trans lR
      have s4 : Smo 109 (109 + 1) h h4 := by rw [e4]; exact Smo.wr (by omega) (by omega)
      have f4_98 : rd h4 98 = some (.inr (9, [.int (nI n), .int (nI m), .ref 99, .ref 100, .ref 101, .int (nI a), .ref 102, .int (nI de), .ref 103, .ref 104, .ref 105, .int fo, .int as_, .int sm, .int sk, .ref 106, .ref 107, .ref 108, .int z, .ref 109, .ref 110, .ref 111, .int (nI am), .ref 112, .ref 113, .ref 114, .ref 115, .ref 116, .int (nI (bI ib)), .int iN, .int iM, .int iT, .ref 117, .ref 118, .ref 119])) := by rw [s4 _ (by omega)]; exact hO
      have f4_110 : rd h4 110 = some (.inl (B1)) := by rw [s4 _ (by omega)]; exact (show rd h 110 = some (.inl B1) by rw [hS 110 (by omega)]; exact hB)
      refine g_iinc (q := 1) (v := nI (0 + 1)) (ls' := [(5, .int (nI (0 + 1))), (6, .int (nI ((f k).2.1))), (4, .int (nI k)), (3, .int (nI k)), (0, .ref 98), (1, .int (nI 4)), (2, .int (nI u))]) dX9_turnsBy_245 rfl (inc1 _) (Nat.le_of_ble_eq_true rfl) rfl ?_
      refine g_goto 68 dX9_turnsBy_248 (by decide) ?_
      refine g_iload dX9_turnsBy_68 0 rfl ?_
      refine g_iconst (v := nI 3) dX9_turnsBy_70 (by decide +kernel) ?_
      refine g_icmp_geN 251 dX9_turnsBy_71 (by decide) (by omega) (by omega) (fun z => absurd z (by omega)) (fun c71 => ?_)
      refine g_aload_n dX9_turnsBy_74 4 rfl ?_
      refine g_getf dX9_turnsBy_75 kX9 wfX9_47 (Nat.le_of_ble_eq_true rfl) (f4_98) rfl ?_
      refine g_iconst (v := nI 3) dX9_turnsBy_78 (by decide +kernel) ?_
      refine g_iload_n dX9_turnsBy_79 3 rfl ?_
      refine g_imulN dX9_turnsBy_80 ?_
      refine g_iload dX9_turnsBy_81 0 rfl ?_
      refine g_iaddN dX9_turnsBy_83 ?_
      refine g_ialI dX9_turnsBy_84 (f4_110) (by omega) (by omega) ?_
      refine g_top (show (B1).getD ((3 * k) + (0 + 1)) 0 = nI ((f k).2.1) from pR1 vB (show k < m by omega)) ?_
      refine g_istore (ls' := [(6, .int (nI ((f k).2.1))), (5, .int (nI (0 + 1))), (4, .int (nI k)), (3, .int (nI k)), (0, .ref 98), (1, .int (nI 4)), (2, .int (nI u))]) dX9_turnsBy_85 (Nat.le_of_ble_eq_true rfl) rfl ?_
      refine g_iload_n dX9_turnsBy_87 5 rfl ?_
      refine g_tableIn 172 dX9_turnsBy_88 (by decide +kernel) (by decide +kernel) (off := 84) (by decide +kernel) (by decide) ?_
      refine g_iload dX9_turnsBy_172 1 rfl ?_
      refine g_iconst (v := nI 2) dX9_turnsBy_174 (by decide +kernel) ?_
      refine g_icmp_geN 201 dX9_turnsBy_175 (by decide) (by omega) (by omega) (fun z => absurd z (by omega)) (fun c175 => ?_)
      refine g_iload_n dX9_turnsBy_178 6 rfl ?_
      refine g_iconst (v := nI 2) dX9_turnsBy_179 (by decide +kernel) ?_
      refine g_iremN dX9_turnsBy_180 (by omega) (by omega) (by omega) ?_
      refine g_iconst (v := nI 1) dX9_turnsBy_181 (by decide +kernel) ?_
      refine g_icmp_neN 201 dX9_turnsBy_182 (by decide) (by omega) (by omega) (fun z => absurd z (by omega)) (fun c182 => ?_)
      refine g_aload_n dX9_turnsBy_185 4 rfl ?_
      refine g_getf dX9_turnsBy_186 kX9 wfX9_47 (Nat.le_of_ble_eq_true rfl) (f4_98) rfl ?_
      refine g_iconst (v := nI 3) dX9_turnsBy_189 (by decide +kernel) ?_
      refine g_iload_n dX9_turnsBy_190 3 rfl ?_
      refine g_imulN dX9_turnsBy_191 ?_
      refine g_iconst (v := nI 1) dX9_turnsBy_192 (by decide +kernel) ?_
      refine g_iaddN dX9_turnsBy_193 ?_
      refine g_iload dX9_turnsBy_194 1 rfl ?_
      refine g_isubN dX9_turnsBy_196 (by omega) ?_
      refine g_ialI dX9_turnsBy_197 (f4_110) (by omega) (by omega) ?_
      refine g_top (show (B1).getD (((3 * k) + 1) - (0 + 1)) 0 = nI ((f k).1) from pR0 vB (show k < m by omega)) ?_
      refine g_goto 203 dX9_turnsBy_198 (by decide) ?_
      refine g_istore (ls' := [(6, .int (nI ((f k).1))), (5, .int (nI (0 + 1))), (4, .int (nI k)), (3, .int (nI k)), (0, .ref 98), (1, .int (nI 4)), (2, .int (nI u))]) dX9_turnsBy_203 (Nat.le_of_ble_eq_true rfl) rfl ?_
      refine g_goto 232 dX9_turnsBy_205 (by decide) ?_
      refine g_aload_n dX9_turnsBy_232 4 rfl ?_
      refine g_getf dX9_turnsBy_233 kX9 wfX9_44 (Nat.le_of_ble_eq_true rfl) (f4_98) rfl ?_
      refine g_iconst (v := nI 3) dX9_turnsBy_236 (by decide +kernel) ?_
      refine g_iload_n dX9_turnsBy_237 3 rfl ?_
      refine g_imulN dX9_turnsBy_238 ?_
      refine g_iload dX9_turnsBy_239 1 rfl ?_
      refine g_iaddN dX9_turnsBy_241 ?_
      refine g_iload dX9_turnsBy_242 0 rfl ?_
      refine g_iasI dX9_turnsBy_244 (f4_109) (by first | omega | (rw [List.length_set]; omega) | (rw [List.length_set, List.length_set]; omega)) (by simp only [List.length_set]; omega) (fun h5 e5 => ?_)
      have f5_109 : rd h5 109 = some (.inl (((R).set ((3 * k) + 0) (nI ((f k).2.1))).set ((3 * k) + (0 + 1)) (nI ((f k).1)))) := by rw [e5]; exact rd_wr_eq (f4_109)
      have lf5_109 : (((R).set ((3 * k) + 0) (nI ((f k).2.1))).set ((3 * k) + (0 + 1)) (nI ((f k).1))).length = _ := List.length_set.trans lf4_109
      have s5 : Smo 109 (109 + 1) h4 h5 := by rw [e5]; exact Smo.wr (by omega) (by omega)
      have f5_98 : rd h5 98 = some (.inr (9, [.int (nI n), .int (nI m), .ref 99, .ref 100, .ref 101, .int (nI a), .ref 102, .int (nI de), .ref 103, .ref 104, .ref 105, .int fo, .int as_, .int sm, .int sk, .ref 106, .ref 107, .ref 108, .int z, .ref 109, .ref 110, .ref 111, .int (nI am), .ref 112, .ref 113, .ref 114, .ref 115, .ref 116, .int (nI (bI ib)), .int iN, .int iM, .int iT, .ref 117, .ref 118, .ref 119])) := by rw [s5 _ (by omega)]; exact f4_98
      have f5_110 : rd h5 110 = some (.inl (B1)) := by rw [s5 _ (by omega)]; exact f4_110
      refine g_iinc (q := 1) (v := nI (0 + 1 + 1)) (ls' := [(5, .int (nI (0 + 1 + 1))), (6, .int (nI ((f k).1))), (4, .int (nI k)), (3, .int (nI k)), (0, .ref 98), (1, .int (nI 4)), (2, .int (nI u))]) dX9_turnsBy_245 rfl (inc1 _) (Nat.le_of_ble_eq_true rfl) rfl ?_
      refine g_goto 68 dX9_turnsBy_248 (by decide) ?_
      refine g_iload dX9_turnsBy_68 0 rfl ?_
      refine g_iconst (v := nI 3) dX9_turnsBy_70 (by decide +kernel) ?_
      refine g_icmp_geN 251 dX9_turnsBy_71 (by decide) (by omega) (by omega) (fun z => absurd z (by omega)) (fun c71 => ?_)
      refine g_aload_n dX9_turnsBy_74 4 rfl ?_
      refine g_getf dX9_turnsBy_75 kX9 wfX9_47 (Nat.le_of_ble_eq_true rfl) (f5_98) rfl ?_
      refine g_iconst (v := nI 3) dX9_turnsBy_78 (by decide +kernel) ?_
      refine g_iload_n dX9_turnsBy_79 3 rfl ?_
      refine g_imulN dX9_turnsBy_80 ?_
      refine g_iload dX9_turnsBy_81 0 rfl ?_
      refine g_iaddN dX9_turnsBy_83 ?_
      refine g_ialI dX9_turnsBy_84 (f5_110) (by omega) (by omega) ?_
      refine g_top (show (B1).getD ((3 * k) + (0 + 1 + 1)) 0 = nI ((f k).2.2) from pR2 vB (show k < m by omega)) ?_
      refine g_istore (ls' := [(6, .int (nI ((f k).2.2))), (5, .int (nI (0 + 1 + 1))), (4, .int (nI k)), (3, .int (nI k)), (0, .ref 98), (1, .int (nI 4)), (2, .int (nI u))]) dX9_turnsBy_85 (Nat.le_of_ble_eq_true rfl) rfl ?_
      refine g_iload_n dX9_turnsBy_87 5 rfl ?_
      refine g_tableIn 172 dX9_turnsBy_88 (by decide +kernel) (by decide +kernel) (off := 84) (by decide +kernel) (by decide) ?_
      refine g_iload dX9_turnsBy_172 1 rfl ?_
      refine g_iconst (v := nI 2) dX9_turnsBy_174 (by decide +kernel) ?_
      refine g_icmp_geN 201 dX9_turnsBy_175 (by decide) (by omega) (by omega) (fun c175 => ?_) (fun z => absurd z (by omega))
      refine g_iload dX9_turnsBy_201 0 rfl ?_
      refine g_istore (ls' := [(6, .int (nI ((f k).2.2))), (5, .int (nI (0 + 1 + 1))), (4, .int (nI k)), (3, .int (nI k)), (0, .ref 98), (1, .int (nI 4)), (2, .int (nI u))]) dX9_turnsBy_203 (Nat.le_of_ble_eq_true rfl) rfl ?_
      refine g_goto 232 dX9_turnsBy_205 (by decide) ?_
      refine g_aload_n dX9_turnsBy_232 4 rfl ?_
      refine g_getf dX9_turnsBy_233 kX9 wfX9_44 (Nat.le_of_ble_eq_true rfl) (f5_98) rfl ?_
      refine g_iconst (v := nI 3) dX9_turnsBy_236 (by decide +kernel) ?_
      refine g_iload_n dX9_turnsBy_237 3 rfl ?_
      refine g_imulN dX9_turnsBy_238 ?_
      refine g_iload dX9_turnsBy_239 1 rfl ?_
      refine g_iaddN dX9_turnsBy_241 ?_
      refine g_iload dX9_turnsBy_242 0 rfl ?_
      refine g_iasI dX9_turnsBy_244 (f5_109) (by first | omega | (rw [List.length_set]; omega) | (rw [List.length_set, List.length_set]; omega)) (by simp only [List.length_set]; omega) (fun h6 e6 => ?_)
      have f6_109 : rd h6 109 = some (.inl ((((R).set ((3 * k) + 0) (nI ((f k).2.1))).set ((3 * k) + (0 + 1)) (nI ((f k).1))).set ((3 * k) + (0 + 1 + 1)) (nI ((f k).2.2)))) := by rw [e6]; exact rd_wr_eq (f5_109)
      have lf6_109 : ((((R).set ((3 * k) + 0) (nI ((f k).2.1))).set ((3 * k) + (0 + 1)) (nI ((f k).1))).set ((3 * k) + (0 + 1 + 1)) (nI ((f k).2.2))).length = _ := List.length_set.trans lf5_109
      have s6 : Smo 109 (109 + 1) h5 h6 := by rw [e6]; exact Smo.wr (by omega) (by omega)
      have f6_98 : rd h6 98 = some (.inr (9, [.int (nI n), .int (nI m), .ref 99, .ref 100, .ref 101, .int (nI a), .ref 102, .int (nI de), .ref 103, .ref 104, .ref 105, .int fo, .int as_, .int sm, .int sk, .ref 106, .ref 107, .ref 108, .int z, .ref 109, .ref 110, .ref 111, .int (nI am), .ref 112, .ref 113, .ref 114, .ref 115, .ref 116, .int (nI (bI ib)), .int iN, .int iM, .int iT, .ref 117, .ref 118, .ref 119])) := by rw [s6 _ (by omega)]; exact f5_98
      have f6_110 : rd h6 110 = some (.inl (B1)) := by rw [s6 _ (by omega)]; exact f5_110
      refine g_iinc (q := 1) (v := nI (0 + 1 + 1 + 1)) (ls' := [(5, .int (nI (0 + 1 + 1 + 1))), (6, .int (nI ((f k).2.2))), (4, .int (nI k)), (3, .int (nI k)), (0, .ref 98), (1, .int (nI 4)), (2, .int (nI u))]) dX9_turnsBy_245 rfl (inc1 _) (Nat.le_of_ble_eq_true rfl) rfl ?_
      refine g_goto 68 dX9_turnsBy_248 (by decide) ?_
      refine g_iload dX9_turnsBy_68 0 rfl ?_
      refine g_iconst (v := nI 3) dX9_turnsBy_70 (by decide +kernel) ?_
      refine g_icmp_geN 251 dX9_turnsBy_71 (by decide) (by omega) (by omega) (fun c71 => ?_) (fun z => absurd z (by omega))
      refine g_iinc (q := 3) (v := nI (k + 1)) (ls' := [(3, .int (nI (k + 1))), (5, .int (nI (0 + 1 + 1 + 1))), (6, .int (nI ((f k).2.2))), (4, .int (nI k)), (0, .ref 98), (1, .int (nI 4)), (2, .int (nI u))]) dX9_turnsBy_251 rfl (inc1 _) (Nat.le_of_ble_eq_true rfl) rfl ?_
      refine g_goto 17 dX9_turnsBy_254 (by decide) ?_
      refine g_lsub_ (ls2 := [(3, .int (nI (k + 1))), (0, .ref 98), (1, .int (nI 4)), (2, .int (nI u))]) [0, 4, 5, 6] rfl ?_
      refine ih (k + 1) _ _ (by omega) f6_98 (f6_109) (lf6_109) (pR_row vR lR (by omega) ?_ ?_ ?_) (hS.tr (fun q hq => by rw [s6 q (by omega), s5 q (by omega), s4 q (by omega)]))
      · exact show nI _ = nI (tOne n m 4 u f k).1 from congrArg nI (by show _ = (if u % 2 = 1 then ((f k).2.1, (f k).1, (f k).2.2) else f k).1; rw [if_pos c182])
      · exact show nI _ = nI (tOne n m 4 u f k).2.1 from congrArg nI (by show _ = (if u % 2 = 1 then ((f k).2.1, (f k).1, (f k).2.2) else f k).2.1; rw [if_pos c182])
      · exact show nI _ = nI (tOne n m 4 u f k).2.2 from congrArg nI (by show _ = (if u % 2 = 1 then ((f k).2.1, (f k).1, (f k).2.2) else f k).2.2; rw [if_pos c182])

set_option maxRecDepth 100000 in
set_option maxHeartbeats 4000000 in
theorem ev_tb4 {h : List aC} {n m a de : Nat} {fo as_ sm sk z : Int32} {am : Nat} {ib : Bool} {iN iM iT : Int32} (hO : MO h n m a de fo as_ sm sk z am ib iN iM iT) (n3 : n ≤ 13) (h0n : 0 < n) (hm : m ≤ 6) {Th Be : List Int32} (hT : rd h 109 = some (.inl Th)) (lTh : Th.length = 18) (hB : rd h 110 = some (.inl Be)) (lBe : Be.length = 18) {f : Nat → Pr} (vT : pR Th 0 m f) (hb : bf n m f) (u : Nat) (hu : u ≤ 12) : Ev mX9_turnsBy 2 0 0 [.ref 98, .int (nI 4), .int (nI u)] h (pq none (fun h2 => ∃ T2 B2, MO h2 n m a de fo as_ sm sk z am ib iN iM iT ∧ rd h2 109 = some (.inl T2) ∧ T2.length = 18 ∧ pR T2 0 m (tOne n m 4 u f) ∧ rd h2 110 = some (.inl B2) ∧ B2.length = 18 ∧ Smo 109 111 h h2)) := by
  have hO : rd h 98 = some (.inr (9, [.int (nI n), .int (nI m), .ref 99, .ref 100, .ref 101, .int (nI a), .ref 102, .int (nI de), .ref 103, .ref 104, .ref 105, .int fo, .int as_, .int sm, .int sk, .ref 106, .ref 107, .ref 108, .int z, .ref 109, .ref 110, .ref 111, .int (nI am), .ref 112, .ref 113, .ref 114, .ref 115, .ref 116, .int (nI (bI ib)), .int iN, .int iM, .int iT, .ref 117, .ref 118, .ref 119])) := hO
  refine Ev.of pX9_turnsBy (Nat.le_of_ble_eq_true rfl) ?_
  show G mX9_turnsBy (rmD 2 0 0) none _ 0 0 0 [(0, .ref 98), (1, .int (nI 4)), (2, .int (nI u))] [] h
  refine g_aload_n dX9_turnsBy_0 0 rfl ?_
  refine g_getf dX9_turnsBy_1 kX9 wfX9_44 (Nat.le_of_ble_eq_true rfl) (hO) rfl ?_
  refine g_iconst (v := nI 0) dX9_turnsBy_4 (by decide +kernel) ?_
  refine g_aload_n dX9_turnsBy_5 0 rfl ?_
  refine g_getf dX9_turnsBy_6 kX9 wfX9_47 (Nat.le_of_ble_eq_true rfl) (hO) rfl ?_
  refine g_iconst (v := nI 0) dX9_turnsBy_9 (by decide +kernel) ?_
  refine g_bipush (v := nI 18) dX9_turnsBy_10 (by decide +kernel) ?_
  have la1 : (Th).length = 18 := lTh
  have lb1 : (Be).length = 18 := lBe
  refine g_callSq (st1 := []) dX9_turnsBy_12 (ev_mlays (a := 0) (b := 0) (s := 18) (show 109 ≠ 110 by decide) (by omega) (by omega) ⟨by omega, by omega⟩ (hT) (hB)) oX9_lays wsX9_lays wmX9_83 rfl ⟨(Nat.le_of_ble_eq_true rfl), (Nat.le_of_ble_eq_true rfl)⟩ ⟨Nat.zero_le _, Nat.zero_le _⟩ (Nat.le_of_ble_eq_true rfl) rfl rfl (fun h2 q2 => ?_)
  obtain ⟨q2a, q2s⟩ := q2
  have f2_98 : rd h2 98 = some (.inr (9, [.int (nI n), .int (nI m), .ref 99, .ref 100, .ref 101, .int (nI a), .ref 102, .int (nI de), .ref 103, .ref 104, .ref 105, .int fo, .int as_, .int sm, .int sk, .ref 106, .ref 107, .ref 108, .int z, .ref 109, .ref 110, .ref 111, .int (nI am), .ref 112, .ref 113, .ref 114, .ref 115, .ref 116, .int (nI (bI ib)), .int iN, .int iM, .int iT, .ref 117, .ref 118, .ref 119])) := by rw [q2s _ (by omega)]; exact hO
  have f2_109 : rd h2 109 = some (.inl (Th)) := by rw [q2s _ (by omega)]; exact hT
  refine g_iconst (v := nI 0) dX9_turnsBy_15 (by decide +kernel) ?_
  refine g_istore_n (ls' := [(3, .int (nI 0)), (0, .ref 98), (1, .int (nI 4)), (2, .int (nI u))]) dX9_turnsBy_16 (Nat.le_of_ble_eq_true rfl) rfl ?_
  refine lp_tb4 n3 h0n hm (show rd h2 110 = some (.inl (cpL Th 0 Be 0 18)) from q2a) ((cpL_len _ _ _ _ _).trans lBe) (pR_cp vT lBe lTh hm) hb hu (fun R9 h9 o9 y9 l9 v9 s9 => ?_) m 0 _ _ (by omega) f2_98 (f2_109) lTh (fun j hj => absurd hj (Nat.not_lt_zero j)) Smo.rf
  have f9_110 : rd h9 110 = some (.inl (cpL (Th) 0 (Be) 0 18)) := by rw [s9 _ (by omega)]; exact q2a
  exact g_vret dX9_turnsBy_257 rfl ⟨Nat.zero_le _, Nat.zero_le _⟩ (⟨rfl, _, _, o9, y9, l9, v9, f9_110, ((cpL_len _ _ _ _ _).trans lb1), (fun q hq => by rw [s9 q (by omega), q2s q (by omega)])⟩)

set_option maxRecDepth 100000 in
set_option maxHeartbeats 4000000 in
theorem lp_tb5 {h0 : List aC} {P : Option Value → List aC → Prop} {n m a de : Nat} {fo as_ sm sk z : Int32} {am : Nat} {ib : Bool} {iN iM iT : Int32} (n3 : n ≤ 13) (h0n : 0 < n) (hm : m ≤ 6) {B1 : List Int32} (hB : rd h0 110 = some (.inl B1)) (lB : B1.length = 18) {f : Nat → Pr} (vB : pR B1 0 m f) (hb : bf n m f) {u : Nat} (hu : u ≤ 12) (K : ∀ R h', MO h' n m a de fo as_ sm sk z am ib iN iM iT → rd h' 109 = some (.inl R) → R.length = 18 → pR R 0 m (tOne n m 5 u f) → Smo 109 110 h0 h' → G mX9_turnsBy (rmD 2 0 0) none P 0 0 257 [(0, .ref 98), (1, .int (nI 5)), (2, .int (nI u)), (3, .int (nI m))] [] h') : ∀ j k (h : List aC) (R : List Int32), k + j = m → MO h n m a de fo as_ sm sk z am ib iN iM iT → rd h 109 = some (.inl R) → R.length = 18 → pR R 0 k (tOne n m 5 u f) → Smo 109 110 h0 h → G mX9_turnsBy (rmD 2 0 0) none P 0 0 17 [(3, .int (nI k)), (0, .ref 98), (1, .int (nI 5)), (2, .int (nI u))] [] h := by
  intro j
  induction j with
  | zero =>
    intro k h R hk hO hR lR vR hS
    have hO : rd h 98 = some (.inr (9, [.int (nI n), .int (nI m), .ref 99, .ref 100, .ref 101, .int (nI a), .ref 102, .int (nI de), .ref 103, .ref 104, .ref 105, .int fo, .int as_, .int sm, .int sk, .ref 106, .ref 107, .ref 108, .int z, .ref 109, .ref 110, .ref 111, .int (nI am), .ref 112, .ref 113, .ref 114, .ref 115, .ref 116, .int (nI (bI ib)), .int iN, .int iM, .int iT, .ref 117, .ref 118, .ref 119])) := hO
    refine g_iload_n dX9_turnsBy_17 0 rfl ?_
    refine g_aload_n dX9_turnsBy_18 1 rfl ?_
    refine g_getf dX9_turnsBy_19 kX9 wfX9_87 (Nat.le_of_ble_eq_true rfl) (hO) rfl ?_
    refine g_icmp_geN 257 dX9_turnsBy_22 (by decide) (by omega) (by omega) (fun c22 => ?_) (fun z => absurd z (by omega))
    refine g_lsub_ (ls2 := [(0, .ref 98), (1, .int (nI 5)), (2, .int (nI u)), (3, .int (nI k))]) [1, 2, 3, 0] rfl ?_
    have ek : k = m := by omega
    subst ek
    exact K _ _ hO hR lR vR hS
  | succ j ih =>
    intro k h R hk hO hR lR vR hS
    have hO : rd h 98 = some (.inr (9, [.int (nI n), .int (nI m), .ref 99, .ref 100, .ref 101, .int (nI a), .ref 102, .int (nI de), .ref 103, .ref 104, .ref 105, .int fo, .int as_, .int sm, .int sk, .ref 106, .ref 107, .ref 108, .int z, .ref 109, .ref 110, .ref 111, .int (nI am), .ref 112, .ref 113, .ref 114, .ref 115, .ref 116, .int (nI (bI ib)), .int iN, .int iM, .int iT, .ref 117, .ref 118, .ref 119])) := hO
    obtain ⟨b1, b2, b3⟩ := hb k (by omega)
    have mk : (k + u) % m < m := Nat.mod_lt _ (by omega)
    refine g_iload_n dX9_turnsBy_17 0 rfl ?_
    refine g_aload_n dX9_turnsBy_18 1 rfl ?_
    refine g_getf dX9_turnsBy_19 kX9 wfX9_87 (Nat.le_of_ble_eq_true rfl) (hO) rfl ?_
    refine g_icmp_geN 257 dX9_turnsBy_22 (by decide) (by omega) (by omega) (fun z => absurd z (by omega)) (fun c22 => ?_)
    refine g_iload_n dX9_turnsBy_25 2 rfl ?_
    refine g_iconst (v := nI 2) dX9_turnsBy_26 (by decide +kernel) ?_
    refine g_icmp_neN 41 dX9_turnsBy_27 (by decide) (by omega) (by omega) (fun c27 => ?_) (fun z => absurd z (by omega))
    refine g_iload_n dX9_turnsBy_41 2 rfl ?_
    refine g_iconst (v := nI 3) dX9_turnsBy_42 (by decide +kernel) ?_
    refine g_icmp_eqN 51 dX9_turnsBy_43 (by decide) (by omega) (by omega) (fun z => absurd z (by omega)) (fun c43 => ?_)
    refine g_iload_n dX9_turnsBy_46 2 rfl ?_
    refine g_iconst (v := nI 5) dX9_turnsBy_47 (by decide +kernel) ?_
    refine g_icmp_neN 62 dX9_turnsBy_48 (by decide) (by omega) (by omega) (fun z => absurd z (by omega)) (fun c48 => ?_)
    refine g_iload_n dX9_turnsBy_51 0 rfl ?_
    refine g_iload_n dX9_turnsBy_52 3 rfl ?_
    refine g_iaddN dX9_turnsBy_53 ?_
    refine g_aload_n dX9_turnsBy_54 1 rfl ?_
    refine g_getf dX9_turnsBy_55 kX9 wfX9_87 (Nat.le_of_ble_eq_true rfl) (hO) rfl ?_
    refine g_iremN dX9_turnsBy_58 (by omega) (by omega) (by omega) ?_
    refine g_goto 63 dX9_turnsBy_59 (by decide) ?_
    refine g_istore (ls' := [(4, .int (nI ((k + u) % m))), (3, .int (nI k)), (0, .ref 98), (1, .int (nI 5)), (2, .int (nI u))]) dX9_turnsBy_63 (Nat.le_of_ble_eq_true rfl) rfl ?_
    refine g_iconst (v := nI 0) dX9_turnsBy_65 (by decide +kernel) ?_
    refine g_istore (ls' := [(5, .int (nI 0)), (4, .int (nI ((k + u) % m))), (3, .int (nI k)), (0, .ref 98), (1, .int (nI 5)), (2, .int (nI u))]) dX9_turnsBy_66 (Nat.le_of_ble_eq_true rfl) rfl ?_
    refine g_iload dX9_turnsBy_68 0 rfl ?_
    refine g_iconst (v := nI 3) dX9_turnsBy_70 (by decide +kernel) ?_
    refine g_icmp_geN 251 dX9_turnsBy_71 (by decide) (by omega) (by omega) (fun z => absurd z (by omega)) (fun c71 => ?_)
    refine g_aload_n dX9_turnsBy_74 3 rfl ?_
    refine g_getf dX9_turnsBy_75 kX9 wfX9_47 (Nat.le_of_ble_eq_true rfl) (hO) rfl ?_
    refine g_iconst (v := nI 3) dX9_turnsBy_78 (by decide +kernel) ?_
    refine g_iload_n dX9_turnsBy_79 2 rfl ?_
    refine g_imulN dX9_turnsBy_80 ?_
    refine g_iload dX9_turnsBy_81 0 rfl ?_
    refine g_iaddN dX9_turnsBy_83 ?_
    refine g_ialI dX9_turnsBy_84 ((show rd h 110 = some (.inl B1) by rw [hS 110 (by omega)]; exact hB)) (by omega) (by omega) ?_
    refine g_top (show (B1).getD ((3 * k) + 0) 0 = nI ((f k).1) from pR0 vB (show k < m by omega)) ?_
    refine g_istore (ls' := [(6, .int (nI ((f k).1))), (5, .int (nI 0)), (4, .int (nI ((k + u) % m))), (3, .int (nI k)), (0, .ref 98), (1, .int (nI 5)), (2, .int (nI u))]) dX9_turnsBy_85 (Nat.le_of_ble_eq_true rfl) rfl ?_
    refine g_iload_n dX9_turnsBy_87 5 rfl ?_
    refine g_tableOut 208 dX9_turnsBy_88 (by decide +kernel) (by decide) ?_
    refine g_iload dX9_turnsBy_208 1 rfl ?_
    refine g_iconst (v := nI 2) dX9_turnsBy_210 (by decide +kernel) ?_
    refine g_icmp_neN 228 dX9_turnsBy_211 (by decide) (by omega) (by omega) (fun c211 => ?_) (fun z => absurd z (by omega))
    refine g_iload dX9_turnsBy_228 0 rfl ?_
    refine g_istore (ls' := [(6, .int (nI ((f k).1))), (5, .int (nI 0)), (4, .int (nI ((k + u) % m))), (3, .int (nI k)), (0, .ref 98), (1, .int (nI 5)), (2, .int (nI u))]) dX9_turnsBy_230 (Nat.le_of_ble_eq_true rfl) rfl ?_
    refine g_aload_n dX9_turnsBy_232 4 rfl ?_
    refine g_getf dX9_turnsBy_233 kX9 wfX9_44 (Nat.le_of_ble_eq_true rfl) (hO) rfl ?_
    refine g_iconst (v := nI 3) dX9_turnsBy_236 (by decide +kernel) ?_
    refine g_iload_n dX9_turnsBy_237 3 rfl ?_
    refine g_imulN dX9_turnsBy_238 ?_
    refine g_iload dX9_turnsBy_239 1 rfl ?_
    refine g_iaddN dX9_turnsBy_241 ?_
    refine g_iload dX9_turnsBy_242 0 rfl ?_
    refine g_iasI dX9_turnsBy_244 (hR) (by first | omega | (rw [List.length_set]; omega) | (rw [List.length_set, List.length_set]; omega)) (by omega) (fun h1 e1 => ?_)
    have f1_109 : rd h1 109 = some (.inl ((R).set ((3 * k) + 0) (nI ((f k).1)))) := by rw [e1]; exact rd_wr_eq (hR)
    have lf1_109 : ((R).set ((3 * k) + 0) (nI ((f k).1))).length = _ := List.length_set.trans lR
    have s1 : Smo 109 (109 + 1) h h1 := by rw [e1]; exact Smo.wr (by omega) (by omega)
    have f1_98 : rd h1 98 = some (.inr (9, [.int (nI n), .int (nI m), .ref 99, .ref 100, .ref 101, .int (nI a), .ref 102, .int (nI de), .ref 103, .ref 104, .ref 105, .int fo, .int as_, .int sm, .int sk, .ref 106, .ref 107, .ref 108, .int z, .ref 109, .ref 110, .ref 111, .int (nI am), .ref 112, .ref 113, .ref 114, .ref 115, .ref 116, .int (nI (bI ib)), .int iN, .int iM, .int iT, .ref 117, .ref 118, .ref 119])) := by rw [s1 _ (by omega)]; exact hO
    have f1_110 : rd h1 110 = some (.inl (B1)) := by rw [s1 _ (by omega)]; exact (show rd h 110 = some (.inl B1) by rw [hS 110 (by omega)]; exact hB)
    refine g_iinc (q := 1) (v := nI (0 + 1)) (ls' := [(5, .int (nI (0 + 1))), (6, .int (nI ((f k).1))), (4, .int (nI ((k + u) % m))), (3, .int (nI k)), (0, .ref 98), (1, .int (nI 5)), (2, .int (nI u))]) dX9_turnsBy_245 rfl (inc1 _) (Nat.le_of_ble_eq_true rfl) rfl ?_
    refine g_goto 68 dX9_turnsBy_248 (by decide) ?_
    refine g_iload dX9_turnsBy_68 0 rfl ?_
    refine g_iconst (v := nI 3) dX9_turnsBy_70 (by decide +kernel) ?_
    refine g_icmp_geN 251 dX9_turnsBy_71 (by decide) (by omega) (by omega) (fun z => absurd z (by omega)) (fun c71 => ?_)
    refine g_aload_n dX9_turnsBy_74 4 rfl ?_
    refine g_getf dX9_turnsBy_75 kX9 wfX9_47 (Nat.le_of_ble_eq_true rfl) (f1_98) rfl ?_
    refine g_iconst (v := nI 3) dX9_turnsBy_78 (by decide +kernel) ?_
    refine g_iload_n dX9_turnsBy_79 3 rfl ?_
    refine g_imulN dX9_turnsBy_80 ?_
    refine g_iload dX9_turnsBy_81 0 rfl ?_
    refine g_iaddN dX9_turnsBy_83 ?_
    refine g_ialI dX9_turnsBy_84 (f1_110) (by omega) (by omega) ?_
    refine g_top (show (B1).getD ((3 * k) + (0 + 1)) 0 = nI ((f k).2.1) from pR1 vB (show k < m by omega)) ?_
    refine g_istore (ls' := [(6, .int (nI ((f k).2.1))), (5, .int (nI (0 + 1))), (4, .int (nI ((k + u) % m))), (3, .int (nI k)), (0, .ref 98), (1, .int (nI 5)), (2, .int (nI u))]) dX9_turnsBy_85 (Nat.le_of_ble_eq_true rfl) rfl ?_
    refine g_iload_n dX9_turnsBy_87 5 rfl ?_
    refine g_tableOut 208 dX9_turnsBy_88 (by decide +kernel) (by decide) ?_
    refine g_iload dX9_turnsBy_208 1 rfl ?_
    refine g_iconst (v := nI 2) dX9_turnsBy_210 (by decide +kernel) ?_
    refine g_icmp_neN 228 dX9_turnsBy_211 (by decide) (by omega) (by omega) (fun c211 => ?_) (fun z => absurd z (by omega))
    refine g_iload dX9_turnsBy_228 0 rfl ?_
    refine g_istore (ls' := [(6, .int (nI ((f k).2.1))), (5, .int (nI (0 + 1))), (4, .int (nI ((k + u) % m))), (3, .int (nI k)), (0, .ref 98), (1, .int (nI 5)), (2, .int (nI u))]) dX9_turnsBy_230 (Nat.le_of_ble_eq_true rfl) rfl ?_
    refine g_aload_n dX9_turnsBy_232 4 rfl ?_
    refine g_getf dX9_turnsBy_233 kX9 wfX9_44 (Nat.le_of_ble_eq_true rfl) (f1_98) rfl ?_
    refine g_iconst (v := nI 3) dX9_turnsBy_236 (by decide +kernel) ?_
    refine g_iload_n dX9_turnsBy_237 3 rfl ?_
    refine g_imulN dX9_turnsBy_238 ?_
    refine g_iload dX9_turnsBy_239 1 rfl ?_
    refine g_iaddN dX9_turnsBy_241 ?_
    refine g_iload dX9_turnsBy_242 0 rfl ?_
    refine g_iasI dX9_turnsBy_244 (f1_109) (by first | omega | (rw [List.length_set]; omega) | (rw [List.length_set, List.length_set]; omega)) (by simp only [List.length_set]; omega) (fun h2 e2 => ?_)
    have f2_109 : rd h2 109 = some (.inl (((R).set ((3 * k) + 0) (nI ((f k).1))).set ((3 * k) + (0 + 1)) (nI ((f k).2.1)))) := by rw [e2]; exact rd_wr_eq (f1_109)
    have lf2_109 : (((R).set ((3 * k) + 0) (nI ((f k).1))).set ((3 * k) + (0 + 1)) (nI ((f k).2.1))).length = _ := List.length_set.trans lf1_109
    have s2 : Smo 109 (109 + 1) h1 h2 := by rw [e2]; exact Smo.wr (by omega) (by omega)
    have f2_98 : rd h2 98 = some (.inr (9, [.int (nI n), .int (nI m), .ref 99, .ref 100, .ref 101, .int (nI a), .ref 102, .int (nI de), .ref 103, .ref 104, .ref 105, .int fo, .int as_, .int sm, .int sk, .ref 106, .ref 107, .ref 108, .int z, .ref 109, .ref 110, .ref 111, .int (nI am), .ref 112, .ref 113, .ref 114, .ref 115, .ref 116, .int (nI (bI ib)), .int iN, .int iM, .int iT, .ref 117, .ref 118, .ref 119])) := by rw [s2 _ (by omega)]; exact f1_98
    have f2_110 : rd h2 110 = some (.inl (B1)) := by rw [s2 _ (by omega)]; exact f1_110
    refine g_iinc (q := 1) (v := nI (0 + 1 + 1)) (ls' := [(5, .int (nI (0 + 1 + 1))), (6, .int (nI ((f k).2.1))), (4, .int (nI ((k + u) % m))), (3, .int (nI k)), (0, .ref 98), (1, .int (nI 5)), (2, .int (nI u))]) dX9_turnsBy_245 rfl (inc1 _) (Nat.le_of_ble_eq_true rfl) rfl ?_
    refine g_goto 68 dX9_turnsBy_248 (by decide) ?_
    refine g_iload dX9_turnsBy_68 0 rfl ?_
    refine g_iconst (v := nI 3) dX9_turnsBy_70 (by decide +kernel) ?_
    refine g_icmp_geN 251 dX9_turnsBy_71 (by decide) (by omega) (by omega) (fun z => absurd z (by omega)) (fun c71 => ?_)
    refine g_aload_n dX9_turnsBy_74 4 rfl ?_
    refine g_getf dX9_turnsBy_75 kX9 wfX9_47 (Nat.le_of_ble_eq_true rfl) (f2_98) rfl ?_
    refine g_iconst (v := nI 3) dX9_turnsBy_78 (by decide +kernel) ?_
    refine g_iload_n dX9_turnsBy_79 3 rfl ?_
    refine g_imulN dX9_turnsBy_80 ?_
    refine g_iload dX9_turnsBy_81 0 rfl ?_
    refine g_iaddN dX9_turnsBy_83 ?_
    refine g_ialI dX9_turnsBy_84 (f2_110) (by omega) (by omega) ?_
    refine g_top (show (B1).getD ((3 * k) + (0 + 1 + 1)) 0 = nI ((f k).2.2) from pR2 vB (show k < m by omega)) ?_
    refine g_istore (ls' := [(6, .int (nI ((f k).2.2))), (5, .int (nI (0 + 1 + 1))), (4, .int (nI ((k + u) % m))), (3, .int (nI k)), (0, .ref 98), (1, .int (nI 5)), (2, .int (nI u))]) dX9_turnsBy_85 (Nat.le_of_ble_eq_true rfl) rfl ?_
    refine g_iload_n dX9_turnsBy_87 5 rfl ?_
    refine g_tableOut 208 dX9_turnsBy_88 (by decide +kernel) (by decide) ?_
    refine g_iload dX9_turnsBy_208 1 rfl ?_
    refine g_iconst (v := nI 2) dX9_turnsBy_210 (by decide +kernel) ?_
    refine g_icmp_neN 228 dX9_turnsBy_211 (by decide) (by omega) (by omega) (fun z => absurd z (by omega)) (fun c211 => ?_)
    refine g_aload_n dX9_turnsBy_214 4 rfl ?_
    refine g_getf dX9_turnsBy_215 kX9 wfX9_47 (Nat.le_of_ble_eq_true rfl) (f2_98) rfl ?_
    refine g_iconst (v := nI 3) dX9_turnsBy_218 (by decide +kernel) ?_
    refine g_iload dX9_turnsBy_219 2 rfl ?_
    refine g_imulN dX9_turnsBy_221 ?_
    refine g_iconst (v := nI 2) dX9_turnsBy_222 (by decide +kernel) ?_
    refine g_iaddN dX9_turnsBy_223 ?_
    refine g_ialI dX9_turnsBy_224 (f2_110) (by omega) (by omega) ?_
    refine g_top (show (B1).getD ((3 * ((k + u) % m)) + 2) 0 = nI ((f ((k + u) % m)).2.2) from pR2 vB (show (k + u) % m < m by omega)) ?_
    refine g_goto 230 dX9_turnsBy_225 (by decide) ?_
    refine g_istore (ls' := [(6, .int (nI ((f ((k + u) % m)).2.2))), (5, .int (nI (0 + 1 + 1))), (4, .int (nI ((k + u) % m))), (3, .int (nI k)), (0, .ref 98), (1, .int (nI 5)), (2, .int (nI u))]) dX9_turnsBy_230 (Nat.le_of_ble_eq_true rfl) rfl ?_
    refine g_aload_n dX9_turnsBy_232 4 rfl ?_
    refine g_getf dX9_turnsBy_233 kX9 wfX9_44 (Nat.le_of_ble_eq_true rfl) (f2_98) rfl ?_
    refine g_iconst (v := nI 3) dX9_turnsBy_236 (by decide +kernel) ?_
    refine g_iload_n dX9_turnsBy_237 3 rfl ?_
    refine g_imulN dX9_turnsBy_238 ?_
    refine g_iload dX9_turnsBy_239 1 rfl ?_
    refine g_iaddN dX9_turnsBy_241 ?_
    refine g_iload dX9_turnsBy_242 0 rfl ?_
    refine g_iasI dX9_turnsBy_244 (f2_109) (by first | omega | (rw [List.length_set]; omega) | (rw [List.length_set, List.length_set]; omega)) (by simp only [List.length_set]; omega) (fun h3 e3 => ?_)
    have f3_109 : rd h3 109 = some (.inl ((((R).set ((3 * k) + 0) (nI ((f k).1))).set ((3 * k) + (0 + 1)) (nI ((f k).2.1))).set ((3 * k) + (0 + 1 + 1)) (nI ((f ((k + u) % m)).2.2)))) := by rw [e3]; exact rd_wr_eq (f2_109)
    have lf3_109 : ((((R).set ((3 * k) + 0) (nI ((f k).1))).set ((3 * k) + (0 + 1)) (nI ((f k).2.1))).set ((3 * k) + (0 + 1 + 1)) (nI ((f ((k + u) % m)).2.2))).length = _ := List.length_set.trans lf2_109
    have s3 : Smo 109 (109 + 1) h2 h3 := by rw [e3]; exact Smo.wr (by omega) (by omega)
    have f3_98 : rd h3 98 = some (.inr (9, [.int (nI n), .int (nI m), .ref 99, .ref 100, .ref 101, .int (nI a), .ref 102, .int (nI de), .ref 103, .ref 104, .ref 105, .int fo, .int as_, .int sm, .int sk, .ref 106, .ref 107, .ref 108, .int z, .ref 109, .ref 110, .ref 111, .int (nI am), .ref 112, .ref 113, .ref 114, .ref 115, .ref 116, .int (nI (bI ib)), .int iN, .int iM, .int iT, .ref 117, .ref 118, .ref 119])) := by rw [s3 _ (by omega)]; exact f2_98
    have f3_110 : rd h3 110 = some (.inl (B1)) := by rw [s3 _ (by omega)]; exact f2_110
    refine g_iinc (q := 1) (v := nI (0 + 1 + 1 + 1)) (ls' := [(5, .int (nI (0 + 1 + 1 + 1))), (6, .int (nI ((f ((k + u) % m)).2.2))), (4, .int (nI ((k + u) % m))), (3, .int (nI k)), (0, .ref 98), (1, .int (nI 5)), (2, .int (nI u))]) dX9_turnsBy_245 rfl (inc1 _) (Nat.le_of_ble_eq_true rfl) rfl ?_
    refine g_goto 68 dX9_turnsBy_248 (by decide) ?_
    refine g_iload dX9_turnsBy_68 0 rfl ?_
    refine g_iconst (v := nI 3) dX9_turnsBy_70 (by decide +kernel) ?_
    refine g_icmp_geN 251 dX9_turnsBy_71 (by decide) (by omega) (by omega) (fun c71 => ?_) (fun z => absurd z (by omega))
    refine g_iinc (q := 3) (v := nI (k + 1)) (ls' := [(3, .int (nI (k + 1))), (5, .int (nI (0 + 1 + 1 + 1))), (6, .int (nI ((f ((k + u) % m)).2.2))), (4, .int (nI ((k + u) % m))), (0, .ref 98), (1, .int (nI 5)), (2, .int (nI u))]) dX9_turnsBy_251 rfl (inc1 _) (Nat.le_of_ble_eq_true rfl) rfl ?_
    refine g_goto 17 dX9_turnsBy_254 (by decide) ?_
    refine g_lsub_ (ls2 := [(3, .int (nI (k + 1))), (0, .ref 98), (1, .int (nI 5)), (2, .int (nI u))]) [0, 4, 5, 6] rfl ?_
    refine ih (k + 1) _ _ (by omega) f3_98 (f3_109) (lf3_109) (pR_row vR lR (by omega) ?_ ?_ ?_) (hS.tr (fun q hq => by rw [s3 q (by omega), s2 q (by omega), s1 q (by omega)]))
    · exact rfl
    · exact rfl
    · exact rfl

set_option maxRecDepth 100000 in
set_option maxHeartbeats 4000000 in
theorem ev_tb5 {h : List aC} {n m a de : Nat} {fo as_ sm sk z : Int32} {am : Nat} {ib : Bool} {iN iM iT : Int32} (hO : MO h n m a de fo as_ sm sk z am ib iN iM iT) (n3 : n ≤ 13) (h0n : 0 < n) (hm : m ≤ 6) {Th Be : List Int32} (hT : rd h 109 = some (.inl Th)) (lTh : Th.length = 18) (hB : rd h 110 = some (.inl Be)) (lBe : Be.length = 18) {f : Nat → Pr} (vT : pR Th 0 m f) (hb : bf n m f) (u : Nat) (hu : u ≤ 12) : Ev mX9_turnsBy 2 0 0 [.ref 98, .int (nI 5), .int (nI u)] h (pq none (fun h2 => ∃ T2 B2, MO h2 n m a de fo as_ sm sk z am ib iN iM iT ∧ rd h2 109 = some (.inl T2) ∧ T2.length = 18 ∧ pR T2 0 m (tOne n m 5 u f) ∧ rd h2 110 = some (.inl B2) ∧ B2.length = 18 ∧ Smo 109 111 h h2)) := by
  have hO : rd h 98 = some (.inr (9, [.int (nI n), .int (nI m), .ref 99, .ref 100, .ref 101, .int (nI a), .ref 102, .int (nI de), .ref 103, .ref 104, .ref 105, .int fo, .int as_, .int sm, .int sk, .ref 106, .ref 107, .ref 108, .int z, .ref 109, .ref 110, .ref 111, .int (nI am), .ref 112, .ref 113, .ref 114, .ref 115, .ref 116, .int (nI (bI ib)), .int iN, .int iM, .int iT, .ref 117, .ref 118, .ref 119])) := hO
  refine Ev.of pX9_turnsBy (Nat.le_of_ble_eq_true rfl) ?_
  show G mX9_turnsBy (rmD 2 0 0) none _ 0 0 0 [(0, .ref 98), (1, .int (nI 5)), (2, .int (nI u))] [] h
  refine g_aload_n dX9_turnsBy_0 0 rfl ?_
  refine g_getf dX9_turnsBy_1 kX9 wfX9_44 (Nat.le_of_ble_eq_true rfl) (hO) rfl ?_
  refine g_iconst (v := nI 0) dX9_turnsBy_4 (by decide +kernel) ?_
  refine g_aload_n dX9_turnsBy_5 0 rfl ?_
  refine g_getf dX9_turnsBy_6 kX9 wfX9_47 (Nat.le_of_ble_eq_true rfl) (hO) rfl ?_
  refine g_iconst (v := nI 0) dX9_turnsBy_9 (by decide +kernel) ?_
  refine g_bipush (v := nI 18) dX9_turnsBy_10 (by decide +kernel) ?_
  have la1 : (Th).length = 18 := lTh
  have lb1 : (Be).length = 18 := lBe
  refine g_callSq (st1 := []) dX9_turnsBy_12 (ev_mlays (a := 0) (b := 0) (s := 18) (show 109 ≠ 110 by decide) (by omega) (by omega) ⟨by omega, by omega⟩ (hT) (hB)) oX9_lays wsX9_lays wmX9_83 rfl ⟨(Nat.le_of_ble_eq_true rfl), (Nat.le_of_ble_eq_true rfl)⟩ ⟨Nat.zero_le _, Nat.zero_le _⟩ (Nat.le_of_ble_eq_true rfl) rfl rfl (fun h2 q2 => ?_)
  obtain ⟨q2a, q2s⟩ := q2
  have f2_98 : rd h2 98 = some (.inr (9, [.int (nI n), .int (nI m), .ref 99, .ref 100, .ref 101, .int (nI a), .ref 102, .int (nI de), .ref 103, .ref 104, .ref 105, .int fo, .int as_, .int sm, .int sk, .ref 106, .ref 107, .ref 108, .int z, .ref 109, .ref 110, .ref 111, .int (nI am), .ref 112, .ref 113, .ref 114, .ref 115, .ref 116, .int (nI (bI ib)), .int iN, .int iM, .int iT, .ref 117, .ref 118, .ref 119])) := by rw [q2s _ (by omega)]; exact hO
  have f2_109 : rd h2 109 = some (.inl (Th)) := by rw [q2s _ (by omega)]; exact hT
  refine g_iconst (v := nI 0) dX9_turnsBy_15 (by decide +kernel) ?_
  refine g_istore_n (ls' := [(3, .int (nI 0)), (0, .ref 98), (1, .int (nI 5)), (2, .int (nI u))]) dX9_turnsBy_16 (Nat.le_of_ble_eq_true rfl) rfl ?_
  refine lp_tb5 n3 h0n hm (show rd h2 110 = some (.inl (cpL Th 0 Be 0 18)) from q2a) ((cpL_len _ _ _ _ _).trans lBe) (pR_cp vT lBe lTh hm) hb hu (fun R9 h9 o9 y9 l9 v9 s9 => ?_) m 0 _ _ (by omega) f2_98 (f2_109) lTh (fun j hj => absurd hj (Nat.not_lt_zero j)) Smo.rf
  have f9_110 : rd h9 110 = some (.inl (cpL (Th) 0 (Be) 0 18)) := by rw [s9 _ (by omega)]; exact q2a
  exact g_vret dX9_turnsBy_257 rfl ⟨Nat.zero_le _, Nat.zero_le _⟩ (⟨rfl, _, _, o9, y9, l9, v9, f9_110, ((cpL_len _ _ _ _ _).trans lb1), (fun q hq => by rw [s9 q (by omega), q2s q (by omega)])⟩)

theorem ev_tb {h : List aC} {n m a de : Nat} {fo as_ sm sk z : Int32} {am : Nat} {ib : Bool} {iN iM iT : Int32} (hO : MO h n m a de fo as_ sm sk z am ib iN iM iT) (n3 : n ≤ 13) (h0n : 0 < n) (hm : m ≤ 6) {Th Be : List Int32} (hT : rd h 109 = some (.inl Th)) (lTh : Th.length = 18) (hB : rd h 110 = some (.inl Be)) (lBe : Be.length = 18) {f : Nat → Pr} (vT : pR Th 0 m f) (hb : bf n m f) (d u : Nat) (hd : d ≤ 5) (hu : u ≤ 12) : Ev mX9_turnsBy 2 0 0 [.ref 98, .int (nI d), .int (nI u)] h (pq none (fun h2 => ∃ T2 B2, MO h2 n m a de fo as_ sm sk z am ib iN iM iT ∧ rd h2 109 = some (.inl T2) ∧ T2.length = 18 ∧ pR T2 0 m (tOne n m d u f) ∧ rd h2 110 = some (.inl B2) ∧ B2.length = 18 ∧ Smo 109 111 h h2)) := by
  have : d = 0 ∨ d = 1 ∨ d = 2 ∨ d = 3 ∨ d = 4 ∨ d = 5 := by omega
  rcases this with e | e | e | e | e | e <;> subst e
  · exact ev_tb0 hO n3 h0n hm hT lTh hB lBe vT hb u hu
  · exact ev_tb1 hO n3 h0n hm hT lTh hB lBe vT hb u hu
  · exact ev_tb2 hO n3 h0n hm hT lTh hB lBe vT hb u hu
  · exact ev_tb3 hO n3 h0n hm hT lTh hB lBe vT hb u hu
  · exact ev_tb4 hO n3 h0n hm hT lTh hB lBe vT hb u hu
  · exact ev_tb5 hO n3 h0n hm hT lTh hB lBe vT hb u hu
