def CrM (h : List aC) (c : Cr) (de : Nat) (fo as_ sm sk z : Int32) (am : Nat) (ib : Bool) (iN iM iT : Int32) (P R U : List Int32) : Prop := MO h c.1 c.2.1 c.2.2.2.1 de fo as_ sm sk z am ib iN iM iT ∧ rd h 99 = some (.inl P) ∧ P.length = 18 ∧ pR P 0 c.2.1 c.2.2.1 ∧ rd h 100 = some (.inl R) ∧ R.length = 338 ∧ rR R 0 c.2.2.2.2.2 ∧ rd h 101 = some (.inl U) ∧ U.length = 12 ∧ tR U c.2.2.2.1 c.2.2.2.2.1
theorem rPair_ok {n m x y : Nat} (hn : n < 2 ^ 31) (hx : x < 2 ^ 31) (hy : y < 2 ^ 31) (h : 1 ≤ x ∧ x < n ∧ 1 ≤ y ∧ y < n ∧ m ≠ (n - 1) / 2 ∧ x ≠ y) : rPair n m (nI x) (nI y) = 0 := by
  unfold rPair
  have a : ∀ v, v < 2 ^ 31 → 1 ≤ v → ¬ nI v < 1 := fun v hv h1 z => by have := (nI_ltI (b := 1) hv (by decide)).mp z; omega
  rw [if_neg (fun z => by rcases z with z | z; exact a x hx h.1 z; exact a y hy h.2.2.1 z), if_neg (fun z => by rcases z with z | z | z; (have := (nI_leI hn hx).mp z; omega); (have := (nI_leI hn hy).mp z; omega); exact h.2.2.2.2.1 z), if_neg (fun z => h.2.2.2.2.2 ((nI_eq hx hy).mp z))]
theorem rAdder_ok {n m k v : Nat} (hn : n < 2 ^ 31) (hm : m < 2 ^ 31) (hk : k < 2 ^ 31) (hv : v < 2 ^ 31) (h : k < m ∧ v < n) : rAdder n m (nI k) (nI v) = 0 := by
  unfold rAdder
  rw [if_neg (not_not_intro ⟨nI_pos' hk, (nI_ltI hk hm).mpr h.1⟩), if_neg (Int32.not_lt.mpr (nI_pos' hv)), if_neg (fun z => by have := (nI_leI hn hv).mp z; omega)]
theorem rTurn_ok {a k u : Nat} (hk : k < 2 ^ 31) (hu : u < 2 ^ 31) (h : k ≤ 5 ∧ u ≤ 12 ∧ a < 6) : rTurn a (nI k) (nI u) = 0 := by
  unfold rTurn
  rw [if_neg (fun z => by rcases z with z | z; exact absurd z (Int32.not_lt.mpr (nI_pos' hk)); (have := (nI_ltI (a := 5) (by decide) hk).mp z; omega)), if_neg (Int32.not_lt.mpr (nI_pos' hu)), if_neg (fun z => by rcases z with z | z; (have := (nI_ltI (a := 12) (by decide) hu).mp z; omega); omega)]
theorem opt_t {p : Prop} [Decidable p] {x c : Cr} (h : p) : (if p then some x else none).isSome = true ∧ (if p then some x else none).getD c = x := by rw [if_pos h]; exact ⟨rfl, rfl⟩
theorem opt_f {p : Prop} [Decidable p] {x c : Cr} (h : ¬ p) : (if p then some x else none).isSome = false ∧ (if p then some x else none).getD c = c := by rw [if_neg h]; exact ⟨rfl, rfl⟩

set_option maxRecDepth 100000 in
set_option maxHeartbeats 4000000 in
theorem ev_bsR {h : List aC} {n m a de : Nat} {fo as_ sm sk z : Int32} {am : Nat} {ib : Bool} {iN iM iT : Int32} (hO : MO h n m a de fo as_ sm sk z am ib iN iM iT) {Ro : List Int32} (hR : rd h 100 = some (.inl Ro)) (lR : Ro.length = 338) (x : Nat) : Ev mX9_becomesSize 2 0 0 [.ref 98, .int (nI x)] h (pq none (fun h2 => MO h2 x 0 0 0 fo as_ sm sk z am ib iN iM iT ∧ rd h2 100 = some (.inl (fillL Ro 338)) ∧ Sm2 98 100 h h2)) := by
  have hO : rd h 98 = some (.inr (9, [.int (nI n), .int (nI m), .ref 99, .ref 100, .ref 101, .int (nI a), .ref 102, .int (nI de), .ref 103, .ref 104, .ref 105, .int fo, .int as_, .int sm, .int sk, .ref 106, .ref 107, .ref 108, .int z, .ref 109, .ref 110, .ref 111, .int (nI am), .ref 112, .ref 113, .ref 114, .ref 115, .ref 116, .int (nI (bI ib)), .int iN, .int iM, .int iT, .ref 117, .ref 118, .ref 119])) := hO
  refine Ev.of pX9_becomesSize (Nat.le_of_ble_eq_true rfl) ?_
  show G mX9_becomesSize (rmD 2 0 0) none _ 0 0 0 [(0, .ref 98), (1, .int (nI x))] [] h
  refine g_aload_n dX9_becomesSize_0 0 rfl ?_
  refine g_iload_n dX9_becomesSize_1 1 rfl ?_
  refine g_putv dX9_becomesSize_2 kX9 wfX9_7 (Nat.le_of_ble_eq_true rfl) rfl (fun _ _ => ⟨rfl, rfl⟩) (hO) (Nat.le_of_ble_eq_true rfl) (fs' := [.int (nI x), .int (nI m), .ref 99, .ref 100, .ref 101, .int (nI a), .ref 102, .int (nI de), .ref 103, .ref 104, .ref 105, .int fo, .int as_, .int sm, .int sk, .ref 106, .ref 107, .ref 108, .int z, .ref 109, .ref 110, .ref 111, .int (nI am), .ref 112, .ref 113, .ref 114, .ref 115, .ref 116, .int (nI (bI ib)), .int iN, .int iM, .int iT, .ref 117, .ref 118, .ref 119]) rfl (fun h1 e1 => ?_)
  have f1_98 : rd h1 98 = some (.inr (9, [.int (nI x), .int (nI m), .ref 99, .ref 100, .ref 101, .int (nI a), .ref 102, .int (nI de), .ref 103, .ref 104, .ref 105, .int fo, .int as_, .int sm, .int sk, .ref 106, .ref 107, .ref 108, .int z, .ref 109, .ref 110, .ref 111, .int (nI am), .ref 112, .ref 113, .ref 114, .ref 115, .ref 116, .int (nI (bI ib)), .int iN, .int iM, .int iT, .ref 117, .ref 118, .ref 119])) := by rw [e1]; exact rd_wr_eq (hO)
  have s1 : Smo 98 (98 + 1) h h1 := by rw [e1]; exact Smo.wr (by omega) (by omega)
  have f1_100 : rd h1 100 = some (.inl (Ro)) := by rw [s1 _ (by omega)]; exact hR
  refine g_aload_n dX9_becomesSize_5 0 rfl ?_
  refine g_iconst (v := nI 0) dX9_becomesSize_6 (by decide +kernel) ?_
  refine g_putv dX9_becomesSize_7 kX9 wfX9_87 (Nat.le_of_ble_eq_true rfl) rfl (fun _ _ => ⟨rfl, rfl⟩) (f1_98) (Nat.le_of_ble_eq_true rfl) (fs' := [.int (nI x), .int (nI 0), .ref 99, .ref 100, .ref 101, .int (nI a), .ref 102, .int (nI de), .ref 103, .ref 104, .ref 105, .int fo, .int as_, .int sm, .int sk, .ref 106, .ref 107, .ref 108, .int z, .ref 109, .ref 110, .ref 111, .int (nI am), .ref 112, .ref 113, .ref 114, .ref 115, .ref 116, .int (nI (bI ib)), .int iN, .int iM, .int iT, .ref 117, .ref 118, .ref 119]) rfl (fun h2 e2 => ?_)
  have f2_98 : rd h2 98 = some (.inr (9, [.int (nI x), .int (nI 0), .ref 99, .ref 100, .ref 101, .int (nI a), .ref 102, .int (nI de), .ref 103, .ref 104, .ref 105, .int fo, .int as_, .int sm, .int sk, .ref 106, .ref 107, .ref 108, .int z, .ref 109, .ref 110, .ref 111, .int (nI am), .ref 112, .ref 113, .ref 114, .ref 115, .ref 116, .int (nI (bI ib)), .int iN, .int iM, .int iT, .ref 117, .ref 118, .ref 119])) := by rw [e2]; exact rd_wr_eq (f1_98)
  have s2 : Smo 98 (98 + 1) h1 h2 := by rw [e2]; exact Smo.wr (by omega) (by omega)
  have f2_100 : rd h2 100 = some (.inl (Ro)) := by rw [s2 _ (by omega)]; exact f1_100
  refine g_aload_n dX9_becomesSize_10 0 rfl ?_
  refine g_iconst (v := nI 0) dX9_becomesSize_11 (by decide +kernel) ?_
  refine g_putv dX9_becomesSize_12 kX9 wfX9_102 (Nat.le_of_ble_eq_true rfl) rfl (fun _ _ => ⟨rfl, rfl⟩) (f2_98) (Nat.le_of_ble_eq_true rfl) (fs' := [.int (nI x), .int (nI 0), .ref 99, .ref 100, .ref 101, .int (nI 0), .ref 102, .int (nI de), .ref 103, .ref 104, .ref 105, .int fo, .int as_, .int sm, .int sk, .ref 106, .ref 107, .ref 108, .int z, .ref 109, .ref 110, .ref 111, .int (nI am), .ref 112, .ref 113, .ref 114, .ref 115, .ref 116, .int (nI (bI ib)), .int iN, .int iM, .int iT, .ref 117, .ref 118, .ref 119]) rfl (fun h3 e3 => ?_)
  have f3_98 : rd h3 98 = some (.inr (9, [.int (nI x), .int (nI 0), .ref 99, .ref 100, .ref 101, .int (nI 0), .ref 102, .int (nI de), .ref 103, .ref 104, .ref 105, .int fo, .int as_, .int sm, .int sk, .ref 106, .ref 107, .ref 108, .int z, .ref 109, .ref 110, .ref 111, .int (nI am), .ref 112, .ref 113, .ref 114, .ref 115, .ref 116, .int (nI (bI ib)), .int iN, .int iM, .int iT, .ref 117, .ref 118, .ref 119])) := by rw [e3]; exact rd_wr_eq (f2_98)
  have s3 : Smo 98 (98 + 1) h2 h3 := by rw [e3]; exact Smo.wr (by omega) (by omega)
  have f3_100 : rd h3 100 = some (.inl (Ro)) := by rw [s3 _ (by omega)]; exact f2_100
  refine g_aload_n dX9_becomesSize_15 0 rfl ?_
  refine g_iconst (v := nI 0) dX9_becomesSize_16 (by decide +kernel) ?_
  refine g_putv dX9_becomesSize_17 kX9 wfX9_80 (Nat.le_of_ble_eq_true rfl) rfl (fun _ _ => ⟨rfl, rfl⟩) (f3_98) (Nat.le_of_ble_eq_true rfl) (fs' := [.int (nI x), .int (nI 0), .ref 99, .ref 100, .ref 101, .int (nI 0), .ref 102, .int (nI 0), .ref 103, .ref 104, .ref 105, .int fo, .int as_, .int sm, .int sk, .ref 106, .ref 107, .ref 108, .int z, .ref 109, .ref 110, .ref 111, .int (nI am), .ref 112, .ref 113, .ref 114, .ref 115, .ref 116, .int (nI (bI ib)), .int iN, .int iM, .int iT, .ref 117, .ref 118, .ref 119]) rfl (fun h4 e4 => ?_)
  have f4_98 : rd h4 98 = some (.inr (9, [.int (nI x), .int (nI 0), .ref 99, .ref 100, .ref 101, .int (nI 0), .ref 102, .int (nI 0), .ref 103, .ref 104, .ref 105, .int fo, .int as_, .int sm, .int sk, .ref 106, .ref 107, .ref 108, .int z, .ref 109, .ref 110, .ref 111, .int (nI am), .ref 112, .ref 113, .ref 114, .ref 115, .ref 116, .int (nI (bI ib)), .int iN, .int iM, .int iT, .ref 117, .ref 118, .ref 119])) := by rw [e4]; exact rd_wr_eq (f3_98)
  have s4 : Smo 98 (98 + 1) h3 h4 := by rw [e4]; exact Smo.wr (by omega) (by omega)
  have f4_100 : rd h4 100 = some (.inl (Ro)) := by rw [s4 _ (by omega)]; exact f3_100
  refine g_aload_n dX9_becomesSize_20 0 rfl ?_
  refine g_callVq (st1 := []) dX9_becomesSize_21 (ev_empties (show MO h4 _ _ _ _ _ _ _ _ _ _ _ _ _ _ from f4_98) lR f4_100) oX9_empties wiX9_empties weX9_empties wmX9_77 kX9 (f4_98) rfl ⟨(Nat.le_of_ble_eq_true rfl), (Nat.le_of_ble_eq_true rfl)⟩ ⟨Nat.zero_le _, Nat.zero_le _⟩ (Nat.le_of_ble_eq_true rfl) rfl rfl (fun h5 q5 => ?_)
  obtain ⟨q5a, q5s⟩ := q5
  have f5_98 : rd h5 98 = some (.inr (9, [.int (nI x), .int (nI 0), .ref 99, .ref 100, .ref 101, .int (nI 0), .ref 102, .int (nI 0), .ref 103, .ref 104, .ref 105, .int fo, .int as_, .int sm, .int sk, .ref 106, .ref 107, .ref 108, .int z, .ref 109, .ref 110, .ref 111, .int (nI am), .ref 112, .ref 113, .ref 114, .ref 115, .ref 116, .int (nI (bI ib)), .int iN, .int iM, .int iT, .ref 117, .ref 118, .ref 119])) := by rw [q5s _ (by omega)]; exact f4_98
  exact g_vret dX9_becomesSize_24 rfl ⟨Nat.zero_le _, Nat.zero_le _⟩ (⟨rfl, f5_98, q5a, (fun q hq => by rw [q5s q (by omega), s4 q (by omega), s3 q (by omega), s2 q (by omega), s1 q (by omega)])⟩)

set_option maxRecDepth 100000 in
set_option maxHeartbeats 4000000 in
theorem ev_isPR {h : List aC} {n m a de : Nat} {fo as_ sm sk z : Int32} {am : Nat} {ib : Bool} {iN iM iT : Int32} (hO : MO h n m a de fo as_ sm sk z am ib iN iM iT) (hm : m ≤ 6) (x : Nat) (hx : x < 2 ^ 31) : Ev mX9_isPair 2 0 0 [.ref 98, .int (nI x)] h (pv (.int (nI (bI (decide (x < m))))) h) := by
  have hO : rd h 98 = some (.inr (9, [.int (nI n), .int (nI m), .ref 99, .ref 100, .ref 101, .int (nI a), .ref 102, .int (nI de), .ref 103, .ref 104, .ref 105, .int fo, .int as_, .int sm, .int sk, .ref 106, .ref 107, .ref 108, .int z, .ref 109, .ref 110, .ref 111, .int (nI am), .ref 112, .ref 113, .ref 114, .ref 115, .ref 116, .int (nI (bI ib)), .int iN, .int iM, .int iT, .ref 117, .ref 118, .ref 119])) := hO
  refine Ev.of pX9_isPair (Nat.le_of_ble_eq_true rfl) ?_
  show G mX9_isPair (rmD 2 0 0) none _ 0 0 0 [(0, .ref 98), (1, .int (nI x))] [] h
  refine g_iload_n dX9_isPair_0 1 rfl ?_
  refine g_i2l (v := lN x) dX9_isPair_1 (nI_l (by omega)) ?_
  refine g_lconst (v := lN 0) dX9_isPair_2 rfl ?_
  refine g_aload_n dX9_isPair_3 0 rfl ?_
  refine g_getf dX9_isPair_4 kX9 wfX9_87 (Nat.le_of_ble_eq_true rfl) (hO) rfl ?_
  refine g_iconst (v := nI 1) dX9_isPair_7 (by decide +kernel) ?_
  refine g_isub dX9_isPair_8 ?_
  refine g_i2l dX9_isPair_9 rfl ?_
  refine g_callSp dX9_isPair_10 ((nI_l hx) ▸ ev_inM (nI x) (nI m - nI 1) _) oX9_in wsX9_in wmX9_98 rfl ⟨(Nat.le_of_ble_eq_true rfl), (Nat.le_of_ble_eq_true rfl)⟩ ⟨Nat.zero_le _, Nat.zero_le _⟩ (Nat.le_of_ble_eq_true rfl) rfl ?_
  refine g_top (show nI (bI (decide (nI 0 ≤ nI x ∧ nI x ≤ nI m - nI 1))) = nI (bI (decide (x < m))) from congrArg (fun z => nI (bI z)) ((isP_eq (by omega)).trans (decide_eq_decide.mpr ⟨fun z => (nI_ltI hx (by omega)).mp z.2, fun z => ⟨nI_pos' hx, (nI_ltI hx (by omega)).mpr z⟩⟩))) ?_
  exact g_zret dX9_isPair_13 rfl (narB _) ⟨Nat.zero_le _, Nat.zero_le _⟩ (⟨rfl, rfl⟩)

set_option maxRecDepth 100000 in
set_option maxHeartbeats 4000000 in
theorem ev_does_110 {h : List aC} {c : Cr} {de : Nat} {fo as_ sm sk z : Int32} {am : Nat} {ib : Bool} {iN iM iT : Int32} {P R U : List Int32} (HC : CrM h c de fo as_ sm sk z am ib iN iM iT P R U) (ok : okCr c) {W : List Nat} (hW : rd h 111 = some (.inl (W.map nI))) (lW : W.length = 72) (ha : am ≤ 72) (i : Nat) (hs : stm W am i) (e : W.getD i 0 = 110) (el : lnO (W.getD i 0) = 4) : Ev mX9_does 3 0 0 [.ref 98, .int (nI i)] h (pq (some (.int (nI (bI (tSize c (nmV W (i + 1) 2)).isSome)))) (fun h2 => ∃ de2 P2 R2 U2, CrM h2 ((tSize c (nmV W (i + 1) 2)).getD c) de2 fo as_ sm sk z am ib iN iM iT P2 R2 U2 ∧ Smo 98 102 h h2)) := by
  obtain ⟨hO, hP, lP, vP, hR, lR, vR, hU, lU, vU⟩ := id HC
  have hO : rd h 98 = some (.inr (9, [.int (nI c.1), .int (nI c.2.1), .ref 99, .ref 100, .ref 101, .int (nI c.2.2.2.1), .ref 102, .int (nI de), .ref 103, .ref 104, .ref 105, .int fo, .int as_, .int sm, .int sk, .ref 106, .ref 107, .ref 108, .int z, .ref 109, .ref 110, .ref 111, .int (nI am), .ref 112, .ref 113, .ref 114, .ref 115, .ref 116, .int (nI (bI ib)), .int iN, .int iM, .int iT, .ref 117, .ref 118, .ref 119])) := hO
  obtain ⟨k1, k2, k3, k4, k5, k6, k7, k8, k9⟩ := id ok
  obtain ⟨s1, s2, s3⟩ := hs
  have nv1 := nmV_lt (W := W) (i := i + 1) 2 (fun q hq => by rw [Nat.add_assoc]; exact s3 _ (by omega) (by omega))
  refine Ev.of pX9_does (Nat.le_of_ble_eq_true rfl) ?_
  show G mX9_does (rmD 3 0 0) none _ 0 0 0 [(0, .ref 98), (1, .int (nI i))] [] h
  refine g_aload_n dX9_does_0 0 rfl ?_
  refine g_getf dX9_does_1 kX9 wfX9_50 (Nat.le_of_ble_eq_true rfl) (hO) rfl ?_
  refine g_iload_n dX9_does_4 1 rfl ?_
  refine g_ialN dX9_does_5 (hW) (by omega) (by omega) ?_
  refine g_top (show nI ((W).getD i 0) = nI 110 from congrArg nI e) ?_
  refine g_lookup 40 dX9_does_6 (by decide +kernel) (off := 34) (by decide +kernel) (by decide) ?_
  refine g_aload_n dX9_does_40 0 rfl ?_
  refine g_iload_n dX9_does_41 1 rfl ?_
  refine g_iconst (v := nI 1) dX9_does_42 (by decide +kernel) ?_
  refine g_iaddN dX9_does_43 ?_
  refine g_iconst (v := nI 2) dX9_does_44 (by decide +kernel) ?_
  refine g_callVp dX9_does_45 (ev_numAt (show MO h _ _ _ _ _ _ _ _ _ _ _ _ _ _ from hO) hW lW (i + 1) 2 (by omega) (by omega) (fun q hq => by rw [Nat.add_assoc]; exact s3 _ (by omega) (by omega))) oX9_numberAt wiX9_numberAt weX9_numberAt wmX9_248 kX9 (hO) rfl ⟨(Nat.le_of_ble_eq_true rfl), (Nat.le_of_ble_eq_true rfl)⟩ ⟨Nat.zero_le _, Nat.zero_le _⟩ (Nat.le_of_ble_eq_true rfl) rfl ?_
  refine g_istore_n (ls' := [(2, .int (nI (nmV W (i + 1) 2))), (0, .ref 98), (1, .int (nI i))]) dX9_does_48 (Nat.le_of_ble_eq_true rfl) rfl ?_
  refine g_iload_n dX9_does_49 0 rfl ?_
  refine g_callSp dX9_does_50 (ev_isSize (nI (nmV W (i + 1) 2)) _) oX9_isSize wsX9_isSize wmX9_105 rfl ⟨(Nat.le_of_ble_eq_true rfl), (Nat.le_of_ble_eq_true rfl)⟩ ⟨Nat.zero_le _, Nat.zero_le _⟩ (Nat.le_of_ble_eq_true rfl) rfl ?_
  refine g_if_eqB 61 dX9_does_53 (by decide) (fun c53 => ?_) (fun c53 => ?_)
  · refine g_iload_n dX9_does_61 0 rfl ?_
    refine g_callSp dX9_does_62 (ev_isSize (nI (nmV W (i + 1) 2)) _) oX9_isSize wsX9_isSize wmX9_105 rfl ⟨(Nat.le_of_ble_eq_true rfl), (Nat.le_of_ble_eq_true rfl)⟩ ⟨Nat.zero_le _, Nat.zero_le _⟩ (Nat.le_of_ble_eq_true rfl) rfl ?_
    exact g_zret dX9_does_65 rfl (narB _) ⟨Nat.zero_le _, Nat.zero_le _⟩ (⟨by rw [c53, show tSize c (nmV W (i + 1) 2) = none from if_neg (of_decide_eq_false c53)]; rfl, _, _, _, _, by rw [show tSize c (nmV W (i + 1) 2) = none from if_neg (of_decide_eq_false c53)]; exact ⟨hO, hP, lP, vP, hR, lR, vR, hU, lU, vU⟩, Smo.rf⟩)
  · refine g_aload_n dX9_does_56 1 rfl ?_
    refine g_iload_n dX9_does_57 0 rfl ?_
    refine g_callVq (st1 := []) dX9_does_58 (ev_bsR (show MO h _ _ _ _ _ _ _ _ _ _ _ _ _ _ from hO) hR lR (nmV W (i + 1) 2)) oX9_becomesSize wiX9_becomesSize weX9_becomesSize wmX9_109 kX9 (hO) rfl ⟨(Nat.le_of_ble_eq_true rfl), (Nat.le_of_ble_eq_true rfl)⟩ ⟨Nat.zero_le _, Nat.zero_le _⟩ (Nat.le_of_ble_eq_true rfl) rfl rfl (fun h1 q1 => ?_)
    obtain ⟨oz, yz, sz⟩ := q1
    have f1_99 : rd h1 99 = some (.inl (P)) := by rw [sz _ (by omega)]; exact hP
    have f1_101 : rd h1 101 = some (.inl (U)) := by rw [sz _ (by omega)]; exact hU
    have f1_111 : rd h1 111 = some (.inl ((W).map nI)) := by rw [sz _ (by omega)]; exact hW
    have oz : rd h1 98 = some (.inr (9, [.int (nI (nmV W (i + 1) 2)), .int (nI 0), .ref 99, .ref 100, .ref 101, .int (nI 0), .ref 102, .int (nI 0), .ref 103, .ref 104, .ref 105, .int fo, .int as_, .int sm, .int sk, .ref 106, .ref 107, .ref 108, .int z, .ref 109, .ref 110, .ref 111, .int (nI am), .ref 112, .ref 113, .ref 114, .ref 115, .ref 116, .int (nI (bI ib)), .int iN, .int iM, .int iT, .ref 117, .ref 118, .ref 119])) := oz
    refine g_iload_n dX9_does_61 0 rfl ?_
    refine g_callSp dX9_does_62 (ev_isSize (nI (nmV W (i + 1) 2)) _) oX9_isSize wsX9_isSize wmX9_105 rfl ⟨(Nat.le_of_ble_eq_true rfl), (Nat.le_of_ble_eq_true rfl)⟩ ⟨Nat.zero_le _, Nat.zero_le _⟩ (Nat.le_of_ble_eq_true rfl) rfl ?_
    exact g_zret dX9_does_65 rfl (narB _) ⟨Nat.zero_le _, Nat.zero_le _⟩ (⟨by rw [c53, show tSize c (nmV W (i + 1) 2) = some _ from if_pos (of_decide_eq_true c53)]; rfl, _, _, _, _, by rw [show tSize c (nmV W (i + 1) 2) = some _ from if_pos (of_decide_eq_true c53)]; exact ⟨oz, f1_99, lP, (fun j hj => absurd hj (Nat.not_lt_zero j)), yz, ((fillL_len R 338).trans lR), (rR_empty lR), f1_101, lU, (fun j hj => absurd hj (Nat.not_lt_zero j))⟩, (fun q hq => by rw [sz q (by omega)])⟩)

set_option maxRecDepth 100000 in
set_option maxHeartbeats 4000000 in
theorem ev_does_112 {h : List aC} {c : Cr} {de : Nat} {fo as_ sm sk z : Int32} {am : Nat} {ib : Bool} {iN iM iT : Int32} {P R U : List Int32} (HC : CrM h c de fo as_ sm sk z am ib iN iM iT P R U) (ok : okCr c) {W : List Nat} (hW : rd h 111 = some (.inl (W.map nI))) (lW : W.length = 72) (ha : am ≤ 72) (i : Nat) (hs : stm W am i) (e : W.getD i 0 = 112) (el : lnO (W.getD i 0) = 6) : Ev mX9_does 3 0 0 [.ref 98, .int (nI i)] h (pq (some (.int (nI (bI (tPair c (nmV W (i + 1) 2) (nmV W (i + 3) 2)).isSome)))) (fun h2 => ∃ de2 P2 R2 U2, CrM h2 ((tPair c (nmV W (i + 1) 2) (nmV W (i + 3) 2)).getD c) de2 fo as_ sm sk z am ib iN iM iT P2 R2 U2 ∧ Smo 98 102 h h2)) := by
  obtain ⟨hO, hP, lP, vP, hR, lR, vR, hU, lU, vU⟩ := id HC
  have hO : rd h 98 = some (.inr (9, [.int (nI c.1), .int (nI c.2.1), .ref 99, .ref 100, .ref 101, .int (nI c.2.2.2.1), .ref 102, .int (nI de), .ref 103, .ref 104, .ref 105, .int fo, .int as_, .int sm, .int sk, .ref 106, .ref 107, .ref 108, .int z, .ref 109, .ref 110, .ref 111, .int (nI am), .ref 112, .ref 113, .ref 114, .ref 115, .ref 116, .int (nI (bI ib)), .int iN, .int iM, .int iT, .ref 117, .ref 118, .ref 119])) := hO
  obtain ⟨k1, k2, k3, k4, k5, k6, k7, k8, k9⟩ := id ok
  obtain ⟨s1, s2, s3⟩ := hs
  have nv1 := nmV_lt (W := W) (i := i + 1) 2 (fun q hq => by rw [Nat.add_assoc]; exact s3 _ (by omega) (by omega))
  have nv3 := nmV_lt (W := W) (i := i + 3) 2 (fun q hq => by rw [Nat.add_assoc]; exact s3 _ (by omega) (by omega))
  refine Ev.of pX9_does (Nat.le_of_ble_eq_true rfl) ?_
  show G mX9_does (rmD 3 0 0) none _ 0 0 0 [(0, .ref 98), (1, .int (nI i))] [] h
  refine g_aload_n dX9_does_0 0 rfl ?_
  refine g_getf dX9_does_1 kX9 wfX9_50 (Nat.le_of_ble_eq_true rfl) (hO) rfl ?_
  refine g_iload_n dX9_does_4 1 rfl ?_
  refine g_ialN dX9_does_5 (hW) (by omega) (by omega) ?_
  refine g_top (show nI ((W).getD i 0) = nI 112 from congrArg nI e) ?_
  refine g_lookup 66 dX9_does_6 (by decide +kernel) (off := 60) (by decide +kernel) (by decide) ?_
  refine g_aload_n dX9_does_66 0 rfl ?_
  refine g_iload_n dX9_does_67 1 rfl ?_
  refine g_iconst (v := nI 1) dX9_does_68 (by decide +kernel) ?_
  refine g_iaddN dX9_does_69 ?_
  refine g_iconst (v := nI 2) dX9_does_70 (by decide +kernel) ?_
  refine g_callVp dX9_does_71 (ev_numAt (show MO h _ _ _ _ _ _ _ _ _ _ _ _ _ _ from hO) hW lW (i + 1) 2 (by omega) (by omega) (fun q hq => by rw [Nat.add_assoc]; exact s3 _ (by omega) (by omega))) oX9_numberAt wiX9_numberAt weX9_numberAt wmX9_248 kX9 (hO) rfl ⟨(Nat.le_of_ble_eq_true rfl), (Nat.le_of_ble_eq_true rfl)⟩ ⟨Nat.zero_le _, Nat.zero_le _⟩ (Nat.le_of_ble_eq_true rfl) rfl ?_
  refine g_istore_n (ls' := [(3, .int (nI (nmV W (i + 1) 2))), (0, .ref 98), (1, .int (nI i))]) dX9_does_74 (Nat.le_of_ble_eq_true rfl) rfl ?_
  refine g_aload_n dX9_does_75 1 rfl ?_
  refine g_iload_n dX9_does_76 2 rfl ?_
  refine g_iconst (v := nI 3) dX9_does_77 (by decide +kernel) ?_
  refine g_iaddN dX9_does_78 ?_
  refine g_iconst (v := nI 2) dX9_does_79 (by decide +kernel) ?_
  refine g_callVp dX9_does_80 (ev_numAt (show MO h _ _ _ _ _ _ _ _ _ _ _ _ _ _ from hO) hW lW (i + 3) 2 (by omega) (by omega) (fun q hq => by rw [Nat.add_assoc]; exact s3 _ (by omega) (by omega))) oX9_numberAt wiX9_numberAt weX9_numberAt wmX9_248 kX9 (hO) rfl ⟨(Nat.le_of_ble_eq_true rfl), (Nat.le_of_ble_eq_true rfl)⟩ ⟨Nat.zero_le _, Nat.zero_le _⟩ (Nat.le_of_ble_eq_true rfl) rfl ?_
  refine g_istore (ls' := [(4, .int (nI (nmV W (i + 3) 2))), (3, .int (nI (nmV W (i + 1) 2))), (0, .ref 98), (1, .int (nI i))]) dX9_does_83 (Nat.le_of_ble_eq_true rfl) rfl ?_
  refine g_iload_n dX9_does_85 1 rfl ?_
  refine g_i2l (v := lN (nmV W (i + 1) 2)) dX9_does_86 (nI_l (by omega)) ?_
  refine g_lconst (v := lN 1) dX9_does_87 rfl ?_
  refine g_aload_n dX9_does_88 2 rfl ?_
  refine g_getf dX9_does_89 kX9 wfX9_7 (Nat.le_of_ble_eq_true rfl) (hO) rfl ?_
  refine g_iconst (v := nI 1) dX9_does_92 (by decide +kernel) ?_
  refine g_isubN dX9_does_93 (by omega) ?_
  refine g_i2l (v := lN (c.1 - 1)) dX9_does_94 (nI_l (by omega)) ?_
  refine g_callSp dX9_does_95 (ev_inK (nmV W (i + 1) 2) 1 (c.1 - 1) (by omega) (by decide) (by omega) _) oX9_in wsX9_in wmX9_98 rfl ⟨(Nat.le_of_ble_eq_true rfl), (Nat.le_of_ble_eq_true rfl)⟩ ⟨Nat.zero_le _, Nat.zero_le _⟩ (Nat.le_of_ble_eq_true rfl) rfl ?_
  refine g_if_eqB 135 dX9_does_98 (by decide) (fun c98 => ?_) (fun c98 => ?_)
  · refine g_iconst (v := nI 0) dX9_does_135 (by decide +kernel) ?_
    exact g_zret dX9_does_136 rfl (by decide) ⟨Nat.zero_le _, Nat.zero_le _⟩ (⟨by rw [show tPair c (nmV W (i + 1) 2) (nmV W (i + 3) 2) = none from if_neg (show ¬ rPair c.1 c.2.1 (nI (nmV W (i + 1) 2)) (nI (nmV W (i + 3) 2)) = 0 from fun z => by have z2 := rPair_in (by omega) (by omega) (by omega) z; exact of_decide_eq_false c98 ⟨z2.1, by omega⟩)]; rfl, _, _, _, _, by rw [show tPair c (nmV W (i + 1) 2) (nmV W (i + 3) 2) = none from if_neg (show ¬ rPair c.1 c.2.1 (nI (nmV W (i + 1) 2)) (nI (nmV W (i + 3) 2)) = 0 from fun z => by have z2 := rPair_in (by omega) (by omega) (by omega) z; exact of_decide_eq_false c98 ⟨z2.1, by omega⟩)]; exact ⟨hO, hP, lP, vP, hR, lR, vR, hU, lU, vU⟩, Smo.rf⟩)
  · refine g_iload dX9_does_101 0 rfl ?_
    refine g_i2l (v := lN (nmV W (i + 3) 2)) dX9_does_103 (nI_l (by omega)) ?_
    refine g_lconst (v := lN 1) dX9_does_104 rfl ?_
    refine g_aload_n dX9_does_105 2 rfl ?_
    refine g_getf dX9_does_106 kX9 wfX9_7 (Nat.le_of_ble_eq_true rfl) (hO) rfl ?_
    refine g_iconst (v := nI 1) dX9_does_109 (by decide +kernel) ?_
    refine g_isubN dX9_does_110 (by omega) ?_
    refine g_i2l (v := lN (c.1 - 1)) dX9_does_111 (nI_l (by omega)) ?_
    refine g_callSp dX9_does_112 (ev_inK (nmV W (i + 3) 2) 1 (c.1 - 1) (by omega) (by decide) (by omega) _) oX9_in wsX9_in wmX9_98 rfl ⟨(Nat.le_of_ble_eq_true rfl), (Nat.le_of_ble_eq_true rfl)⟩ ⟨Nat.zero_le _, Nat.zero_le _⟩ (Nat.le_of_ble_eq_true rfl) rfl ?_
    refine g_if_eqB 135 dX9_does_115 (by decide) (fun c115 => ?_) (fun c115 => ?_)
    · refine g_iconst (v := nI 0) dX9_does_135 (by decide +kernel) ?_
      exact g_zret dX9_does_136 rfl (by decide) ⟨Nat.zero_le _, Nat.zero_le _⟩ (⟨by rw [show tPair c (nmV W (i + 1) 2) (nmV W (i + 3) 2) = none from if_neg (show ¬ rPair c.1 c.2.1 (nI (nmV W (i + 1) 2)) (nI (nmV W (i + 3) 2)) = 0 from fun z => by have z2 := rPair_in (by omega) (by omega) (by omega) z; exact of_decide_eq_false c115 ⟨z2.2.2.1, by omega⟩)]; rfl, _, _, _, _, by rw [show tPair c (nmV W (i + 1) 2) (nmV W (i + 3) 2) = none from if_neg (show ¬ rPair c.1 c.2.1 (nI (nmV W (i + 1) 2)) (nI (nmV W (i + 3) 2)) = 0 from fun z => by have z2 := rPair_in (by omega) (by omega) (by omega) z; exact of_decide_eq_false c115 ⟨z2.2.2.1, by omega⟩)]; exact ⟨hO, hP, lP, vP, hR, lR, vR, hU, lU, vU⟩, Smo.rf⟩)
    · refine g_iload_n dX9_does_118 1 rfl ?_
      refine g_iload dX9_does_119 0 rfl ?_
      refine g_icmp_eqN 135 dX9_does_121 (by decide) (by omega) (by omega) (fun c121 => ?_) (fun c121 => ?_)
      · refine g_iconst (v := nI 0) dX9_does_135 (by decide +kernel) ?_
        exact g_zret dX9_does_136 rfl (by decide) ⟨Nat.zero_le _, Nat.zero_le _⟩ (⟨by rw [show tPair c (nmV W (i + 1) 2) (nmV W (i + 3) 2) = none from if_neg (show ¬ rPair c.1 c.2.1 (nI (nmV W (i + 1) 2)) (nI (nmV W (i + 3) 2)) = 0 from fun z => by have z2 := rPair_in (by omega) (by omega) (by omega) z; exact z2.2.2.2.2.2 c121)]; rfl, _, _, _, _, by rw [show tPair c (nmV W (i + 1) 2) (nmV W (i + 3) 2) = none from if_neg (show ¬ rPair c.1 c.2.1 (nI (nmV W (i + 1) 2)) (nI (nmV W (i + 3) 2)) = 0 from fun z => by have z2 := rPair_in (by omega) (by omega) (by omega) z; exact z2.2.2.2.2.2 c121)]; exact ⟨hO, hP, lP, vP, hR, lR, vR, hU, lU, vU⟩, Smo.rf⟩)
      · refine g_aload_n dX9_does_124 2 rfl ?_
        refine g_getf dX9_does_125 kX9 wfX9_87 (Nat.le_of_ble_eq_true rfl) (hO) rfl ?_
        refine g_aload_n dX9_does_128 2 rfl ?_
        refine g_callVp dX9_does_129 (ev_halfR (show MO h _ _ _ _ _ _ _ _ _ _ _ _ _ _ from hO) k1 k2) oX9_half wiX9_half weX9_half wmX9_113 kX9 (hO) rfl ⟨(Nat.le_of_ble_eq_true rfl), (Nat.le_of_ble_eq_true rfl)⟩ ⟨Nat.zero_le _, Nat.zero_le _⟩ (Nat.le_of_ble_eq_true rfl) rfl ?_
        refine g_icmp_neN 137 dX9_does_132 (by decide) (by omega) (by omega) (fun c132 => ?_) (fun c132 => ?_)
        · refine g_aload_n dX9_does_137 2 rfl ?_
          refine g_iload_n dX9_does_138 1 rfl ?_
          refine g_iload dX9_does_139 0 rfl ?_
          refine g_iconst (v := nI 0) dX9_does_141 (by decide +kernel) ?_
          have n1 := of_decide_eq_true c98
          have n2 := of_decide_eq_true c115
          have rp : rPair c.1 c.2.1 (nI (nmV W (i + 1) 2)) (nI (nmV W (i + 3) 2)) = 0 := rPair_ok (by omega) (by omega) (by omega) ⟨n1.1, by omega, n2.1, by omega, c132, c121⟩
          refine g_callVq (st1 := []) dX9_does_142 (ev_comes (show MO h _ _ _ _ _ _ _ _ _ _ _ _ _ _ from hO) lP hP (by omega) (nI (nmV W (i + 1) 2)) (nI (nmV W (i + 3) 2)) (nI 0)) oX9_comes wiX9_comes weX9_comes wmX9_117 kX9 (hO) rfl ⟨(Nat.le_of_ble_eq_true rfl), (Nat.le_of_ble_eq_true rfl)⟩ ⟨Nat.zero_le _, Nat.zero_le _⟩ (Nat.le_of_ble_eq_true rfl) rfl rfl (fun h1 q1 => ?_)
          obtain ⟨q1o, q1p, q1s⟩ := q1
          have f1_100 : rd h1 100 = some (.inl (R)) := by rw [q1s _ (by omega)]; exact hR
          have f1_101 : rd h1 101 = some (.inl (U)) := by rw [q1s _ (by omega)]; exact hU
          have f1_111 : rd h1 111 = some (.inl ((W).map nI)) := by rw [q1s _ (by omega)]; exact hW
          refine g_iconst (v := nI 1) dX9_does_145 (by decide +kernel) ?_
          exact g_zret dX9_does_146 rfl (by decide) ⟨Nat.zero_le _, Nat.zero_le _⟩ (⟨by rw [show tPair c (nmV W (i + 1) 2) (nmV W (i + 3) 2) = some _ from if_pos (rp)]; rfl, _, _, _, _, by rw [show tPair c (nmV W (i + 1) 2) (nmV W (i + 3) 2) = some _ from if_pos (rp)]; exact ⟨q1o, q1p, (P3_len _ _ _ _ _).trans lP, (pR_P3 vP lP (by omega) (nmV W (i + 1) 2) (nmV W (i + 3) 2) 0), f1_100, lR, vR, f1_101, lU, vU⟩, (fun q hq => by rw [q1s q (by omega)])⟩)
        · refine g_iconst (v := nI 0) dX9_does_135 (by decide +kernel) ?_
          exact g_zret dX9_does_136 rfl (by decide) ⟨Nat.zero_le _, Nat.zero_le _⟩ (⟨by rw [show tPair c (nmV W (i + 1) 2) (nmV W (i + 3) 2) = none from if_neg (show ¬ rPair c.1 c.2.1 (nI (nmV W (i + 1) 2)) (nI (nmV W (i + 3) 2)) = 0 from fun z => by have z2 := rPair_in (by omega) (by omega) (by omega) z; exact z2.2.2.2.2.1 c132)]; rfl, _, _, _, _, by rw [show tPair c (nmV W (i + 1) 2) (nmV W (i + 3) 2) = none from if_neg (show ¬ rPair c.1 c.2.1 (nI (nmV W (i + 1) 2)) (nI (nmV W (i + 3) 2)) = 0 from fun z => by have z2 := rPair_in (by omega) (by omega) (by omega) z; exact z2.2.2.2.2.1 c132)]; exact ⟨hO, hP, lP, vP, hR, lR, vR, hU, lU, vU⟩, Smo.rf⟩)

set_option maxRecDepth 100000 in
set_option maxHeartbeats 4000000 in
theorem ev_does_97 {h : List aC} {c : Cr} {de : Nat} {fo as_ sm sk z : Int32} {am : Nat} {ib : Bool} {iN iM iT : Int32} {P R U : List Int32} (HC : CrM h c de fo as_ sm sk z am ib iN iM iT P R U) (ok : okCr c) {W : List Nat} (hW : rd h 111 = some (.inl (W.map nI))) (lW : W.length = 72) (ha : am ≤ 72) (i : Nat) (hs : stm W am i) (e : W.getD i 0 = 97) (el : lnO (W.getD i 0) = 5) : Ev mX9_does 3 0 0 [.ref 98, .int (nI i)] h (pq (some (.int (nI (bI (tAdder c (nmV W (i + 1) 1) (nmV W (i + 2) 2)).isSome)))) (fun h2 => ∃ de2 P2 R2 U2, CrM h2 ((tAdder c (nmV W (i + 1) 1) (nmV W (i + 2) 2)).getD c) de2 fo as_ sm sk z am ib iN iM iT P2 R2 U2 ∧ Smo 98 102 h h2)) := by
  obtain ⟨hO, hP, lP, vP, hR, lR, vR, hU, lU, vU⟩ := id HC
  have hO : rd h 98 = some (.inr (9, [.int (nI c.1), .int (nI c.2.1), .ref 99, .ref 100, .ref 101, .int (nI c.2.2.2.1), .ref 102, .int (nI de), .ref 103, .ref 104, .ref 105, .int fo, .int as_, .int sm, .int sk, .ref 106, .ref 107, .ref 108, .int z, .ref 109, .ref 110, .ref 111, .int (nI am), .ref 112, .ref 113, .ref 114, .ref 115, .ref 116, .int (nI (bI ib)), .int iN, .int iM, .int iT, .ref 117, .ref 118, .ref 119])) := hO
  obtain ⟨k1, k2, k3, k4, k5, k6, k7, k8, k9⟩ := id ok
  obtain ⟨s1, s2, s3⟩ := hs
  have nv1 := nmV_lt (W := W) (i := i + 1) 1 (fun q hq => by rw [Nat.add_assoc]; exact s3 _ (by omega) (by omega))
  have nv2 := nmV_lt (W := W) (i := i + 2) 2 (fun q hq => by rw [Nat.add_assoc]; exact s3 _ (by omega) (by omega))
  refine Ev.of pX9_does (Nat.le_of_ble_eq_true rfl) ?_
  show G mX9_does (rmD 3 0 0) none _ 0 0 0 [(0, .ref 98), (1, .int (nI i))] [] h
  refine g_aload_n dX9_does_0 0 rfl ?_
  refine g_getf dX9_does_1 kX9 wfX9_50 (Nat.le_of_ble_eq_true rfl) (hO) rfl ?_
  refine g_iload_n dX9_does_4 1 rfl ?_
  refine g_ialN dX9_does_5 (hW) (by omega) (by omega) ?_
  refine g_top (show nI ((W).getD i 0) = nI 97 from congrArg nI e) ?_
  refine g_lookup 147 dX9_does_6 (by decide +kernel) (off := 141) (by decide +kernel) (by decide) ?_
  refine g_aload_n dX9_does_147 0 rfl ?_
  refine g_iload_n dX9_does_148 1 rfl ?_
  refine g_iconst (v := nI 1) dX9_does_149 (by decide +kernel) ?_
  refine g_iaddN dX9_does_150 ?_
  refine g_iconst (v := nI 1) dX9_does_151 (by decide +kernel) ?_
  refine g_callVp dX9_does_152 (ev_numAt (show MO h _ _ _ _ _ _ _ _ _ _ _ _ _ _ from hO) hW lW (i + 1) 1 (by omega) (by omega) (fun q hq => by rw [Nat.add_assoc]; exact s3 _ (by omega) (by omega))) oX9_numberAt wiX9_numberAt weX9_numberAt wmX9_248 kX9 (hO) rfl ⟨(Nat.le_of_ble_eq_true rfl), (Nat.le_of_ble_eq_true rfl)⟩ ⟨Nat.zero_le _, Nat.zero_le _⟩ (Nat.le_of_ble_eq_true rfl) rfl ?_
  refine g_istore (ls' := [(5, .int (nI (nmV W (i + 1) 1))), (0, .ref 98), (1, .int (nI i))]) dX9_does_155 (Nat.le_of_ble_eq_true rfl) rfl ?_
  refine g_aload_n dX9_does_157 1 rfl ?_
  refine g_iload_n dX9_does_158 2 rfl ?_
  refine g_iconst (v := nI 2) dX9_does_159 (by decide +kernel) ?_
  refine g_iaddN dX9_does_160 ?_
  refine g_iconst (v := nI 2) dX9_does_161 (by decide +kernel) ?_
  refine g_callVp dX9_does_162 (ev_numAt (show MO h _ _ _ _ _ _ _ _ _ _ _ _ _ _ from hO) hW lW (i + 2) 2 (by omega) (by omega) (fun q hq => by rw [Nat.add_assoc]; exact s3 _ (by omega) (by omega))) oX9_numberAt wiX9_numberAt weX9_numberAt wmX9_248 kX9 (hO) rfl ⟨(Nat.le_of_ble_eq_true rfl), (Nat.le_of_ble_eq_true rfl)⟩ ⟨Nat.zero_le _, Nat.zero_le _⟩ (Nat.le_of_ble_eq_true rfl) rfl ?_
  refine g_istore (ls' := [(6, .int (nI (nmV W (i + 2) 2))), (5, .int (nI (nmV W (i + 1) 1))), (0, .ref 98), (1, .int (nI i))]) dX9_does_165 (Nat.le_of_ble_eq_true rfl) rfl ?_
  refine g_aload_n dX9_does_167 2 rfl ?_
  refine g_iload dX9_does_168 1 rfl ?_
  refine g_callVp dX9_does_170 (ev_isPR (show MO h _ _ _ _ _ _ _ _ _ _ _ _ _ _ from hO) (by omega) (nmV W (i + 1) 1) (by omega)) oX9_isPair wiX9_isPair weX9_isPair wmX9_121 kX9 (hO) rfl ⟨(Nat.le_of_ble_eq_true rfl), (Nat.le_of_ble_eq_true rfl)⟩ ⟨Nat.zero_le _, Nat.zero_le _⟩ (Nat.le_of_ble_eq_true rfl) rfl ?_
  refine g_if_eqB 185 dX9_does_173 (by decide) (fun c173 => ?_) (fun c173 => ?_)
  · refine g_iconst (v := nI 0) dX9_does_185 (by decide +kernel) ?_
    exact g_zret dX9_does_186 rfl (by decide) ⟨Nat.zero_le _, Nat.zero_le _⟩ (⟨by rw [show tAdder c (nmV W (i + 1) 1) (nmV W (i + 2) 2) = none from if_neg (show ¬ rAdder c.1 c.2.1 (nI (nmV W (i + 1) 1)) (nI (nmV W (i + 2) 2)) = 0 from fun z => by have z2 := rAdder_in (by omega) (by omega) (by omega) (by omega) z; exact of_decide_eq_false c173 z2.1)]; rfl, _, _, _, _, by rw [show tAdder c (nmV W (i + 1) 1) (nmV W (i + 2) 2) = none from if_neg (show ¬ rAdder c.1 c.2.1 (nI (nmV W (i + 1) 1)) (nI (nmV W (i + 2) 2)) = 0 from fun z => by have z2 := rAdder_in (by omega) (by omega) (by omega) (by omega) z; exact of_decide_eq_false c173 z2.1)]; exact ⟨hO, hP, lP, vP, hR, lR, vR, hU, lU, vU⟩, Smo.rf⟩)
  · refine g_iload dX9_does_176 0 rfl ?_
    refine g_aload_n dX9_does_178 2 rfl ?_
    refine g_getf dX9_does_179 kX9 wfX9_7 (Nat.le_of_ble_eq_true rfl) (hO) rfl ?_
    refine g_icmp_ltN 187 dX9_does_182 (by decide) (by omega) (by omega) (fun c182 => ?_) (fun c182 => ?_)
    · have n1 := of_decide_eq_true c173
      have rp : rAdder c.1 c.2.1 (nI (nmV W (i + 1) 1)) (nI (nmV W (i + 2) 2)) = 0 := rAdder_ok (by omega) (by omega) (by omega) (by omega) ⟨n1, by omega⟩
      refine g_aload_n dX9_does_187 2 rfl ?_
      refine g_getf dX9_does_188 kX9 wfX9_13 (Nat.le_of_ble_eq_true rfl) (hO) rfl ?_
      refine g_iconst (v := nI 3) dX9_does_191 (by decide +kernel) ?_
      refine g_iload dX9_does_192 1 rfl ?_
      refine g_imulN dX9_does_194 ?_
      refine g_iconst (v := nI 2) dX9_does_195 (by decide +kernel) ?_
      refine g_iaddN dX9_does_196 ?_
      refine g_iload dX9_does_197 0 rfl ?_
      refine g_iasI dX9_does_199 (hP) (by omega) (by omega) (fun h1 e1 => ?_)
      have f1_99 : rd h1 99 = some (.inl ((P).set ((3 * (nmV W (i + 1) 1)) + 2) (nI (nmV W (i + 2) 2)))) := by rw [e1]; exact rd_wr_eq (hP)
      have lf1_99 : ((P).set ((3 * (nmV W (i + 1) 1)) + 2) (nI (nmV W (i + 2) 2))).length = _ := List.length_set.trans lP
      have s1 : Smo 99 (99 + 1) h h1 := by rw [e1]; exact Smo.wr (by omega) (by omega)
      have f1_98 : rd h1 98 = some (.inr (9, [.int (nI c.1), .int (nI c.2.1), .ref 99, .ref 100, .ref 101, .int (nI c.2.2.2.1), .ref 102, .int (nI de), .ref 103, .ref 104, .ref 105, .int fo, .int as_, .int sm, .int sk, .ref 106, .ref 107, .ref 108, .int z, .ref 109, .ref 110, .ref 111, .int (nI am), .ref 112, .ref 113, .ref 114, .ref 115, .ref 116, .int (nI (bI ib)), .int iN, .int iM, .int iT, .ref 117, .ref 118, .ref 119])) := by rw [s1 _ (by omega)]; exact hO
      have f1_100 : rd h1 100 = some (.inl (R)) := by rw [s1 _ (by omega)]; exact hR
      have f1_101 : rd h1 101 = some (.inl (U)) := by rw [s1 _ (by omega)]; exact hU
      have f1_111 : rd h1 111 = some (.inl ((W).map nI)) := by rw [s1 _ (by omega)]; exact hW
      refine g_iconst (v := nI 1) dX9_does_200 (by decide +kernel) ?_
      exact g_zret dX9_does_201 rfl (by decide) ⟨Nat.zero_le _, Nat.zero_le _⟩ (⟨by rw [show tAdder c (nmV W (i + 1) 1) (nmV W (i + 2) 2) = some _ from if_pos (rp)]; rfl, _, _, _, _, by rw [show tAdder c (nmV W (i + 1) 1) (nmV W (i + 2) 2) = some _ from if_pos (rp)]; exact ⟨f1_98, f1_99, lf1_99, (pR_setA vP n1 (by omega) (nmV W (i + 2) 2)), f1_100, lR, vR, f1_101, lU, vU⟩, (fun q hq => by rw [s1 q (by omega)])⟩)
    · refine g_iconst (v := nI 0) dX9_does_185 (by decide +kernel) ?_
      exact g_zret dX9_does_186 rfl (by decide) ⟨Nat.zero_le _, Nat.zero_le _⟩ (⟨by rw [show tAdder c (nmV W (i + 1) 1) (nmV W (i + 2) 2) = none from if_neg (show ¬ rAdder c.1 c.2.1 (nI (nmV W (i + 1) 1)) (nI (nmV W (i + 2) 2)) = 0 from fun z => by have z2 := rAdder_in (by omega) (by omega) (by omega) (by omega) z; omega)]; rfl, _, _, _, _, by rw [show tAdder c (nmV W (i + 1) 1) (nmV W (i + 2) 2) = none from if_neg (show ¬ rAdder c.1 c.2.1 (nI (nmV W (i + 1) 1)) (nI (nmV W (i + 2) 2)) = 0 from fun z => by have z2 := rAdder_in (by omega) (by omega) (by omega) (by omega) z; omega)]; exact ⟨hO, hP, lP, vP, hR, lR, vR, hU, lU, vU⟩, Smo.rf⟩)

set_option maxRecDepth 100000 in
set_option maxHeartbeats 4000000 in
theorem ev_does_116 {h : List aC} {c : Cr} {de : Nat} {fo as_ sm sk z : Int32} {am : Nat} {ib : Bool} {iN iM iT : Int32} {P R U : List Int32} (HC : CrM h c de fo as_ sm sk z am ib iN iM iT P R U) (ok : okCr c) {W : List Nat} (hW : rd h 111 = some (.inl (W.map nI))) (lW : W.length = 72) (ha : am ≤ 72) (i : Nat) (hs : stm W am i) (e : W.getD i 0 = 116) (el : lnO (W.getD i 0) = 5) : Ev mX9_does 3 0 0 [.ref 98, .int (nI i)] h (pq (some (.int (nI (bI (tTurn c (nmV W (i + 1) 1) (nmV W (i + 2) 2)).isSome)))) (fun h2 => ∃ de2 P2 R2 U2, CrM h2 ((tTurn c (nmV W (i + 1) 1) (nmV W (i + 2) 2)).getD c) de2 fo as_ sm sk z am ib iN iM iT P2 R2 U2 ∧ Smo 98 102 h h2)) := by
  obtain ⟨hO, hP, lP, vP, hR, lR, vR, hU, lU, vU⟩ := id HC
  have hO : rd h 98 = some (.inr (9, [.int (nI c.1), .int (nI c.2.1), .ref 99, .ref 100, .ref 101, .int (nI c.2.2.2.1), .ref 102, .int (nI de), .ref 103, .ref 104, .ref 105, .int fo, .int as_, .int sm, .int sk, .ref 106, .ref 107, .ref 108, .int z, .ref 109, .ref 110, .ref 111, .int (nI am), .ref 112, .ref 113, .ref 114, .ref 115, .ref 116, .int (nI (bI ib)), .int iN, .int iM, .int iT, .ref 117, .ref 118, .ref 119])) := hO
  obtain ⟨k1, k2, k3, k4, k5, k6, k7, k8, k9⟩ := id ok
  obtain ⟨s1, s2, s3⟩ := hs
  have nv1 := nmV_lt (W := W) (i := i + 1) 1 (fun q hq => by rw [Nat.add_assoc]; exact s3 _ (by omega) (by omega))
  have nv2 := nmV_lt (W := W) (i := i + 2) 2 (fun q hq => by rw [Nat.add_assoc]; exact s3 _ (by omega) (by omega))
  refine Ev.of pX9_does (Nat.le_of_ble_eq_true rfl) ?_
  show G mX9_does (rmD 3 0 0) none _ 0 0 0 [(0, .ref 98), (1, .int (nI i))] [] h
  refine g_aload_n dX9_does_0 0 rfl ?_
  refine g_getf dX9_does_1 kX9 wfX9_50 (Nat.le_of_ble_eq_true rfl) (hO) rfl ?_
  refine g_iload_n dX9_does_4 1 rfl ?_
  refine g_ialN dX9_does_5 (hW) (by omega) (by omega) ?_
  refine g_top (show nI ((W).getD i 0) = nI 116 from congrArg nI e) ?_
  refine g_lookup 202 dX9_does_6 (by decide +kernel) (off := 196) (by decide +kernel) (by decide) ?_
  refine g_aload_n dX9_does_202 0 rfl ?_
  refine g_iload_n dX9_does_203 1 rfl ?_
  refine g_iconst (v := nI 1) dX9_does_204 (by decide +kernel) ?_
  refine g_iaddN dX9_does_205 ?_
  refine g_iconst (v := nI 1) dX9_does_206 (by decide +kernel) ?_
  refine g_callVp dX9_does_207 (ev_numAt (show MO h _ _ _ _ _ _ _ _ _ _ _ _ _ _ from hO) hW lW (i + 1) 1 (by omega) (by omega) (fun q hq => by rw [Nat.add_assoc]; exact s3 _ (by omega) (by omega))) oX9_numberAt wiX9_numberAt weX9_numberAt wmX9_248 kX9 (hO) rfl ⟨(Nat.le_of_ble_eq_true rfl), (Nat.le_of_ble_eq_true rfl)⟩ ⟨Nat.zero_le _, Nat.zero_le _⟩ (Nat.le_of_ble_eq_true rfl) rfl ?_
  refine g_istore (ls' := [(7, .int (nI (nmV W (i + 1) 1))), (0, .ref 98), (1, .int (nI i))]) dX9_does_210 (Nat.le_of_ble_eq_true rfl) rfl ?_
  refine g_aload_n dX9_does_212 1 rfl ?_
  refine g_iload_n dX9_does_213 2 rfl ?_
  refine g_iconst (v := nI 2) dX9_does_214 (by decide +kernel) ?_
  refine g_iaddN dX9_does_215 ?_
  refine g_iconst (v := nI 2) dX9_does_216 (by decide +kernel) ?_
  refine g_callVp dX9_does_217 (ev_numAt (show MO h _ _ _ _ _ _ _ _ _ _ _ _ _ _ from hO) hW lW (i + 2) 2 (by omega) (by omega) (fun q hq => by rw [Nat.add_assoc]; exact s3 _ (by omega) (by omega))) oX9_numberAt wiX9_numberAt weX9_numberAt wmX9_248 kX9 (hO) rfl ⟨(Nat.le_of_ble_eq_true rfl), (Nat.le_of_ble_eq_true rfl)⟩ ⟨Nat.zero_le _, Nat.zero_le _⟩ (Nat.le_of_ble_eq_true rfl) rfl ?_
  refine g_istore (ls' := [(8, .int (nI (nmV W (i + 2) 2))), (7, .int (nI (nmV W (i + 1) 1))), (0, .ref 98), (1, .int (nI i))]) dX9_does_220 (Nat.le_of_ble_eq_true rfl) rfl ?_
  refine g_iload dX9_does_222 1 rfl ?_
  refine g_iconst (v := nI 5) dX9_does_224 (by decide +kernel) ?_
  refine g_icmp_gtN 244 dX9_does_225 (by decide) (by omega) (by omega) (fun c225 => ?_) (fun c225 => ?_)
  · refine g_iconst (v := nI 0) dX9_does_244 (by decide +kernel) ?_
    exact g_zret dX9_does_245 rfl (by decide) ⟨Nat.zero_le _, Nat.zero_le _⟩ (⟨by rw [show tTurn c (nmV W (i + 1) 1) (nmV W (i + 2) 2) = none from if_neg (show ¬ rTurn c.2.2.2.1 (nI (nmV W (i + 1) 1)) (nI (nmV W (i + 2) 2)) = 0 from fun z => by have z2 := rTurn_in (by omega) (by omega) z; omega)]; rfl, _, _, _, _, by rw [show tTurn c (nmV W (i + 1) 1) (nmV W (i + 2) 2) = none from if_neg (show ¬ rTurn c.2.2.2.1 (nI (nmV W (i + 1) 1)) (nI (nmV W (i + 2) 2)) = 0 from fun z => by have z2 := rTurn_in (by omega) (by omega) z; omega)]; exact ⟨hO, hP, lP, vP, hR, lR, vR, hU, lU, vU⟩, Smo.rf⟩)
  · refine g_iload dX9_does_228 0 rfl ?_
    refine g_bipush (v := nI 12) dX9_does_230 (by decide +kernel) ?_
    refine g_icmp_gtN 244 dX9_does_232 (by decide) (by omega) (by omega) (fun c232 => ?_) (fun c232 => ?_)
    · refine g_iconst (v := nI 0) dX9_does_244 (by decide +kernel) ?_
      exact g_zret dX9_does_245 rfl (by decide) ⟨Nat.zero_le _, Nat.zero_le _⟩ (⟨by rw [show tTurn c (nmV W (i + 1) 1) (nmV W (i + 2) 2) = none from if_neg (show ¬ rTurn c.2.2.2.1 (nI (nmV W (i + 1) 1)) (nI (nmV W (i + 2) 2)) = 0 from fun z => by have z2 := rTurn_in (by omega) (by omega) z; omega)]; rfl, _, _, _, _, by rw [show tTurn c (nmV W (i + 1) 1) (nmV W (i + 2) 2) = none from if_neg (show ¬ rTurn c.2.2.2.1 (nI (nmV W (i + 1) 1)) (nI (nmV W (i + 2) 2)) = 0 from fun z => by have z2 := rTurn_in (by omega) (by omega) z; omega)]; exact ⟨hO, hP, lP, vP, hR, lR, vR, hU, lU, vU⟩, Smo.rf⟩)
    · refine g_aload_n dX9_does_235 2 rfl ?_
      refine g_getf dX9_does_236 kX9 wfX9_102 (Nat.le_of_ble_eq_true rfl) (hO) rfl ?_
      refine g_bipush (v := nI 6) dX9_does_239 (by decide +kernel) ?_
      refine g_icmp_neN 246 dX9_does_241 (by decide) (by omega) (by omega) (fun c241 => ?_) (fun c241 => ?_)
      · have rp : rTurn c.2.2.2.1 (nI (nmV W (i + 1) 1)) (nI (nmV W (i + 2) 2)) = 0 := rTurn_ok (by omega) (by omega) ⟨by omega, by omega, by omega⟩
        refine g_aload_n dX9_does_246 2 rfl ?_
        refine g_getf dX9_does_247 kX9 wfX9_20 (Nat.le_of_ble_eq_true rfl) (hO) rfl ?_
        refine g_iconst (v := nI 2) dX9_does_250 (by decide +kernel) ?_
        refine g_aload_n dX9_does_251 2 rfl ?_
        refine g_getf dX9_does_252 kX9 wfX9_102 (Nat.le_of_ble_eq_true rfl) (hO) rfl ?_
        refine g_imulN dX9_does_255 ?_
        refine g_iload dX9_does_256 1 rfl ?_
        refine g_iasI dX9_does_258 (hU) (by omega) (by omega) (fun h1 e1 => ?_)
        have f1_101 : rd h1 101 = some (.inl ((U).set (2 * c.2.2.2.1) (nI (nmV W (i + 1) 1)))) := by rw [e1]; exact rd_wr_eq (hU)
        have lf1_101 : ((U).set (2 * c.2.2.2.1) (nI (nmV W (i + 1) 1))).length = _ := List.length_set.trans lU
        have s1 : Smo 101 (101 + 1) h h1 := by rw [e1]; exact Smo.wr (by omega) (by omega)
        have f1_98 : rd h1 98 = some (.inr (9, [.int (nI c.1), .int (nI c.2.1), .ref 99, .ref 100, .ref 101, .int (nI c.2.2.2.1), .ref 102, .int (nI de), .ref 103, .ref 104, .ref 105, .int fo, .int as_, .int sm, .int sk, .ref 106, .ref 107, .ref 108, .int z, .ref 109, .ref 110, .ref 111, .int (nI am), .ref 112, .ref 113, .ref 114, .ref 115, .ref 116, .int (nI (bI ib)), .int iN, .int iM, .int iT, .ref 117, .ref 118, .ref 119])) := by rw [s1 _ (by omega)]; exact hO
        have f1_99 : rd h1 99 = some (.inl (P)) := by rw [s1 _ (by omega)]; exact hP
        have f1_100 : rd h1 100 = some (.inl (R)) := by rw [s1 _ (by omega)]; exact hR
        have f1_111 : rd h1 111 = some (.inl ((W).map nI)) := by rw [s1 _ (by omega)]; exact hW
        refine g_aload_n dX9_does_259 2 rfl ?_
        refine g_getf dX9_does_260 kX9 wfX9_20 (Nat.le_of_ble_eq_true rfl) (f1_98) rfl ?_
        refine g_iconst (v := nI 2) dX9_does_263 (by decide +kernel) ?_
        refine g_aload_n dX9_does_264 2 rfl ?_
        refine g_getf dX9_does_265 kX9 wfX9_102 (Nat.le_of_ble_eq_true rfl) (f1_98) rfl ?_
        refine g_imulN dX9_does_268 ?_
        refine g_iconst (v := nI 1) dX9_does_269 (by decide +kernel) ?_
        refine g_iaddN dX9_does_270 ?_
        refine g_iload dX9_does_271 0 rfl ?_
        refine g_iasI dX9_does_273 (f1_101) (by rw [List.length_set]; omega) (by simp only [List.length_set]; omega) (fun h2 e2 => ?_)
        have f2_101 : rd h2 101 = some (.inl (((U).set (2 * c.2.2.2.1) (nI (nmV W (i + 1) 1))).set ((2 * c.2.2.2.1) + 1) (nI (nmV W (i + 2) 2)))) := by rw [e2]; exact rd_wr_eq (f1_101)
        have lf2_101 : (((U).set (2 * c.2.2.2.1) (nI (nmV W (i + 1) 1))).set ((2 * c.2.2.2.1) + 1) (nI (nmV W (i + 2) 2))).length = _ := List.length_set.trans lf1_101
        have s2 : Smo 101 (101 + 1) h1 h2 := by rw [e2]; exact Smo.wr (by omega) (by omega)
        have f2_98 : rd h2 98 = some (.inr (9, [.int (nI c.1), .int (nI c.2.1), .ref 99, .ref 100, .ref 101, .int (nI c.2.2.2.1), .ref 102, .int (nI de), .ref 103, .ref 104, .ref 105, .int fo, .int as_, .int sm, .int sk, .ref 106, .ref 107, .ref 108, .int z, .ref 109, .ref 110, .ref 111, .int (nI am), .ref 112, .ref 113, .ref 114, .ref 115, .ref 116, .int (nI (bI ib)), .int iN, .int iM, .int iT, .ref 117, .ref 118, .ref 119])) := by rw [s2 _ (by omega)]; exact f1_98
        have f2_99 : rd h2 99 = some (.inl (P)) := by rw [s2 _ (by omega)]; exact f1_99
        have f2_100 : rd h2 100 = some (.inl (R)) := by rw [s2 _ (by omega)]; exact f1_100
        have f2_111 : rd h2 111 = some (.inl ((W).map nI)) := by rw [s2 _ (by omega)]; exact f1_111
        refine g_aload_n dX9_does_274 2 rfl ?_
        refine g_dup dX9_does_275 rfl ?_
        refine g_getf dX9_does_276 kX9 wfX9_102 (Nat.le_of_ble_eq_true rfl) (f2_98) rfl ?_
        refine g_iconst (v := nI 1) dX9_does_279 (by decide +kernel) ?_
        refine g_iaddN dX9_does_280 ?_
        refine g_putv dX9_does_281 kX9 wfX9_102 (Nat.le_of_ble_eq_true rfl) rfl (fun _ _ => ⟨rfl, rfl⟩) (f2_98) (Nat.le_of_ble_eq_true rfl) (fs' := [.int (nI c.1), .int (nI c.2.1), .ref 99, .ref 100, .ref 101, .int (nI (c.2.2.2.1 + 1)), .ref 102, .int (nI de), .ref 103, .ref 104, .ref 105, .int fo, .int as_, .int sm, .int sk, .ref 106, .ref 107, .ref 108, .int z, .ref 109, .ref 110, .ref 111, .int (nI am), .ref 112, .ref 113, .ref 114, .ref 115, .ref 116, .int (nI (bI ib)), .int iN, .int iM, .int iT, .ref 117, .ref 118, .ref 119]) rfl (fun h3 e3 => ?_)
        have f3_98 : rd h3 98 = some (.inr (9, [.int (nI c.1), .int (nI c.2.1), .ref 99, .ref 100, .ref 101, .int (nI (c.2.2.2.1 + 1)), .ref 102, .int (nI de), .ref 103, .ref 104, .ref 105, .int fo, .int as_, .int sm, .int sk, .ref 106, .ref 107, .ref 108, .int z, .ref 109, .ref 110, .ref 111, .int (nI am), .ref 112, .ref 113, .ref 114, .ref 115, .ref 116, .int (nI (bI ib)), .int iN, .int iM, .int iT, .ref 117, .ref 118, .ref 119])) := by rw [e3]; exact rd_wr_eq (f2_98)
        have s3 : Smo 98 (98 + 1) h2 h3 := by rw [e3]; exact Smo.wr (by omega) (by omega)
        have f3_99 : rd h3 99 = some (.inl (P)) := by rw [s3 _ (by omega)]; exact f2_99
        have f3_100 : rd h3 100 = some (.inl (R)) := by rw [s3 _ (by omega)]; exact f2_100
        have f3_101 : rd h3 101 = some (.inl (((U).set (2 * c.2.2.2.1) (nI (nmV W (i + 1) 1))).set ((2 * c.2.2.2.1) + 1) (nI (nmV W (i + 2) 2)))) := by rw [s3 _ (by omega)]; exact f2_101
        have f3_111 : rd h3 111 = some (.inl ((W).map nI)) := by rw [s3 _ (by omega)]; exact f2_111
        refine g_iconst (v := nI 1) dX9_does_284 (by decide +kernel) ?_
        exact g_zret dX9_does_285 rfl (by decide) ⟨Nat.zero_le _, Nat.zero_le _⟩ (⟨by rw [show tTurn c (nmV W (i + 1) 1) (nmV W (i + 2) 2) = some _ from if_pos (rp)]; rfl, _, _, _, _, by rw [show tTurn c (nmV W (i + 1) 1) (nmV W (i + 2) 2) = some _ from if_pos (rp)]; exact ⟨f3_98, f3_99, lP, vP, f3_100, lR, vR, f3_101, lf2_101, (tR_app vU lU (by omega) (nmV W (i + 1) 1) (nmV W (i + 2) 2))⟩, (fun q hq => by rw [s3 q (by omega), s2 q (by omega), s1 q (by omega)])⟩)
      · refine g_iconst (v := nI 0) dX9_does_244 (by decide +kernel) ?_
        exact g_zret dX9_does_245 rfl (by decide) ⟨Nat.zero_le _, Nat.zero_le _⟩ (⟨by rw [show tTurn c (nmV W (i + 1) 1) (nmV W (i + 2) 2) = none from if_neg (show ¬ rTurn c.2.2.2.1 (nI (nmV W (i + 1) 1)) (nI (nmV W (i + 2) 2)) = 0 from fun z => by have z2 := rTurn_in (by omega) (by omega) z; omega)]; rfl, _, _, _, _, by rw [show tTurn c (nmV W (i + 1) 1) (nmV W (i + 2) 2) = none from if_neg (show ¬ rTurn c.2.2.2.1 (nI (nmV W (i + 1) 1)) (nI (nmV W (i + 2) 2)) = 0 from fun z => by have z2 := rTurn_in (by omega) (by omega) z; omega)]; exact ⟨hO, hP, lP, vP, hR, lR, vR, hU, lU, vU⟩, Smo.rf⟩)

theorem ev_does {h : List aC} {c : Cr} {de : Nat} {fo as_ sm sk z : Int32} {am : Nat} {ib : Bool} {iN iM iT : Int32} {P R U : List Int32} (HC : CrM h c de fo as_ sm sk z am ib iN iM iT P R U) (ok : okCr c) {W : List Nat} (hW : rd h 111 = some (.inl (W.map nI))) (lW : W.length = 72) (ha : am ≤ 72) (i : Nat) (hs : stm W am i) : Ev mX9_does 3 0 0 [.ref 98, .int (nI i)] h (pq (some (.int (nI (bI (tStep W i c).isSome)))) (fun h2 => ∃ de2 P2 R2 U2, CrM h2 ((tStep W i c).getD c) de2 fo as_ sm sk z am ib iN iM iT P2 R2 U2 ∧ Smo 98 102 h h2)) := by
  unfold tStep
  rcases lnO_in hs.1 with ⟨e, el⟩ | ⟨e, el⟩ | ⟨e, el⟩ | ⟨e, el⟩
  · rw [if_pos e]; exact ev_does_110 HC ok hW lW ha i hs e el
  · rw [if_neg (by omega), if_pos e]; exact ev_does_112 HC ok hW lW ha i hs e el
  · rw [if_neg (by omega), if_neg (by omega), if_pos e]; exact ev_does_97 HC ok hW lW ha i hs e el
  · rw [if_neg (by omega), if_neg (by omega), if_neg (by omega)]; exact ev_does_116 HC ok hW lW ha i hs e el
