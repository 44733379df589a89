def rowC (C : List Nat) (n l : Nat) : Nat → Nat := fun j => C.getD (l * n + j) 0
def colC (C : List Nat) (n l : Nat) : Nat → Nat := fun j => C.getD (j * n + l) 0
def pfI (C : List Nat) (n : Nat) : Int32 := nI (n * (n + 1) / 2) - nI (sumN (onceN C n) 195)
def inB (C : List Nat) (n : Nat) : Bool := decide ((∀ k, k < n → lnF n (rowC C n k) = 0 ∧ lnF n (colC C n k) = 0) ∧ pfI C n = 0)

set_option maxRecDepth 100000 in
set_option maxHeartbeats 4000000 in
theorem lp_indeed {h : List aC} {r n : Nat} {C : List Nat} {T : List Int32} (hR : RA h r n C T) (hn : n ≤ 13) (hO : ∀ i, i < 169 → C.getD i 0 < 196) (hP : ∀ i, i < n * n → okC n (C.getD i 0)) : ∀ j k , k + j = n → (∀ i, i < k → lnF n (rowC C n i) = 0 ∧ lnF n (colC C n i) = 0) → G mX4_isIndeed (rmD 4 0 0) none (pq (some (.int (nI (bI (inB C n))))) (fun h2 => ∃ T2, RA h2 r n C T2 ∧ Smo (r + 2) (r + 3) h h2)) 0 0 2 [(1, .int (nI k)), (0, .ref r)] [] h := by
  obtain ⟨-, -, -, lC, lT⟩ := id hR
  intro j
  induction j with
  | zero =>
    intro k  hk hA
    refine g_iload_n dX4_isIndeed_2 0 rfl ?_
    refine g_aload_n dX4_isIndeed_3 1 rfl ?_
    refine g_getf dX4_isIndeed_4 kX4 wfX4_18 (Nat.le_of_ble_eq_true rfl) (hR.1) rfl ?_
    refine g_icmp_geN 36 dX4_isIndeed_7 (by decide) (by omega) (by omega) (fun c7 => ?_) (fun z => absurd z (by omega))
    refine g_aload_n dX4_isIndeed_36 1 rfl ?_
    refine g_callVq (st1 := [.int (pfI C n)]) dX4_isIndeed_37 (ev_pairFaults hR hn hO) oX4_faultsOfPairs wiX4_faultsOfPairs weX4_faultsOfPairs wmX4_95 kX4 (hR.1) rfl ⟨(Nat.le_of_ble_eq_true rfl), (Nat.le_of_ble_eq_true rfl)⟩ ⟨Nat.zero_le _, Nat.zero_le _⟩ (Nat.le_of_ble_eq_true rfl) rfl rfl (fun h1 q1 => ?_)
    obtain ⟨T2, q1a, q1s⟩ := q1
    refine g_if_ne 47 dX4_isIndeed_40 (by decide) (fun c40 => ?_) (fun c40 => ?_)
    · refine g_iconst (v := nI 0) dX4_isIndeed_47 (by decide +kernel) ?_
      exact g_zret dX4_isIndeed_48 rfl (by decide) ⟨Nat.zero_le _, Nat.zero_le _⟩ (⟨by rw [show inB C n = false from decide_eq_false (fun z => c40 z.2)]; rfl, T2, q1a, q1s⟩)
    · refine g_iconst (v := nI 1) dX4_isIndeed_43 (by decide +kernel) ?_
      refine g_goto 48 dX4_isIndeed_44 (by decide) ?_
      exact g_zret dX4_isIndeed_48 rfl (by decide) ⟨Nat.zero_le _, Nat.zero_le _⟩ (⟨by rw [show inB C n = true from decide_eq_true ⟨fun i hi => hA i (by omega), c40⟩]; rfl, T2, q1a, q1s⟩)
  | succ j ih =>
    intro k  hk hA
    have z1 := lnF_le n (rowC C n k)
    have z2 := lnF_le n (colC C n k)
    refine g_iload_n dX4_isIndeed_2 0 rfl ?_
    refine g_aload_n dX4_isIndeed_3 1 rfl ?_
    refine g_getf dX4_isIndeed_4 kX4 wfX4_18 (Nat.le_of_ble_eq_true rfl) (hR.1) rfl ?_
    refine g_icmp_geN 36 dX4_isIndeed_7 (by decide) (by omega) (by omega) (fun z => absurd z (by omega)) (fun c7 => ?_)
    refine g_aload_n dX4_isIndeed_10 1 rfl ?_
    refine g_iconst (v := nI 1) dX4_isIndeed_11 (by decide +kernel) ?_
    refine g_iload_n dX4_isIndeed_12 0 rfl ?_
    refine g_callVp dX4_isIndeed_13 (show Ev mX4_faultsOfLine 3 0 0 _ h (pv (.int (nI (lnF n (rowC C n k)))) h) from ev_lineR hR hn hO hP k (by omega)) oX4_faultsOfLine wiX4_faultsOfLine weX4_faultsOfLine wmX4_91 kX4 (hR.1) rfl ⟨(Nat.le_of_ble_eq_true rfl), (Nat.le_of_ble_eq_true rfl)⟩ ⟨Nat.zero_le _, Nat.zero_le _⟩ (Nat.le_of_ble_eq_true rfl) rfl ?_
    refine g_if_neN 28 dX4_isIndeed_16 (by decide) (by omega) (fun c16 => ?_) (fun c16 => ?_)
    · refine g_iconst (v := nI 0) dX4_isIndeed_28 (by decide +kernel) ?_
      exact g_zret dX4_isIndeed_29 rfl (by decide) ⟨Nat.zero_le _, Nat.zero_le _⟩ (⟨by rw [show inB C n = false from decide_eq_false (fun z => by have y := z.1 k (by omega); omega)]; rfl, T, hR, Smo.rf⟩)
    · refine g_aload_n dX4_isIndeed_19 1 rfl ?_
      refine g_iconst (v := nI 0) dX4_isIndeed_20 (by decide +kernel) ?_
      refine g_iload_n dX4_isIndeed_21 0 rfl ?_
      refine g_callVp dX4_isIndeed_22 (show Ev mX4_faultsOfLine 3 0 0 _ h (pv (.int (nI (lnF n (colC C n k)))) h) from ev_lineC hR hn hO hP k (by omega)) oX4_faultsOfLine wiX4_faultsOfLine weX4_faultsOfLine wmX4_91 kX4 (hR.1) rfl ⟨(Nat.le_of_ble_eq_true rfl), (Nat.le_of_ble_eq_true rfl)⟩ ⟨Nat.zero_le _, Nat.zero_le _⟩ (Nat.le_of_ble_eq_true rfl) rfl ?_
      refine g_if_eqN 30 dX4_isIndeed_25 (by decide) (by omega) (fun c25 => ?_) (fun c25 => ?_)
      · refine g_iinc (q := 0) (v := nI (k + 1)) (ls' := [(1, .int (nI (k + 1))), (0, .ref r)]) dX4_isIndeed_30 rfl (inc1 _) (Nat.le_of_ble_eq_true rfl) rfl ?_
        refine g_goto 2 dX4_isIndeed_33 (by decide) ?_
        exact ih (k + 1) (by omega) (fun i hi => by rcases Nat.lt_succ_iff_lt_or_eq.mp hi with q | q; exact hA i q; (rw [q]; exact ⟨by omega, by omega⟩))
      · refine g_iconst (v := nI 0) dX4_isIndeed_28 (by decide +kernel) ?_
        exact g_zret dX4_isIndeed_29 rfl (by decide) ⟨Nat.zero_le _, Nat.zero_le _⟩ (⟨by rw [show inB C n = false from decide_eq_false (fun z => by have y := z.1 k (by omega); omega)]; rfl, T, hR, Smo.rf⟩)

set_option maxRecDepth 100000 in
set_option maxHeartbeats 4000000 in
theorem ev_indeed {h : List aC} {r n : Nat} {C : List Nat} {T : List Int32} (hR : RA h r n C T) (hn : n ≤ 13) (hO : ∀ i, i < 169 → C.getD i 0 < 196) (hP : ∀ i, i < n * n → okC n (C.getD i 0)) : Ev mX4_isIndeed 4 0 0 [.ref r] h (pq (some (.int (nI (bI (inB C n))))) (fun h2 => ∃ T2, RA h2 r n C T2 ∧ Smo (r + 2) (r + 3) h h2)) := by
  obtain ⟨-, -, -, lC, lT⟩ := id hR
  refine Ev.of pX4_isIndeed (Nat.le_of_ble_eq_true rfl) ?_
  show G mX4_isIndeed (rmD 4 0 0) none _ 0 0 0 [(0, .ref r)] [] h
  refine g_iconst (v := nI 0) dX4_isIndeed_0 (by decide +kernel) ?_
  refine g_istore_n (ls' := [(1, .int (nI 0)), (0, .ref r)]) dX4_isIndeed_1 (Nat.le_of_ble_eq_true rfl) rfl ?_
  exact lp_indeed hR hn hO hP n 0 (by omega) (fun i hi => absurd hi (Nat.not_lt_zero i))

def layC (C : List Nat) (q v : Nat) : List Nat := if C.getD q 0 = 0 then C.set q v else C
def layR (rm : Nat → Nat → Nat) (a b v : Nat) : Nat → Nat → Nat := if rm a b = 0 then u2 rm a b v else rm
theorem layC_len {C : List Nat} {q v : Nat} : (layC C q v).length = C.length := by
  unfold layC
  by_cases h : C.getD q 0 = 0
  · rw [if_pos h, List.length_set]
  · rw [if_neg h]
theorem cR.lay {n : Nat} {C : List Nat} {rm : Nat → Nat → Nat} (H : cR n C rm) (lC : C.length = 169) (hn : n ≤ 13) {a b v : Nat} (ha : a < n) (hb : b < n) : cR n (layC C (a * n + b) v) (layR rm a b v) := by
  unfold layC layR
  rw [H a b ha hb]
  by_cases h : rm a b = 0
  · rw [if_pos h, if_pos h]; exact H.set lC hn ha hb
  · rw [if_neg h, if_neg h]; exact H
theorem layC_lt {C : List Nat} {q v : Nat} (hC : ∀ i, i < 169 → C.getD i 0 < 196) (lC : C.length = 169) (hq : q < 169) (hv : v < 196) : ∀ i, i < 169 → (layC C q v).getD i 0 < 196 := by
  intro i hi
  unfold layC
  by_cases h : C.getD q 0 = 0
  · rw [if_pos h]
    by_cases e : q = i
    · subst e; rw [getD_set_eq (by omega)]; exact hv
    · rw [getD_set_ne e]; exact hC i hi
  · rw [if_neg h]; exact hC i hi
theorem ev_lay {h : List aC} {r n : Nat} {C : List Nat} {T : List Int32} (hR : RA h r n C T) (a b : Nat) (hn : n ≤ 13) (ha : a < n) (hb : b < n) (hC : ∀ i, i < 169 → C.getD i 0 < 196) (v : Nat) : Ev mX4_lay 3 0 0 [.ref r, .int (nI a), .int (nI b), .int (nI v)] h (pq (some (.int (nI (bI (decide (C.getD (a * n + b) 0 ≠ 0)))))) (fun h2 => RA h2 r n (layC C (a * n + b) v) T ∧ Smo r (r + 2) h h2)) := by
  by_cases hz : C.getD (a * n + b) 0 = 0
  · refine (ev_lay0 hR a b hn ha hb hC v hz).mono ?_
    rintro w h1 ⟨rfl, q⟩
    refine ⟨by rw [decide_eq_false (not_not_intro hz)]; rfl, ?_⟩
    unfold layC
    rw [if_pos hz]
    exact q
  · refine (ev_lay1 hR a b hn ha hb hC v hz).mono ?_
    rintro w h1 ⟨rfl, rfl⟩
    refine ⟨by rw [decide_eq_true hz]; rfl, ?_⟩
    unfold layC
    rw [if_neg hz]
    exact ⟨hR, Smo.rf⟩
/-- row i of the room built: k pairs laid behind the diagonal -/
def bP (n : Nat) (f : Nat → Pr) (i : Nat) (s : (Nat → Nat → Nat) × Nat) : Nat → (Nat → Nat → Nat) × Nat
  | 0 => s
  | k + 1 => (layR (bP n f i s k).1 i ((i + n - (f k).2.2) % n) (cod (((f k).1 + i) % n) (((f k).2.1 + i) % n)), (bP n f i s k).2 + bI (decide ((bP n f i s k).1 i ((i + n - (f k).2.2) % n) ≠ 0)))
def bD (n i : Nat) (s : (Nat → Nat → Nat) × Nat) : (Nat → Nat → Nat) × Nat := (layR s.1 i i (cod n i), s.2 + bI (decide (s.1 i i ≠ 0)))
def bR (n m : Nat) (f : Nat → Pr) : Nat → (Nat → Nat → Nat) × Nat
  | 0 => (fun _ _ => 0, 0)
  | i + 1 => bP n f i (bD n i (bR n m f i)) m
theorem cod_lt {a b : Nat} (ha : a ≤ 13) (hb : b ≤ 13) : cod a b < 196 := by unfold cod; omega

set_option maxRecDepth 100000 in
set_option maxHeartbeats 4000000 in
theorem lp_built1 {h0 : List aC} {r p n m : Nat} {T : List Int32} {F S A : List Nat} (hn : n ≤ 13) (h0n : 0 < n) (hm : m ≤ 6) (hb : bnd n m F S A) (hd : r + 3 ≤ p ∨ p + 4 ≤ r) {P : Option Value → List aC → Prop} (a : Nat) (ha : a < n) (s : (Nat → Nat → Nat) × Nat) (K : ∀ (h : List aC) (C : List Nat), RA h r n C T → cR n C (bP n (fOf F S A) a s m).1 → (∀ i, i < 169 → C.getD i 0 < 196) → PA h p n m F S A → Smo r (r + 2) h0 h → G mX4_becomeBuilt (rmD 4 0 0) none P 0 0 122 [(4, .int (nI m)), (3, .int (nI a)), (2, .int (nI ((bP n (fOf F S A) a s m).2))), (0, .ref r), (1, .ref p)] [] h) : ∀ j k (h : List aC) (C : List Nat), k + j = m → RA h r n C T → cR n C (bP n (fOf F S A) a s k).1 → (∀ i, i < 169 → C.getD i 0 < 196) → PA h p n m F S A → Smo r (r + 2) h0 h → G mX4_becomeBuilt (rmD 4 0 0) none P 0 0 40 [(4, .int (nI k)), (3, .int (nI a)), (2, .int (nI ((bP n (fOf F S A) a s k).2))), (0, .ref r), (1, .ref p)] [] h := by
  intro j
  induction j with
  | zero =>
    intro k h C hk hR hI hC hP hS
    have ek : k = m := by omega
    refine g_iload dX4_becomeBuilt_40 0 rfl ?_
    refine g_aload_n dX4_becomeBuilt_42 4 rfl ?_
    refine g_getf dX4_becomeBuilt_43 kX3 wfX4_56 (Nat.le_of_ble_eq_true rfl) (hP.1) rfl ?_
    refine g_icmp_geN 122 dX4_becomeBuilt_46 (by decide) (by omega) (by omega) (fun c46 => ?_) (fun z => absurd z (by omega))
    rw [ek] at hI ⊢
    exact K h C hR hI hC hP hS
  | succ j ih =>
    intro k h C hk hR hI hC hP hS
    obtain ⟨-, -, -, lC, lT⟩ := id hR
    obtain ⟨-, -, -, -, lF, lS, lA⟩ := id hP
    obtain ⟨bF, bS, bA⟩ := hb k (by omega)
    have y1 := Nat.mod_lt (F.getD k 0 + a) h0n
    have y2 := Nat.mod_lt (S.getD k 0 + a) h0n
    have y3 := Nat.mod_lt (a + n - A.getD k 0) h0n
    have y4 := cod_lt (show (F.getD k 0 + a) % n ≤ 13 by omega) (show (S.getD k 0 + a) % n ≤ 13 by omega)
    have y5 := pl_lt hn ha y3
    refine g_iload dX4_becomeBuilt_40 0 rfl ?_
    refine g_aload_n dX4_becomeBuilt_42 4 rfl ?_
    refine g_getf dX4_becomeBuilt_43 kX3 wfX4_56 (Nat.le_of_ble_eq_true rfl) (hP.1) rfl ?_
    refine g_icmp_geN 122 dX4_becomeBuilt_46 (by decide) (by omega) (by omega) (fun z => absurd z (by omega)) (fun c46 => ?_)
    refine g_aload_n dX4_becomeBuilt_49 4 rfl ?_
    refine g_getf dX4_becomeBuilt_50 kX3 wfX4_59 (Nat.le_of_ble_eq_true rfl) (hP.1) rfl ?_
    refine g_iload dX4_becomeBuilt_53 0 rfl ?_
    refine g_ialN dX4_becomeBuilt_55 (hP.2.1) (by omega) (by omega) ?_
    refine g_iload_n dX4_becomeBuilt_56 1 rfl ?_
    refine g_iaddN dX4_becomeBuilt_57 ?_
    refine g_aload_n dX4_becomeBuilt_58 3 rfl ?_
    refine g_getf dX4_becomeBuilt_59 kX4 wfX4_18 (Nat.le_of_ble_eq_true rfl) (hR.1) rfl ?_
    refine g_callSNp dX4_becomeBuilt_62 (ev_wrapN (((F).getD k 0) + a) (n) (by omega) (by omega) (by omega) _) oX8_wrap wsX8_wrap wqX4_62 rfl ⟨(Nat.le_of_ble_eq_true rfl), (Nat.le_of_ble_eq_true rfl)⟩ ⟨Nat.zero_le _, Nat.zero_le _⟩ (Nat.le_of_ble_eq_true rfl) rfl ?_
    refine g_istore (ls' := [(5, .int (nI ((((F).getD k 0) + a) % n))), (4, .int (nI k)), (3, .int (nI a)), (2, .int (nI ((bP n (fOf F S A) a s k).2))), (0, .ref r), (1, .ref p)]) dX4_becomeBuilt_65 (Nat.le_of_ble_eq_true rfl) rfl ?_
    refine g_aload_n dX4_becomeBuilt_67 5 rfl ?_
    refine g_getf dX4_becomeBuilt_68 kX3 wfX4_65 (Nat.le_of_ble_eq_true rfl) (hP.1) rfl ?_
    refine g_iload dX4_becomeBuilt_71 1 rfl ?_
    refine g_ialN dX4_becomeBuilt_73 (hP.2.2.1) (by omega) (by omega) ?_
    refine g_iload_n dX4_becomeBuilt_74 2 rfl ?_
    refine g_iaddN dX4_becomeBuilt_75 ?_
    refine g_aload_n dX4_becomeBuilt_76 4 rfl ?_
    refine g_getf dX4_becomeBuilt_77 kX4 wfX4_18 (Nat.le_of_ble_eq_true rfl) (hR.1) rfl ?_
    refine g_callSNp dX4_becomeBuilt_80 (ev_wrapN (((S).getD k 0) + a) (n) (by omega) (by omega) (by omega) _) oX8_wrap wsX8_wrap wqX4_62 rfl ⟨(Nat.le_of_ble_eq_true rfl), (Nat.le_of_ble_eq_true rfl)⟩ ⟨Nat.zero_le _, Nat.zero_le _⟩ (Nat.le_of_ble_eq_true rfl) rfl ?_
    refine g_istore (ls' := [(6, .int (nI ((((S).getD k 0) + a) % n))), (5, .int (nI ((((F).getD k 0) + a) % n))), (4, .int (nI k)), (3, .int (nI a)), (2, .int (nI ((bP n (fOf F S A) a s k).2))), (0, .ref r), (1, .ref p)]) dX4_becomeBuilt_83 (Nat.le_of_ble_eq_true rfl) rfl ?_
    refine g_iload_n dX4_becomeBuilt_85 4 rfl ?_
    refine g_aload_n dX4_becomeBuilt_86 5 rfl ?_
    refine g_iload_n dX4_becomeBuilt_87 3 rfl ?_
    refine g_iload_n dX4_becomeBuilt_88 3 rfl ?_
    refine g_aload_n dX4_becomeBuilt_89 6 rfl ?_
    refine g_getf dX4_becomeBuilt_90 kX3 wfX4_68 (Nat.le_of_ble_eq_true rfl) (hP.1) rfl ?_
    refine g_iload dX4_becomeBuilt_93 2 rfl ?_
    refine g_ialN dX4_becomeBuilt_95 (hP.2.2.2.1) (by omega) (by omega) ?_
    refine g_isub dX4_becomeBuilt_96 ?_
    refine g_aload_n dX4_becomeBuilt_97 5 rfl ?_
    refine g_getf dX4_becomeBuilt_98 kX4 wfX4_18 (Nat.le_of_ble_eq_true rfl) (hR.1) rfl ?_
    refine g_callSNp dX4_becomeBuilt_101 (ev_wrapS (a) ((A).getD k 0) (n) (by omega) (by omega) (by omega) (by omega) _) oX8_wrap wsX8_wrap wqX4_62 rfl ⟨(Nat.le_of_ble_eq_true rfl), (Nat.le_of_ble_eq_true rfl)⟩ ⟨Nat.zero_le _, Nat.zero_le _⟩ (Nat.le_of_ble_eq_true rfl) rfl ?_
    refine g_iload dX4_becomeBuilt_104 1 rfl ?_
    refine g_iload dX4_becomeBuilt_106 0 rfl ?_
    refine g_callSp dX4_becomeBuilt_108 (ev_codeOf ((((F).getD k 0) + a) % n) ((((S).getD k 0) + a) % n) (by omega) (by omega) _) oX4_codeOf wsX4_codeOf wmX4_49 rfl ⟨(Nat.le_of_ble_eq_true rfl), (Nat.le_of_ble_eq_true rfl)⟩ ⟨Nat.zero_le _, Nat.zero_le _⟩ (Nat.le_of_ble_eq_true rfl) rfl ?_
    refine g_callVq (st1 := [.int (nI (bI (decide (C.getD (a * n + ((a + n - A.getD k 0) % n)) 0 ≠ 0)))), .int (nI ((bP n (fOf F S A) a s k).2))]) dX4_becomeBuilt_111 (ev_lay hR (a) ((a + n - ((A).getD k 0)) % n) hn (by omega) (by omega) hC (cod ((((F).getD k 0) + a) % n) ((((S).getD k 0) + a) % n))) oX4_lay wiX4_lay weX4_lay wmX4_52 kX4 (hR.1) rfl ⟨(Nat.le_of_ble_eq_true rfl), (Nat.le_of_ble_eq_true rfl)⟩ ⟨Nat.zero_le _, Nat.zero_le _⟩ (Nat.le_of_ble_eq_true rfl) rfl rfl (fun h1 q1 => ?_)
    obtain ⟨q1a, q1s⟩ := q1
    have b1_p := hP.mv q1s (by omega)
    refine g_iaddN dX4_becomeBuilt_114 ?_
    refine g_istore_n (ls' := [(2, .int (nI (((bP n (fOf F S A) a s k).2) + (bI (decide (C.getD (a * n + ((a + n - A.getD k 0) % n)) 0 ≠ 0)))))), (6, .int (nI ((((S).getD k 0) + a) % n))), (5, .int (nI ((((F).getD k 0) + a) % n))), (4, .int (nI k)), (3, .int (nI a)), (0, .ref r), (1, .ref p)]) dX4_becomeBuilt_115 (Nat.le_of_ble_eq_true rfl) rfl ?_
    refine g_iinc (q := 3) (v := nI (k + 1)) (ls' := [(4, .int (nI (k + 1))), (2, .int (nI (((bP n (fOf F S A) a s k).2) + (bI (decide (C.getD (a * n + ((a + n - A.getD k 0) % n)) 0 ≠ 0)))))), (6, .int (nI ((((S).getD k 0) + a) % n))), (5, .int (nI ((((F).getD k 0) + a) % n))), (3, .int (nI a)), (0, .ref r), (1, .ref p)]) dX4_becomeBuilt_116 rfl (inc1 _) (Nat.le_of_ble_eq_true rfl) rfl ?_
    refine g_goto 40 dX4_becomeBuilt_119 (by decide) ?_
    refine g_lsub_ (ls2 := [(4, .int (nI (k + 1))), (3, .int (nI a)), (2, .int (nI (((bP n (fOf F S A) a s k).2) + (bI (decide (C.getD (a * n + ((a + n - A.getD k 0) % n)) 0 ≠ 0)))))), (0, .ref r), (1, .ref p)]) [0, 4, 1, 5, 6] rfl ?_
    rw [hI a _ ha y3]
    exact ih (k + 1) h1 _ (by omega) q1a (hI.lay lC hn ha y3) (layC_lt hC lC y5 y4) b1_p (hS.tr (fun q hq => by rw [q1s q (by omega)]))

set_option maxRecDepth 100000 in
set_option maxHeartbeats 4000000 in
theorem lp_built {h0 : List aC} {r p n m : Nat} {T : List Int32} {F S A : List Nat} (hn : n ≤ 13) (h0n : 0 < n) (hm : m ≤ 6) (hb : bnd n m F S A) (hd : r + 3 ≤ p ∨ p + 4 ≤ r) : ∀ j k (h : List aC) (C : List Nat), k + j = n → RA h r n C T → cR n C (bR n m (fOf F S A) k).1 → (∀ i, i < 169 → C.getD i 0 < 196) → PA h p n m F S A → Smo r (r + 2) h0 h → G mX4_becomeBuilt (rmD 4 0 0) none (pq (some (.int (nI (bR n m (fOf F S A) n).2))) (fun h2 => ∃ C2, RA h2 r n C2 T ∧ cR n C2 (bR n m (fOf F S A) n).1 ∧ (∀ i, i < 169 → C2.getD i 0 < 196) ∧ Smo r (r + 2) h0 h2)) 0 0 12 [(3, .int (nI k)), (2, .int (nI ((bR n m (fOf F S A) k).2))), (0, .ref r), (1, .ref p)] [] h := by
  intro j
  induction j with
  | zero =>
    intro k h C hk hR hI hC hP hS
    have ek : k = n := by omega
    refine g_iload_n dX4_becomeBuilt_12 0 rfl ?_
    refine g_aload_n dX4_becomeBuilt_13 2 rfl ?_
    refine g_getf dX4_becomeBuilt_14 kX4 wfX4_18 (Nat.le_of_ble_eq_true rfl) (hR.1) rfl ?_
    refine g_icmp_geN 128 dX4_becomeBuilt_17 (by decide) (by omega) (by omega) (fun c17 => ?_) (fun z => absurd z (by omega))
    refine g_iload_n dX4_becomeBuilt_128 1 rfl ?_
    exact g_iret dX4_becomeBuilt_129 rfl ⟨Nat.zero_le _, Nat.zero_le _⟩ (⟨by rw [ek], C, hR, by rw [ek] at hI; exact hI, hC, hS⟩)
  | succ j ih =>
    intro k h C hk hR hI hC hP hS
    obtain ⟨-, -, -, lC, lT⟩ := id hR
    have y4 := cod_lt (show n ≤ 13 by omega) (show k ≤ 13 by omega)
    have y5 := pl_lt hn (show k < n by omega) (show k < n by omega)
    refine g_iload_n dX4_becomeBuilt_12 0 rfl ?_
    refine g_aload_n dX4_becomeBuilt_13 2 rfl ?_
    refine g_getf dX4_becomeBuilt_14 kX4 wfX4_18 (Nat.le_of_ble_eq_true rfl) (hR.1) rfl ?_
    refine g_icmp_geN 128 dX4_becomeBuilt_17 (by decide) (by omega) (by omega) (fun z => absurd z (by omega)) (fun c17 => ?_)
    refine g_iload_n dX4_becomeBuilt_20 1 rfl ?_
    refine g_aload_n dX4_becomeBuilt_21 2 rfl ?_
    refine g_iload_n dX4_becomeBuilt_22 0 rfl ?_
    refine g_iload_n dX4_becomeBuilt_23 0 rfl ?_
    refine g_aload_n dX4_becomeBuilt_24 2 rfl ?_
    refine g_getf dX4_becomeBuilt_25 kX4 wfX4_18 (Nat.le_of_ble_eq_true rfl) (hR.1) rfl ?_
    refine g_iload_n dX4_becomeBuilt_28 0 rfl ?_
    refine g_callSp dX4_becomeBuilt_29 (ev_codeOf (n) (k) (by omega) (by omega) _) oX4_codeOf wsX4_codeOf wmX4_49 rfl ⟨(Nat.le_of_ble_eq_true rfl), (Nat.le_of_ble_eq_true rfl)⟩ ⟨Nat.zero_le _, Nat.zero_le _⟩ (Nat.le_of_ble_eq_true rfl) rfl ?_
    refine g_callVq (st1 := [.int (nI (bI (decide (C.getD (k * n + k) 0 ≠ 0)))), .int (nI ((bR n m (fOf F S A) k).2))]) dX4_becomeBuilt_32 (ev_lay hR (k) (k) hn (by omega) (by omega) hC (cod n k)) oX4_lay wiX4_lay weX4_lay wmX4_52 kX4 (hR.1) rfl ⟨(Nat.le_of_ble_eq_true rfl), (Nat.le_of_ble_eq_true rfl)⟩ ⟨Nat.zero_le _, Nat.zero_le _⟩ (Nat.le_of_ble_eq_true rfl) rfl rfl (fun h1 q1 => ?_)
    obtain ⟨q1a, q1s⟩ := q1
    have b1_p := hP.mv q1s (by omega)
    refine g_iaddN dX4_becomeBuilt_35 ?_
    refine g_istore_n (ls' := [(2, .int (nI (((bR n m (fOf F S A) k).2) + (bI (decide (C.getD (k * n + k) 0 ≠ 0)))))), (3, .int (nI k)), (0, .ref r), (1, .ref p)]) dX4_becomeBuilt_36 (Nat.le_of_ble_eq_true rfl) rfl ?_
    refine g_iconst (v := nI 0) dX4_becomeBuilt_37 (by decide +kernel) ?_
    refine g_istore (ls' := [(4, .int (nI 0)), (2, .int (nI (((bR n m (fOf F S A) k).2) + (bI (decide (C.getD (k * n + k) 0 ≠ 0)))))), (3, .int (nI k)), (0, .ref r), (1, .ref p)]) dX4_becomeBuilt_38 (Nat.le_of_ble_eq_true rfl) rfl ?_
    refine g_lsub_ (ls2 := [(4, .int (nI 0)), (3, .int (nI k)), (2, .int (nI (((bR n m (fOf F S A) k).2) + (bI (decide (C.getD (k * n + k) 0 ≠ 0)))))), (0, .ref r), (1, .ref p)]) [0, 2, 1, 3, 4] rfl ?_
    have e9 := hI k k (by omega) (by omega)
    rw [e9]
    refine lp_built1 hn h0n hm hb hd k (by omega) (bD n k (bR n m (fOf F S A) k)) (fun h C hR hI hC hP hS => ?_) m 0 h1 _ (by omega) q1a (hI.lay lC hn (by omega) (by omega)) (layC_lt hC lC y5 y4) b1_p (hS.tr (fun q hq => by rw [q1s q (by omega)]))
    refine g_iinc (q := 1) (v := nI (k + 1)) (ls' := [(3, .int (nI (k + 1))), (4, .int (nI m)), (2, .int (nI ((bR n m (fOf F S A) (k + 1)).2))), (0, .ref r), (1, .ref p)]) dX4_becomeBuilt_122 rfl (inc1 _) (Nat.le_of_ble_eq_true rfl) rfl ?_
    refine g_goto 12 dX4_becomeBuilt_125 (by decide) ?_
    refine g_lsub_ (ls2 := [(3, .int (nI (k + 1))), (2, .int (nI ((bR n m (fOf F S A) (k + 1)).2))), (0, .ref r), (1, .ref p)]) [0, 2, 3, 4] rfl ?_
    exact ih (k + 1) h C (by omega) hR hI hC hP hS

set_option maxRecDepth 100000 in
set_option maxHeartbeats 4000000 in
theorem ev_built {h : List aC} {r n0 p n m : Nat} {C : List Nat} {T : List Int32} {F S A : List Nat} (hR : RA h r n0 C T) (hP : PA h p n m F S A) (hn : n ≤ 13) (h0n : 0 < n) (hm : m ≤ 6) (hb : bnd n m F S A) (hd : r + 3 ≤ p ∨ p + 4 ≤ r) : Ev mX4_becomeBuilt 4 0 0 [.ref r, .ref p] h (pq (some (.int (nI (bR n m (fOf F S A) n).2))) (fun h2 => ∃ C2, RA h2 r n C2 T ∧ cR n C2 (bR n m (fOf F S A) n).1 ∧ (∀ i, i < 169 → C2.getD i 0 < 196) ∧ Smo r (r + 2) h h2)) := by
  refine Ev.of pX4_becomeBuilt (Nat.le_of_ble_eq_true rfl) ?_
  show G mX4_becomeBuilt (rmD 4 0 0) none _ 0 0 0 [(0, .ref r), (1, .ref p)] [] h
  refine g_aload_n dX4_becomeBuilt_0 0 rfl ?_
  refine g_aload_n dX4_becomeBuilt_1 1 rfl ?_
  refine g_getf dX4_becomeBuilt_2 kX3 wfX4_40 (Nat.le_of_ble_eq_true rfl) (hP.1) rfl ?_
  refine g_callVq (st1 := []) dX4_becomeBuilt_5 (ev_rempty hR n) oX4_becomeEmpty wiX4_becomeEmpty weX4_becomeEmpty wmX4_45 kX4 (hR.1) rfl ⟨(Nat.le_of_ble_eq_true rfl), (Nat.le_of_ble_eq_true rfl)⟩ ⟨Nat.zero_le _, Nat.zero_le _⟩ (Nat.le_of_ble_eq_true rfl) rfl rfl (fun h1 q1 => ?_)
  obtain ⟨C1, q1a, q1z, q1s⟩ := q1
  have b1_p := hP.mv q1s (by omega)
  refine g_iconst (v := nI 0) dX4_becomeBuilt_8 (by decide +kernel) ?_
  refine g_istore_n (ls' := [(2, .int (nI 0)), (0, .ref r), (1, .ref p)]) dX4_becomeBuilt_9 (Nat.le_of_ble_eq_true rfl) rfl ?_
  refine g_iconst (v := nI 0) dX4_becomeBuilt_10 (by decide +kernel) ?_
  refine g_istore_n (ls' := [(3, .int (nI 0)), (2, .int (nI 0)), (0, .ref r), (1, .ref p)]) dX4_becomeBuilt_11 (Nat.le_of_ble_eq_true rfl) rfl ?_
  exact lp_built hn h0n hm hb hd n 0 h1 C1 (by omega) q1a (fun a b ha hb => q1z _ (pl_lt hn ha hb)) (fun i hi => by rw [q1z i hi]; omega) b1_p q1s
