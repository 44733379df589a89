set_option maxRecDepth 100000 in
set_option maxHeartbeats 4000000 in
theorem ev_wholeR {h : List aC} {n m a de : Nat} {fo as_ sm sk z : Int32} {am : Nat} {ib : Bool} {iN iM iT : Int32} (hO : MO h n m a de fo as_ sm sk z am ib iN iM iT) (n3 : n ≤ 13) (x y : Nat) (hx : x < n) (hy : y < n) : Ev mX9_whole 1 0 0 [.ref 98, .int (nI x - nI y)] h (pv (.int (nI ((x + n - y) % n))) h) := by
  have hO : rd h 98 = some (.inr (9, [.int (nI n), .int (nI m), .ref 99, .ref 100, .ref 101, .int (nI a), .ref 102, .int (nI de), .ref 103, .ref 104, .ref 105, .int fo, .int as_, .int sm, .int sk, .ref 106, .ref 107, .ref 108, .int z, .ref 109, .ref 110, .ref 111, .int (nI am), .ref 112, .ref 113, .ref 114, .ref 115, .ref 116, .int (nI (bI ib)), .int iN, .int iM, .int iT, .ref 117, .ref 118, .ref 119])) := hO
  refine Ev.of pX9_whole (Nat.le_of_ble_eq_true rfl) ?_
  show G mX9_whole (rmD 1 0 0) none _ 0 0 0 [(0, .ref 98), (1, .int (nI x - nI y))] [] h
  refine g_iload_n dX9_whole_0 1 rfl ?_
  refine g_aload_n dX9_whole_1 0 rfl ?_
  refine g_getf dX9_whole_2 kX9 wfX9_7 (Nat.le_of_ble_eq_true rfl) (hO) rfl ?_
  refine g_irem dX9_whole_5 (fun z => by have := (nI_eq (a := n) (b := 0) (by omega) (by omega)).mp z; omega) ?_
  refine g_aload_n dX9_whole_6 0 rfl ?_
  refine g_getf dX9_whole_7 kX9 wfX9_7 (Nat.le_of_ble_eq_true rfl) (hO) rfl ?_
  refine g_iadd dX9_whole_10 ?_
  refine g_aload_n dX9_whole_11 0 rfl ?_
  refine g_getf dX9_whole_12 kX9 wfX9_7 (Nat.le_of_ble_eq_true rfl) (hO) rfl ?_
  refine g_irem dX9_whole_15 (fun z => by have := (nI_eq (a := n) (b := 0) (by omega) (by omega)).mp z; omega) ?_
  exact g_iret dX9_whole_16 rfl ⟨Nat.zero_le _, Nat.zero_le _⟩ (⟨by rw [← wh_all n (by omega) (by omega) x hx y hy], rfl⟩)

theorem modadd {x i n : Nat} (hx : x < n) (hi : i < n) : (x + i) % n = if x + i < n then x + i else x + i - n := by
  split
  · exact Nat.mod_eq_of_lt ‹_›
  · rw [Nat.mod_eq_sub_mod (by omega), Nat.mod_eq_of_lt (by omega)]
theorem modne {x y i n : Nat} (hx : x < n) (hy : y < n) (hi : i < n) (ne : x ≠ y) : (x + i) % n ≠ (y + i) % n := by
  rw [modadd hx hi, modadd hy hi]
  split <;> split <;> omega
theorem bP_row {n i : Nat} {f : Nat → Pr} {s : (Nat → Nat → Nat) × Nat} {a b : Nat} (ha : i ≠ a) : ∀ k, (bP n f i s k).1 a b = s.1 a b
  | 0 => rfl
  | k + 1 => by
    show layR (bP n f i s k).1 _ _ _ a b = _
    unfold layR
    split
    · rw [u2_ne (by omega)]; exact bP_row ha k
    · exact bP_row ha k
theorem bR_row {n m : Nat} {f : Nat → Pr} {a b : Nat} : ∀ i, i ≤ a → (bR n m f i).1 a b = 0
  | 0, _ => rfl
  | i + 1, h => by
    show (bP n f i (bD n i (bR n m f i)) m).1 a b = 0
    rw [bP_row (by omega)]
    show layR (bR n m f i).1 i i (cod n i) a b = 0
    unfold layR
    split
    · rw [u2_ne (by omega)]; exact bR_row i (by omega)
    · exact bR_row i (by omega)
theorem bD_eq (n m : Nat) (f : Nat → Pr) (i : Nat) : bD n i (bR n m f i) = (u2 (bR n m f i).1 i i (cod n i), (bR n m f i).2) := by
  have z := bR_row (n := n) (m := m) (f := f) (b := i) i (Nat.le_refl i)
  unfold bD layR
  rw [if_pos z, decide_eq_false (not_not_intro z)]
  rfl
theorem bP_lost (n i : Nat) (f : Nat → Pr) (s : (Nat → Nat → Nat) × Nat) : ∀ k, (bP n f i s k).2 ≤ s.2 + k
  | 0 => Nat.le_refl _
  | k + 1 => by
    have := bP_lost n i f s k
    show (bP n f i s k).2 + bI _ ≤ _
    cases decide ((bP n f i s k).1 i ((i + n - (f k).2.2) % n) ≠ 0)
    · show _ + 0 ≤ _; omega
    · show _ + 1 ≤ _; omega
theorem bR_lost (n m : Nat) (f : Nat → Pr) : ∀ i, (bR n m f i).2 ≤ i * m
  | 0 => Nat.zero_le _
  | i + 1 => by
    have h := bP_lost n i f (bD n i (bR n m f i)) m
    rw [bD_eq] at h
    have := bR_lost n m f i
    show (bP n f i (bD n i (bR n m f i)) m).2 ≤ _
    rw [bD_eq, Nat.succ_mul]
    exact Nat.le_trans h (Nat.add_le_add_right this m)
theorem bP_p {n i k : Nat} {f : Nat → Pr} {s : (Nat → Nat → Nat) × Nat} (h : ¬ (bP n f i s k).1 i ((i + n - (f k).2.2) % n) = 0) : bP n f i s (k + 1) = ((bP n f i s k).1, (bP n f i s k).2 + 1) := by
  show (layR _ _ _ _, _ + bI _) = _
  unfold layR
  rw [if_neg h, decide_eq_true h]; rfl
theorem bP_z {n i k : Nat} {f : Nat → Pr} {s : (Nat → Nat → Nat) × Nat} (h : (bP n f i s k).1 i ((i + n - (f k).2.2) % n) = 0) : bP n f i s (k + 1) = (u2 (bP n f i s k).1 i ((i + n - (f k).2.2) % n) (cod (((f k).1 + i) % n) (((f k).2.1 + i) % n)), (bP n f i s k).2) := by
  show (layR _ _ _ _, _ + bI _) = _
  unfold layR
  rw [if_pos h, decide_eq_false (not_not_intro h)]; rfl
theorem okS_lt {n : Nat} (hn : n ≤ 13) {rm : Nat → Nat → Nat} (h : (∀ a b, a < n → b < n → okC n (rm a b)) ∧ (∀ a b, n ≤ a ∨ n ≤ b → rm a b = 0)) (a b : Nat) : rm a b < 196 := by
  by_cases q : a < n ∧ b < n
  · exact okC_lt hn (h.1 a b q.1 q.2)
  · rw [h.2 a b (by omega)]; omega

set_option maxRecDepth 100000 in
set_option maxHeartbeats 4000000 in
theorem lp_mbuI {h0 : List aC} {P : Option Value → List aC → Prop} {n m a de : Nat} {fo as_ sm sk z : Int32} {am : Nat} {ib : Bool} {iN iM iT : Int32} (n3 : n ≤ 13) (hm : m ≤ 6) {P1 : List Int32} (lP : P1.length = 18) (hP : rd h0 99 = some (.inl P1)) {f : Nat → Pr} (vP : pR P1 0 m f) (k5 : ∀ k, k < m → okPr n (f k)) {i : Nat} (hi : i < n) {s : (Nat → Nat → Nat) × Nat} (hs : ((∀ a b, a < n → b < n → okC n (s.1 a b)) ∧ (∀ a b, n ≤ a ∨ n ≤ b → s.1 a b = 0))) (s2 : s.2 ≤ 100) (K : ∀ R h', rd h' 100 = some (.inl R) → R.length = 338 → rR R 0 (bP n f i s m).1 → Smo 100 101 h0 h' → G mX9_build (rmD 2 0 0) none P 0 0 147 [(0, .ref 98), (1, .int (nI ((bP n f i s m).2))), (2, .int (nI i)), (3, .int (nI m))] [] h') : ∀ j k (h : List aC) (R : List Int32), k + j = m → MO h n m a de fo as_ sm sk z am ib iN iM iT → rd h 100 = some (.inl R) → R.length = 338 → rR R 0 (bP n f i s k).1 → Smo 100 101 h0 h → G mX9_build (rmD 2 0 0) none P 0 0 56 [(3, .int (nI k)), (0, .ref 98), (1, .int (nI ((bP n f i s k).2))), (2, .int (nI i))] [] h := by
  intro j
  induction j with
  | zero =>
    intro k h R hk hO hR lR vR hS
    have hO : rd h 98 = some (.inr (9, [.int (nI n), .int (nI m), .ref 99, .ref 100, .ref 101, .int (nI a), .ref 102, .int (nI de), .ref 103, .ref 104, .ref 105, .int fo, .int as_, .int sm, .int sk, .ref 106, .ref 107, .ref 108, .int z, .ref 109, .ref 110, .ref 111, .int (nI am), .ref 112, .ref 113, .ref 114, .ref 115, .ref 116, .int (nI (bI ib)), .int iN, .int iM, .int iT, .ref 117, .ref 118, .ref 119])) := hO
    have os := okS_lt n3 (bP_ok hi n3 hs k (fun j hj => k5 j (by omega)))
    have lo := bP_lost n i f s k
    refine g_iload_n dX9_build_56 0 rfl ?_
    refine g_aload_n dX9_build_57 1 rfl ?_
    refine g_getf dX9_build_58 kX9 wfX9_87 (Nat.le_of_ble_eq_true rfl) (hO) rfl ?_
    refine g_icmp_geN 147 dX9_build_61 (by decide) (by omega) (by omega) (fun c61 => ?_) (fun z => absurd z (by omega))
    refine g_lsub_ (ls2 := [(0, .ref 98), (1, .int (nI ((bP n f i s k).2))), (2, .int (nI i)), (3, .int (nI k))]) [1, 2, 3, 0] rfl ?_
    have ek : k = m := by omega
    subst ek
    exact K _ _ hR lR vR hS
  | succ j ih =>
    intro k h R hk hO hR lR vR hS
    have hO : rd h 98 = some (.inr (9, [.int (nI n), .int (nI m), .ref 99, .ref 100, .ref 101, .int (nI a), .ref 102, .int (nI de), .ref 103, .ref 104, .ref 105, .int fo, .int as_, .int sm, .int sk, .ref 106, .ref 107, .ref 108, .int z, .ref 109, .ref 110, .ref 111, .int (nI am), .ref 112, .ref 113, .ref 114, .ref 115, .ref 116, .int (nI (bI ib)), .int iN, .int iM, .int iT, .ref 117, .ref 118, .ref 119])) := hO
    have os := okS_lt n3 (bP_ok hi n3 hs k (fun j hj => k5 j (by omega)))
    have lo := bP_lost n i f s k
    obtain ⟨j1, j2, j3, j4, j5, j6⟩ := k5 k (by omega)
    have wa : (i + n - (f k).2.2) % n < n := Nat.mod_lt _ (by omega)
    have wx : ((f k).1 + i) % n < n := Nat.mod_lt _ (by omega)
    have wy : ((f k).2.1 + i) % n < n := Nat.mod_lt _ (by omega)
    have wne := modne j2 j4 hi j5
    have vv := os i ((i + n - (f k).2.2) % n)
    refine g_iload_n dX9_build_56 0 rfl ?_
    refine g_aload_n dX9_build_57 1 rfl ?_
    refine g_getf dX9_build_58 kX9 wfX9_87 (Nat.le_of_ble_eq_true rfl) (hO) rfl ?_
    refine g_icmp_geN 147 dX9_build_61 (by decide) (by omega) (by omega) (fun z => absurd z (by omega)) (fun c61 => ?_)
    refine g_aload_n dX9_build_64 1 rfl ?_
    refine g_iload_n dX9_build_65 3 rfl ?_
    refine g_aload_n dX9_build_66 1 rfl ?_
    refine g_iload_n dX9_build_67 3 rfl ?_
    refine g_aload_n dX9_build_68 1 rfl ?_
    refine g_getf dX9_build_69 kX9 wfX9_13 (Nat.le_of_ble_eq_true rfl) (hO) rfl ?_
    refine g_iconst (v := nI 3) dX9_build_72 (by decide +kernel) ?_
    refine g_iload_n dX9_build_73 0 rfl ?_
    refine g_imulN dX9_build_74 ?_
    refine g_iconst (v := nI 2) dX9_build_75 (by decide +kernel) ?_
    refine g_iaddN dX9_build_76 ?_
    refine g_ialI dX9_build_77 ((show rd h 99 = some (.inl P1) by rw [hS 99 (by omega)]; exact hP)) (by omega) (by omega) ?_
    refine g_top (pR2 vP (by omega)) ?_
    refine g_isub dX9_build_78 ?_
    refine g_callVp dX9_build_79 (ev_wholeR hO n3 i (f k).2.2 hi j6) oX9_whole wiX9_whole weX9_whole wmX9_129 kX9 (hO) rfl ⟨(Nat.le_of_ble_eq_true rfl), (Nat.le_of_ble_eq_true rfl)⟩ ⟨Nat.zero_le _, Nat.zero_le _⟩ (Nat.le_of_ble_eq_true rfl) rfl ?_
    refine g_callVp dX9_build_82 (ev_cAt (i) ((i + n - (f k).2.2) % n)) oX9_cellAt wiX9_cellAt weX9_cellAt wmX9_194 kX9 (hO) rfl ⟨(Nat.le_of_ble_eq_true rfl), (Nat.le_of_ble_eq_true rfl)⟩ ⟨Nat.zero_le _, Nat.zero_le _⟩ (Nat.le_of_ble_eq_true rfl) rfl ?_
    refine g_istore (ls' := [(4, .int (nI (2 * (13 * i + ((i + n - (f k).2.2) % n))))), (3, .int (nI k)), (0, .ref 98), (1, .int (nI ((bP n f i s k).2))), (2, .int (nI i))]) dX9_build_85 (Nat.le_of_ble_eq_true rfl) rfl ?_
    refine g_aload_n dX9_build_87 2 rfl ?_
    refine g_getf dX9_build_88 kX9 wfX9_17 (Nat.le_of_ble_eq_true rfl) (hO) rfl ?_
    refine g_iload dX9_build_91 0 rfl ?_
    refine g_ialI dX9_build_93 (hR) (by omega) (by omega) ?_
    refine g_top (rRx vR (by omega) (by omega)) ?_
    refine g_if_ge 138 dX9_build_94 (by decide) (fun c94 => ?_) (fun c94 => ?_)
    · refine g_iinc (q := 3) (v := nI ((bP n f i s k).2 + 1)) (ls' := [(1, .int (nI ((bP n f i s k).2 + 1))), (4, .int (nI (2 * (13 * i + ((i + n - (f k).2.2) % n))))), (3, .int (nI k)), (0, .ref 98), (2, .int (nI i))]) dX9_build_138 rfl (inc1 _) (Nat.le_of_ble_eq_true rfl) rfl ?_
      refine g_iinc (q := 2) (v := nI (k + 1)) (ls' := [(3, .int (nI (k + 1))), (1, .int (nI ((bP n f i s k).2 + 1))), (4, .int (nI (2 * (13 * i + ((i + n - (f k).2.2) % n))))), (0, .ref 98), (2, .int (nI i))]) dX9_build_141 rfl (inc1 _) (Nat.le_of_ble_eq_true rfl) rfl ?_
      refine g_goto 56 dX9_build_144 (by decide) ?_
      refine g_lsub_ (ls2 := [(3, .int (nI (k + 1))), (0, .ref 98), (1, .int (nI ((bP n f i s k).2 + 1))), (2, .int (nI i))]) [0, 3, 1, 4] rfl ?_
      have eB := bP_p (n := n) (i := i) (f := f) (s := s) (k := k) ((xV_i _ vv).mp c94)
      have z := ih (k + 1) _ R (by omega) hO hR lR (by rw [eB]; exact vR) (hS.tr Smo.rf)
      rw [eB] at z
      exact z
    · refine g_aload_n dX9_build_97 2 rfl ?_
      refine g_iload dX9_build_98 0 rfl ?_
      refine g_aload_n dX9_build_100 2 rfl ?_
      refine g_getf dX9_build_101 kX9 wfX9_13 (Nat.le_of_ble_eq_true rfl) (hO) rfl ?_
      refine g_iconst (v := nI 3) dX9_build_104 (by decide +kernel) ?_
      refine g_iload_n dX9_build_105 1 rfl ?_
      refine g_imulN dX9_build_106 ?_
      refine g_ialI dX9_build_107 ((show rd h 99 = some (.inl P1) by rw [hS 99 (by omega)]; exact hP)) (by omega) (by omega) ?_
      refine g_top (pR0 vP (by omega)) ?_
      refine g_iload_n dX9_build_108 4 rfl ?_
      refine g_iaddN dX9_build_109 ?_
      refine g_aload_n dX9_build_110 2 rfl ?_
      refine g_getf dX9_build_111 kX9 wfX9_7 (Nat.le_of_ble_eq_true rfl) (hO) rfl ?_
      refine g_iremN dX9_build_114 (by omega) (by omega) (by omega) ?_
      refine g_aload_n dX9_build_115 2 rfl ?_
      refine g_getf dX9_build_116 kX9 wfX9_13 (Nat.le_of_ble_eq_true rfl) (hO) rfl ?_
      refine g_iconst (v := nI 3) dX9_build_119 (by decide +kernel) ?_
      refine g_iload_n dX9_build_120 1 rfl ?_
      refine g_imulN dX9_build_121 ?_
      refine g_iconst (v := nI 1) dX9_build_122 (by decide +kernel) ?_
      refine g_iaddN dX9_build_123 ?_
      refine g_ialI dX9_build_124 ((show rd h 99 = some (.inl P1) by rw [hS 99 (by omega)]; exact hP)) (by omega) (by omega) ?_
      refine g_top (pR1 vP (by omega)) ?_
      refine g_iload_n dX9_build_125 4 rfl ?_
      refine g_iaddN dX9_build_126 ?_
      refine g_aload_n dX9_build_127 2 rfl ?_
      refine g_getf dX9_build_128 kX9 wfX9_7 (Nat.le_of_ble_eq_true rfl) (hO) rfl ?_
      refine g_iremN dX9_build_131 (by omega) (by omega) (by omega) ?_
      refine g_callVq (st1 := []) dX9_build_132 (ev_fills (show MO h _ _ _ _ _ _ _ _ _ _ _ _ _ _ from hO) hR lR (2 * (13 * i + ((i + n - (f k).2.2) % n))) ((((f k).1) + i) % n) ((((f k).2.1) + i) % n) (by omega) (by omega) (by omega)) oX9_fills wiX9_fills weX9_fills wmX9_197 kX9 (hO) rfl ⟨(Nat.le_of_ble_eq_true rfl), (Nat.le_of_ble_eq_true rfl)⟩ ⟨Nat.zero_le _, Nat.zero_le _⟩ (Nat.le_of_ble_eq_true rfl) rfl rfl (fun h1 q1 => ?_)
      obtain ⟨q1a, q1s⟩ := q1
      have f1_98 : rd h1 98 = some (.inr (9, [.int (nI n), .int (nI m), .ref 99, .ref 100, .ref 101, .int (nI a), .ref 102, .int (nI de), .ref 103, .ref 104, .ref 105, .int fo, .int as_, .int sm, .int sk, .ref 106, .ref 107, .ref 108, .int z, .ref 109, .ref 110, .ref 111, .int (nI am), .ref 112, .ref 113, .ref 114, .ref 115, .ref 116, .int (nI (bI ib)), .int iN, .int iM, .int iT, .ref 117, .ref 118, .ref 119])) := by rw [q1s _ (by omega)]; exact hO
      have f1_99 : rd h1 99 = some (.inl (P1)) := by rw [q1s _ (by omega)]; exact (show rd h 99 = some (.inl P1) by rw [hS 99 (by omega)]; exact hP)
      refine g_goto 141 dX9_build_135 (by decide) ?_
      refine g_iinc (q := 1) (v := nI (k + 1)) (ls' := [(3, .int (nI (k + 1))), (4, .int (nI (2 * (13 * i + ((i + n - (f k).2.2) % n))))), (0, .ref 98), (1, .int (nI ((bP n f i s k).2))), (2, .int (nI i))]) dX9_build_141 rfl (inc1 _) (Nat.le_of_ble_eq_true rfl) rfl ?_
      refine g_goto 56 dX9_build_144 (by decide) ?_
      refine g_lsub_ (ls2 := [(3, .int (nI (k + 1))), (0, .ref 98), (1, .int (nI ((bP n f i s k).2))), (2, .int (nI i))]) [0, 2, 3, 4] rfl ?_
      have eB := bP_z (n := n) (i := i) (f := f) (s := s) (k := k) (Decidable.byContradiction fun q => c94 ((xV_i _ vv).mpr q))
      have z := ih (k + 1) _ _ (by omega) f1_98 (q1a) (((fl2_len _ _ _ _).trans lR)) (by rw [eB]; exact rR_fl2 vR lR (by omega) (by omega) (by omega) (by omega) wne) (hS.tr (fun q hq => by rw [q1s q (by omega)]))
      rw [eB] at z
      exact z

theorem layR_eq {n m k : Nat} {f : Nat → Pr} : layR (bR n m f k).1 k k (cod n k) = u2 (bR n m f k).1 k k (cod n k) := if_pos (bR_row k (Nat.le_refl k))

set_option maxRecDepth 100000 in
set_option maxHeartbeats 4000000 in
theorem lp_mbuO {h0 : List aC} {P : Option Value → List aC → Prop} {n m a de : Nat} {fo as_ sm sk z : Int32} {am : Nat} {ib : Bool} {iN iM iT : Int32} (n3 : n ≤ 13) (hm : m ≤ 6) {P1 : List Int32} (lP : P1.length = 18) (hP : rd h0 99 = some (.inl P1)) {f : Nat → Pr} (vP : pR P1 0 m f) (k5 : ∀ k, k < m → okPr n (f k)) (K : ∀ R h', rd h' 100 = some (.inl R) → R.length = 338 → rR R 0 (bR n m f n).1 → Smo 100 101 h0 h' → G mX9_build (rmD 2 0 0) none P 0 0 153 [(0, .ref 98), (1, .int (nI ((bR n m f n).2))), (2, .int (nI n))] [] h') : ∀ j k (h : List aC) (R : List Int32), k + j = n → MO h n m a de fo as_ sm sk z am ib iN iM iT → rd h 100 = some (.inl R) → R.length = 338 → rR R 0 (bR n m f k).1 → Smo 100 101 h0 h → G mX9_build (rmD 2 0 0) none P 0 0 31 [(2, .int (nI k)), (0, .ref 98), (1, .int (nI ((bR n m f k).2)))] [] h := by
  intro j
  induction j with
  | zero =>
    intro k h R hk hO hR lR vR hS
    have hO : rd h 98 = some (.inr (9, [.int (nI n), .int (nI m), .ref 99, .ref 100, .ref 101, .int (nI a), .ref 102, .int (nI de), .ref 103, .ref 104, .ref 105, .int fo, .int as_, .int sm, .int sk, .ref 106, .ref 107, .ref 108, .int z, .ref 109, .ref 110, .ref 111, .int (nI am), .ref 112, .ref 113, .ref 114, .ref 115, .ref 116, .int (nI (bI ib)), .int iN, .int iM, .int iT, .ref 117, .ref 118, .ref 119])) := hO
    have os := bR_ok n3 k5 k (by omega)
    have lo := bR_lost n m f k
    have lo2 : k * m ≤ 13 * 6 := Nat.mul_le_mul (by omega) hm
    refine g_iload_n dX9_build_31 0 rfl ?_
    refine g_aload_n dX9_build_32 1 rfl ?_
    refine g_getf dX9_build_33 kX9 wfX9_7 (Nat.le_of_ble_eq_true rfl) (hO) rfl ?_
    refine g_icmp_geN 153 dX9_build_36 (by decide) (by omega) (by omega) (fun c36 => ?_) (fun z => absurd z (by omega))
    refine g_lsub_ (ls2 := [(0, .ref 98), (1, .int (nI ((bR n m f k).2))), (2, .int (nI k))]) [1, 2, 0] rfl ?_
    have ek : k = n := by omega
    subst ek
    exact K _ _ hR lR vR hS
  | succ j ih =>
    intro k h R hk hO hR lR vR hS
    have hO : rd h 98 = some (.inr (9, [.int (nI n), .int (nI m), .ref 99, .ref 100, .ref 101, .int (nI a), .ref 102, .int (nI de), .ref 103, .ref 104, .ref 105, .int fo, .int as_, .int sm, .int sk, .ref 106, .ref 107, .ref 108, .int z, .ref 109, .ref 110, .ref 111, .int (nI am), .ref 112, .ref 113, .ref 114, .ref 115, .ref 116, .int (nI (bI ib)), .int iN, .int iM, .int iT, .ref 117, .ref 118, .ref 119])) := hO
    have os := bR_ok n3 k5 k (by omega)
    have lo := bR_lost n m f k
    have lo2 : k * m ≤ 13 * 6 := Nat.mul_le_mul (by omega) hm
    refine g_iload_n dX9_build_31 0 rfl ?_
    refine g_aload_n dX9_build_32 1 rfl ?_
    refine g_getf dX9_build_33 kX9 wfX9_7 (Nat.le_of_ble_eq_true rfl) (hO) rfl ?_
    refine g_icmp_geN 153 dX9_build_36 (by decide) (by omega) (by omega) (fun z => absurd z (by omega)) (fun c36 => ?_)
    refine g_aload_n dX9_build_39 1 rfl ?_
    refine g_aload_n dX9_build_40 1 rfl ?_
    refine g_iload_n dX9_build_41 0 rfl ?_
    refine g_iload_n dX9_build_42 0 rfl ?_
    refine g_callVp dX9_build_43 (ev_cAt (k) (k)) oX9_cellAt wiX9_cellAt weX9_cellAt wmX9_194 kX9 (hO) rfl ⟨(Nat.le_of_ble_eq_true rfl), (Nat.le_of_ble_eq_true rfl)⟩ ⟨Nat.zero_le _, Nat.zero_le _⟩ (Nat.le_of_ble_eq_true rfl) rfl ?_
    refine g_aload_n dX9_build_46 1 rfl ?_
    refine g_getf dX9_build_47 kX9 wfX9_7 (Nat.le_of_ble_eq_true rfl) (hO) rfl ?_
    refine g_iload_n dX9_build_50 0 rfl ?_
    refine g_callVq (st1 := []) dX9_build_51 (ev_fills (show MO h _ _ _ _ _ _ _ _ _ _ _ _ _ _ from hO) hR lR (2 * (13 * k + k)) (n) (k) (by omega) (by omega) (by omega)) oX9_fills wiX9_fills weX9_fills wmX9_197 kX9 (hO) rfl ⟨(Nat.le_of_ble_eq_true rfl), (Nat.le_of_ble_eq_true rfl)⟩ ⟨Nat.zero_le _, Nat.zero_le _⟩ (Nat.le_of_ble_eq_true rfl) rfl rfl (fun h1 q1 => ?_)
    obtain ⟨q1a, q1s⟩ := q1
    have f1_98 : rd h1 98 = some (.inr (9, [.int (nI n), .int (nI m), .ref 99, .ref 100, .ref 101, .int (nI a), .ref 102, .int (nI de), .ref 103, .ref 104, .ref 105, .int fo, .int as_, .int sm, .int sk, .ref 106, .ref 107, .ref 108, .int z, .ref 109, .ref 110, .ref 111, .int (nI am), .ref 112, .ref 113, .ref 114, .ref 115, .ref 116, .int (nI (bI ib)), .int iN, .int iM, .int iT, .ref 117, .ref 118, .ref 119])) := by rw [q1s _ (by omega)]; exact hO
    have f1_99 : rd h1 99 = some (.inl (P1)) := by rw [q1s _ (by omega)]; exact (show rd h 99 = some (.inl P1) by rw [hS 99 (by omega)]; exact hP)
    refine g_iconst (v := nI 0) dX9_build_54 (by decide +kernel) ?_
    refine g_istore_n (ls' := [(3, .int (nI 0)), (2, .int (nI k)), (0, .ref 98), (1, .int (nI ((bR n m f k).2)))]) dX9_build_55 (Nat.le_of_ble_eq_true rfl) rfl ?_
    refine g_lsub_ (ls2 := [(3, .int (nI 0)), (0, .ref 98), (1, .int (nI ((bR n m f k).2))), (2, .int (nI k))]) [0, 2, 3, 1] rfl ?_
    have vR2 := rR_fl2 vR lR (a := k) (b := k) (by omega) (by omega) (x := n) (y := k) (by omega) (by omega) (by omega)
    have hs2 : ((∀ a b, a < n → b < n → okC n ((u2 (bR n m f k).1 k k (cod n k)) a b)) ∧ (∀ a b, n ≤ a ∨ n ≤ b → (u2 (bR n m f k).1 k k (cod n k)) a b = 0)) := layR_eq ▸ layR_ok os (by omega) (by omega) (okC_cod (Nat.le_refl _) (by omega) (by omega) n3)
    refine lp_mbuI n3 hm lP (show rd h1 99 = some (.inl P1) from f1_99) vP k5 (i := k) (by omega) (s := (u2 (bR n m f k).1 k k (cod n k), (bR n m f k).2)) hs2 (by show (bR n m f k).2 ≤ 100; omega) (fun R9 h9 y9 l9 r9 s9 => ?_) m 0 _ _ (by omega) f1_98 (q1a) (((fl2_len _ _ _ _).trans lR)) vR2 Smo.rf
    have f9_98 : rd h9 98 = some (.inr (9, [.int (nI n), .int (nI m), .ref 99, .ref 100, .ref 101, .int (nI a), .ref 102, .int (nI de), .ref 103, .ref 104, .ref 105, .int fo, .int as_, .int sm, .int sk, .ref 106, .ref 107, .ref 108, .int z, .ref 109, .ref 110, .ref 111, .int (nI am), .ref 112, .ref 113, .ref 114, .ref 115, .ref 116, .int (nI (bI ib)), .int iN, .int iM, .int iT, .ref 117, .ref 118, .ref 119])) := by rw [s9 _ (by omega)]; exact f1_98
    have f9_99 : rd h9 99 = some (.inl (P1)) := by rw [s9 _ (by omega)]; exact f1_99
    have eB : bR n m f (k + 1) = bP n f k (u2 (bR n m f k).1 k k (cod n k), (bR n m f k).2) m := by show bP n f k (bD n k (bR n m f k)) m = _; rw [bD_eq]
    refine g_iinc (q := 2) (v := nI (k + 1)) (ls' := [(2, .int (nI (k + 1))), (0, .ref 98), (1, .int (nI ((bP n f k (u2 (bR n m f k).1 k k (cod n k), (bR n m f k).2) m).2))), (3, .int (nI m))]) dX9_build_147 rfl (inc1 _) (Nat.le_of_ble_eq_true rfl) rfl ?_
    refine g_goto 31 dX9_build_150 (by decide) ?_
    refine g_lsub_ (ls2 := [(2, .int (nI (k + 1))), (0, .ref 98), (1, .int (nI ((bP n f k (u2 (bR n m f k).1 k k (cod n k), (bR n m f k).2) m).2)))]) [0, 1, 2] rfl ?_
    have z := ih (k + 1) _ _ (by omega) f9_98 y9 l9 (by rw [eB]; exact r9) (hS.tr (fun q hq => by rw [s9 q (by omega), q1s q (by omega)]))
    rw [eB] at z
    exact z

set_option maxRecDepth 100000 in
set_option maxHeartbeats 4000000 in
theorem ev_y_build {h : List aC} {σ : Sg} (H : RM h σ) (ok : okSg σ) : Ev mX9_build 2 0 0 [.ref 98] h (spM h (oBuild σ)) := by
  obtain ⟨fo, as_, sm, sk, z, iN, iM, iT, P, Ro, U, rf, WM, WP, WR, Tr, Ke, Co, Th, Be, Le, AP, AR, AU, Sz, It, IP, IR, IU, mO, mP, mRo, mU, mrf, mWM, mWP, mWR, mTr, mKe, mCo, mTh, mBe, mLe, mAP, mAR, mAU, mSz, mIt, mIP, mIR, mIU, vP, vR, vU, vF, vH, vL, vS, vI, vG⟩ := id H
  have mO : rd h 98 = some (.inr (9, [.int (nI σ.1.1), .int (nI σ.1.2.1), .ref 99, .ref 100, .ref 101, .int (nI σ.1.2.2.2.1), .ref 102, .int (nI ((σ.2.2.2.1).length)), .ref 103, .ref 104, .ref 105, .int fo, .int as_, .int sm, .int sk, .ref 106, .ref 107, .ref 108, .int z, .ref 109, .ref 110, .ref 111, .int (nI σ.2.1.1), .ref 112, .ref 113, .ref 114, .ref 115, .ref 116, .int (nI (bI σ.2.2.2.2.1.isSome)), .int iN, .int iM, .int iT, .ref 117, .ref 118, .ref 119])) := mO
  obtain ⟨mP, lP⟩ := mP
  obtain ⟨mRo, lRo⟩ := mRo
  obtain ⟨mU, lU⟩ := mU
  obtain ⟨mrf, lrf⟩ := mrf
  obtain ⟨mWM, lWM⟩ := mWM
  obtain ⟨mWP, lWP⟩ := mWP
  obtain ⟨mWR, lWR⟩ := mWR
  obtain ⟨mTr, lTr⟩ := mTr
  obtain ⟨mKe, lKe⟩ := mKe
  obtain ⟨mCo, lCo⟩ := mCo
  obtain ⟨mTh, lTh⟩ := mTh
  obtain ⟨mBe, lBe⟩ := mBe
  obtain ⟨mLe, lLe⟩ := mLe
  obtain ⟨mAP, lAP⟩ := mAP
  obtain ⟨mAR, lAR⟩ := mAR
  obtain ⟨mAU, lAU⟩ := mAU
  obtain ⟨mSz, lSz⟩ := mSz
  obtain ⟨mIt, lIt⟩ := mIt
  obtain ⟨mIP, lIP⟩ := mIP
  obtain ⟨mIR, lIR⟩ := mIR
  obtain ⟨mIU, lIU⟩ := mIU
  obtain ⟨okc, ⟨okl, okw⟩, okn, ⟨okh, oke⟩, oki, okr⟩ := id ok
  obtain ⟨k1, k2, k3, k4, k5, k6, k7, k8, k9⟩ := id okc
  refine Ev.of pX9_build (Nat.le_of_ble_eq_true rfl) ?_
  show G mX9_build (rmD 2 0 0) none _ 0 0 0 [(0, .ref 98)] [] h
  refine g_aload_n dX9_build_0 0 rfl ?_
  refine g_getf dX9_build_1 kX9 wfX9_87 (Nat.le_of_ble_eq_true rfl) (mO) rfl ?_
  refine g_aload_n dX9_build_4 0 rfl ?_
  refine g_callVp dX9_build_5 (ev_half H ok) oX9_half wiX9_half weX9_half wmX9_113 kX9 (mO) rfl ⟨(Nat.le_of_ble_eq_true rfl), (Nat.le_of_ble_eq_true rfl)⟩ ⟨Nat.zero_le _, Nat.zero_le _⟩ (Nat.le_of_ble_eq_true rfl) rfl ?_
  refine g_icmp_geN 18 dX9_build_8 (by decide) (by omega) (by omega) (fun c8 => ?_) (fun c8 => ?_)
  · rw [show oBuild σ = (nI (bR σ.1.1 σ.1.2.1 σ.1.2.2.1 σ.1.1).2, ((σ.1.1, σ.1.2.1, σ.1.2.2.1, σ.1.2.2.2.1, σ.1.2.2.2.2.1, (bR σ.1.1 σ.1.2.1 σ.1.2.2.1 σ.1.1).1), σ.2.1, σ.2.2.1, [], σ.2.2.2.2)) from if_pos (by omega)]
    refine g_aload_n dX9_build_18 0 rfl ?_
    refine g_callVq (st1 := []) dX9_build_19 (ev_empties (show MO h _ _ _ _ _ _ _ _ _ _ _ _ _ _ from mO) lRo mRo) oX9_empties wiX9_empties weX9_empties wmX9_77 kX9 (mO) rfl ⟨(Nat.le_of_ble_eq_true rfl), (Nat.le_of_ble_eq_true rfl)⟩ ⟨Nat.zero_le _, Nat.zero_le _⟩ (Nat.le_of_ble_eq_true rfl) rfl rfl (fun h1 q1 => ?_)
    obtain ⟨q1a, q1s⟩ := q1
    have f1_98 : rd h1 98 = some (.inr (9, [.int (nI σ.1.1), .int (nI σ.1.2.1), .ref 99, .ref 100, .ref 101, .int (nI σ.1.2.2.2.1), .ref 102, .int (nI ((σ.2.2.2.1).length)), .ref 103, .ref 104, .ref 105, .int fo, .int as_, .int sm, .int sk, .ref 106, .ref 107, .ref 108, .int z, .ref 109, .ref 110, .ref 111, .int (nI σ.2.1.1), .ref 112, .ref 113, .ref 114, .ref 115, .ref 116, .int (nI (bI σ.2.2.2.2.1.isSome)), .int iN, .int iM, .int iT, .ref 117, .ref 118, .ref 119])) := by rw [q1s _ (by omega)]; exact mO
    have f1_99 : rd h1 99 = some (.inl (P)) := by rw [q1s _ (by omega)]; exact mP
    have f1_101 : rd h1 101 = some (.inl (U)) := by rw [q1s _ (by omega)]; exact mU
    have f1_102 : rd h1 102 = some (.inl (rf)) := by rw [q1s _ (by omega)]; exact mrf
    have f1_103 : rd h1 103 = some (.inl (WM)) := by rw [q1s _ (by omega)]; exact mWM
    have f1_104 : rd h1 104 = some (.inl (WP)) := by rw [q1s _ (by omega)]; exact mWP
    have f1_105 : rd h1 105 = some (.inl (WR)) := by rw [q1s _ (by omega)]; exact mWR
    have f1_106 : rd h1 106 = some (.inl (Tr)) := by rw [q1s _ (by omega)]; exact mTr
    have f1_107 : rd h1 107 = some (.inl (Ke)) := by rw [q1s _ (by omega)]; exact mKe
    have f1_108 : rd h1 108 = some (.inl (Co)) := by rw [q1s _ (by omega)]; exact mCo
    have f1_109 : rd h1 109 = some (.inl (Th)) := by rw [q1s _ (by omega)]; exact mTh
    have f1_110 : rd h1 110 = some (.inl (Be)) := by rw [q1s _ (by omega)]; exact mBe
    have f1_111 : rd h1 111 = some (.inl (Le)) := by rw [q1s _ (by omega)]; exact mLe
    have f1_112 : rd h1 112 = some (.inl (AP)) := by rw [q1s _ (by omega)]; exact mAP
    have f1_113 : rd h1 113 = some (.inl (AR)) := by rw [q1s _ (by omega)]; exact mAR
    have f1_114 : rd h1 114 = some (.inl (AU)) := by rw [q1s _ (by omega)]; exact mAU
    have f1_115 : rd h1 115 = some (.inl (Sz)) := by rw [q1s _ (by omega)]; exact mSz
    have f1_116 : rd h1 116 = some (.inl (It)) := by rw [q1s _ (by omega)]; exact mIt
    have f1_117 : rd h1 117 = some (.inl (IP)) := by rw [q1s _ (by omega)]; exact mIP
    have f1_118 : rd h1 118 = some (.inl (IR)) := by rw [q1s _ (by omega)]; exact mIR
    have f1_119 : rd h1 119 = some (.inl (IU)) := by rw [q1s _ (by omega)]; exact mIU
    refine g_aload_n dX9_build_22 0 rfl ?_
    refine g_iconst (v := nI 0) dX9_build_23 (by decide +kernel) ?_
    refine g_putv dX9_build_24 kX9 wfX9_80 (Nat.le_of_ble_eq_true rfl) rfl (fun _ _ => ⟨rfl, rfl⟩) (f1_98) (Nat.le_of_ble_eq_true rfl) (fs' := [.int (nI σ.1.1), .int (nI σ.1.2.1), .ref 99, .ref 100, .ref 101, .int (nI σ.1.2.2.2.1), .ref 102, .int (nI 0), .ref 103, .ref 104, .ref 105, .int fo, .int as_, .int sm, .int sk, .ref 106, .ref 107, .ref 108, .int z, .ref 109, .ref 110, .ref 111, .int (nI σ.2.1.1), .ref 112, .ref 113, .ref 114, .ref 115, .ref 116, .int (nI (bI σ.2.2.2.2.1.isSome)), .int iN, .int iM, .int iT, .ref 117, .ref 118, .ref 119]) rfl (fun h2 e2 => ?_)
    have f2_98 : rd h2 98 = some (.inr (9, [.int (nI σ.1.1), .int (nI σ.1.2.1), .ref 99, .ref 100, .ref 101, .int (nI σ.1.2.2.2.1), .ref 102, .int (nI 0), .ref 103, .ref 104, .ref 105, .int fo, .int as_, .int sm, .int sk, .ref 106, .ref 107, .ref 108, .int z, .ref 109, .ref 110, .ref 111, .int (nI σ.2.1.1), .ref 112, .ref 113, .ref 114, .ref 115, .ref 116, .int (nI (bI σ.2.2.2.2.1.isSome)), .int iN, .int iM, .int iT, .ref 117, .ref 118, .ref 119])) := by rw [e2]; exact rd_wr_eq (f1_98)
    have s2 : Smo 98 (98 + 1) h1 h2 := by rw [e2]; exact Smo.wr (by omega) (by omega)
    have f2_99 : rd h2 99 = some (.inl (P)) := by rw [s2 _ (by omega)]; exact f1_99
    have f2_101 : rd h2 101 = some (.inl (U)) := by rw [s2 _ (by omega)]; exact f1_101
    have f2_102 : rd h2 102 = some (.inl (rf)) := by rw [s2 _ (by omega)]; exact f1_102
    have f2_103 : rd h2 103 = some (.inl (WM)) := by rw [s2 _ (by omega)]; exact f1_103
    have f2_104 : rd h2 104 = some (.inl (WP)) := by rw [s2 _ (by omega)]; exact f1_104
    have f2_105 : rd h2 105 = some (.inl (WR)) := by rw [s2 _ (by omega)]; exact f1_105
    have f2_106 : rd h2 106 = some (.inl (Tr)) := by rw [s2 _ (by omega)]; exact f1_106
    have f2_107 : rd h2 107 = some (.inl (Ke)) := by rw [s2 _ (by omega)]; exact f1_107
    have f2_108 : rd h2 108 = some (.inl (Co)) := by rw [s2 _ (by omega)]; exact f1_108
    have f2_109 : rd h2 109 = some (.inl (Th)) := by rw [s2 _ (by omega)]; exact f1_109
    have f2_110 : rd h2 110 = some (.inl (Be)) := by rw [s2 _ (by omega)]; exact f1_110
    have f2_111 : rd h2 111 = some (.inl (Le)) := by rw [s2 _ (by omega)]; exact f1_111
    have f2_112 : rd h2 112 = some (.inl (AP)) := by rw [s2 _ (by omega)]; exact f1_112
    have f2_113 : rd h2 113 = some (.inl (AR)) := by rw [s2 _ (by omega)]; exact f1_113
    have f2_114 : rd h2 114 = some (.inl (AU)) := by rw [s2 _ (by omega)]; exact f1_114
    have f2_115 : rd h2 115 = some (.inl (Sz)) := by rw [s2 _ (by omega)]; exact f1_115
    have f2_116 : rd h2 116 = some (.inl (It)) := by rw [s2 _ (by omega)]; exact f1_116
    have f2_117 : rd h2 117 = some (.inl (IP)) := by rw [s2 _ (by omega)]; exact f1_117
    have f2_118 : rd h2 118 = some (.inl (IR)) := by rw [s2 _ (by omega)]; exact f1_118
    have f2_119 : rd h2 119 = some (.inl (IU)) := by rw [s2 _ (by omega)]; exact f1_119
    have f2_100 : rd h2 100 = some (.inl (fillL Ro 338)) := by rw [s2 _ (by omega)]; exact q1a
    refine g_iconst (v := nI 0) dX9_build_27 (by decide +kernel) ?_
    refine g_istore_n (ls' := [(1, .int (nI 0)), (0, .ref 98)]) dX9_build_28 (Nat.le_of_ble_eq_true rfl) rfl ?_
    refine g_iconst (v := nI 0) dX9_build_29 (by decide +kernel) ?_
    refine g_istore_n (ls' := [(2, .int (nI 0)), (1, .int (nI 0)), (0, .ref 98)]) dX9_build_30 (Nat.le_of_ble_eq_true rfl) rfl ?_
    refine g_lsub_ (ls2 := [(2, .int (nI 0)), (0, .ref 98), (1, .int (nI 0))]) [0, 2, 1] rfl ?_
    refine lp_mbuO k2 (by omega) lP (f2_99) vP k5 (fun Rz h3 y3_0 lz rz sK3 => ?_) σ.1.1 0 _ _ (by omega) (show MO h2 _ _ _ _ _ _ _ _ _ _ _ _ _ _ from f2_98) (f2_100) (((fillL_len Ro 338).trans lRo)) (rR_empty lRo) Smo.rf
    have f3_98 : rd h3 98 = some (.inr (9, [.int (nI σ.1.1), .int (nI σ.1.2.1), .ref 99, .ref 100, .ref 101, .int (nI σ.1.2.2.2.1), .ref 102, .int (nI 0), .ref 103, .ref 104, .ref 105, .int fo, .int as_, .int sm, .int sk, .ref 106, .ref 107, .ref 108, .int z, .ref 109, .ref 110, .ref 111, .int (nI σ.2.1.1), .ref 112, .ref 113, .ref 114, .ref 115, .ref 116, .int (nI (bI σ.2.2.2.2.1.isSome)), .int iN, .int iM, .int iT, .ref 117, .ref 118, .ref 119])) := by rw [sK3 _ (by omega)]; exact f2_98
    have f3_99 : rd h3 99 = some (.inl (P)) := by rw [sK3 _ (by omega)]; exact f2_99
    have f3_101 : rd h3 101 = some (.inl (U)) := by rw [sK3 _ (by omega)]; exact f2_101
    have f3_102 : rd h3 102 = some (.inl (rf)) := by rw [sK3 _ (by omega)]; exact f2_102
    have f3_103 : rd h3 103 = some (.inl (WM)) := by rw [sK3 _ (by omega)]; exact f2_103
    have f3_104 : rd h3 104 = some (.inl (WP)) := by rw [sK3 _ (by omega)]; exact f2_104
    have f3_105 : rd h3 105 = some (.inl (WR)) := by rw [sK3 _ (by omega)]; exact f2_105
    have f3_106 : rd h3 106 = some (.inl (Tr)) := by rw [sK3 _ (by omega)]; exact f2_106
    have f3_107 : rd h3 107 = some (.inl (Ke)) := by rw [sK3 _ (by omega)]; exact f2_107
    have f3_108 : rd h3 108 = some (.inl (Co)) := by rw [sK3 _ (by omega)]; exact f2_108
    have f3_109 : rd h3 109 = some (.inl (Th)) := by rw [sK3 _ (by omega)]; exact f2_109
    have f3_110 : rd h3 110 = some (.inl (Be)) := by rw [sK3 _ (by omega)]; exact f2_110
    have f3_111 : rd h3 111 = some (.inl (Le)) := by rw [sK3 _ (by omega)]; exact f2_111
    have f3_112 : rd h3 112 = some (.inl (AP)) := by rw [sK3 _ (by omega)]; exact f2_112
    have f3_113 : rd h3 113 = some (.inl (AR)) := by rw [sK3 _ (by omega)]; exact f2_113
    have f3_114 : rd h3 114 = some (.inl (AU)) := by rw [sK3 _ (by omega)]; exact f2_114
    have f3_115 : rd h3 115 = some (.inl (Sz)) := by rw [sK3 _ (by omega)]; exact f2_115
    have f3_116 : rd h3 116 = some (.inl (It)) := by rw [sK3 _ (by omega)]; exact f2_116
    have f3_117 : rd h3 117 = some (.inl (IP)) := by rw [sK3 _ (by omega)]; exact f2_117
    have f3_118 : rd h3 118 = some (.inl (IR)) := by rw [sK3 _ (by omega)]; exact f2_118
    have f3_119 : rd h3 119 = some (.inl (IU)) := by rw [sK3 _ (by omega)]; exact f2_119
    refine g_iload_n dX9_build_153 1 rfl ?_
    exact g_iret dX9_build_154 rfl ⟨Nat.zero_le _, Nat.zero_le _⟩ (⟨rfl, ⟨_, _, _, _, _, _, _, _, _, _, _, _, _, _, _, _, _, _, _, _, _, _, _, _, _, _, _, _, _, f3_98, ⟨f3_99, lP⟩, ⟨y3_0, lz⟩, ⟨f3_101, lU⟩, ⟨f3_102, lrf⟩, ⟨f3_103, lWM⟩, ⟨f3_104, lWP⟩, ⟨f3_105, lWR⟩, ⟨f3_106, lTr⟩, ⟨f3_107, lKe⟩, ⟨f3_108, lCo⟩, ⟨f3_109, lTh⟩, ⟨f3_110, lBe⟩, ⟨f3_111, lLe⟩, ⟨f3_112, lAP⟩, ⟨f3_113, lAR⟩, ⟨f3_114, lAU⟩, ⟨f3_115, lSz⟩, ⟨f3_116, lIt⟩, ⟨f3_117, lIP⟩, ⟨f3_118, lIR⟩, ⟨f3_119, lIU⟩, vP, rz, vU, vF, (fun j hj => absurd hj (Nat.not_lt_zero j)), vL, vS, vI, vG⟩, (fun q hq => by rw [sK3 q (by omega), s2 q (by omega), q1s q (by omega)])⟩)
  · refine g_aload_n dX9_build_11 0 rfl ?_
    refine g_bipush (v := (-3)) dX9_build_12 (by decide +kernel) ?_
    rw [show oBuild σ = rfS σ (-3) from if_neg (by omega)]
    refine g_callVq (st1 := [.int (-nI 3)]) dX9_build_14 (ev_refused H ok 3 (by unfold noN; omega)) oX9_refused wiX9_refused weX9_refused wmX9_90 kX9 (mO) rfl ⟨(Nat.le_of_ble_eq_true rfl), (Nat.le_of_ble_eq_true rfl)⟩ ⟨Nat.zero_le _, Nat.zero_le _⟩ (Nat.le_of_ble_eq_true rfl) rfl rfl (fun h4 q4 => ?_)
    exact g_iret dX9_build_17 rfl ⟨Nat.zero_le _, Nat.zero_le _⟩ (⟨rfl, q4⟩)
