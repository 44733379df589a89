/-- points seen, and seen again, along a line of codes -/
def sn (g : Nat → Nat) : Nat → Nat × Nat
  | 0 => (0, 0)
  | j + 1 => if g j = 0 then sn g j else ((sn g j).1 ||| (2 ^ (g j / 14) ||| 2 ^ (g j % 14)), (sn g j).2 ||| ((sn g j).1 &&& (2 ^ (g j / 14) ||| 2 ^ (g j % 14))))
theorem sn_z {g : Nat → Nat} {j : Nat} (h : g j = 0) : sn g (j + 1) = sn g j := if_pos h
theorem sn_s {g : Nat → Nat} {j : Nat} (h : 0 < g j) : sn g (j + 1) = ((sn g j).1 ||| (2 ^ (g j / 14) ||| 2 ^ (g j % 14)), (sn g j).2 ||| ((sn g j).1 &&& (2 ^ (g j / 14) ||| 2 ^ (g j % 14)))) := if_neg (Nat.ne_of_gt h)
theorem sn_lt {g : Nat → Nat} : ∀ j, (∀ i, i < j → g i < 196) → (sn g j).1 < 2 ^ 14 ∧ (sn g j).2 < 2 ^ 14
  | 0, _ => ⟨Nat.two_pow_pos 14, Nat.two_pow_pos 14⟩
  | j + 1, h => by
    obtain ⟨a, b⟩ := sn_lt j (fun i hi => h i (by omega))
    have hj := h j (by omega)
    by_cases hz : g j = 0
    · rw [sn_z hz]; exact ⟨a, b⟩
    · rw [sn_s (by omega)]
      have c : 2 ^ (g j / 14) ||| 2 ^ (g j % 14) < 2 ^ 14 := or_lt (pw_lt (by omega)) (pw_lt (by omega))
      exact ⟨or_lt a c, or_lt b (Nat.lt_of_le_of_lt Nat.and_le_left a)⟩
theorem and_not {s a : Nat} (hs : s < 2 ^ 14) : nI s &&& (nI a ^^^ (-1)) = nI (s &&& (16383 ^^^ a)) := by
  apply Int32.toBitVec_inj.mp
  show BitVec.ofNat 32 s &&& (BitVec.ofNat 32 a ^^^ (-1 : Int32).toBitVec) = BitVec.ofNat 32 (s &&& (16383 ^^^ a))
  apply BitVec.eq_of_getLsbD_eq
  intro i hi
  rw [show (-1 : Int32).toBitVec = BitVec.allOnes 32 by decide]
  rw [BitVec.getLsbD_and, BitVec.getLsbD_xor, BitVec.getLsbD_allOnes, BitVec.getLsbD_ofNat, BitVec.getLsbD_ofNat, BitVec.getLsbD_ofNat, Nat.testBit_and, Nat.testBit_xor]
  simp only [hi, decide_true, Bool.true_and]
  by_cases h : i < 14
  · have e : Nat.testBit 16383 i = true := by
      rw [show 16383 = 2 ^ 14 - 1 by decide, Nat.testBit_two_pow_sub_one, decide_eq_true h]
    rw [e]
    cases s.testBit i <;> cases a.testBit i <;> rfl
  · have e : s.testBit i = false := Nat.testBit_lt_two_pow (Nat.lt_of_lt_of_le hs (Nat.pow_le_pow_right (by decide) (by omega)))
    rw [e]
    rfl
def lnF (n : Nat) (g : Nat → Nat) : Nat := n + 1 - popN ((sn g n).1 &&& (16383 ^^^ (sn g n).2)) 14
theorem lnF_le (n : Nat) (g : Nat → Nat) : lnF n g ≤ n + 1 := Nat.sub_le _ _
theorem isub_big {a b : Nat} (_ : b ≤ a) : nI a - nI b = nI (a - b) := pk_sub (by assumption)
/-- points that come once are among those that there are -/
theorem popN_low {x : Nat} : ∀ k q, q ≤ k → x < 2 ^ q → popN x k ≤ q
  | 0, q, _, _ => Nat.zero_le q
  | k + 1, q, hq, hx => by
    show popN x k + x / 2 ^ k % 2 ≤ q
    by_cases h : q ≤ k
    · have h1 := popN_low k q h hx
      have h2 : x / 2 ^ k = 0 := Nat.div_eq_of_lt (Nat.lt_of_lt_of_le hx (Nat.pow_le_pow_right (by decide) h))
      rw [h2]
      omega
    · have h1 := popN_le x k
      omega
theorem sn_lt2 {g : Nat → Nat} {q : Nat} : ∀ j, (∀ i, i < j → g i = 0 ∨ (g i / 14 < q ∧ g i % 14 < q)) → (sn g j).1 < 2 ^ q
  | 0, _ => Nat.two_pow_pos q
  | j + 1, h => by
    have a := sn_lt2 j (fun i hi => h i (by omega))
    rcases h j (by omega) with hz | ⟨h1, h2⟩
    · rw [sn_z hz]; exact a
    · by_cases hz : g j = 0
      · rw [sn_z hz]; exact a
      · rw [sn_s (by omega)]
        exact or_lt a (or_lt (pw_lt h1) (pw_lt h2))
/-- codes of two points, none above n -/
def okC (n v : Nat) : Prop := v = 0 ∨ (v / 14 < v % 14 ∧ v % 14 ≤ n)
theorem okC.lt {n v : Nat} (h : okC n v) (hn : n ≤ 13) : v < 196 := by
  rcases h with h | ⟨h1, h2⟩ <;> omega

set_option maxRecDepth 100000 in
set_option maxHeartbeats 4000000 in
theorem lp_lineR {h : List aC} {r n : Nat} {C : List Nat} {T : List Int32} (hR : RA h r n C T) (hn : n ≤ 13) (hO : ∀ i, i < 169 → C.getD i 0 < 196) (hP : ∀ i, i < n * n → okC n (C.getD i 0)) (l : Nat) (hl : l < n) : ∀ j k , k + j = n → G mX4_faultsOfLine (rmD 3 0 0) none (pv (.int (nI (lnF n (fun j => C.getD (l * n + j) 0)))) h) 0 0 8 [(5, .int (nI k)), (4, .int (nI ((sn (fun j => C.getD (l * n + j) 0) k).2))), (3, .int (nI ((sn (fun j => C.getD (l * n + j) 0) k).1))), (0, .ref r), (1, .int (nI 1)), (2, .int (nI l))] [] h := by
  obtain ⟨-, -, -, lC, lT⟩ := id hR
  intro j
  induction j with
  | zero =>
    intro k  hk 
    have ek : k = n := by omega
    have z1 := sn_lt (g := (fun j => C.getD (l * n + j) 0)) k (fun i hi => show C.getD (l * n + i) 0 < 196 from hO (l * n + i) (pl_lt hn hl (show i < n by omega)))
    have z2 : (sn (fun j => C.getD (l * n + j) 0) k).1 < 2 ^ (k + 1) := sn_lt2 k (fun i hi => by rcases hP (l * n + i) (pl_lt2 hl (show i < n by omega)) with q | q; exact Or.inl q; exact Or.inr ⟨show C.getD (l * n + i) 0 / 14 < k + 1 by omega, show C.getD (l * n + i) 0 % 14 < k + 1 by omega⟩)
    have z3 := popN_low (x := (sn (fun j => C.getD (l * n + j) 0) k).1 &&& (16383 ^^^ (sn (fun j => C.getD (l * n + j) 0) k).2)) 14 (k + 1) (by omega) (Nat.lt_of_le_of_lt Nat.and_le_left z2)
    have z4 := Nat.lt_of_le_of_lt (Nat.and_le_left (n := (sn (fun j => C.getD (l * n + j) 0) k).1) (m := 16383 ^^^ (sn (fun j => C.getD (l * n + j) 0) k).2)) z1.1
    refine g_iload dX4_faultsOfLine_8 0 rfl ?_
    refine g_aload_n dX4_faultsOfLine_10 3 rfl ?_
    refine g_getf dX4_faultsOfLine_11 kX4 wfX4_18 (Nat.le_of_ble_eq_true rfl) (hR.1) rfl ?_
    refine g_icmp_geN 87 dX4_faultsOfLine_14 (by decide) (by omega) (by omega) (fun c14 => ?_) (fun z => absurd z (by omega))
    refine g_aload_n dX4_faultsOfLine_87 3 rfl ?_
    refine g_getf dX4_faultsOfLine_88 kX4 wfX4_18 (Nat.le_of_ble_eq_true rfl) (hR.1) rfl ?_
    refine g_iconst (v := nI 1) dX4_faultsOfLine_91 (by decide +kernel) ?_
    refine g_iaddN dX4_faultsOfLine_92 ?_
    refine g_iload_n dX4_faultsOfLine_93 2 rfl ?_
    refine g_iload dX4_faultsOfLine_94 1 rfl ?_
    refine g_iconst (v := (-1)) dX4_faultsOfLine_96 (by decide +kernel) ?_
    refine g_ixor dX4_faultsOfLine_97 ?_
    refine g_iand dX4_faultsOfLine_98 ?_
    refine g_top (and_not z1.1) ?_
    refine g_callSp dX4_faultsOfLine_99 (ev_bitCount ((sn (fun j => C.getD (l * n + j) 0) k).1 &&& (16383 ^^^ (sn (fun j => C.getD (l * n + j) 0) k).2)) (by omega) _) oJ6_bitCount_0f7a4 wsJ6_bitCount_0f7a4 wmX4_86 rfl ⟨(Nat.le_of_ble_eq_true rfl), (Nat.le_of_ble_eq_true rfl)⟩ ⟨Nat.zero_le _, Nat.zero_le _⟩ (Nat.le_of_ble_eq_true rfl) rfl ?_
    refine g_isubN dX4_faultsOfLine_102 (by omega) ?_
    exact g_iret dX4_faultsOfLine_103 rfl ⟨Nat.zero_le _, Nat.zero_le _⟩ (⟨by rw [ek]; rfl, rfl⟩)
  | succ j ih =>
    intro k  hk 
    have z0 : l * n + k < 169 := pl_lt hn hl (by omega)
    have z5 := hO _ z0
    refine g_iload dX4_faultsOfLine_8 0 rfl ?_
    refine g_aload_n dX4_faultsOfLine_10 3 rfl ?_
    refine g_getf dX4_faultsOfLine_11 kX4 wfX4_18 (Nat.le_of_ble_eq_true rfl) (hR.1) rfl ?_
    refine g_icmp_geN 87 dX4_faultsOfLine_14 (by decide) (by omega) (by omega) (fun z => absurd z (by omega)) (fun c14 => ?_)
    refine g_aload_n dX4_faultsOfLine_17 3 rfl ?_
    refine g_getf dX4_faultsOfLine_18 kX4 wfX4_9 (Nat.le_of_ble_eq_true rfl) (hR.1) rfl ?_
    refine g_iload_n dX4_faultsOfLine_21 4 rfl ?_
    refine g_if_eqN 35 dX4_faultsOfLine_22 (by decide) (by omega) (fun z => absurd z (by omega)) (fun c22 => ?_)
    refine g_aload_n dX4_faultsOfLine_25 3 rfl ?_
    refine g_iload_n dX4_faultsOfLine_26 5 rfl ?_
    refine g_iload dX4_faultsOfLine_27 0 rfl ?_
    refine g_callVp dX4_faultsOfLine_29 (ev_placeOf hR (l) (k)) oX4_placeOf wiX4_placeOf weX4_placeOf wmX4_37 kX4 (hR.1) rfl ⟨(Nat.le_of_ble_eq_true rfl), (Nat.le_of_ble_eq_true rfl)⟩ ⟨Nat.zero_le _, Nat.zero_le _⟩ (Nat.le_of_ble_eq_true rfl) rfl ?_
    refine g_goto 42 dX4_faultsOfLine_32 (by decide) ?_
    refine g_ialN dX4_faultsOfLine_42 (hR.2.1) (by omega) (by omega) ?_
    refine g_istore (ls' := [(6, .int (nI ((C).getD (l * n + k) 0))), (5, .int (nI k)), (4, .int (nI ((sn (fun j => C.getD (l * n + j) 0) k).2))), (3, .int (nI ((sn (fun j => C.getD (l * n + j) 0) k).1))), (0, .ref r), (1, .int (nI 1)), (2, .int (nI l))]) dX4_faultsOfLine_43 (Nat.le_of_ble_eq_true rfl) rfl ?_
    refine g_iload dX4_faultsOfLine_45 0 rfl ?_
    refine g_if_eqN 81 dX4_faultsOfLine_47 (by decide) (by omega) (fun c47 => ?_) (fun c47 => ?_)
    · refine g_iinc (q := 1) (v := nI (k + 1)) (ls' := [(5, .int (nI (k + 1))), (6, .int (nI ((C).getD (l * n + k) 0))), (4, .int (nI ((sn (fun j => C.getD (l * n + j) 0) k).2))), (3, .int (nI ((sn (fun j => C.getD (l * n + j) 0) k).1))), (0, .ref r), (1, .int (nI 1)), (2, .int (nI l))]) dX4_faultsOfLine_81 rfl (inc1 _) (Nat.le_of_ble_eq_true rfl) rfl ?_
      refine g_goto 8 dX4_faultsOfLine_84 (by decide) ?_
      refine g_lsub_ (ls2 := [(5, .int (nI (k + 1))), (4, .int (nI ((sn (fun j => C.getD (l * n + j) 0) k).2))), (3, .int (nI ((sn (fun j => C.getD (l * n + j) 0) k).1))), (0, .ref r), (1, .int (nI 1)), (2, .int (nI l))]) [0, 2, 3, 4, 5, 6] rfl ?_
      have y1 := sn_z (g := (fun j => C.getD (l * n + j) 0)) (j := k) c47
      have y2 := ih (k + 1) (by omega)
      rw [y1] at y2
      exact y2
    · refine g_iconst (v := nI 1) dX4_faultsOfLine_50 (by decide +kernel) ?_
      refine g_iload dX4_faultsOfLine_51 0 rfl ?_
      refine g_callSp dX4_faultsOfLine_53 (ev_lesserOf ((C).getD (l * n + k) 0) (by omega) _) oX4_lesserOf wsX4_lesserOf wmX4_79 rfl ⟨(Nat.le_of_ble_eq_true rfl), (Nat.le_of_ble_eq_true rfl)⟩ ⟨Nat.zero_le _, Nat.zero_le _⟩ (Nat.le_of_ble_eq_true rfl) rfl ?_
      refine g_ishl1 dX4_faultsOfLine_56 (by first | omega | exact Nat.lt_of_lt_of_le (Nat.mod_lt _ (by omega)) (by omega)) ?_
      refine g_iconst (v := nI 1) dX4_faultsOfLine_57 (by decide +kernel) ?_
      refine g_iload dX4_faultsOfLine_58 0 rfl ?_
      refine g_callSp dX4_faultsOfLine_60 (ev_greaterOf ((C).getD (l * n + k) 0) (by omega) _) oX4_greaterOf wsX4_greaterOf wmX4_83 rfl ⟨(Nat.le_of_ble_eq_true rfl), (Nat.le_of_ble_eq_true rfl)⟩ ⟨Nat.zero_le _, Nat.zero_le _⟩ (Nat.le_of_ble_eq_true rfl) rfl ?_
      refine g_ishl1 dX4_faultsOfLine_63 (by first | omega | exact Nat.lt_of_lt_of_le (Nat.mod_lt _ (by omega)) (by omega)) ?_
      refine g_iorN dX4_faultsOfLine_64 ?_
      refine g_istore (ls' := [(7, .int (nI ((2 ^ (((C).getD (l * n + k) 0) / 14)) ||| (2 ^ (((C).getD (l * n + k) 0) % 14))))), (6, .int (nI ((C).getD (l * n + k) 0))), (5, .int (nI k)), (4, .int (nI ((sn (fun j => C.getD (l * n + j) 0) k).2))), (3, .int (nI ((sn (fun j => C.getD (l * n + j) 0) k).1))), (0, .ref r), (1, .int (nI 1)), (2, .int (nI l))]) dX4_faultsOfLine_65 (Nat.le_of_ble_eq_true rfl) rfl ?_
      refine g_iload dX4_faultsOfLine_67 3 rfl ?_
      refine g_iload_n dX4_faultsOfLine_69 4 rfl ?_
      refine g_iload dX4_faultsOfLine_70 0 rfl ?_
      refine g_iandN dX4_faultsOfLine_72 ?_
      refine g_iorN dX4_faultsOfLine_73 ?_
      refine g_istore (ls' := [(4, .int (nI (((sn (fun j => C.getD (l * n + j) 0) k).2) ||| (((sn (fun j => C.getD (l * n + j) 0) k).1) &&& ((2 ^ (((C).getD (l * n + k) 0) / 14)) ||| (2 ^ (((C).getD (l * n + k) 0) % 14))))))), (7, .int (nI ((2 ^ (((C).getD (l * n + k) 0) / 14)) ||| (2 ^ (((C).getD (l * n + k) 0) % 14))))), (6, .int (nI ((C).getD (l * n + k) 0))), (5, .int (nI k)), (3, .int (nI ((sn (fun j => C.getD (l * n + j) 0) k).1))), (0, .ref r), (1, .int (nI 1)), (2, .int (nI l))]) dX4_faultsOfLine_74 (Nat.le_of_ble_eq_true rfl) rfl ?_
      refine g_iload_n dX4_faultsOfLine_76 4 rfl ?_
      refine g_iload dX4_faultsOfLine_77 1 rfl ?_
      refine g_iorN dX4_faultsOfLine_79 ?_
      refine g_istore_n (ls' := [(3, .int (nI (((sn (fun j => C.getD (l * n + j) 0) k).1) ||| ((2 ^ (((C).getD (l * n + k) 0) / 14)) ||| (2 ^ (((C).getD (l * n + k) 0) % 14)))))), (4, .int (nI (((sn (fun j => C.getD (l * n + j) 0) k).2) ||| (((sn (fun j => C.getD (l * n + j) 0) k).1) &&& ((2 ^ (((C).getD (l * n + k) 0) / 14)) ||| (2 ^ (((C).getD (l * n + k) 0) % 14))))))), (7, .int (nI ((2 ^ (((C).getD (l * n + k) 0) / 14)) ||| (2 ^ (((C).getD (l * n + k) 0) % 14))))), (6, .int (nI ((C).getD (l * n + k) 0))), (5, .int (nI k)), (0, .ref r), (1, .int (nI 1)), (2, .int (nI l))]) dX4_faultsOfLine_80 (Nat.le_of_ble_eq_true rfl) rfl ?_
      refine g_iinc (q := 4) (v := nI (k + 1)) (ls' := [(5, .int (nI (k + 1))), (3, .int (nI (((sn (fun j => C.getD (l * n + j) 0) k).1) ||| ((2 ^ (((C).getD (l * n + k) 0) / 14)) ||| (2 ^ (((C).getD (l * n + k) 0) % 14)))))), (4, .int (nI (((sn (fun j => C.getD (l * n + j) 0) k).2) ||| (((sn (fun j => C.getD (l * n + j) 0) k).1) &&& ((2 ^ (((C).getD (l * n + k) 0) / 14)) ||| (2 ^ (((C).getD (l * n + k) 0) % 14))))))), (7, .int (nI ((2 ^ (((C).getD (l * n + k) 0) / 14)) ||| (2 ^ (((C).getD (l * n + k) 0) % 14))))), (6, .int (nI ((C).getD (l * n + k) 0))), (0, .ref r), (1, .int (nI 1)), (2, .int (nI l))]) dX4_faultsOfLine_81 rfl (inc1 _) (Nat.le_of_ble_eq_true rfl) rfl ?_
      refine g_goto 8 dX4_faultsOfLine_84 (by decide) ?_
      refine g_lsub_ (ls2 := [(5, .int (nI (k + 1))), (4, .int (nI (((sn (fun j => C.getD (l * n + j) 0) k).2) ||| (((sn (fun j => C.getD (l * n + j) 0) k).1) &&& ((2 ^ (((C).getD (l * n + k) 0) / 14)) ||| (2 ^ (((C).getD (l * n + k) 0) % 14))))))), (3, .int (nI (((sn (fun j => C.getD (l * n + j) 0) k).1) ||| ((2 ^ (((C).getD (l * n + k) 0) / 14)) ||| (2 ^ (((C).getD (l * n + k) 0) % 14)))))), (0, .ref r), (1, .int (nI 1)), (2, .int (nI l))]) [0, 2, 1, 5, 6, 7] rfl ?_
      have y1 := sn_s (g := (fun j => C.getD (l * n + j) 0)) (j := k) c47
      have y2 := ih (k + 1) (by omega)
      rw [y1] at y2
      exact y2

set_option maxRecDepth 100000 in
set_option maxHeartbeats 4000000 in
theorem ev_lineR {h : List aC} {r n : Nat} {C : List Nat} {T : List Int32} (hR : RA h r n C T) (hn : n ≤ 13) (hO : ∀ i, i < 169 → C.getD i 0 < 196) (hP : ∀ i, i < n * n → okC n (C.getD i 0)) (l : Nat) (hl : l < n) : Ev mX4_faultsOfLine 3 0 0 [.ref r, .int (nI 1), .int (nI l)] h (pv (.int (nI (lnF n (fun j => C.getD (l * n + j) 0)))) h) := by
  obtain ⟨-, -, -, lC, lT⟩ := id hR
  refine Ev.of pX4_faultsOfLine (Nat.le_of_ble_eq_true rfl) ?_
  show G mX4_faultsOfLine (rmD 3 0 0) none _ 0 0 0 [(0, .ref r), (1, .int (nI 1)), (2, .int (nI l))] [] h
  refine g_iconst (v := nI 0) dX4_faultsOfLine_0 (by decide +kernel) ?_
  refine g_istore_n (ls' := [(3, .int (nI 0)), (0, .ref r), (1, .int (nI 1)), (2, .int (nI l))]) dX4_faultsOfLine_1 (Nat.le_of_ble_eq_true rfl) rfl ?_
  refine g_iconst (v := nI 0) dX4_faultsOfLine_2 (by decide +kernel) ?_
  refine g_istore (ls' := [(4, .int (nI 0)), (3, .int (nI 0)), (0, .ref r), (1, .int (nI 1)), (2, .int (nI l))]) dX4_faultsOfLine_3 (Nat.le_of_ble_eq_true rfl) rfl ?_
  refine g_iconst (v := nI 0) dX4_faultsOfLine_5 (by decide +kernel) ?_
  refine g_istore (ls' := [(5, .int (nI 0)), (4, .int (nI 0)), (3, .int (nI 0)), (0, .ref r), (1, .int (nI 1)), (2, .int (nI l))]) dX4_faultsOfLine_6 (Nat.le_of_ble_eq_true rfl) rfl ?_
  exact lp_lineR hR hn hO hP l hl n 0 (by omega)

set_option maxRecDepth 100000 in
set_option maxHeartbeats 4000000 in
theorem lp_lineC {h : List aC} {r n : Nat} {C : List Nat} {T : List Int32} (hR : RA h r n C T) (hn : n ≤ 13) (hO : ∀ i, i < 169 → C.getD i 0 < 196) (hP : ∀ i, i < n * n → okC n (C.getD i 0)) (l : Nat) (hl : l < n) : ∀ j k , k + j = n → G mX4_faultsOfLine (rmD 3 0 0) none (pv (.int (nI (lnF n (fun j => C.getD (j * n + l) 0)))) h) 0 0 8 [(5, .int (nI k)), (4, .int (nI ((sn (fun j => C.getD (j * n + l) 0) k).2))), (3, .int (nI ((sn (fun j => C.getD (j * n + l) 0) k).1))), (0, .ref r), (1, .int (nI 0)), (2, .int (nI l))] [] h := by
  obtain ⟨-, -, -, lC, lT⟩ := id hR
  intro j
  induction j with
  | zero =>
    intro k  hk 
    have ek : k = n := by omega
    have z1 := sn_lt (g := (fun j => C.getD (j * n + l) 0)) k (fun i hi => show C.getD (i * n + l) 0 < 196 from hO (i * n + l) (pl_lt hn (show i < n by omega) hl))
    have z2 : (sn (fun j => C.getD (j * n + l) 0) k).1 < 2 ^ (k + 1) := sn_lt2 k (fun i hi => by rcases hP (i * n + l) (pl_lt2 (show i < n by omega) hl) with q | q; exact Or.inl q; exact Or.inr ⟨show C.getD (i * n + l) 0 / 14 < k + 1 by omega, show C.getD (i * n + l) 0 % 14 < k + 1 by omega⟩)
    have z3 := popN_low (x := (sn (fun j => C.getD (j * n + l) 0) k).1 &&& (16383 ^^^ (sn (fun j => C.getD (j * n + l) 0) k).2)) 14 (k + 1) (by omega) (Nat.lt_of_le_of_lt Nat.and_le_left z2)
    have z4 := Nat.lt_of_le_of_lt (Nat.and_le_left (n := (sn (fun j => C.getD (j * n + l) 0) k).1) (m := 16383 ^^^ (sn (fun j => C.getD (j * n + l) 0) k).2)) z1.1
    refine g_iload dX4_faultsOfLine_8 0 rfl ?_
    refine g_aload_n dX4_faultsOfLine_10 3 rfl ?_
    refine g_getf dX4_faultsOfLine_11 kX4 wfX4_18 (Nat.le_of_ble_eq_true rfl) (hR.1) rfl ?_
    refine g_icmp_geN 87 dX4_faultsOfLine_14 (by decide) (by omega) (by omega) (fun c14 => ?_) (fun z => absurd z (by omega))
    refine g_aload_n dX4_faultsOfLine_87 3 rfl ?_
    refine g_getf dX4_faultsOfLine_88 kX4 wfX4_18 (Nat.le_of_ble_eq_true rfl) (hR.1) rfl ?_
    refine g_iconst (v := nI 1) dX4_faultsOfLine_91 (by decide +kernel) ?_
    refine g_iaddN dX4_faultsOfLine_92 ?_
    refine g_iload_n dX4_faultsOfLine_93 2 rfl ?_
    refine g_iload dX4_faultsOfLine_94 1 rfl ?_
    refine g_iconst (v := (-1)) dX4_faultsOfLine_96 (by decide +kernel) ?_
    refine g_ixor dX4_faultsOfLine_97 ?_
    refine g_iand dX4_faultsOfLine_98 ?_
    refine g_top (and_not z1.1) ?_
    refine g_callSp dX4_faultsOfLine_99 (ev_bitCount ((sn (fun j => C.getD (j * n + l) 0) k).1 &&& (16383 ^^^ (sn (fun j => C.getD (j * n + l) 0) k).2)) (by omega) _) oJ6_bitCount_0f7a4 wsJ6_bitCount_0f7a4 wmX4_86 rfl ⟨(Nat.le_of_ble_eq_true rfl), (Nat.le_of_ble_eq_true rfl)⟩ ⟨Nat.zero_le _, Nat.zero_le _⟩ (Nat.le_of_ble_eq_true rfl) rfl ?_
    refine g_isubN dX4_faultsOfLine_102 (by omega) ?_
    exact g_iret dX4_faultsOfLine_103 rfl ⟨Nat.zero_le _, Nat.zero_le _⟩ (⟨by rw [ek]; rfl, rfl⟩)
  | succ j ih =>
    intro k  hk 
    have z0 : k * n + l < 169 := pl_lt hn (by omega) hl
    have z5 := hO _ z0
    refine g_iload dX4_faultsOfLine_8 0 rfl ?_
    refine g_aload_n dX4_faultsOfLine_10 3 rfl ?_
    refine g_getf dX4_faultsOfLine_11 kX4 wfX4_18 (Nat.le_of_ble_eq_true rfl) (hR.1) rfl ?_
    refine g_icmp_geN 87 dX4_faultsOfLine_14 (by decide) (by omega) (by omega) (fun z => absurd z (by omega)) (fun c14 => ?_)
    refine g_aload_n dX4_faultsOfLine_17 3 rfl ?_
    refine g_getf dX4_faultsOfLine_18 kX4 wfX4_9 (Nat.le_of_ble_eq_true rfl) (hR.1) rfl ?_
    refine g_iload_n dX4_faultsOfLine_21 4 rfl ?_
    refine g_if_eqN 35 dX4_faultsOfLine_22 (by decide) (by omega) (fun c22 => ?_) (fun z => absurd z (by omega))
    refine g_aload_n dX4_faultsOfLine_35 3 rfl ?_
    refine g_iload dX4_faultsOfLine_36 0 rfl ?_
    refine g_iload_n dX4_faultsOfLine_38 5 rfl ?_
    refine g_callVp dX4_faultsOfLine_39 (ev_placeOf hR (k) (l)) oX4_placeOf wiX4_placeOf weX4_placeOf wmX4_37 kX4 (hR.1) rfl ⟨(Nat.le_of_ble_eq_true rfl), (Nat.le_of_ble_eq_true rfl)⟩ ⟨Nat.zero_le _, Nat.zero_le _⟩ (Nat.le_of_ble_eq_true rfl) rfl ?_
    refine g_ialN dX4_faultsOfLine_42 (hR.2.1) (by omega) (by omega) ?_
    refine g_istore (ls' := [(6, .int (nI ((C).getD (k * n + l) 0))), (5, .int (nI k)), (4, .int (nI ((sn (fun j => C.getD (j * n + l) 0) k).2))), (3, .int (nI ((sn (fun j => C.getD (j * n + l) 0) k).1))), (0, .ref r), (1, .int (nI 0)), (2, .int (nI l))]) dX4_faultsOfLine_43 (Nat.le_of_ble_eq_true rfl) rfl ?_
    refine g_iload dX4_faultsOfLine_45 0 rfl ?_
    refine g_if_eqN 81 dX4_faultsOfLine_47 (by decide) (by omega) (fun c47 => ?_) (fun c47 => ?_)
    · refine g_iinc (q := 1) (v := nI (k + 1)) (ls' := [(5, .int (nI (k + 1))), (6, .int (nI ((C).getD (k * n + l) 0))), (4, .int (nI ((sn (fun j => C.getD (j * n + l) 0) k).2))), (3, .int (nI ((sn (fun j => C.getD (j * n + l) 0) k).1))), (0, .ref r), (1, .int (nI 0)), (2, .int (nI l))]) dX4_faultsOfLine_81 rfl (inc1 _) (Nat.le_of_ble_eq_true rfl) rfl ?_
      refine g_goto 8 dX4_faultsOfLine_84 (by decide) ?_
      refine g_lsub_ (ls2 := [(5, .int (nI (k + 1))), (4, .int (nI ((sn (fun j => C.getD (j * n + l) 0) k).2))), (3, .int (nI ((sn (fun j => C.getD (j * n + l) 0) k).1))), (0, .ref r), (1, .int (nI 0)), (2, .int (nI l))]) [0, 2, 3, 4, 5, 6] rfl ?_
      have y1 := sn_z (g := (fun j => C.getD (j * n + l) 0)) (j := k) c47
      have y2 := ih (k + 1) (by omega)
      rw [y1] at y2
      exact y2
    · refine g_iconst (v := nI 1) dX4_faultsOfLine_50 (by decide +kernel) ?_
      refine g_iload dX4_faultsOfLine_51 0 rfl ?_
      refine g_callSp dX4_faultsOfLine_53 (ev_lesserOf ((C).getD (k * n + l) 0) (by omega) _) oX4_lesserOf wsX4_lesserOf wmX4_79 rfl ⟨(Nat.le_of_ble_eq_true rfl), (Nat.le_of_ble_eq_true rfl)⟩ ⟨Nat.zero_le _, Nat.zero_le _⟩ (Nat.le_of_ble_eq_true rfl) rfl ?_
      refine g_ishl1 dX4_faultsOfLine_56 (by first | omega | exact Nat.lt_of_lt_of_le (Nat.mod_lt _ (by omega)) (by omega)) ?_
      refine g_iconst (v := nI 1) dX4_faultsOfLine_57 (by decide +kernel) ?_
      refine g_iload dX4_faultsOfLine_58 0 rfl ?_
      refine g_callSp dX4_faultsOfLine_60 (ev_greaterOf ((C).getD (k * n + l) 0) (by omega) _) oX4_greaterOf wsX4_greaterOf wmX4_83 rfl ⟨(Nat.le_of_ble_eq_true rfl), (Nat.le_of_ble_eq_true rfl)⟩ ⟨Nat.zero_le _, Nat.zero_le _⟩ (Nat.le_of_ble_eq_true rfl) rfl ?_
      refine g_ishl1 dX4_faultsOfLine_63 (by first | omega | exact Nat.lt_of_lt_of_le (Nat.mod_lt _ (by omega)) (by omega)) ?_
      refine g_iorN dX4_faultsOfLine_64 ?_
      refine g_istore (ls' := [(7, .int (nI ((2 ^ (((C).getD (k * n + l) 0) / 14)) ||| (2 ^ (((C).getD (k * n + l) 0) % 14))))), (6, .int (nI ((C).getD (k * n + l) 0))), (5, .int (nI k)), (4, .int (nI ((sn (fun j => C.getD (j * n + l) 0) k).2))), (3, .int (nI ((sn (fun j => C.getD (j * n + l) 0) k).1))), (0, .ref r), (1, .int (nI 0)), (2, .int (nI l))]) dX4_faultsOfLine_65 (Nat.le_of_ble_eq_true rfl) rfl ?_
      refine g_iload dX4_faultsOfLine_67 3 rfl ?_
      refine g_iload_n dX4_faultsOfLine_69 4 rfl ?_
      refine g_iload dX4_faultsOfLine_70 0 rfl ?_
      refine g_iandN dX4_faultsOfLine_72 ?_
      refine g_iorN dX4_faultsOfLine_73 ?_
      refine g_istore (ls' := [(4, .int (nI (((sn (fun j => C.getD (j * n + l) 0) k).2) ||| (((sn (fun j => C.getD (j * n + l) 0) k).1) &&& ((2 ^ (((C).getD (k * n + l) 0) / 14)) ||| (2 ^ (((C).getD (k * n + l) 0) % 14))))))), (7, .int (nI ((2 ^ (((C).getD (k * n + l) 0) / 14)) ||| (2 ^ (((C).getD (k * n + l) 0) % 14))))), (6, .int (nI ((C).getD (k * n + l) 0))), (5, .int (nI k)), (3, .int (nI ((sn (fun j => C.getD (j * n + l) 0) k).1))), (0, .ref r), (1, .int (nI 0)), (2, .int (nI l))]) dX4_faultsOfLine_74 (Nat.le_of_ble_eq_true rfl) rfl ?_
      refine g_iload_n dX4_faultsOfLine_76 4 rfl ?_
      refine g_iload dX4_faultsOfLine_77 1 rfl ?_
      refine g_iorN dX4_faultsOfLine_79 ?_
      refine g_istore_n (ls' := [(3, .int (nI (((sn (fun j => C.getD (j * n + l) 0) k).1) ||| ((2 ^ (((C).getD (k * n + l) 0) / 14)) ||| (2 ^ (((C).getD (k * n + l) 0) % 14)))))), (4, .int (nI (((sn (fun j => C.getD (j * n + l) 0) k).2) ||| (((sn (fun j => C.getD (j * n + l) 0) k).1) &&& ((2 ^ (((C).getD (k * n + l) 0) / 14)) ||| (2 ^ (((C).getD (k * n + l) 0) % 14))))))), (7, .int (nI ((2 ^ (((C).getD (k * n + l) 0) / 14)) ||| (2 ^ (((C).getD (k * n + l) 0) % 14))))), (6, .int (nI ((C).getD (k * n + l) 0))), (5, .int (nI k)), (0, .ref r), (1, .int (nI 0)), (2, .int (nI l))]) dX4_faultsOfLine_80 (Nat.le_of_ble_eq_true rfl) rfl ?_
      refine g_iinc (q := 4) (v := nI (k + 1)) (ls' := [(5, .int (nI (k + 1))), (3, .int (nI (((sn (fun j => C.getD (j * n + l) 0) k).1) ||| ((2 ^ (((C).getD (k * n + l) 0) / 14)) ||| (2 ^ (((C).getD (k * n + l) 0) % 14)))))), (4, .int (nI (((sn (fun j => C.getD (j * n + l) 0) k).2) ||| (((sn (fun j => C.getD (j * n + l) 0) k).1) &&& ((2 ^ (((C).getD (k * n + l) 0) / 14)) ||| (2 ^ (((C).getD (k * n + l) 0) % 14))))))), (7, .int (nI ((2 ^ (((C).getD (k * n + l) 0) / 14)) ||| (2 ^ (((C).getD (k * n + l) 0) % 14))))), (6, .int (nI ((C).getD (k * n + l) 0))), (0, .ref r), (1, .int (nI 0)), (2, .int (nI l))]) dX4_faultsOfLine_81 rfl (inc1 _) (Nat.le_of_ble_eq_true rfl) rfl ?_
      refine g_goto 8 dX4_faultsOfLine_84 (by decide) ?_
      refine g_lsub_ (ls2 := [(5, .int (nI (k + 1))), (4, .int (nI (((sn (fun j => C.getD (j * n + l) 0) k).2) ||| (((sn (fun j => C.getD (j * n + l) 0) k).1) &&& ((2 ^ (((C).getD (k * n + l) 0) / 14)) ||| (2 ^ (((C).getD (k * n + l) 0) % 14))))))), (3, .int (nI (((sn (fun j => C.getD (j * n + l) 0) k).1) ||| ((2 ^ (((C).getD (k * n + l) 0) / 14)) ||| (2 ^ (((C).getD (k * n + l) 0) % 14)))))), (0, .ref r), (1, .int (nI 0)), (2, .int (nI l))]) [0, 2, 1, 5, 6, 7] rfl ?_
      have y1 := sn_s (g := (fun j => C.getD (j * n + l) 0)) (j := k) c47
      have y2 := ih (k + 1) (by omega)
      rw [y1] at y2
      exact y2

set_option maxRecDepth 100000 in
set_option maxHeartbeats 4000000 in
theorem ev_lineC {h : List aC} {r n : Nat} {C : List Nat} {T : List Int32} (hR : RA h r n C T) (hn : n ≤ 13) (hO : ∀ i, i < 169 → C.getD i 0 < 196) (hP : ∀ i, i < n * n → okC n (C.getD i 0)) (l : Nat) (hl : l < n) : Ev mX4_faultsOfLine 3 0 0 [.ref r, .int (nI 0), .int (nI l)] h (pv (.int (nI (lnF n (fun j => C.getD (j * n + l) 0)))) h) := by
  obtain ⟨-, -, -, lC, lT⟩ := id hR
  refine Ev.of pX4_faultsOfLine (Nat.le_of_ble_eq_true rfl) ?_
  show G mX4_faultsOfLine (rmD 3 0 0) none _ 0 0 0 [(0, .ref r), (1, .int (nI 0)), (2, .int (nI l))] [] h
  refine g_iconst (v := nI 0) dX4_faultsOfLine_0 (by decide +kernel) ?_
  refine g_istore_n (ls' := [(3, .int (nI 0)), (0, .ref r), (1, .int (nI 0)), (2, .int (nI l))]) dX4_faultsOfLine_1 (Nat.le_of_ble_eq_true rfl) rfl ?_
  refine g_iconst (v := nI 0) dX4_faultsOfLine_2 (by decide +kernel) ?_
  refine g_istore (ls' := [(4, .int (nI 0)), (3, .int (nI 0)), (0, .ref r), (1, .int (nI 0)), (2, .int (nI l))]) dX4_faultsOfLine_3 (Nat.le_of_ble_eq_true rfl) rfl ?_
  refine g_iconst (v := nI 0) dX4_faultsOfLine_5 (by decide +kernel) ?_
  refine g_istore (ls' := [(5, .int (nI 0)), (4, .int (nI 0)), (3, .int (nI 0)), (0, .ref r), (1, .int (nI 0)), (2, .int (nI l))]) dX4_faultsOfLine_6 (Nat.le_of_ble_eq_true rfl) rfl ?_
  exact lp_lineC hR hn hO hP l hl n 0 (by omega)
