def okL (σ : Sg) (l : Int32) : Bool := decide ((0 ≤ l ∧ l < 3) ∧ 0 ≤ σ.2.2.1.2.getD l.toNatClampNeg 0)
def rfLs (σ : Sg) (l : Int32) : Int32 × Sg := if 0 ≤ l ∧ l < 3 then (-11, σ) else rfS σ (-1)
def okQ (σ : Sg) (l i : Int32) (q : Nat) : Bool := decide (q < 1 ∨ (¬ i < 0 ∧ ¬ σ.2.2.1.2.getD l.toNatClampNeg 0 - nI q < i))
def lnG (σ : Sg) (LR : Nat → List Int32) (LN : List Int32) : Sg := (σ.1, σ.2.1, (LR, LN), σ.2.2.2)
theorem okL_in {σ : Sg} {l : Int32} (h : okL σ l = true) : ∃ y, y < 3 ∧ l = nI y ∧ 0 ≤ σ.2.2.1.2.getD y 0 := by
  obtain ⟨⟨h1, h2⟩, h3⟩ := of_decide_eq_true h
  obtain ⟨y, hy, rfl⟩ := nn_of h1
  rw [nI_clamp hy] at h3
  exact ⟨y, (nI_ltI hy (by decide)).mp h2, rfl, h3⟩
theorem okL_q {σ : Sg} {y : Nat} (ok : okSg σ) (hy : y < 3) (h : 0 ≤ σ.2.2.1.2.getD y 0) : ∃ q, q ≤ 40 ∧ σ.2.2.1.2.getD y 0 = nI q := by
  rcases ok.2.2.1 y hy with e | e
  · rw [e] at h; exact absurd h (by decide)
  · exact e

theorem okQ_y {σ : Sg} {y : Nat} {i : Int32} {q : Nat} (hy : y < 2 ^ 31) (h : q < 1 ∨ (¬ i < 0 ∧ ¬ σ.2.2.1.2.getD y 0 - nI q < i)) : okQ σ (nI y) i q = true := decide_eq_true (by rw [nI_clamp hy]; exact h)
theorem okQ_n {σ : Sg} {y : Nat} {i : Int32} {q : Nat} (hy : y < 2 ^ 31) (hq : 1 ≤ q) (h : i < 0 ∨ σ.2.2.1.2.getD y 0 - nI q < i) : ¬ okQ σ (nI y) i q = true := fun z => by
  have z := of_decide_eq_true z
  rw [nI_clamp hy] at z
  rcases z with z | ⟨z1, z2⟩
  · omega
  · rcases h with h | h
    · exact z1 h
    · exact z2 h

set_option maxRecDepth 100000 in
set_option maxHeartbeats 4000000 in
theorem ev_refL0 {h : List aC} {σ : Sg} (H : RC h σ) (ok : okSg σ) (y : Nat) (hy : y < 3) (h0 : 0 ≤ σ.2.2.1.2.getD y 0) : Ev mX8_refusalOfList 2 0 0 [.ref 0, .int (nI y)] h (pv (.int (nI 0)) h) := by
  obtain ⟨hO0, hS, ⟨ci, hI, hI2⟩, ⟨cd, hDr⟩, hLt, hL, hH, ⟨⟨sw_, sc_, sgs, sgk, hX⟩, ⟨xn, xm, xF, xS, xA, hXP⟩⟩, ⟨tn, tm, tF, tS, tA, hTh⟩, ⟨pn, pm, pF, pS, pA, hSp⟩, hRf⟩ := id H
  obtain ⟨hO1, F, S, A, K, U, C, T, hP, hf, hT, ht, hR, hC, hl⟩ := id hS
  have hO1 : rd h 1 = some (.inr (6, [.ref 2, .ref 6, .ref 9])) := hO1
  have hP : PA h 2 _ _ F S A := hP
  have hT : TA h 6 _ K U := hT
  have hR : RA h 9 _ C T := hR
  obtain ⟨-, -, -, -, lF, lS, lA⟩ := id hP
  obtain ⟨-, -, -, lK, lU⟩ := id hT
  obtain ⟨-, -, -, lC, lT⟩ := id hR
  obtain ⟨okc, ⟨okl, okw⟩, okn, ⟨okh, oke⟩, oki, okr⟩ := id ok
  obtain ⟨k1, k2, k3, k4, k5, k6, k7, k8, k9⟩ := id okc
  have hbn : bnd σ.1.1 σ.1.2.1 F S A := okc.bnd hf
  have lLN := hL.2.2.2.2
  refine Ev.of pX8_refusalOfList (Nat.le_of_ble_eq_true rfl) ?_
  show G mX8_refusalOfList (rmD 2 0 0) none _ 0 0 0 [(0, .ref 0), (1, .int (nI y))] [] h
  obtain ⟨nx1, o1⟩ := HR.o hH
  refine g_aload_n dX8_refusalOfList_0 0 rfl ?_
  refine g_getf dX8_refusalOfList_1 kX8 wfX8_36 (Nat.le_of_ble_eq_true rfl) (hO0) rfl ?_
  refine g_iload_n dX8_refusalOfList_4 1 rfl ?_
  refine g_callVp dX8_refusalOfList_5 (ev_lhas (nI y) _) oX2_has wiX2_has weX2_has wmX8_283 kX2 (hL.1) rfl ⟨(Nat.le_of_ble_eq_true rfl), (Nat.le_of_ble_eq_true rfl)⟩ ⟨Nat.zero_le _, Nat.zero_le _⟩ (Nat.le_of_ble_eq_true rfl) rfl ?_
  refine g_if_neB 17 dX8_refusalOfList_8 (by decide) (fun c8 => ?_) (fun z => absurd z (by rw [decide_eq_true (show 0 ≤ nI y ∧ nI y < 3 from ⟨nI_pos' (by omega), (nI_ltI (by omega) (by decide)).mpr hy⟩)]; decide))
  refine g_aload_n dX8_refusalOfList_17 0 rfl ?_
  refine g_getf dX8_refusalOfList_18 kX8 wfX8_36 (Nat.le_of_ble_eq_true rfl) (hO0) rfl ?_
  refine g_getf dX8_refusalOfList_21 kX2 wfX8_307 (Nat.le_of_ble_eq_true rfl) (hL.1) rfl ?_
  refine g_iload_n dX8_refusalOfList_24 1 rfl ?_
  refine g_ialI dX8_refusalOfList_25 (hL.2.2.2.1) (by omega) (by omega) ?_
  refine g_if_ge 34 dX8_refusalOfList_26 (by decide) (fun c26 => ?_) (fun z => absurd z (not_not_intro h0))
  refine g_iconst (v := nI 0) dX8_refusalOfList_34 (by decide +kernel) ?_
  exact g_iret dX8_refusalOfList_35 rfl ⟨Nat.zero_le _, Nat.zero_le _⟩ (⟨rfl, rfl⟩)

set_option maxRecDepth 100000 in
set_option maxHeartbeats 4000000 in
theorem ev_refL1 {h : List aC} {σ : Sg} (H : RC h σ) (ok : okSg σ) (l : Int32) (hz : okL σ l = false) : Ev mX8_refusalOfList 2 0 0 [.ref 0, .int l] h (sp h (rfLs σ l)) := by
  obtain ⟨hO0, hS, ⟨ci, hI, hI2⟩, ⟨cd, hDr⟩, hLt, hL, hH, ⟨⟨sw_, sc_, sgs, sgk, hX⟩, ⟨xn, xm, xF, xS, xA, hXP⟩⟩, ⟨tn, tm, tF, tS, tA, hTh⟩, ⟨pn, pm, pF, pS, pA, hSp⟩, hRf⟩ := id H
  obtain ⟨hO1, F, S, A, K, U, C, T, hP, hf, hT, ht, hR, hC, hl⟩ := id hS
  have hO1 : rd h 1 = some (.inr (6, [.ref 2, .ref 6, .ref 9])) := hO1
  have hP : PA h 2 _ _ F S A := hP
  have hT : TA h 6 _ K U := hT
  have hR : RA h 9 _ C T := hR
  obtain ⟨-, -, -, -, lF, lS, lA⟩ := id hP
  obtain ⟨-, -, -, lK, lU⟩ := id hT
  obtain ⟨-, -, -, lC, lT⟩ := id hR
  obtain ⟨okc, ⟨okl, okw⟩, okn, ⟨okh, oke⟩, oki, okr⟩ := id ok
  obtain ⟨k1, k2, k3, k4, k5, k6, k7, k8, k9⟩ := id okc
  have hbn : bnd σ.1.1 σ.1.2.1 F S A := okc.bnd hf
  have lLN := hL.2.2.2.2
  refine Ev.of pX8_refusalOfList (Nat.le_of_ble_eq_true rfl) ?_
  show G mX8_refusalOfList (rmD 2 0 0) none _ 0 0 0 [(0, .ref 0), (1, .int l)] [] h
  obtain ⟨nx1, o1⟩ := HR.o hH
  refine g_aload_n dX8_refusalOfList_0 0 rfl ?_
  refine g_getf dX8_refusalOfList_1 kX8 wfX8_36 (Nat.le_of_ble_eq_true rfl) (hO0) rfl ?_
  refine g_iload_n dX8_refusalOfList_4 1 rfl ?_
  refine g_callVp dX8_refusalOfList_5 (ev_lhas l _) oX2_has wiX2_has weX2_has wmX8_283 kX2 (hL.1) rfl ⟨(Nat.le_of_ble_eq_true rfl), (Nat.le_of_ble_eq_true rfl)⟩ ⟨Nat.zero_le _, Nat.zero_le _⟩ (Nat.le_of_ble_eq_true rfl) rfl ?_
  refine g_if_neB 17 dX8_refusalOfList_8 (by decide) (fun c8 => ?_) (fun c8 => ?_)
  · have c8 := of_decide_eq_true c8
    rw [show rfLs σ l = (-11, σ) from if_pos c8]
    obtain ⟨y, hy, rfl⟩ := nn_of c8.1
    have b1 : y < 3 := (nI_ltI hy (by decide)).mp c8.2
    refine g_aload_n dX8_refusalOfList_17 0 rfl ?_
    refine g_getf dX8_refusalOfList_18 kX8 wfX8_36 (Nat.le_of_ble_eq_true rfl) (hO0) rfl ?_
    refine g_getf dX8_refusalOfList_21 kX2 wfX8_307 (Nat.le_of_ble_eq_true rfl) (hL.1) rfl ?_
    refine g_iload_n dX8_refusalOfList_24 1 rfl ?_
    refine g_ialI dX8_refusalOfList_25 (hL.2.2.2.1) (by omega) (by omega) ?_
    refine g_if_ge 34 dX8_refusalOfList_26 (by decide) (fun z => absurd z (fun z => of_decide_eq_false hz ⟨c8, by rw [cl_ hy]; exact z⟩)) (fun c26 => ?_)
    refine g_bipush (v := (-11)) dX8_refusalOfList_29 (by decide +kernel) ?_
    refine g_goto 35 dX8_refusalOfList_31 (by decide) ?_
    exact g_iret dX8_refusalOfList_35 rfl ⟨Nat.zero_le _, Nat.zero_le _⟩ (⟨rfl, ⟨hO0, ⟨hO1, _, _, _, _, _, _, _, hP, hf, hT, ht, hR, hC, hl⟩, ⟨_, hI, hI2⟩, ⟨_, hDr⟩, hLt, hL, hH, ⟨⟨_, _, _, _, hX⟩, ⟨_, _, _, _, _, hXP⟩⟩, ⟨_, _, _, _, _, hTh⟩, ⟨_, _, _, _, _, hSp⟩, hRf⟩, Smo.rf⟩)
  · refine g_aload_n dX8_refusalOfList_11 0 rfl ?_
    refine g_iconst (v := (-1)) dX8_refusalOfList_12 (by decide +kernel) ?_
    rw [show rfLs σ l = rfS σ (-1) from if_neg (of_decide_eq_false c8)]
    refine g_callVq (st1 := [.int (-nI 1)]) dX8_refusalOfList_13 (ev_refuse H ok 1 (by unfold noN; omega)) oX8_refuse wiX8_refuse weX8_refuse wmX8_68 kX8 (hO0) rfl ⟨(Nat.le_of_ble_eq_true rfl), (Nat.le_of_ble_eq_true rfl)⟩ ⟨Nat.zero_le _, Nat.zero_le _⟩ (Nat.le_of_ble_eq_true rfl) rfl rfl (fun h2 q2 => ?_)
    exact g_iret dX8_refusalOfList_16 rfl ⟨Nat.zero_le _, Nat.zero_le _⟩ (⟨rfl, q2⟩)

set_option maxRecDepth 100000 in
set_option maxHeartbeats 4000000 in
theorem ev_refP0 {h : List aC} {σ : Sg} (H : RC h σ) (ok : okSg σ) (y : Nat) (hy : y < 3) (h0 : 0 ≤ σ.2.2.1.2.getD y 0) (i : Int32) (q : Nat) (hq : q < 2 ^ 31) : Ev mX8_refusalOfPlace 3 0 0 [.ref 0, .int (nI y), .int i, .int (nI q)] h (pv (.int (if okQ σ (nI y) i q = true then nI 0 else -13)) h) := by
  obtain ⟨hO0, hS, ⟨ci, hI, hI2⟩, ⟨cd, hDr⟩, hLt, hL, hH, ⟨⟨sw_, sc_, sgs, sgk, hX⟩, ⟨xn, xm, xF, xS, xA, hXP⟩⟩, ⟨tn, tm, tF, tS, tA, hTh⟩, ⟨pn, pm, pF, pS, pA, hSp⟩, hRf⟩ := id H
  obtain ⟨hO1, F, S, A, K, U, C, T, hP, hf, hT, ht, hR, hC, hl⟩ := id hS
  have hO1 : rd h 1 = some (.inr (6, [.ref 2, .ref 6, .ref 9])) := hO1
  have hP : PA h 2 _ _ F S A := hP
  have hT : TA h 6 _ K U := hT
  have hR : RA h 9 _ C T := hR
  obtain ⟨-, -, -, -, lF, lS, lA⟩ := id hP
  obtain ⟨-, -, -, lK, lU⟩ := id hT
  obtain ⟨-, -, -, lC, lT⟩ := id hR
  obtain ⟨okc, ⟨okl, okw⟩, okn, ⟨okh, oke⟩, oki, okr⟩ := id ok
  obtain ⟨k1, k2, k3, k4, k5, k6, k7, k8, k9⟩ := id okc
  have hbn : bnd σ.1.1 σ.1.2.1 F S A := okc.bnd hf
  have lLN := hL.2.2.2.2
  refine Ev.of pX8_refusalOfPlace (Nat.le_of_ble_eq_true rfl) ?_
  show G mX8_refusalOfPlace (rmD 3 0 0) none _ 0 0 0 [(0, .ref 0), (1, .int (nI y)), (2, .int i), (3, .int (nI q))] [] h
  obtain ⟨nx1, o1⟩ := HR.o hH
  refine g_aload_n dX8_refusalOfPlace_0 0 rfl ?_
  refine g_iload_n dX8_refusalOfPlace_1 1 rfl ?_
  refine g_callVp dX8_refusalOfPlace_2 (ev_refL0 H ok y hy h0) oX8_refusalOfList wiX8_refusalOfList weX8_refusalOfList wmX8_300 kX8 (hO0) rfl ⟨(Nat.le_of_ble_eq_true rfl), (Nat.le_of_ble_eq_true rfl)⟩ ⟨Nat.zero_le _, Nat.zero_le _⟩ (Nat.le_of_ble_eq_true rfl) rfl ?_
  refine g_istore (ls' := [(4, .int (nI 0)), (0, .ref 0), (1, .int (nI y)), (2, .int i), (3, .int (nI q))]) dX8_refusalOfPlace_5 (Nat.le_of_ble_eq_true rfl) rfl ?_
  refine g_iload dX8_refusalOfPlace_7 0 rfl ?_
  refine g_if_eqN 15 dX8_refusalOfPlace_9 (by decide) (by omega) (fun c9 => ?_) (fun z => absurd z (by omega))
  refine g_iload_n dX8_refusalOfPlace_15 4 rfl ?_
  refine g_iconst (v := nI 1) dX8_refusalOfPlace_16 (by decide +kernel) ?_
  refine g_icmp_ltN 39 dX8_refusalOfPlace_17 (by decide) (by omega) (by omega) (fun c17 => ?_) (fun c17 => ?_)
  · refine g_iconst (v := nI 1) dX8_refusalOfPlace_39 (by decide +kernel) ?_
    refine g_goto 44 dX8_refusalOfPlace_40 (by decide) ?_
    refine g_istore (ls' := [(5, .int (nI 1)), (4, .int (nI 0)), (0, .ref 0), (1, .int (nI y)), (2, .int i), (3, .int (nI q))]) dX8_refusalOfPlace_44 (Nat.le_of_ble_eq_true rfl) rfl ?_
    refine g_iload dX8_refusalOfPlace_46 0 rfl ?_
    refine g_if_eqN 55 dX8_refusalOfPlace_48 (by decide) (by omega) (fun z => absurd z (by omega)) (fun c48 => ?_)
    refine g_iconst (v := nI 0) dX8_refusalOfPlace_51 (by decide +kernel) ?_
    refine g_goto 57 dX8_refusalOfPlace_52 (by decide) ?_
    exact g_iret dX8_refusalOfPlace_57 rfl ⟨Nat.zero_le _, Nat.zero_le _⟩ (⟨by rw [if_pos (okQ_y (by omega) (by first | exact Or.inl c17 | exact Or.inr ⟨c21, c36⟩))], rfl⟩)
  · refine g_iload_n dX8_refusalOfPlace_20 3 rfl ?_
    refine g_if_lt 43 dX8_refusalOfPlace_21 (by decide) (fun c21 => ?_) (fun c21 => ?_)
    · refine g_iconst (v := nI 0) dX8_refusalOfPlace_43 (by decide +kernel) ?_
      refine g_istore (ls' := [(5, .int (nI 0)), (4, .int (nI 0)), (0, .ref 0), (1, .int (nI y)), (2, .int i), (3, .int (nI q))]) dX8_refusalOfPlace_44 (Nat.le_of_ble_eq_true rfl) rfl ?_
      refine g_iload dX8_refusalOfPlace_46 0 rfl ?_
      refine g_if_eqN 55 dX8_refusalOfPlace_48 (by decide) (by omega) (fun c48 => ?_) (fun z => absurd z (by omega))
      refine g_bipush (v := (-13)) dX8_refusalOfPlace_55 (by decide +kernel) ?_
      exact g_iret dX8_refusalOfPlace_57 rfl ⟨Nat.zero_le _, Nat.zero_le _⟩ (⟨by rw [if_neg (okQ_n (by omega) (by omega) (by first | exact Or.inl c21 | exact Or.inr c36))], rfl⟩)
    · refine g_iload_n dX8_refusalOfPlace_24 3 rfl ?_
      refine g_aload_n dX8_refusalOfPlace_25 1 rfl ?_
      refine g_getf dX8_refusalOfPlace_26 kX8 wfX8_36 (Nat.le_of_ble_eq_true rfl) (hO0) rfl ?_
      refine g_getf dX8_refusalOfPlace_29 kX2 wfX8_307 (Nat.le_of_ble_eq_true rfl) (hL.1) rfl ?_
      refine g_iload_n dX8_refusalOfPlace_32 2 rfl ?_
      refine g_ialI dX8_refusalOfPlace_33 (hL.2.2.2.1) (by omega) (by omega) ?_
      refine g_iload_n dX8_refusalOfPlace_34 4 rfl ?_
      refine g_isub dX8_refusalOfPlace_35 ?_
      refine g_icmp_gt 43 dX8_refusalOfPlace_36 (by decide) (fun c36 => ?_) (fun c36 => ?_)
      · refine g_iconst (v := nI 0) dX8_refusalOfPlace_43 (by decide +kernel) ?_
        refine g_istore (ls' := [(5, .int (nI 0)), (4, .int (nI 0)), (0, .ref 0), (1, .int (nI y)), (2, .int i), (3, .int (nI q))]) dX8_refusalOfPlace_44 (Nat.le_of_ble_eq_true rfl) rfl ?_
        refine g_iload dX8_refusalOfPlace_46 0 rfl ?_
        refine g_if_eqN 55 dX8_refusalOfPlace_48 (by decide) (by omega) (fun c48 => ?_) (fun z => absurd z (by omega))
        refine g_bipush (v := (-13)) dX8_refusalOfPlace_55 (by decide +kernel) ?_
        exact g_iret dX8_refusalOfPlace_57 rfl ⟨Nat.zero_le _, Nat.zero_le _⟩ (⟨by rw [if_neg (okQ_n (by omega) (by omega) (by first | exact Or.inl c21 | exact Or.inr c36))], rfl⟩)
      · refine g_iconst (v := nI 1) dX8_refusalOfPlace_39 (by decide +kernel) ?_
        refine g_goto 44 dX8_refusalOfPlace_40 (by decide) ?_
        refine g_istore (ls' := [(5, .int (nI 1)), (4, .int (nI 0)), (0, .ref 0), (1, .int (nI y)), (2, .int i), (3, .int (nI q))]) dX8_refusalOfPlace_44 (Nat.le_of_ble_eq_true rfl) rfl ?_
        refine g_iload dX8_refusalOfPlace_46 0 rfl ?_
        refine g_if_eqN 55 dX8_refusalOfPlace_48 (by decide) (by omega) (fun z => absurd z (by omega)) (fun c48 => ?_)
        refine g_iconst (v := nI 0) dX8_refusalOfPlace_51 (by decide +kernel) ?_
        refine g_goto 57 dX8_refusalOfPlace_52 (by decide) ?_
        exact g_iret dX8_refusalOfPlace_57 rfl ⟨Nat.zero_le _, Nat.zero_le _⟩ (⟨by rw [if_pos (okQ_y (by omega) (by first | exact Or.inl c17 | exact Or.inr ⟨c21, c36⟩))], rfl⟩)

theorem rfLs_no (σ : Sg) (l : Int32) : ¬ (rfLs σ l).1 = 0 := by unfold rfLs; split; exact (by show ¬ (-11 : Int32) = 0; decide); exact (by show ¬ (-1 : Int32) = 0; decide)

set_option maxRecDepth 100000 in
set_option maxHeartbeats 4000000 in
theorem ev_refP1 {h : List aC} {σ : Sg} (H : RC h σ) (ok : okSg σ) (l i : Int32) (q : Nat) (hz : okL σ l = false) : Ev mX8_refusalOfPlace 3 0 0 [.ref 0, .int l, .int i, .int (nI q)] h (sp h (rfLs σ l)) := by
  obtain ⟨hO0, hS, ⟨ci, hI, hI2⟩, ⟨cd, hDr⟩, hLt, hL, hH, ⟨⟨sw_, sc_, sgs, sgk, hX⟩, ⟨xn, xm, xF, xS, xA, hXP⟩⟩, ⟨tn, tm, tF, tS, tA, hTh⟩, ⟨pn, pm, pF, pS, pA, hSp⟩, hRf⟩ := id H
  obtain ⟨hO1, F, S, A, K, U, C, T, hP, hf, hT, ht, hR, hC, hl⟩ := id hS
  have hO1 : rd h 1 = some (.inr (6, [.ref 2, .ref 6, .ref 9])) := hO1
  have hP : PA h 2 _ _ F S A := hP
  have hT : TA h 6 _ K U := hT
  have hR : RA h 9 _ C T := hR
  obtain ⟨-, -, -, -, lF, lS, lA⟩ := id hP
  obtain ⟨-, -, -, lK, lU⟩ := id hT
  obtain ⟨-, -, -, lC, lT⟩ := id hR
  obtain ⟨okc, ⟨okl, okw⟩, okn, ⟨okh, oke⟩, oki, okr⟩ := id ok
  obtain ⟨k1, k2, k3, k4, k5, k6, k7, k8, k9⟩ := id okc
  have hbn : bnd σ.1.1 σ.1.2.1 F S A := okc.bnd hf
  refine Ev.of pX8_refusalOfPlace (Nat.le_of_ble_eq_true rfl) ?_
  show G mX8_refusalOfPlace (rmD 3 0 0) none _ 0 0 0 [(0, .ref 0), (1, .int l), (2, .int i), (3, .int (nI q))] [] h
  obtain ⟨nx1, o1⟩ := HR.o hH
  refine g_aload_n dX8_refusalOfPlace_0 0 rfl ?_
  refine g_iload_n dX8_refusalOfPlace_1 1 rfl ?_
  refine g_callVq (st1 := [.int ((rfLs σ l).1)]) dX8_refusalOfPlace_2 (ev_refL1 H ok l hz) oX8_refusalOfList wiX8_refusalOfList weX8_refusalOfList wmX8_300 kX8 (hO0) rfl ⟨(Nat.le_of_ble_eq_true rfl), (Nat.le_of_ble_eq_true rfl)⟩ ⟨Nat.zero_le _, Nat.zero_le _⟩ (Nat.le_of_ble_eq_true rfl) rfl rfl (fun h2 q2 => ?_)
  refine g_istore (ls' := [(4, .int ((rfLs σ l).1)), (0, .ref 0), (1, .int l), (2, .int i), (3, .int (nI q))]) dX8_refusalOfPlace_5 (Nat.le_of_ble_eq_true rfl) rfl ?_
  refine g_iload dX8_refusalOfPlace_7 0 rfl ?_
  refine g_if_eq 15 dX8_refusalOfPlace_9 (by decide) (fun z => absurd z (rfLs_no σ l)) (fun c9 => ?_)
  refine g_iload dX8_refusalOfPlace_12 0 rfl ?_
  exact g_iret dX8_refusalOfPlace_14 rfl ⟨Nat.zero_le _, Nat.zero_le _⟩ (⟨rfl, q2⟩)

def oList (σ : Sg) (l q : Int32) : Int32 × Sg := if 0 ≤ l ∧ l < 3 then (if q ≤ nI 40 then (if 0 ≤ q then (nI 1, lnG σ (upI σ.2.2.1.1 l.toNatClampNeg (List.replicate 40 0)) (σ.2.2.1.2.set l.toNatClampNeg q)) else (-14, σ)) else rfS σ (-6)) else rfS σ (-1)
def oPut (σ : Sg) (l i v : Int32) : Int32 × Sg := if okL σ l = true then (if okQ σ l i 1 = true then (nI 1, lnG σ (upI σ.2.2.1.1 l.toNatClampNeg ((σ.2.2.1.1 l.toNatClampNeg).set i.toNatClampNeg v)) σ.2.2.1.2) else (-13, σ)) else rfLs σ l
def oLook (σ : Sg) (l i : Int32) : Int64 × Sg := if okL σ l = true then (if okQ σ l i 1 = true then ((σ.2.2.1.1 l.toNatClampNeg).getD i.toNatClampNeg 0).toInt64 else 4000000000000000000 - Int32.toInt64 (-13), σ) else (4000000000000000000 - (rfLs σ l).1.toInt64, (rfLs σ l).2)
def nAf (f : Nat → Pr) (j : Nat) : Nat := if j % 2 = 0 then (f (j / 2)).1 else (f (j / 2)).2.1
def layF (L : List Int32) (i : Nat) (f : Nat → Pr) : Nat → List Int32
  | 0 => L
  | j + 1 => (layF L i f j).set (i + j) (nI (nAf f j))
theorem layF_len (L : List Int32) (i : Nat) (f : Nat → Pr) : ∀ j, (layF L i f j).length = L.length
  | 0 => rfl
  | j + 1 => (List.length_set).trans (layF_len L i f j)
def oLays (σ : Sg) (l i : Int32) : Int32 × Sg := if okL σ l = true then (if okQ σ l i (2 * σ.1.2.1) = true then (nI (2 * σ.1.2.1), lnG σ (upI σ.2.2.1.1 l.toNatClampNeg (layF (σ.2.2.1.1 l.toNatClampNeg) i.toNatClampNeg σ.1.2.2.1 (2 * σ.1.2.1))) σ.2.2.1.2) else (-13, σ)) else rfLs σ l
def oJudge (σ : Sg) (l : Int32) : Int32 × Sg := if okL σ l = true then (oI (sc1 (otB σ.1.2.1 (qF σ.1.2.2.1) (qS σ.1.2.2.1) (σ.2.2.1.1 l.toNatClampNeg)) 0 (σ.2.2.1.2.getD l.toNatClampNeg 0).toNatClampNeg 0), σ) else rfLs σ l
theorem repl_of {R : List Int32} (l : R.length = 40) (h : ∀ i, i < 40 → R.getD i 0 = 0) : R = List.replicate 40 0 := by
  refine List.ext_getElem (by rw [l, List.length_replicate]) fun i h1 h2 => ?_
  have z := h i (by omega)
  rw [List.getD_eq_getElem?_getD, List.getElem?_eq_getElem h1] at z
  rw [List.getElem_replicate]
  exact z
theorem upI_self (f : Nat → List Int32) (y : Nat) : upI f y (f y) = f := by
  funext j
  unfold upI
  by_cases q : j = y
  · rw [if_pos q, q]
  · rw [if_neg q]
theorem upI_upI (f : Nat → List Int32) (y : Nat) (v v2 : List Int32) : upI (upI f y v) y v2 = upI f y v2 := by
  funext j
  by_cases q : j = y
  · subst q; rw [upI_eq, upI_eq]
  · rw [upI_ne q, upI_ne q, upI_ne q]

set_option maxRecDepth 100000 in
set_option maxHeartbeats 4000000 in
theorem ev_x_list {h : List aC} {σ : Sg} (H : RC h σ) (ok : okSg σ) (l q : Int32) : Ev mX8_list 3 0 0 [.ref 0, .int l, .int q] h (sp h (oList σ l q)) := by
  obtain ⟨hO0, hS, ⟨ci, hI, hI2⟩, ⟨cd, hDr⟩, hLt, hL, hH, ⟨⟨sw_, sc_, sgs, sgk, hX⟩, ⟨xn, xm, xF, xS, xA, hXP⟩⟩, ⟨tn, tm, tF, tS, tA, hTh⟩, ⟨pn, pm, pF, pS, pA, hSp⟩, hRf⟩ := id H
  obtain ⟨hO1, F, S, A, K, U, C, T, hP, hf, hT, ht, hR, hC, hl⟩ := id hS
  have hO1 : rd h 1 = some (.inr (6, [.ref 2, .ref 6, .ref 9])) := hO1
  have hP : PA h 2 _ _ F S A := hP
  have hT : TA h 6 _ K U := hT
  have hR : RA h 9 _ C T := hR
  obtain ⟨-, -, -, -, lF, lS, lA⟩ := id hP
  obtain ⟨-, -, -, lK, lU⟩ := id hT
  obtain ⟨-, -, -, lC, lT⟩ := id hR
  obtain ⟨okc, ⟨okl, okw⟩, okn, ⟨okh, oke⟩, oki, okr⟩ := id ok
  obtain ⟨k1, k2, k3, k4, k5, k6, k7, k8, k9⟩ := id okc
  have hbn : bnd σ.1.1 σ.1.2.1 F S A := okc.bnd hf
  refine Ev.of pX8_list (Nat.le_of_ble_eq_true rfl) ?_
  show G mX8_list (rmD 3 0 0) none _ 0 0 0 [(0, .ref 0), (1, .int l), (2, .int q)] [] h
  obtain ⟨nx1, o1⟩ := HR.o hH
  refine g_aload_n dX8_list_0 0 rfl ?_
  refine g_getf dX8_list_1 kX8 wfX8_36 (Nat.le_of_ble_eq_true rfl) (hO0) rfl ?_
  refine g_iload_n dX8_list_4 1 rfl ?_
  refine g_callVp dX8_list_5 (ev_lhas l _) oX2_has wiX2_has weX2_has wmX8_283 kX2 (hL.1) rfl ⟨(Nat.le_of_ble_eq_true rfl), (Nat.le_of_ble_eq_true rfl)⟩ ⟨Nat.zero_le _, Nat.zero_le _⟩ (Nat.le_of_ble_eq_true rfl) rfl ?_
  refine g_if_neB 17 dX8_list_8 (by decide) (fun c8 => ?_) (fun c8 => ?_)
  · have c8 := of_decide_eq_true c8
    rw [show oList σ l q = _ from if_pos c8]
    refine g_iload_n dX8_list_17 2 rfl ?_
    refine g_bipush (v := nI 40) dX8_list_18 (by decide +kernel) ?_
    refine g_icmp_le 30 dX8_list_20 (by decide) (fun c20 => ?_) (fun c20 => ?_)
    · rw [if_pos c20]
      refine g_iload_n dX8_list_30 2 rfl ?_
      refine g_if_ge 37 dX8_list_31 (by decide) (fun c31 => ?_) (fun c31 => ?_)
      · rw [if_pos c31]
        obtain ⟨y, hy, rfl⟩ := nn_of c8.1
        obtain ⟨q1, hq1, rfl⟩ := nn_of c31
        rw [cl_ hy]
        have b1 : y < 3 := (nI_ltI hy (by decide)).mp c8.2
        refine g_aload_n dX8_list_37 0 rfl ?_
        refine g_getf dX8_list_38 kX8 wfX8_36 (Nat.le_of_ble_eq_true rfl) (hO0) rfl ?_
        refine g_iload_n dX8_list_41 1 rfl ?_
        refine g_iload_n dX8_list_42 2 rfl ?_
        refine g_callVq (st1 := []) dX8_list_43 (ev_make hL y q1 b1) oX2_make wiX2_make weX2_make wmX8_284 kX2 (hL.1) rfl ⟨(Nat.le_of_ble_eq_true rfl), (Nat.le_of_ble_eq_true rfl)⟩ ⟨Nat.zero_le _, Nat.zero_le _⟩ (Nat.le_of_ble_eq_true rfl) rfl rfl (fun h2 q2 => ?_)
        obtain ⟨R0, q2a, q2b, q2s⟩ := q2
        have eR := repl_of (by have z := (q2a.2.2.1 y b1).2; rw [upI_eq] at z; exact z) q2b
        rw [eR] at q2a
        have b2_2 := hP.mv q2s (by omega)
        have b2_6 := hT.mv q2s (by omega)
        have b2_9 := hR.mv q2s (by omega)
        have b2_12 := hI.mv q2s (by omega)
        have b2_23 := hDr.mv q2s (by omega)
        have b2_42 := hH.mv q2s (by omega)
        obtain ⟨nx3, o3⟩ := HR.o b2_42
        have b2_34 := hLt.mv q2s (by omega)
        have b2_84 := hX.mv q2s (by omega)
        have b2_85 := hXP.mv q2s (by omega)
        have b2_89 := hTh.mv q2s (by omega)
        have b2_93 := hSp.mv q2s (by omega)
        have f2_0 : rd h2 0 = some (.inr (8, [.ref 1, .ref 12, .ref 23, .int (nI (bI σ.2.2.2.2.1.isSome)), .ref 34, .ref 36, .ref 42, .ref 84, .ref 89, .ref 93, .ref 97])) := by rw [q2s _ (by omega)]; exact hO0
        have f2_1 : rd h2 1 = some (.inr (6, [.ref 2, .ref 6, .ref 9])) := by rw [q2s _ (by omega)]; exact hO1
        have f2_97 : rd h2 97 = some (.inl (σ.2.2.2.2.2)) := by rw [q2s _ (by omega)]; exact hRf
        refine g_iconst (v := nI 1) dX8_list_46 (by decide +kernel) ?_
        exact g_iret dX8_list_47 rfl ⟨Nat.zero_le _, Nat.zero_le _⟩ (⟨rfl, ⟨f2_0, ⟨f2_1, _, _, _, _, _, _, _, b2_2, hf, b2_6, ht, b2_9, hC, hl⟩, ⟨_, b2_12, hI2⟩, ⟨_, b2_23⟩, b2_34, q2a, b2_42, ⟨⟨_, _, _, _, b2_84⟩, ⟨_, _, _, _, _, b2_85⟩⟩, ⟨_, _, _, _, _, b2_89⟩, ⟨_, _, _, _, _, b2_93⟩, f2_97⟩, (fun q hq => by rw [q2s q (by omega)])⟩)
      · refine g_bipush (v := (-14)) dX8_list_34 (by decide +kernel) ?_
        exact g_iret dX8_list_36 rfl ⟨Nat.zero_le _, Nat.zero_le _⟩ (⟨by rw [if_neg c31], by rw [if_neg c31]; exact ⟨⟨hO0, ⟨hO1, _, _, _, _, _, _, _, hP, hf, hT, ht, hR, hC, hl⟩, ⟨_, hI, hI2⟩, ⟨_, hDr⟩, hLt, hL, hH, ⟨⟨_, _, _, _, hX⟩, ⟨_, _, _, _, _, hXP⟩⟩, ⟨_, _, _, _, _, hTh⟩, ⟨_, _, _, _, _, hSp⟩, hRf⟩, Smo.rf⟩⟩)
    · refine g_aload_n dX8_list_23 0 rfl ?_
      refine g_bipush (v := (-6)) dX8_list_24 (by decide +kernel) ?_
      rw [if_neg c20]
      refine g_callVq (st1 := [.int (-nI 6)]) dX8_list_26 (ev_refuse H ok 6 (by unfold noN; omega)) oX8_refuse wiX8_refuse weX8_refuse wmX8_68 kX8 (hO0) rfl ⟨(Nat.le_of_ble_eq_true rfl), (Nat.le_of_ble_eq_true rfl)⟩ ⟨Nat.zero_le _, Nat.zero_le _⟩ (Nat.le_of_ble_eq_true rfl) rfl rfl (fun h4 q4 => ?_)
      exact g_iret dX8_list_29 rfl ⟨Nat.zero_le _, Nat.zero_le _⟩ (⟨rfl, q4⟩)
  · refine g_aload_n dX8_list_11 0 rfl ?_
    refine g_iconst (v := (-1)) dX8_list_12 (by decide +kernel) ?_
    rw [show oList σ l q = rfS σ (-1) from if_neg (of_decide_eq_false c8)]
    refine g_callVq (st1 := [.int (-nI 1)]) dX8_list_13 (ev_refuse H ok 1 (by unfold noN; omega)) oX8_refuse wiX8_refuse weX8_refuse wmX8_68 kX8 (hO0) rfl ⟨(Nat.le_of_ble_eq_true rfl), (Nat.le_of_ble_eq_true rfl)⟩ ⟨Nat.zero_le _, Nat.zero_le _⟩ (Nat.le_of_ble_eq_true rfl) rfl rfl (fun h5 q5 => ?_)
    exact g_iret dX8_list_16 rfl ⟨Nat.zero_le _, Nat.zero_le _⟩ (⟨rfl, q5⟩)
