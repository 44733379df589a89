/-- what the turns make of the pairs -/
def tAF (n m : Nat) (tu : Nat → Nat × Nat) (f : Nat → Pr) : Nat → Nat → Pr
  | 0 => f
  | t + 1 => tOne n m (tu t).1 (tu t).2 (tAF n m tu f t)
theorem tAF_eq {n m : Nat} {K U : List Nat} {tu : Nat → Nat × Nat} {f : Nat → Pr} : ∀ t, (∀ i, i < t → (K.getD i 0, U.getD i 0) = tu i) → tAll n m K U f t = tAF n m tu f t
  | 0, _ => rfl
  | t + 1, h => by
    show tOne n m (K.getD t 0) (U.getD t 0) (tAll n m K U f t) = tOne n m (tu t).1 (tu t).2 (tAF n m tu f t)
    rw [tAF_eq t (fun i hi => h i (by omega)), ← h t (by omega)]
theorem tAF_bf {n m : Nat} (h0 : 0 < n) (tu : Nat → Nat × Nat) {f : Nat → Pr} (b : bf n m f) : ∀ t, bf n m (tAF n m tu f t)
  | 0 => b
  | t + 1 => tOne_bf h0 _ _ (tAF_bf h0 tu b t)
def tAl (σ : Sg) : Nat → Pr := tAF σ.1.1 σ.1.2.1 σ.1.2.2.2.2.1 σ.1.2.2.1 σ.1.2.2.2.1
theorem tAl_bf {σ : Sg} (ok : okSg σ) : bf σ.1.1 σ.1.2.1 (tAl σ) := by
  obtain ⟨k1, k2, k3, k4, k5, -⟩ := ok.1
  exact tAF_bf (by omega) _ (fun k hk => ⟨(k5 k hk).2.1, (k5 k hk).2.2.2.1, (k5 k hk).2.2.2.2.2⟩) _
def oTurned (σ : Sg) (x y : Int32) : Int32 × Sg := if 0 ≤ x ∧ x < nI σ.1.2.1 then (if y < 0 ∨ ¬ y ≤ nI 2 then rfS σ (-2) else (nI (toldN σ.1.1 (tAl σ x.toNatClampNeg) y.toNatClampNeg), σ)) else rfS σ (-1)
def cbF (m : Nat) (f : Nat → Pr) : Bool := decide (∀ k, k < m → (f k).1 ≠ 0 ∧ (f k).2.1 ≠ 0 ∧ (f k).1 ≠ (f k).2.1)
theorem cb_eq {m : Nat} {F S A : List Nat} {f : Nat → Pr} (h : ∀ i, i < m → fOf F S A i = f i) : cbB m F S = cbF m f := by
  unfold cbB cbF
  congr 1
  apply propext
  constructor
  · intro z k hk; rw [← h k hk]; exact z k hk
  · intro z k hk; have y := z k hk; rw [← h k hk] at y; exact y
def oTurns (σ : Sg) : Int32 × Sg := if cbF σ.1.2.1 (tAl σ) = true then (nI σ.1.2.1, ((σ.1.1, σ.1.2.1, tAl σ, σ.1.2.2.2), σ.2.1, σ.2.2.1, (σ.1.2.2.1, σ.1.2.2.2.2.2) :: σ.2.2.2.1.take 11, σ.2.2.2.2)) else rfS σ (-3)

set_option maxRecDepth 100000 in
set_option maxHeartbeats 4000000 in
theorem ev_think {h : List aC} {σ : Sg} (H : RC h σ) (ok : okSg σ) : Ev mX8_turnInThought 6 0 0 [.ref 0] h (pq none (fun h2 => (∃ F1 S1 A1, PA h2 89 σ.1.1 σ.1.2.1 F1 S1 A1 ∧ ∀ i, i < σ.1.2.1 → fOf F1 S1 A1 i = tAl σ i) ∧ PQ h2 93 ∧ Smo 89 97 h h2)) := by
  obtain ⟨hO0, hS, ⟨ci, hI, hI2⟩, ⟨cd, hDr⟩, hLt, hL, hH, ⟨⟨sw_, sc_, sgs, sgk, hX⟩, ⟨xn, xm, xF, xS, xA, hXP⟩⟩, ⟨tn, tm, tF, tS, tA, hTh⟩, ⟨pn, pm, pF, pS, pA, hSp⟩, hRf⟩ := id H
  obtain ⟨hO1, F, S, A, K, U, C, T, hP, hf, hT, ht, hR, hC, hl⟩ := id hS
  have hO1 : rd h 1 = some (.inr (6, [.ref 2, .ref 6, .ref 9])) := hO1
  have hP : PA h 2 _ _ F S A := hP
  have hT : TA h 6 _ K U := hT
  have hR : RA h 9 _ C T := hR
  obtain ⟨-, -, -, -, lF, lS, lA⟩ := id hP
  obtain ⟨-, -, -, lK, lU⟩ := id hT
  obtain ⟨-, -, -, lC, lT⟩ := id hR
  obtain ⟨okc, ⟨okl, okw⟩, okn, ⟨okh, oke⟩, oki, okr⟩ := id ok
  obtain ⟨k1, k2, k3, k4, k5, k6, k7, k8, k9⟩ := id okc
  have hbn : bnd σ.1.1 σ.1.2.1 F S A := okc.bnd hf
  refine Ev.of pX8_turnInThought (Nat.le_of_ble_eq_true rfl) ?_
  show G mX8_turnInThought (rmD 6 0 0) none _ 0 0 0 [(0, .ref 0)] [] h
  obtain ⟨nx1, o1⟩ := HR.o hH
  refine g_aload_n dX8_turnInThought_0 0 rfl ?_
  refine g_getf dX8_turnInThought_1 kX8 wfX8_57 (Nat.le_of_ble_eq_true rfl) (hO0) rfl ?_
  refine g_aload_n dX8_turnInThought_4 0 rfl ?_
  refine g_getf dX8_turnInThought_5 kX8 wfX8_10 (Nat.le_of_ble_eq_true rfl) (hO0) rfl ?_
  refine g_getf dX8_turnInThought_8 kX6 wfX8_97 (Nat.le_of_ble_eq_true rfl) (hO1) rfl ?_
  refine g_callVq (st1 := []) dX8_turnInThought_11 (ev_copyFrom hTh hP (by omega)) oX3_copyFrom wiX3_copyFrom weX3_copyFrom wmX8_153 kX3 (hTh.1) rfl ⟨(Nat.le_of_ble_eq_true rfl), (Nat.le_of_ble_eq_true rfl)⟩ ⟨Nat.zero_le _, Nat.zero_le _⟩ (Nat.le_of_ble_eq_true rfl) rfl rfl (fun h2 q2 => ?_)
  obtain ⟨q2a, q2s⟩ := q2
  have b2_2 := hP.mv q2s (by omega)
  have b2_6 := hT.mv q2s (by omega)
  have b2_9 := hR.mv q2s (by omega)
  have b2_12 := hI.mv q2s (by omega)
  have b2_23 := hDr.mv q2s (by omega)
  have b2_42 := hH.mv q2s (by omega)
  obtain ⟨nx3, o3⟩ := HR.o b2_42
  have b2_34 := hLt.mv q2s (by omega)
  have b2_36 := hL.mv q2s (by omega)
  have b2_84 := hX.mv q2s (by omega)
  have b2_85 := hXP.mv q2s (by omega)
  have b2_93 := hSp.mv q2s (by omega)
  have f2_0 : rd h2 0 = some (.inr (8, [.ref 1, .ref 12, .ref 23, .int (nI (bI σ.2.2.2.2.1.isSome)), .ref 34, .ref 36, .ref 42, .ref 84, .ref 89, .ref 93, .ref 97])) := by rw [q2s _ (by omega)]; exact hO0
  have f2_1 : rd h2 1 = some (.inr (6, [.ref 2, .ref 6, .ref 9])) := by rw [q2s _ (by omega)]; exact hO1
  have f2_97 : rd h2 97 = some (.inl (σ.2.2.2.2.2)) := by rw [q2s _ (by omega)]; exact hRf
  refine g_aload_n dX8_turnInThought_14 0 rfl ?_
  refine g_getf dX8_turnInThought_15 kX8 wfX8_10 (Nat.le_of_ble_eq_true rfl) (f2_0) rfl ?_
  refine g_getf dX8_turnInThought_18 kX6 wfX8_269 (Nat.le_of_ble_eq_true rfl) (f2_1) rfl ?_
  refine g_aload_n dX8_turnInThought_21 0 rfl ?_
  refine g_getf dX8_turnInThought_22 kX8 wfX8_57 (Nat.le_of_ble_eq_true rfl) (f2_0) rfl ?_
  refine g_aload_n dX8_turnInThought_25 0 rfl ?_
  refine g_getf dX8_turnInThought_26 kX8 wfX8_61 (Nat.le_of_ble_eq_true rfl) (f2_0) rfl ?_
  refine g_callVq (st1 := []) dX8_turnInThought_29 (ev_turnAll b2_6 q2a b2_93 hf (by omega) (by omega) (by omega) (fun k hk => ⟨(k5 k hk).2.1, (k5 k hk).2.2.2.1, (k5 k hk).2.2.2.2.2⟩) k6 (fun i hi => by have y := k7 i hi; rw [← ht i hi] at y; exact y) (by omega)) oX7_turnAll wiX7_turnAll weX7_turnAll wmX8_320 kX7 (b2_6.1) rfl ⟨(Nat.le_of_ble_eq_true rfl), (Nat.le_of_ble_eq_true rfl)⟩ ⟨Nat.zero_le _, Nat.zero_le _⟩ (Nat.le_of_ble_eq_true rfl) rfl rfl (fun h4 q4 => ?_)
  obtain ⟨F1, S1, A1, q4a, q4f, q4b, q4s⟩ := q4
  rw [tAF_eq _ ht] at q4f
  have b4_2 := b2_2.mv q4s (by omega)
  have b4_6 := b2_6.mv q4s (by omega)
  have b4_9 := b2_9.mv q4s (by omega)
  have b4_12 := b2_12.mv q4s (by omega)
  have b4_23 := b2_23.mv q4s (by omega)
  have b4_42 := b2_42.mv q4s (by omega)
  obtain ⟨nx5, o5⟩ := HR.o b4_42
  have b4_34 := b2_34.mv q4s (by omega)
  have b4_36 := b2_36.mv q4s (by omega)
  have b4_84 := b2_84.mv q4s (by omega)
  have b4_85 := b2_85.mv q4s (by omega)
  have f4_0 : rd h4 0 = some (.inr (8, [.ref 1, .ref 12, .ref 23, .int (nI (bI σ.2.2.2.2.1.isSome)), .ref 34, .ref 36, .ref 42, .ref 84, .ref 89, .ref 93, .ref 97])) := by rw [q4s _ (by omega)]; exact f2_0
  have f4_1 : rd h4 1 = some (.inr (6, [.ref 2, .ref 6, .ref 9])) := by rw [q4s _ (by omega)]; exact f2_1
  have f4_97 : rd h4 97 = some (.inl (σ.2.2.2.2.2)) := by rw [q4s _ (by omega)]; exact f2_97
  exact g_vret dX8_turnInThought_32 rfl ⟨Nat.zero_le _, Nat.zero_le _⟩ (⟨rfl, ⟨F1, S1, A1, q4a, q4f⟩, q4b, (fun q hq => by rw [q4s q (by omega), q2s q (by omega)])⟩)

set_option maxRecDepth 100000 in
set_option maxHeartbeats 4000000 in
theorem ev_x_turned {h : List aC} {σ : Sg} (H : RC h σ) (ok : okSg σ) (x y : Int32) : Ev mX8_turned 7 0 0 [.ref 0, .int x, .int y] h (sp h (oTurned σ x y)) := by
  obtain ⟨hO0, hS, ⟨ci, hI, hI2⟩, ⟨cd, hDr⟩, hLt, hL, hH, ⟨⟨sw_, sc_, sgs, sgk, hX⟩, ⟨xn, xm, xF, xS, xA, hXP⟩⟩, ⟨tn, tm, tF, tS, tA, hTh⟩, ⟨pn, pm, pF, pS, pA, hSp⟩, hRf⟩ := id H
  obtain ⟨hO1, F, S, A, K, U, C, T, hP, hf, hT, ht, hR, hC, hl⟩ := id hS
  have hO1 : rd h 1 = some (.inr (6, [.ref 2, .ref 6, .ref 9])) := hO1
  have hP : PA h 2 _ _ F S A := hP
  have hT : TA h 6 _ K U := hT
  have hR : RA h 9 _ C T := hR
  obtain ⟨-, -, -, -, lF, lS, lA⟩ := id hP
  obtain ⟨-, -, -, lK, lU⟩ := id hT
  obtain ⟨-, -, -, lC, lT⟩ := id hR
  obtain ⟨okc, ⟨okl, okw⟩, okn, ⟨okh, oke⟩, oki, okr⟩ := id ok
  obtain ⟨k1, k2, k3, k4, k5, k6, k7, k8, k9⟩ := id okc
  have hbn : bnd σ.1.1 σ.1.2.1 F S A := okc.bnd hf
  refine Ev.of pX8_turned (Nat.le_of_ble_eq_true rfl) ?_
  show G mX8_turned (rmD 7 0 0) none _ 0 0 0 [(0, .ref 0), (1, .int x), (2, .int y)] [] h
  obtain ⟨nx1, o1⟩ := HR.o hH
  refine g_aload_n dX8_turned_0 0 rfl ?_
  refine g_getf dX8_turned_1 kX8 wfX8_10 (Nat.le_of_ble_eq_true rfl) (hO0) rfl ?_
  refine g_getf dX8_turned_4 kX6 wfX8_97 (Nat.le_of_ble_eq_true rfl) (hO1) rfl ?_
  refine g_iload_n dX8_turned_7 1 rfl ?_
  refine g_callVp dX8_turned_8 (ev_has hP (by omega) x) oX3_has wiX3_has weX3_has wmX8_126 kX3 (hP.1) rfl ⟨(Nat.le_of_ble_eq_true rfl), (Nat.le_of_ble_eq_true rfl)⟩ ⟨Nat.zero_le _, Nat.zero_le _⟩ (Nat.le_of_ble_eq_true rfl) rfl ?_
  refine g_if_neB 20 dX8_turned_11 (by decide) (fun c11 => ?_) (fun c11 => ?_)
  · have c11 := hasB.mp c11
    obtain ⟨x1, hx1, rfl⟩ := nn_of c11.1
    have b1 := nn_lt hx1 (by omega) c11.2
    refine g_iload_n dX8_turned_20 2 rfl ?_
    refine g_if_lt 29 dX8_turned_21 (by decide) (fun c21 => ?_) (fun c21 => ?_)
    · refine g_aload_n dX8_turned_29 0 rfl ?_
      refine g_bipush (v := (-2)) dX8_turned_30 (by decide +kernel) ?_
      rw [show oTurned σ (nI x1) y = rfS σ (-2) from (if_pos c11).trans (if_pos (by first | exact Or.inl c21 | exact Or.inr c26))]
      refine g_callVq (st1 := [.int (-nI 2)]) dX8_turned_32 (ev_refuse H ok 2 (by unfold noN; omega)) oX8_refuse wiX8_refuse weX8_refuse wmX8_68 kX8 (hO0) rfl ⟨(Nat.le_of_ble_eq_true rfl), (Nat.le_of_ble_eq_true rfl)⟩ ⟨Nat.zero_le _, Nat.zero_le _⟩ (Nat.le_of_ble_eq_true rfl) rfl rfl (fun h2 q2 => ?_)
      exact g_iret dX8_turned_35 rfl ⟨Nat.zero_le _, Nat.zero_le _⟩ (⟨rfl, q2⟩)
    · refine g_iload_n dX8_turned_24 2 rfl ?_
      refine g_iconst (v := nI 2) dX8_turned_25 (by decide +kernel) ?_
      refine g_icmp_le 36 dX8_turned_26 (by decide) (fun c26 => ?_) (fun c26 => ?_)
      · rw [show oTurned σ (nI x1) y = (nI (toldN σ.1.1 (tAl σ (nI x1).toNatClampNeg) y.toNatClampNeg), σ) from (if_pos c11).trans (if_neg (fun z => by rcases z with z | z; exact c21 z; exact z c26))]
        obtain ⟨y1, hy1, rfl⟩ := nn_of (Int32.not_lt.mp c21)
        have b2 : y1 ≤ 2 := (nI_leI hy1 (by omega)).mp c26
        rw [cl_ hx1, cl_ hy1]
        have b3 := tAl_bf ok x1 b1
        refine g_aload_n dX8_turned_36 0 rfl ?_
        refine g_callVq (st1 := []) dX8_turned_37 (ev_think H ok) oX8_turnInThought wiX8_turnInThought weX8_turnInThought wmX8_277 kX8 (hO0) rfl ⟨(Nat.le_of_ble_eq_true rfl), (Nat.le_of_ble_eq_true rfl)⟩ ⟨Nat.zero_le _, Nat.zero_le _⟩ (Nat.le_of_ble_eq_true rfl) rfl rfl (fun h3 q3 => ?_)
        obtain ⟨⟨F1, S1, A1, q3a, q3f⟩, ⟨yn, ym, yF, yS, yA, q3b⟩, q3s⟩ := q3
        have qf := q3f
        have b3_2 := hP.mv q3s (by omega)
        have b3_6 := hT.mv q3s (by omega)
        have b3_9 := hR.mv q3s (by omega)
        have b3_12 := hI.mv q3s (by omega)
        have b3_23 := hDr.mv q3s (by omega)
        have b3_42 := hH.mv q3s (by omega)
        obtain ⟨nx4, o4⟩ := HR.o b3_42
        have b3_34 := hLt.mv q3s (by omega)
        have b3_36 := hL.mv q3s (by omega)
        have b3_84 := hX.mv q3s (by omega)
        have b3_85 := hXP.mv q3s (by omega)
        have f3_0 : rd h3 0 = some (.inr (8, [.ref 1, .ref 12, .ref 23, .int (nI (bI σ.2.2.2.2.1.isSome)), .ref 34, .ref 36, .ref 42, .ref 84, .ref 89, .ref 93, .ref 97])) := by rw [q3s _ (by omega)]; exact hO0
        have f3_1 : rd h3 1 = some (.inr (6, [.ref 2, .ref 6, .ref 9])) := by rw [q3s _ (by omega)]; exact hO1
        have f3_97 : rd h3 97 = some (.inl (σ.2.2.2.2.2)) := by rw [q3s _ (by omega)]; exact hRf
        refine g_aload_n dX8_turned_40 0 rfl ?_
        refine g_getf dX8_turned_41 kX8 wfX8_57 (Nat.le_of_ble_eq_true rfl) (f3_0) rfl ?_
        refine g_iload_n dX8_turned_44 1 rfl ?_
        refine g_iload_n dX8_turned_45 2 rfl ?_
        rw [← q3f x1 b1] at b3
        refine g_callVp dX8_turned_46 (ev_told q3a (by omega) x1 (by omega) b3.1 b3.2.1 y1 (by omega)) oX3_told wiX3_told weX3_told wmX8_130 kX3 (q3a.1) rfl ⟨(Nat.le_of_ble_eq_true rfl), (Nat.le_of_ble_eq_true rfl)⟩ ⟨Nat.zero_le _, Nat.zero_le _⟩ (Nat.le_of_ble_eq_true rfl) rfl ?_
        refine g_top (congrArg (fun z => nI (toldN σ.1.1 z y1)) (q3f x1 b1)) ?_
        exact g_iret dX8_turned_49 rfl ⟨Nat.zero_le _, Nat.zero_le _⟩ (⟨rfl, ⟨f3_0, ⟨f3_1, _, _, _, _, _, _, _, b3_2, hf, b3_6, ht, b3_9, hC, hl⟩, ⟨_, b3_12, hI2⟩, ⟨_, b3_23⟩, b3_34, b3_36, b3_42, ⟨⟨_, _, _, _, b3_84⟩, ⟨_, _, _, _, _, b3_85⟩⟩, ⟨_, _, _, _, _, q3a⟩, ⟨_, _, _, _, _, q3b⟩, f3_97⟩, (fun q hq => by rw [q3s q (by omega)])⟩)
      · refine g_aload_n dX8_turned_29 0 rfl ?_
        refine g_bipush (v := (-2)) dX8_turned_30 (by decide +kernel) ?_
        rw [show oTurned σ (nI x1) y = rfS σ (-2) from (if_pos c11).trans (if_pos (by first | exact Or.inl c21 | exact Or.inr c26))]
        refine g_callVq (st1 := [.int (-nI 2)]) dX8_turned_32 (ev_refuse H ok 2 (by unfold noN; omega)) oX8_refuse wiX8_refuse weX8_refuse wmX8_68 kX8 (hO0) rfl ⟨(Nat.le_of_ble_eq_true rfl), (Nat.le_of_ble_eq_true rfl)⟩ ⟨Nat.zero_le _, Nat.zero_le _⟩ (Nat.le_of_ble_eq_true rfl) rfl rfl (fun h5 q5 => ?_)
        exact g_iret dX8_turned_35 rfl ⟨Nat.zero_le _, Nat.zero_le _⟩ (⟨rfl, q5⟩)
  · refine g_aload_n dX8_turned_14 0 rfl ?_
    refine g_iconst (v := (-1)) dX8_turned_15 (by decide +kernel) ?_
    rw [show oTurned σ x y = rfS σ (-1) from if_neg (fun z => by rw [hasB.mpr z] at c11; cases c11)]
    refine g_callVq (st1 := [.int (-nI 1)]) dX8_turned_16 (ev_refuse H ok 1 (by unfold noN; omega)) oX8_refuse wiX8_refuse weX8_refuse wmX8_68 kX8 (hO0) rfl ⟨(Nat.le_of_ble_eq_true rfl), (Nat.le_of_ble_eq_true rfl)⟩ ⟨Nat.zero_le _, Nat.zero_le _⟩ (Nat.le_of_ble_eq_true rfl) rfl rfl (fun h6 q6 => ?_)
    exact g_iret dX8_turned_19 rfl ⟨Nat.zero_le _, Nat.zero_le _⟩ (⟨rfl, q6⟩)

set_option maxRecDepth 100000 in
set_option maxHeartbeats 4000000 in
theorem ev_x_turns {h : List aC} {σ : Sg} (H : RC h σ) (ok : okSg σ) : Ev mX8_turns 7 0 0 [.ref 0] h (sp h (oTurns σ)) := by
  obtain ⟨hO0, hS, ⟨ci, hI, hI2⟩, ⟨cd, hDr⟩, hLt, hL, hH, ⟨⟨sw_, sc_, sgs, sgk, hX⟩, ⟨xn, xm, xF, xS, xA, hXP⟩⟩, ⟨tn, tm, tF, tS, tA, hTh⟩, ⟨pn, pm, pF, pS, pA, hSp⟩, hRf⟩ := id H
  obtain ⟨hO1, F, S, A, K, U, C, T, hP, hf, hT, ht, hR, hC, hl⟩ := id hS
  have hO1 : rd h 1 = some (.inr (6, [.ref 2, .ref 6, .ref 9])) := hO1
  have hP : PA h 2 _ _ F S A := hP
  have hT : TA h 6 _ K U := hT
  have hR : RA h 9 _ C T := hR
  obtain ⟨-, -, -, -, lF, lS, lA⟩ := id hP
  obtain ⟨-, -, -, lK, lU⟩ := id hT
  obtain ⟨-, -, -, lC, lT⟩ := id hR
  obtain ⟨okc, ⟨okl, okw⟩, okn, ⟨okh, oke⟩, oki, okr⟩ := id ok
  obtain ⟨k1, k2, k3, k4, k5, k6, k7, k8, k9⟩ := id okc
  have hbn : bnd σ.1.1 σ.1.2.1 F S A := okc.bnd hf
  refine Ev.of pX8_turns (Nat.le_of_ble_eq_true rfl) ?_
  show G mX8_turns (rmD 7 0 0) none _ 0 0 0 [(0, .ref 0)] [] h
  obtain ⟨nx1, o1⟩ := HR.o hH
  refine g_aload_n dX8_turns_0 0 rfl ?_
  refine g_callVq (st1 := []) dX8_turns_1 (ev_think H ok) oX8_turnInThought wiX8_turnInThought weX8_turnInThought wmX8_277 kX8 (hO0) rfl ⟨(Nat.le_of_ble_eq_true rfl), (Nat.le_of_ble_eq_true rfl)⟩ ⟨Nat.zero_le _, Nat.zero_le _⟩ (Nat.le_of_ble_eq_true rfl) rfl rfl (fun h2 q2 => ?_)
  obtain ⟨⟨F1, S1, A1, q2a, q2f⟩, ⟨yn, ym, yF, yS, yA, q2b⟩, q2s⟩ := q2
  have qf := q2f
  have b2_2 := hP.mv q2s (by omega)
  have b2_6 := hT.mv q2s (by omega)
  have b2_9 := hR.mv q2s (by omega)
  have b2_12 := hI.mv q2s (by omega)
  have b2_23 := hDr.mv q2s (by omega)
  have b2_42 := hH.mv q2s (by omega)
  obtain ⟨nx3, o3⟩ := HR.o b2_42
  have b2_34 := hLt.mv q2s (by omega)
  have b2_36 := hL.mv q2s (by omega)
  have b2_84 := hX.mv q2s (by omega)
  have b2_85 := hXP.mv q2s (by omega)
  have f2_0 : rd h2 0 = some (.inr (8, [.ref 1, .ref 12, .ref 23, .int (nI (bI σ.2.2.2.2.1.isSome)), .ref 34, .ref 36, .ref 42, .ref 84, .ref 89, .ref 93, .ref 97])) := by rw [q2s _ (by omega)]; exact hO0
  have f2_1 : rd h2 1 = some (.inr (6, [.ref 2, .ref 6, .ref 9])) := by rw [q2s _ (by omega)]; exact hO1
  have f2_97 : rd h2 97 = some (.inl (σ.2.2.2.2.2)) := by rw [q2s _ (by omega)]; exact hRf
  refine g_aload_n dX8_turns_4 0 rfl ?_
  refine g_getf dX8_turns_5 kX8 wfX8_57 (Nat.le_of_ble_eq_true rfl) (f2_0) rfl ?_
  have b3 : bnd σ.1.1 σ.1.2.1 F1 S1 A1 := fun k hk => by have y := tAl_bf ok k hk; rw [← qf k hk] at y; exact y
  refine g_callVp dX8_turns_8 (ev_canBe q2a (by omega) (by omega) b3) oX3_canBe wiX3_canBe weX3_canBe wmX8_280 kX3 (q2a.1) rfl ⟨(Nat.le_of_ble_eq_true rfl), (Nat.le_of_ble_eq_true rfl)⟩ ⟨Nat.zero_le _, Nat.zero_le _⟩ (Nat.le_of_ble_eq_true rfl) rfl ?_
  refine g_top (congrArg (fun z => nI (bI z)) (cb_eq qf)) ?_
  refine g_if_neB 21 dX8_turns_11 (by decide) (fun c11 => ?_) (fun c11 => ?_)
  · rw [show oTurns σ = (nI σ.1.2.1, ((σ.1.1, σ.1.2.1, tAl σ, σ.1.2.2.2), σ.2.1, σ.2.2.1, (σ.1.2.2.1, σ.1.2.2.2.2.2) :: σ.2.2.2.1.take 11, σ.2.2.2.2)) from if_pos c11]
    refine g_aload_n dX8_turns_21 0 rfl ?_
    refine g_getf dX8_turns_22 kX8 wfX8_43 (Nat.le_of_ble_eq_true rfl) (f2_0) rfl ?_
    refine g_aload_n dX8_turns_25 0 rfl ?_
    refine g_getf dX8_turns_26 kX8 wfX8_10 (Nat.le_of_ble_eq_true rfl) (f2_0) rfl ?_
    refine g_getf dX8_turns_29 kX6 wfX8_97 (Nat.le_of_ble_eq_true rfl) (f2_1) rfl ?_
    refine g_callVq (st1 := []) dX8_turns_32 (hx_keep b2_42 b2_2 (by omega) hf) oX0_keep wiX0_keep weX0_keep wmX8_119 kX0 (o3) rfl ⟨(Nat.le_of_ble_eq_true rfl), (Nat.le_of_ble_eq_true rfl)⟩ ⟨Nat.zero_le _, Nat.zero_le _⟩ (Nat.le_of_ble_eq_true rfl) rfl rfl (fun h4 q4 => ?_)
    obtain ⟨q4a, q4s⟩ := q4
    obtain ⟨nx5, o5⟩ := HR.o q4a
    have b4_2 := b2_2.mv q4s (by omega)
    have b4_6 := b2_6.mv q4s (by omega)
    have b4_9 := b2_9.mv q4s (by omega)
    have b4_12 := b2_12.mv q4s (by omega)
    have b4_23 := b2_23.mv q4s (by omega)
    have b4_34 := b2_34.mv q4s (by omega)
    have b4_36 := b2_36.mv q4s (by omega)
    have b4_84 := b2_84.mv q4s (by omega)
    have b4_85 := b2_85.mv q4s (by omega)
    have b4_89 := q2a.mv q4s (by omega)
    have b4_93 := q2b.mv q4s (by omega)
    have f4_0 : rd h4 0 = some (.inr (8, [.ref 1, .ref 12, .ref 23, .int (nI (bI σ.2.2.2.2.1.isSome)), .ref 34, .ref 36, .ref 42, .ref 84, .ref 89, .ref 93, .ref 97])) := by rw [q4s _ (by omega)]; exact f2_0
    have f4_1 : rd h4 1 = some (.inr (6, [.ref 2, .ref 6, .ref 9])) := by rw [q4s _ (by omega)]; exact f2_1
    have f4_97 : rd h4 97 = some (.inl (σ.2.2.2.2.2)) := by rw [q4s _ (by omega)]; exact f2_97
    refine g_aload_n dX8_turns_35 0 rfl ?_
    refine g_getf dX8_turns_36 kX8 wfX8_10 (Nat.le_of_ble_eq_true rfl) (f4_0) rfl ?_
    refine g_getf dX8_turns_39 kX6 wfX8_97 (Nat.le_of_ble_eq_true rfl) (f4_1) rfl ?_
    refine g_aload_n dX8_turns_42 0 rfl ?_
    refine g_getf dX8_turns_43 kX8 wfX8_57 (Nat.le_of_ble_eq_true rfl) (f4_0) rfl ?_
    refine g_callVq (st1 := []) dX8_turns_46 (ev_copyFrom b4_2 b4_89 (by omega)) oX3_copyFrom wiX3_copyFrom weX3_copyFrom wmX8_153 kX3 (b4_2.1) rfl ⟨(Nat.le_of_ble_eq_true rfl), (Nat.le_of_ble_eq_true rfl)⟩ ⟨Nat.zero_le _, Nat.zero_le _⟩ (Nat.le_of_ble_eq_true rfl) rfl rfl (fun h6 q6 => ?_)
    obtain ⟨q6a, q6s⟩ := q6
    have b6_6 := b4_6.mv q6s (by omega)
    have b6_9 := b4_9.mv q6s (by omega)
    have b6_12 := b4_12.mv q6s (by omega)
    have b6_23 := b4_23.mv q6s (by omega)
    have b6_42 := q4a.mv q6s (by omega)
    obtain ⟨nx7, o7⟩ := HR.o b6_42
    have b6_34 := b4_34.mv q6s (by omega)
    have b6_36 := b4_36.mv q6s (by omega)
    have b6_84 := b4_84.mv q6s (by omega)
    have b6_85 := b4_85.mv q6s (by omega)
    have b6_89 := b4_89.mv q6s (by omega)
    have b6_93 := b4_93.mv q6s (by omega)
    have f6_0 : rd h6 0 = some (.inr (8, [.ref 1, .ref 12, .ref 23, .int (nI (bI σ.2.2.2.2.1.isSome)), .ref 34, .ref 36, .ref 42, .ref 84, .ref 89, .ref 93, .ref 97])) := by rw [q6s _ (by omega)]; exact f4_0
    have f6_1 : rd h6 1 = some (.inr (6, [.ref 2, .ref 6, .ref 9])) := by rw [q6s _ (by omega)]; exact f4_1
    have f6_97 : rd h6 97 = some (.inl (σ.2.2.2.2.2)) := by rw [q6s _ (by omega)]; exact f4_97
    refine g_aload_n dX8_turns_49 0 rfl ?_
    refine g_getf dX8_turns_50 kX8 wfX8_10 (Nat.le_of_ble_eq_true rfl) (f6_0) rfl ?_
    refine g_getf dX8_turns_53 kX6 wfX8_97 (Nat.le_of_ble_eq_true rfl) (f6_1) rfl ?_
    refine g_getf dX8_turns_56 kX3 wfX8_115 (Nat.le_of_ble_eq_true rfl) (q6a.1) rfl ?_
    exact g_iret dX8_turns_59 rfl ⟨Nat.zero_le _, Nat.zero_le _⟩ (⟨rfl, ⟨f6_0, ⟨f6_1, _, _, _, _, _, _, _, q6a, qf, b6_6, ht, b6_9, hC, hl⟩, ⟨_, b6_12, hI2⟩, ⟨_, b6_23⟩, b6_34, b6_36, b6_42, ⟨⟨_, _, _, _, b6_84⟩, ⟨_, _, _, _, _, b6_85⟩⟩, ⟨_, _, _, _, _, b6_89⟩, ⟨_, _, _, _, _, b6_93⟩, f6_97⟩, (fun q hq => by rw [q6s q (by omega), q4s q (by omega), q2s q (by omega)])⟩)
  · refine g_aload_n dX8_turns_14 0 rfl ?_
    refine g_bipush (v := (-3)) dX8_turns_15 (by decide +kernel) ?_
    rw [show oTurns σ = rfS σ (-3) from if_neg (by rw [c11]; decide)]
    refine g_callVq (st1 := [.int (-nI 3)]) dX8_turns_17 (ev_refuse (show RC h2 σ from ⟨f2_0, ⟨f2_1, _, _, _, _, _, _, _, b2_2, hf, b2_6, ht, b2_9, hC, hl⟩, ⟨_, b2_12, hI2⟩, ⟨_, b2_23⟩, b2_34, b2_36, b2_42, ⟨⟨_, _, _, _, b2_84⟩, ⟨_, _, _, _, _, b2_85⟩⟩, ⟨_, _, _, _, _, q2a⟩, ⟨_, _, _, _, _, q2b⟩, f2_97⟩) ok 3 (by unfold noN; omega)) oX8_refuse wiX8_refuse weX8_refuse wmX8_68 kX8 (f2_0) rfl ⟨(Nat.le_of_ble_eq_true rfl), (Nat.le_of_ble_eq_true rfl)⟩ ⟨Nat.zero_le _, Nat.zero_le _⟩ (Nat.le_of_ble_eq_true rfl) rfl rfl (fun h8 q8 => ?_)
    exact g_iret dX8_turns_20 rfl ⟨Nat.zero_le _, Nat.zero_le _⟩ (⟨rfl, q8.1, Smo.tr (show Smo 0 98 h _ from (fun q hq => by rw [q2s q (by omega)])) q8.2⟩)
