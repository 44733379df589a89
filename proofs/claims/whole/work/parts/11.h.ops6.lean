theorem sn_ext {g g2 : Nat → Nat} : ∀ k, (∀ i, i < k → g i = g2 i) → sn g k = sn g2 k
  | 0, _ => rfl
  | k + 1, h => by
    have e := sn_ext k (fun i hi => h i (by omega))
    have e2 := h k (by omega)
    unfold sn
    rw [e, e2]
theorem lnF_ext {n : Nat} {g g2 : Nat → Nat} (h : ∀ i, i < n → g i = g2 i) : lnF n g = lnF n g2 := by unfold lnF; rw [sn_ext n h]
theorem cell_ok {n i : Nat} (hi : i < n * n) : i / n < n ∧ i % n < n ∧ i / n * n + i % n = i := by
  have n0 : 0 < n := by rcases Nat.eq_zero_or_pos n with q | q; (subst q; omega); exact q
  refine ⟨(Nat.div_lt_iff_lt_mul n0).mpr hi, Nat.mod_lt _ n0, ?_⟩
  rw [Nat.mul_comm]; exact Nat.div_add_mod i n
theorem sq169 {n i : Nat} (hn : n ≤ 13) (h : i < n * n) : i < 169 := Nat.lt_of_lt_of_le h (Nat.mul_le_mul hn hn)
theorem cR.at {n : Nat} {C : List Nat} {rm : Nat → Nat → Nat} (H : cR n C rm) {i : Nat} (hi : i < n * n) : C.getD i 0 = rm (i / n) (i % n) := by
  obtain ⟨a, b, c⟩ := cell_ok hi
  have z := H _ _ a b
  rw [c] at z
  exact z
theorem okC_of {n : Nat} {C : List Nat} {rm : Nat → Nat → Nat} (H : cR n C rm) (k8 : ∀ a b, a < n → b < n → okC n (rm a b)) : ∀ i, i < n * n → okC n (C.getD i 0) := fun i hi => by
  rw [H.at hi]
  obtain ⟨a, b, c⟩ := cell_ok hi
  exact k8 _ _ a b
/-- how many cells of a room hold it -/
def cntR (n : Nat) (rm : Nat → Nat → Nat) (v : Nat) : Nat := sumN (fun q => bI (decide (rm (q / n) (q % n) = v))) (n * n)
def onceR (n : Nat) (rm : Nat → Nat → Nat) (k : Nat) : Nat := bI (decide (cntR n rm (k + 1) = 1))
def pfR (n : Nat) (rm : Nat → Nat → Nat) : Int32 := nI (n * (n + 1) / 2) - nI (sumN (onceR n rm) 195)
theorem cntR_eq {n : Nat} {C : List Nat} {rm : Nat → Nat → Nat} (H : cR n C rm) (v : Nat) : cnt C v (n * n) = cntR n rm v := sumN_ext _ fun i hi => by rw [H.at hi]
theorem once_eq {n : Nat} {C : List Nat} {rm : Nat → Nat → Nat} (H : cR n C rm) : sumN (onceN C n) 195 = sumN (onceR n rm) 195 := sumN_ext _ fun i _ => by unfold onceN onceR; rw [cntR_eq H]
theorem pf_eq {n : Nat} {C : List Nat} {rm : Nat → Nat → Nat} (H : cR n C rm) : pfI C n = pfR n rm := by unfold pfI pfR; rw [once_eq H]
def inR (n : Nat) (rm : Nat → Nat → Nat) : Bool := decide ((∀ k, k < n → lnF n (fun j => rm k j) = 0 ∧ lnF n (fun j => rm j k) = 0) ∧ pfR n rm = 0)
theorem row_eq {n : Nat} {C : List Nat} {rm : Nat → Nat → Nat} (H : cR n C rm) {k : Nat} (hk : k < n) : lnF n (rowC C n k) = lnF n (fun j => rm k j) := lnF_ext fun i hi => H k i hk hi
theorem col_eq {n : Nat} {C : List Nat} {rm : Nat → Nat → Nat} (H : cR n C rm) {k : Nat} (hk : k < n) : lnF n (colC C n k) = lnF n (fun j => rm j k) := lnF_ext fun i hi => H i k hi hk
theorem in_eq {n : Nat} {C : List Nat} {rm : Nat → Nat → Nat} (H : cR n C rm) : inB C n = inR n rm := by
  unfold inB inR
  rw [pf_eq H]
  congr 1
  apply propext
  constructor
  · rintro ⟨a, b⟩; exact ⟨fun k hk => by rw [← row_eq H hk, ← col_eq H hk]; exact a k hk, b⟩
  · rintro ⟨a, b⟩; exact ⟨fun k hk => by rw [row_eq H hk, col_eq H hk]; exact a k hk, b⟩
def FRb (rm : Nat → Nat → Nat) (a b : Nat) : Bool := decide (a ≠ b ∧ bI (decide (rm a b ≠ 0)) = bI (decide (rm b a ≠ 0)))
theorem face_eq {n : Nat} {C : List Nat} {rm : Nat → Nat → Nat} (H : cR n C rm) : sumN (fun a => sumN (fun b => bI (FCb C n a b)) n) n = sumN (fun a => sumN (fun b => bI (FRb rm a b)) n) n := sumN_ext _ fun a ha => sumN_ext _ fun b hb => by unfold FCb FRb; rw [H a b ha hb, H b a hb ha]
theorem fst_eq {n : Nat} {C : List Nat} {rm : Nat → Nat → Nat} (H : cR n C rm) (v : Nat) : sc2 (fun a b => decide (C.getD (a * n + b) 0 = v)) n n 0 = sc2 (fun a b => decide (rm a b = v)) n n 0 := sc2_ext (fun a b ha hb => by rw [H a b ha hb]) n 0 (by omega)
def oAt (σ : Sg) (r c w : Int32) : Int32 × Sg := if 0 ≤ r ∧ r < nI σ.1.1 ∧ 0 ≤ c ∧ c < nI σ.1.1 then (if w < 0 ∨ ¬ w ≤ nI 1 then rfS σ (-2) else (if σ.1.2.2.2.2.2 r.toNatClampNeg c.toNatClampNeg = 0 then -9 else nI (if w.toNatClampNeg = 0 then σ.1.2.2.2.2.2 r.toNatClampNeg c.toNatClampNeg / 14 else σ.1.2.2.2.2.2 r.toNatClampNeg c.toNatClampNeg % 14), σ)) else rfS σ (-1)
def oFaults (σ : Sg) (w k : Int32) : Int32 × Sg := if w < 0 ∨ ¬ w ≤ nI 2 then rfS σ (-2) else if w.toNatClampNeg = 2 then (pfR σ.1.1 σ.1.2.2.2.2.2, σ) else if k < 0 ∨ ¬ k < nI σ.1.1 then rfS σ (-1) else (nI (if w.toNatClampNeg = 0 then lnF σ.1.1 (fun j => σ.1.2.2.2.2.2 k.toNatClampNeg j) else lnF σ.1.1 (fun j => σ.1.2.2.2.2.2 j k.toNatClampNeg)), σ)
def oIndeed (σ : Sg) : Int32 × Sg := (nI (bI (inR σ.1.1 σ.1.2.2.2.2.2)), σ)
def oFaced (σ : Sg) : Int32 × Sg := (nI (sumN (fun a => sumN (fun b => bI (FRb σ.1.2.2.2.2.2 a b)) σ.1.1) σ.1.1), σ)
def oWhere (σ : Sg) (x y : Int32) : Int32 × Sg := if x < 0 ∨ ¬ 0 ≤ y then rfS σ (-4) else if nI σ.1.1 < x ∨ ¬ y ≤ nI σ.1.1 then rfS σ (-6) else if x = y then rfS σ (-3) else (oI (sc2 (fun a b => decide (σ.1.2.2.2.2.2 a b = cod x.toNatClampNeg y.toNatClampNeg)) σ.1.1 σ.1.1 0), σ)

set_option maxRecDepth 100000 in
set_option maxHeartbeats 4000000 in
theorem ev_x_at {h : List aC} {σ : Sg} (H : RC h σ) (ok : okSg σ) (r c y : Int32) : Ev mX8_at 3 0 0 [.ref 0, .int r, .int c, .int y] h (sp h (oAt σ r c y)) := by
  obtain ⟨hO0, hS, ⟨ci, hI, hI2⟩, ⟨cd, hDr⟩, hLt, hL, hH, ⟨⟨sw_, sc_, sgs, sgk, hX⟩, ⟨xn, xm, xF, xS, xA, hXP⟩⟩, ⟨tn, tm, tF, tS, tA, hTh⟩, ⟨pn, pm, pF, pS, pA, hSp⟩, hRf⟩ := id H
  obtain ⟨hO1, F, S, A, K, U, C, T, hP, hf, hT, ht, hR, hC, hl⟩ := id hS
  have hO1 : rd h 1 = some (.inr (6, [.ref 2, .ref 6, .ref 9])) := hO1
  have hP : PA h 2 _ _ F S A := hP
  have hT : TA h 6 _ K U := hT
  have hR : RA h 9 _ C T := hR
  obtain ⟨-, -, -, -, lF, lS, lA⟩ := id hP
  obtain ⟨-, -, -, lK, lU⟩ := id hT
  obtain ⟨-, -, -, lC, lT⟩ := id hR
  obtain ⟨okc, ⟨okl, okw⟩, okn, ⟨okh, oke⟩, oki, okr⟩ := id ok
  obtain ⟨k1, k2, k3, k4, k5, k6, k7, k8, k9⟩ := id okc
  have hbn : bnd σ.1.1 σ.1.2.1 F S A := okc.bnd hf
  refine Ev.of pX8_at (Nat.le_of_ble_eq_true rfl) ?_
  show G mX8_at (rmD 3 0 0) none _ 0 0 0 [(0, .ref 0), (1, .int r), (2, .int c), (3, .int y)] [] h
  obtain ⟨nx1, o1⟩ := HR.o hH
  refine g_aload_n dX8_at_0 0 rfl ?_
  refine g_getf dX8_at_1 kX8 wfX8_10 (Nat.le_of_ble_eq_true rfl) (hO0) rfl ?_
  refine g_getf dX8_at_4 kX6 wfX8_173 (Nat.le_of_ble_eq_true rfl) (hO1) rfl ?_
  refine g_iload_n dX8_at_7 1 rfl ?_
  refine g_iload_n dX8_at_8 2 rfl ?_
  refine g_callVp dX8_at_9 (ev_rhas hR r c) oX4_has wiX4_has weX4_has wmX8_200 kX4 (hR.1) rfl ⟨(Nat.le_of_ble_eq_true rfl), (Nat.le_of_ble_eq_true rfl)⟩ ⟨Nat.zero_le _, Nat.zero_le _⟩ (Nat.le_of_ble_eq_true rfl) rfl ?_
  refine g_if_neB 21 dX8_at_12 (by decide) (fun c12 => ?_) (fun c12 => ?_)
  · have c12 := of_decide_eq_true c12
    refine g_iload_n dX8_at_21 3 rfl ?_
    refine g_if_lt 30 dX8_at_22 (by decide) (fun c22 => ?_) (fun c22 => ?_)
    · refine g_aload_n dX8_at_30 0 rfl ?_
      refine g_bipush (v := (-2)) dX8_at_31 (by decide +kernel) ?_
      rw [show oAt σ r c y = rfS σ (-2) from (if_pos c12).trans (if_pos (by first | exact Or.inl c22 | exact Or.inr c27))]
      refine g_callVq (st1 := [.int (-nI 2)]) dX8_at_33 (ev_refuse H ok 2 (by unfold noN; omega)) oX8_refuse wiX8_refuse weX8_refuse wmX8_68 kX8 (hO0) rfl ⟨(Nat.le_of_ble_eq_true rfl), (Nat.le_of_ble_eq_true rfl)⟩ ⟨Nat.zero_le _, Nat.zero_le _⟩ (Nat.le_of_ble_eq_true rfl) rfl rfl (fun h2 q2 => ?_)
      exact g_iret dX8_at_36 rfl ⟨Nat.zero_le _, Nat.zero_le _⟩ (⟨rfl, q2⟩)
    · refine g_iload_n dX8_at_25 3 rfl ?_
      refine g_iconst (v := nI 1) dX8_at_26 (by decide +kernel) ?_
      refine g_icmp_le 37 dX8_at_27 (by decide) (fun c27 => ?_) (fun c27 => ?_)
      · rw [show oAt σ r c y = (if σ.1.2.2.2.2.2 r.toNatClampNeg c.toNatClampNeg = 0 then -9 else nI (if y.toNatClampNeg = 0 then σ.1.2.2.2.2.2 r.toNatClampNeg c.toNatClampNeg / 14 else σ.1.2.2.2.2.2 r.toNatClampNeg c.toNatClampNeg % 14), σ) from (if_pos c12).trans (if_neg (fun z => by rcases z with z | z; exact c22 z; exact z c27))]
        obtain ⟨g1, g2, g3, g4⟩ := c12
        obtain ⟨r1, hr1, rfl⟩ := nn_of g1
        obtain ⟨c1, hc1, rfl⟩ := nn_of g3
        obtain ⟨y1, hy1, rfl⟩ := nn_of (Int32.not_lt.mp c22)
        rw [cl_ hr1, cl_ hc1, cl_ hy1]
        have g2 := nn_lt hr1 (by omega) g2
        have g4 := nn_lt hc1 (by omega) g4
        have g5 := pl_lt k2 g2 g4
        have g6 : σ.1.2.2.2.2.2 r1 c1 < 196 := by rw [← hC r1 c1 g2 g4]; exact hl _ g5
        have b2 : y1 ≤ 1 := (nI_leI hy1 (by omega)).mp c27
        refine g_aload_n dX8_at_37 0 rfl ?_
        refine g_getf dX8_at_38 kX8 wfX8_10 (Nat.le_of_ble_eq_true rfl) (hO0) rfl ?_
        refine g_getf dX8_at_41 kX6 wfX8_173 (Nat.le_of_ble_eq_true rfl) (hO1) rfl ?_
        refine g_getf dX8_at_44 kX4 wfX8_190 (Nat.le_of_ble_eq_true rfl) (hR.1) rfl ?_
        refine g_aload_n dX8_at_47 0 rfl ?_
        refine g_getf dX8_at_48 kX8 wfX8_10 (Nat.le_of_ble_eq_true rfl) (hO0) rfl ?_
        refine g_getf dX8_at_51 kX6 wfX8_173 (Nat.le_of_ble_eq_true rfl) (hO1) rfl ?_
        refine g_iload_n dX8_at_54 1 rfl ?_
        refine g_iload_n dX8_at_55 2 rfl ?_
        refine g_callVp dX8_at_56 (ev_placeOf hR r1 c1) oX4_placeOf wiX4_placeOf weX4_placeOf wmX8_187 kX4 (hR.1) rfl ⟨(Nat.le_of_ble_eq_true rfl), (Nat.le_of_ble_eq_true rfl)⟩ ⟨Nat.zero_le _, Nat.zero_le _⟩ (Nat.le_of_ble_eq_true rfl) rfl ?_
        refine g_ialN dX8_at_59 (hR.2.1) (by rw [lC]; exact g5) (by omega) ?_
        refine g_top (congrArg nI (hC r1 c1 g2 g4)) ?_
        refine g_istore (ls' := [(4, .int (nI (σ.1.2.2.2.2.2 r1 c1))), (0, .ref 0), (1, .int (nI r1)), (2, .int (nI c1)), (3, .int (nI y1))]) dX8_at_60 (Nat.le_of_ble_eq_true rfl) rfl ?_
        refine g_iload dX8_at_62 0 rfl ?_
        refine g_if_neN 70 dX8_at_64 (by decide) (by omega) (fun c64 => ?_) (fun c64 => ?_)
        · refine g_iload_n dX8_at_70 4 rfl ?_
          refine g_if_neN 82 dX8_at_71 (by decide) (by omega) (fun c71 => ?_) (fun c71 => ?_)
          · refine g_iload dX8_at_82 0 rfl ?_
            refine g_callSp dX8_at_84 (ev_greaterOf (σ.1.2.2.2.2.2 r1 c1) (by omega) _) oX4_greaterOf wsX4_greaterOf wmX8_206 rfl ⟨(Nat.le_of_ble_eq_true rfl), (Nat.le_of_ble_eq_true rfl)⟩ ⟨Nat.zero_le _, Nat.zero_le _⟩ (Nat.le_of_ble_eq_true rfl) rfl ?_
            exact g_iret dX8_at_87 rfl ⟨Nat.zero_le _, Nat.zero_le _⟩ (⟨by rw [if_neg (by omega), if_neg (by omega)], ⟨hO0, ⟨hO1, _, _, _, _, _, _, _, hP, hf, hT, ht, hR, hC, hl⟩, ⟨_, hI, hI2⟩, ⟨_, hDr⟩, hLt, hL, hH, ⟨⟨_, _, _, _, hX⟩, ⟨_, _, _, _, _, hXP⟩⟩, ⟨_, _, _, _, _, hTh⟩, ⟨_, _, _, _, _, hSp⟩, hRf⟩, Smo.rf⟩)
          · refine g_iload dX8_at_74 0 rfl ?_
            refine g_callSp dX8_at_76 (ev_lesserOf (σ.1.2.2.2.2.2 r1 c1) (by omega) _) oX4_lesserOf wsX4_lesserOf wmX8_203 rfl ⟨(Nat.le_of_ble_eq_true rfl), (Nat.le_of_ble_eq_true rfl)⟩ ⟨Nat.zero_le _, Nat.zero_le _⟩ (Nat.le_of_ble_eq_true rfl) rfl ?_
            refine g_goto 87 dX8_at_79 (by decide) ?_
            exact g_iret dX8_at_87 rfl ⟨Nat.zero_le _, Nat.zero_le _⟩ (⟨by rw [if_neg (by omega), if_pos c71], ⟨hO0, ⟨hO1, _, _, _, _, _, _, _, hP, hf, hT, ht, hR, hC, hl⟩, ⟨_, hI, hI2⟩, ⟨_, hDr⟩, hLt, hL, hH, ⟨⟨_, _, _, _, hX⟩, ⟨_, _, _, _, _, hXP⟩⟩, ⟨_, _, _, _, _, hTh⟩, ⟨_, _, _, _, _, hSp⟩, hRf⟩, Smo.rf⟩)
        · refine g_bipush (v := (-9)) dX8_at_67 (by decide +kernel) ?_
          exact g_iret dX8_at_69 rfl ⟨Nat.zero_le _, Nat.zero_le _⟩ (⟨by rw [if_pos c64], ⟨hO0, ⟨hO1, _, _, _, _, _, _, _, hP, hf, hT, ht, hR, hC, hl⟩, ⟨_, hI, hI2⟩, ⟨_, hDr⟩, hLt, hL, hH, ⟨⟨_, _, _, _, hX⟩, ⟨_, _, _, _, _, hXP⟩⟩, ⟨_, _, _, _, _, hTh⟩, ⟨_, _, _, _, _, hSp⟩, hRf⟩, Smo.rf⟩)
      · refine g_aload_n dX8_at_30 0 rfl ?_
        refine g_bipush (v := (-2)) dX8_at_31 (by decide +kernel) ?_
        rw [show oAt σ r c y = rfS σ (-2) from (if_pos c12).trans (if_pos (by first | exact Or.inl c22 | exact Or.inr c27))]
        refine g_callVq (st1 := [.int (-nI 2)]) dX8_at_33 (ev_refuse H ok 2 (by unfold noN; omega)) oX8_refuse wiX8_refuse weX8_refuse wmX8_68 kX8 (hO0) rfl ⟨(Nat.le_of_ble_eq_true rfl), (Nat.le_of_ble_eq_true rfl)⟩ ⟨Nat.zero_le _, Nat.zero_le _⟩ (Nat.le_of_ble_eq_true rfl) rfl rfl (fun h3 q3 => ?_)
        exact g_iret dX8_at_36 rfl ⟨Nat.zero_le _, Nat.zero_le _⟩ (⟨rfl, q3⟩)
  · refine g_aload_n dX8_at_15 0 rfl ?_
    refine g_iconst (v := (-1)) dX8_at_16 (by decide +kernel) ?_
    rw [show oAt σ r c y = rfS σ (-1) from if_neg (of_decide_eq_false c12)]
    refine g_callVq (st1 := [.int (-nI 1)]) dX8_at_17 (ev_refuse H ok 1 (by unfold noN; omega)) oX8_refuse wiX8_refuse weX8_refuse wmX8_68 kX8 (hO0) rfl ⟨(Nat.le_of_ble_eq_true rfl), (Nat.le_of_ble_eq_true rfl)⟩ ⟨Nat.zero_le _, Nat.zero_le _⟩ (Nat.le_of_ble_eq_true rfl) rfl rfl (fun h4 q4 => ?_)
    exact g_iret dX8_at_20 rfl ⟨Nat.zero_le _, Nat.zero_le _⟩ (⟨rfl, q4⟩)

set_option maxRecDepth 100000 in
set_option maxHeartbeats 4000000 in
theorem ev_x_faults {h : List aC} {σ : Sg} (H : RC h σ) (ok : okSg σ) (x k : Int32) : Ev mX8_faults 4 0 0 [.ref 0, .int x, .int k] h (sp h (oFaults σ x k)) := by
  obtain ⟨hO0, hS, ⟨ci, hI, hI2⟩, ⟨cd, hDr⟩, hLt, hL, hH, ⟨⟨sw_, sc_, sgs, sgk, hX⟩, ⟨xn, xm, xF, xS, xA, hXP⟩⟩, ⟨tn, tm, tF, tS, tA, hTh⟩, ⟨pn, pm, pF, pS, pA, hSp⟩, hRf⟩ := id H
  obtain ⟨hO1, F, S, A, K, U, C, T, hP, hf, hT, ht, hR, hC, hl⟩ := id hS
  have hO1 : rd h 1 = some (.inr (6, [.ref 2, .ref 6, .ref 9])) := hO1
  have hP : PA h 2 _ _ F S A := hP
  have hT : TA h 6 _ K U := hT
  have hR : RA h 9 _ C T := hR
  obtain ⟨-, -, -, -, lF, lS, lA⟩ := id hP
  obtain ⟨-, -, -, lK, lU⟩ := id hT
  obtain ⟨-, -, -, lC, lT⟩ := id hR
  obtain ⟨okc, ⟨okl, okw⟩, okn, ⟨okh, oke⟩, oki, okr⟩ := id ok
  obtain ⟨k1, k2, k3, k4, k5, k6, k7, k8, k9⟩ := id okc
  have hbn : bnd σ.1.1 σ.1.2.1 F S A := okc.bnd hf
  refine Ev.of pX8_faults (Nat.le_of_ble_eq_true rfl) ?_
  show G mX8_faults (rmD 4 0 0) none _ 0 0 0 [(0, .ref 0), (1, .int x), (2, .int k)] [] h
  obtain ⟨nx1, o1⟩ := HR.o hH
  refine g_iload_n dX8_faults_0 1 rfl ?_
  refine g_if_lt 9 dX8_faults_1 (by decide) (fun c1 => ?_) (fun c1 => ?_)
  · refine g_aload_n dX8_faults_9 0 rfl ?_
    refine g_bipush (v := (-2)) dX8_faults_10 (by decide +kernel) ?_
    rw [show oFaults σ x k = rfS σ (-2) from if_pos (by first | exact Or.inl c1 | exact Or.inr c6)]
    refine g_callVq (st1 := [.int (-nI 2)]) dX8_faults_12 (ev_refuse H ok 2 (by unfold noN; omega)) oX8_refuse wiX8_refuse weX8_refuse wmX8_68 kX8 (hO0) rfl ⟨(Nat.le_of_ble_eq_true rfl), (Nat.le_of_ble_eq_true rfl)⟩ ⟨Nat.zero_le _, Nat.zero_le _⟩ (Nat.le_of_ble_eq_true rfl) rfl rfl (fun h2 q2 => ?_)
    exact g_iret dX8_faults_15 rfl ⟨Nat.zero_le _, Nat.zero_le _⟩ (⟨rfl, q2⟩)
  · refine g_iload_n dX8_faults_4 1 rfl ?_
    refine g_iconst (v := nI 2) dX8_faults_5 (by decide +kernel) ?_
    refine g_icmp_le 16 dX8_faults_6 (by decide) (fun c6 => ?_) (fun c6 => ?_)
    · rw [show oFaults σ x k = _ from if_neg (fun z => by rcases z with z | z; exact c1 z; exact z c6)]
      obtain ⟨x1, hx1, rfl⟩ := nn_of (Int32.not_lt.mp c1)
      rw [cl_ hx1]
      have b2 : x1 ≤ 2 := (nI_leI hx1 (by omega)).mp c6
      refine g_iload_n dX8_faults_16 1 rfl ?_
      refine g_iconst (v := nI 2) dX8_faults_17 (by decide +kernel) ?_
      refine g_icmp_neN 32 dX8_faults_18 (by decide) (by omega) (by omega) (fun c18 => ?_) (fun c18 => ?_)
      · rw [if_neg c18]
        refine g_iload_n dX8_faults_32 2 rfl ?_
        refine g_if_lt 50 dX8_faults_33 (by decide) (fun c33 => ?_) (fun c33 => ?_)
        · refine g_aload_n dX8_faults_50 0 rfl ?_
          refine g_iconst (v := (-1)) dX8_faults_51 (by decide +kernel) ?_
          rw [if_pos (show k < 0 ∨ ¬ k < nI σ.1.1 by first | exact Or.inl c33 | exact Or.inr c47)]
          refine g_callVq (st1 := [.int (-nI 1)]) dX8_faults_52 (ev_refuse H ok 1 (by unfold noN; omega)) oX8_refuse wiX8_refuse weX8_refuse wmX8_68 kX8 (hO0) rfl ⟨(Nat.le_of_ble_eq_true rfl), (Nat.le_of_ble_eq_true rfl)⟩ ⟨Nat.zero_le _, Nat.zero_le _⟩ (Nat.le_of_ble_eq_true rfl) rfl rfl (fun h3 q3 => ?_)
          exact g_iret dX8_faults_55 rfl ⟨Nat.zero_le _, Nat.zero_le _⟩ (⟨rfl, q3⟩)
        · refine g_iload_n dX8_faults_36 2 rfl ?_
          refine g_aload_n dX8_faults_37 0 rfl ?_
          refine g_getf dX8_faults_38 kX8 wfX8_10 (Nat.le_of_ble_eq_true rfl) (hO0) rfl ?_
          refine g_getf dX8_faults_41 kX6 wfX8_173 (Nat.le_of_ble_eq_true rfl) (hO1) rfl ?_
          refine g_getf dX8_faults_44 kX4 wfX8_212 (Nat.le_of_ble_eq_true rfl) (hR.1) rfl ?_
          refine g_icmp_lt 56 dX8_faults_47 (by decide) (fun c47 => ?_) (fun c47 => ?_)
          · rw [if_neg (show ¬ (k < 0 ∨ ¬ k < nI σ.1.1) from (fun z => by rcases z with z | z; exact c33 z; exact z c47))]
            obtain ⟨k1, hk1, rfl⟩ := nn_of (Int32.not_lt.mp c33)
            rw [cl_ hk1]
            have b3 := nn_lt hk1 (by omega) c47
            refine g_aload_n dX8_faults_56 0 rfl ?_
            refine g_getf dX8_faults_57 kX8 wfX8_10 (Nat.le_of_ble_eq_true rfl) (hO0) rfl ?_
            refine g_getf dX8_faults_60 kX6 wfX8_173 (Nat.le_of_ble_eq_true rfl) (hO1) rfl ?_
            refine g_iload_n dX8_faults_63 1 rfl ?_
            refine g_if_neN 71 dX8_faults_64 (by decide) (by omega) (fun c64 => ?_) (fun c64 => ?_)
            · refine g_iconst (v := nI 0) dX8_faults_71 (by decide +kernel) ?_
              refine g_iload_n dX8_faults_72 2 rfl ?_
              refine g_callVp dX8_faults_73 (ev_lineC hR k2 hl (okC_of hC k8) k1 b3) oX4_faultsOfLine wiX4_faultsOfLine weX4_faultsOfLine wmX8_215 kX4 (hR.1) rfl ⟨(Nat.le_of_ble_eq_true rfl), (Nat.le_of_ble_eq_true rfl)⟩ ⟨Nat.zero_le _, Nat.zero_le _⟩ (Nat.le_of_ble_eq_true rfl) rfl ?_
              refine g_top (congrArg nI (col_eq hC b3)) ?_
              exact g_iret dX8_faults_76 rfl ⟨Nat.zero_le _, Nat.zero_le _⟩ (⟨by rw [if_neg (by omega)], ⟨hO0, ⟨hO1, _, _, _, _, _, _, _, hP, hf, hT, ht, hR, hC, hl⟩, ⟨_, hI, hI2⟩, ⟨_, hDr⟩, hLt, hL, hH, ⟨⟨_, _, _, _, hX⟩, ⟨_, _, _, _, _, hXP⟩⟩, ⟨_, _, _, _, _, hTh⟩, ⟨_, _, _, _, _, hSp⟩, hRf⟩, Smo.rf⟩)
            · refine g_iconst (v := nI 1) dX8_faults_67 (by decide +kernel) ?_
              refine g_goto 72 dX8_faults_68 (by decide) ?_
              refine g_iload_n dX8_faults_72 2 rfl ?_
              refine g_callVp dX8_faults_73 (ev_lineR hR k2 hl (okC_of hC k8) k1 b3) oX4_faultsOfLine wiX4_faultsOfLine weX4_faultsOfLine wmX8_215 kX4 (hR.1) rfl ⟨(Nat.le_of_ble_eq_true rfl), (Nat.le_of_ble_eq_true rfl)⟩ ⟨Nat.zero_le _, Nat.zero_le _⟩ (Nat.le_of_ble_eq_true rfl) rfl ?_
              refine g_top (congrArg nI (row_eq hC b3)) ?_
              exact g_iret dX8_faults_76 rfl ⟨Nat.zero_le _, Nat.zero_le _⟩ (⟨by rw [if_pos c64], ⟨hO0, ⟨hO1, _, _, _, _, _, _, _, hP, hf, hT, ht, hR, hC, hl⟩, ⟨_, hI, hI2⟩, ⟨_, hDr⟩, hLt, hL, hH, ⟨⟨_, _, _, _, hX⟩, ⟨_, _, _, _, _, hXP⟩⟩, ⟨_, _, _, _, _, hTh⟩, ⟨_, _, _, _, _, hSp⟩, hRf⟩, Smo.rf⟩)
          · refine g_aload_n dX8_faults_50 0 rfl ?_
            refine g_iconst (v := (-1)) dX8_faults_51 (by decide +kernel) ?_
            rw [if_pos (show k < 0 ∨ ¬ k < nI σ.1.1 by first | exact Or.inl c33 | exact Or.inr c47)]
            refine g_callVq (st1 := [.int (-nI 1)]) dX8_faults_52 (ev_refuse H ok 1 (by unfold noN; omega)) oX8_refuse wiX8_refuse weX8_refuse wmX8_68 kX8 (hO0) rfl ⟨(Nat.le_of_ble_eq_true rfl), (Nat.le_of_ble_eq_true rfl)⟩ ⟨Nat.zero_le _, Nat.zero_le _⟩ (Nat.le_of_ble_eq_true rfl) rfl rfl (fun h4 q4 => ?_)
            exact g_iret dX8_faults_55 rfl ⟨Nat.zero_le _, Nat.zero_le _⟩ (⟨rfl, q4⟩)
      · rw [if_pos c18]
        refine g_aload_n dX8_faults_21 0 rfl ?_
        refine g_getf dX8_faults_22 kX8 wfX8_10 (Nat.le_of_ble_eq_true rfl) (hO0) rfl ?_
        refine g_getf dX8_faults_25 kX6 wfX8_173 (Nat.le_of_ble_eq_true rfl) (hO1) rfl ?_
        refine g_callVq (st1 := [.int (nI (σ.1.1 * (σ.1.1 + 1) / 2) - nI (sumN (onceN C σ.1.1) 195))]) dX8_faults_28 (ev_pairFaults hR k2 hl) oX4_faultsOfPairs wiX4_faultsOfPairs weX4_faultsOfPairs wmX8_209 kX4 (hR.1) rfl ⟨(Nat.le_of_ble_eq_true rfl), (Nat.le_of_ble_eq_true rfl)⟩ ⟨Nat.zero_le _, Nat.zero_le _⟩ (Nat.le_of_ble_eq_true rfl) rfl rfl (fun h5 q5 => ?_)
        obtain ⟨T2, q5a, q5s⟩ := q5
        have b5_2 := hP.mv q5s (by omega)
        have b5_6 := hT.mv q5s (by omega)
        have b5_12 := hI.mv q5s (by omega)
        have b5_23 := hDr.mv q5s (by omega)
        have b5_42 := hH.mv q5s (by omega)
        obtain ⟨nx6, o6⟩ := HR.o b5_42
        have b5_34 := hLt.mv q5s (by omega)
        have b5_36 := hL.mv q5s (by omega)
        have b5_84 := hX.mv q5s (by omega)
        have b5_85 := hXP.mv q5s (by omega)
        have b5_89 := hTh.mv q5s (by omega)
        have b5_93 := hSp.mv q5s (by omega)
        have f5_0 : rd h5 0 = some (.inr (8, [.ref 1, .ref 12, .ref 23, .int (nI (bI σ.2.2.2.2.1.isSome)), .ref 34, .ref 36, .ref 42, .ref 84, .ref 89, .ref 93, .ref 97])) := by rw [q5s _ (by omega)]; exact hO0
        have f5_1 : rd h5 1 = some (.inr (6, [.ref 2, .ref 6, .ref 9])) := by rw [q5s _ (by omega)]; exact hO1
        have f5_97 : rd h5 97 = some (.inl (σ.2.2.2.2.2)) := by rw [q5s _ (by omega)]; exact hRf
        refine g_top (pf_eq hC) ?_
        exact g_iret dX8_faults_31 rfl ⟨Nat.zero_le _, Nat.zero_le _⟩ (⟨rfl, ⟨f5_0, ⟨f5_1, _, _, _, _, _, _, _, b5_2, hf, b5_6, ht, q5a, hC, hl⟩, ⟨_, b5_12, hI2⟩, ⟨_, b5_23⟩, b5_34, b5_36, b5_42, ⟨⟨_, _, _, _, b5_84⟩, ⟨_, _, _, _, _, b5_85⟩⟩, ⟨_, _, _, _, _, b5_89⟩, ⟨_, _, _, _, _, b5_93⟩, f5_97⟩, (fun q hq => by rw [q5s q (by omega)])⟩)
    · refine g_aload_n dX8_faults_9 0 rfl ?_
      refine g_bipush (v := (-2)) dX8_faults_10 (by decide +kernel) ?_
      rw [show oFaults σ x k = rfS σ (-2) from if_pos (by first | exact Or.inl c1 | exact Or.inr c6)]
      refine g_callVq (st1 := [.int (-nI 2)]) dX8_faults_12 (ev_refuse H ok 2 (by unfold noN; omega)) oX8_refuse wiX8_refuse weX8_refuse wmX8_68 kX8 (hO0) rfl ⟨(Nat.le_of_ble_eq_true rfl), (Nat.le_of_ble_eq_true rfl)⟩ ⟨Nat.zero_le _, Nat.zero_le _⟩ (Nat.le_of_ble_eq_true rfl) rfl rfl (fun h7 q7 => ?_)
      exact g_iret dX8_faults_15 rfl ⟨Nat.zero_le _, Nat.zero_le _⟩ (⟨rfl, q7⟩)

set_option maxRecDepth 100000 in
set_option maxHeartbeats 4000000 in
theorem ev_x_indeed {h : List aC} {σ : Sg} (H : RC h σ) (ok : okSg σ) : Ev mX8_indeed 5 0 0 [.ref 0] h (sp h (oIndeed σ)) := by
  obtain ⟨hO0, hS, ⟨ci, hI, hI2⟩, ⟨cd, hDr⟩, hLt, hL, hH, ⟨⟨sw_, sc_, sgs, sgk, hX⟩, ⟨xn, xm, xF, xS, xA, hXP⟩⟩, ⟨tn, tm, tF, tS, tA, hTh⟩, ⟨pn, pm, pF, pS, pA, hSp⟩, hRf⟩ := id H
  obtain ⟨hO1, F, S, A, K, U, C, T, hP, hf, hT, ht, hR, hC, hl⟩ := id hS
  have hO1 : rd h 1 = some (.inr (6, [.ref 2, .ref 6, .ref 9])) := hO1
  have hP : PA h 2 _ _ F S A := hP
  have hT : TA h 6 _ K U := hT
  have hR : RA h 9 _ C T := hR
  obtain ⟨-, -, -, -, lF, lS, lA⟩ := id hP
  obtain ⟨-, -, -, lK, lU⟩ := id hT
  obtain ⟨-, -, -, lC, lT⟩ := id hR
  obtain ⟨okc, ⟨okl, okw⟩, okn, ⟨okh, oke⟩, oki, okr⟩ := id ok
  obtain ⟨k1, k2, k3, k4, k5, k6, k7, k8, k9⟩ := id okc
  have hbn : bnd σ.1.1 σ.1.2.1 F S A := okc.bnd hf
  refine Ev.of pX8_indeed (Nat.le_of_ble_eq_true rfl) ?_
  show G mX8_indeed (rmD 5 0 0) none _ 0 0 0 [(0, .ref 0)] [] h
  obtain ⟨nx1, o1⟩ := HR.o hH
  refine g_aload_n dX8_indeed_0 0 rfl ?_
  refine g_getf dX8_indeed_1 kX8 wfX8_10 (Nat.le_of_ble_eq_true rfl) (hO0) rfl ?_
  refine g_getf dX8_indeed_4 kX6 wfX8_173 (Nat.le_of_ble_eq_true rfl) (hO1) rfl ?_
  refine g_callVq (st1 := [.int (nI (bI (inB C σ.1.1)))]) dX8_indeed_7 (ev_indeed hR k2 hl (okC_of hC k8)) oX4_isIndeed wiX4_isIndeed weX4_isIndeed wmX8_219 kX4 (hR.1) rfl ⟨(Nat.le_of_ble_eq_true rfl), (Nat.le_of_ble_eq_true rfl)⟩ ⟨Nat.zero_le _, Nat.zero_le _⟩ (Nat.le_of_ble_eq_true rfl) rfl rfl (fun h2 q2 => ?_)
  obtain ⟨T2, q2a, q2s⟩ := q2
  have b2_2 := hP.mv q2s (by omega)
  have b2_6 := hT.mv q2s (by omega)
  have b2_12 := hI.mv q2s (by omega)
  have b2_23 := hDr.mv q2s (by omega)
  have b2_42 := hH.mv q2s (by omega)
  obtain ⟨nx3, o3⟩ := HR.o b2_42
  have b2_34 := hLt.mv q2s (by omega)
  have b2_36 := hL.mv q2s (by omega)
  have b2_84 := hX.mv q2s (by omega)
  have b2_85 := hXP.mv q2s (by omega)
  have b2_89 := hTh.mv q2s (by omega)
  have b2_93 := hSp.mv q2s (by omega)
  have f2_0 : rd h2 0 = some (.inr (8, [.ref 1, .ref 12, .ref 23, .int (nI (bI σ.2.2.2.2.1.isSome)), .ref 34, .ref 36, .ref 42, .ref 84, .ref 89, .ref 93, .ref 97])) := by rw [q2s _ (by omega)]; exact hO0
  have f2_1 : rd h2 1 = some (.inr (6, [.ref 2, .ref 6, .ref 9])) := by rw [q2s _ (by omega)]; exact hO1
  have f2_97 : rd h2 97 = some (.inl (σ.2.2.2.2.2)) := by rw [q2s _ (by omega)]; exact hRf
  refine g_top (congrArg (fun z => nI (bI z)) (in_eq hC)) ?_
  refine g_callSp dX8_indeed_10 (ev_bit (inR σ.1.1 σ.1.2.2.2.2.2) _) oX8_bit wsX8_bit wmX8_136 rfl ⟨(Nat.le_of_ble_eq_true rfl), (Nat.le_of_ble_eq_true rfl)⟩ ⟨Nat.zero_le _, Nat.zero_le _⟩ (Nat.le_of_ble_eq_true rfl) rfl ?_
  exact g_iret dX8_indeed_13 rfl ⟨Nat.zero_le _, Nat.zero_le _⟩ (⟨rfl, ⟨f2_0, ⟨f2_1, _, _, _, _, _, _, _, b2_2, hf, b2_6, ht, q2a, hC, hl⟩, ⟨_, b2_12, hI2⟩, ⟨_, b2_23⟩, b2_34, b2_36, b2_42, ⟨⟨_, _, _, _, b2_84⟩, ⟨_, _, _, _, _, b2_85⟩⟩, ⟨_, _, _, _, _, b2_89⟩, ⟨_, _, _, _, _, b2_93⟩, f2_97⟩, (fun q hq => by rw [q2s q (by omega)])⟩)

set_option maxRecDepth 100000 in
set_option maxHeartbeats 4000000 in
theorem ev_x_faced {h : List aC} {σ : Sg} (H : RC h σ) (ok : okSg σ) : Ev mX8_faced 4 0 0 [.ref 0] h (sp h (oFaced σ)) := by
  obtain ⟨hO0, hS, ⟨ci, hI, hI2⟩, ⟨cd, hDr⟩, hLt, hL, hH, ⟨⟨sw_, sc_, sgs, sgk, hX⟩, ⟨xn, xm, xF, xS, xA, hXP⟩⟩, ⟨tn, tm, tF, tS, tA, hTh⟩, ⟨pn, pm, pF, pS, pA, hSp⟩, hRf⟩ := id H
  obtain ⟨hO1, F, S, A, K, U, C, T, hP, hf, hT, ht, hR, hC, hl⟩ := id hS
  have hO1 : rd h 1 = some (.inr (6, [.ref 2, .ref 6, .ref 9])) := hO1
  have hP : PA h 2 _ _ F S A := hP
  have hT : TA h 6 _ K U := hT
  have hR : RA h 9 _ C T := hR
  obtain ⟨-, -, -, -, lF, lS, lA⟩ := id hP
  obtain ⟨-, -, -, lK, lU⟩ := id hT
  obtain ⟨-, -, -, lC, lT⟩ := id hR
  obtain ⟨okc, ⟨okl, okw⟩, okn, ⟨okh, oke⟩, oki, okr⟩ := id ok
  obtain ⟨k1, k2, k3, k4, k5, k6, k7, k8, k9⟩ := id okc
  have hbn : bnd σ.1.1 σ.1.2.1 F S A := okc.bnd hf
  refine Ev.of pX8_faced (Nat.le_of_ble_eq_true rfl) ?_
  show G mX8_faced (rmD 4 0 0) none _ 0 0 0 [(0, .ref 0)] [] h
  obtain ⟨nx1, o1⟩ := HR.o hH
  refine g_aload_n dX8_faced_0 0 rfl ?_
  refine g_getf dX8_faced_1 kX8 wfX8_10 (Nat.le_of_ble_eq_true rfl) (hO0) rfl ?_
  refine g_getf dX8_faced_4 kX6 wfX8_173 (Nat.le_of_ble_eq_true rfl) (hO1) rfl ?_
  refine g_callVp dX8_faced_7 (ev_facing hR k2 hl) oX4_facing wiX4_facing weX4_facing wmX8_222 kX4 (hR.1) rfl ⟨(Nat.le_of_ble_eq_true rfl), (Nat.le_of_ble_eq_true rfl)⟩ ⟨Nat.zero_le _, Nat.zero_le _⟩ (Nat.le_of_ble_eq_true rfl) rfl ?_
  refine g_top (congrArg nI (face_eq hC)) ?_
  exact g_iret dX8_faced_10 rfl ⟨Nat.zero_le _, Nat.zero_le _⟩ (⟨rfl, ⟨hO0, ⟨hO1, _, _, _, _, _, _, _, hP, hf, hT, ht, hR, hC, hl⟩, ⟨_, hI, hI2⟩, ⟨_, hDr⟩, hLt, hL, hH, ⟨⟨_, _, _, _, hX⟩, ⟨_, _, _, _, _, hXP⟩⟩, ⟨_, _, _, _, _, hTh⟩, ⟨_, _, _, _, _, hSp⟩, hRf⟩, Smo.rf⟩)

set_option maxRecDepth 100000 in
set_option maxHeartbeats 4000000 in
theorem ev_x_where {h : List aC} {σ : Sg} (H : RC h σ) (ok : okSg σ) (x y : Int32) : Ev mX8_where 3 0 0 [.ref 0, .int x, .int y] h (sp h (oWhere σ x y)) := by
  obtain ⟨hO0, hS, ⟨ci, hI, hI2⟩, ⟨cd, hDr⟩, hLt, hL, hH, ⟨⟨sw_, sc_, sgs, sgk, hX⟩, ⟨xn, xm, xF, xS, xA, hXP⟩⟩, ⟨tn, tm, tF, tS, tA, hTh⟩, ⟨pn, pm, pF, pS, pA, hSp⟩, hRf⟩ := id H
  obtain ⟨hO1, F, S, A, K, U, C, T, hP, hf, hT, ht, hR, hC, hl⟩ := id hS
  have hO1 : rd h 1 = some (.inr (6, [.ref 2, .ref 6, .ref 9])) := hO1
  have hP : PA h 2 _ _ F S A := hP
  have hT : TA h 6 _ K U := hT
  have hR : RA h 9 _ C T := hR
  obtain ⟨-, -, -, -, lF, lS, lA⟩ := id hP
  obtain ⟨-, -, -, lK, lU⟩ := id hT
  obtain ⟨-, -, -, lC, lT⟩ := id hR
  obtain ⟨okc, ⟨okl, okw⟩, okn, ⟨okh, oke⟩, oki, okr⟩ := id ok
  obtain ⟨k1, k2, k3, k4, k5, k6, k7, k8, k9⟩ := id okc
  have hbn : bnd σ.1.1 σ.1.2.1 F S A := okc.bnd hf
  refine Ev.of pX8_where (Nat.le_of_ble_eq_true rfl) ?_
  show G mX8_where (rmD 3 0 0) none _ 0 0 0 [(0, .ref 0), (1, .int x), (2, .int y)] [] h
  obtain ⟨nx1, o1⟩ := HR.o hH
  refine g_aload_n dX8_where_0 0 rfl ?_
  refine g_getf dX8_where_1 kX8 wfX8_10 (Nat.le_of_ble_eq_true rfl) (hO0) rfl ?_
  refine g_getf dX8_where_4 kX6 wfX8_173 (Nat.le_of_ble_eq_true rfl) (hO1) rfl ?_
  refine g_getf dX8_where_7 kX4 wfX8_212 (Nat.le_of_ble_eq_true rfl) (hR.1) rfl ?_
  refine g_istore_n (ls' := [(3, .int (nI σ.1.1)), (0, .ref 0), (1, .int x), (2, .int y)]) dX8_where_10 (Nat.le_of_ble_eq_true rfl) rfl ?_
  refine g_iload_n dX8_where_11 2 rfl ?_
  refine g_if_lt 19 dX8_where_12 (by decide) (fun c12 => ?_) (fun c12 => ?_)
  · refine g_aload_n dX8_where_19 1 rfl ?_
    refine g_bipush (v := (-4)) dX8_where_20 (by decide +kernel) ?_
    rw [show oWhere σ x y = rfS σ (-4) from if_pos (by first | exact Or.inl c12 | exact Or.inr c16)]
    refine g_callVq (st1 := [.int (-nI 4)]) dX8_where_22 (ev_refuse H ok 4 (by unfold noN; omega)) oX8_refuse wiX8_refuse weX8_refuse wmX8_68 kX8 (hO0) rfl ⟨(Nat.le_of_ble_eq_true rfl), (Nat.le_of_ble_eq_true rfl)⟩ ⟨Nat.zero_le _, Nat.zero_le _⟩ (Nat.le_of_ble_eq_true rfl) rfl rfl (fun h2 q2 => ?_)
    exact g_iret dX8_where_25 rfl ⟨Nat.zero_le _, Nat.zero_le _⟩ (⟨rfl, q2⟩)
  · refine g_iload_n dX8_where_15 3 rfl ?_
    refine g_if_ge 26 dX8_where_16 (by decide) (fun c16 => ?_) (fun c16 => ?_)
    · rw [show oWhere σ x y = _ from if_neg (fun z => by rcases z with z | z; exact c12 z; exact z c16)]
      refine g_iload_n dX8_where_26 2 rfl ?_
      refine g_iload_n dX8_where_27 0 rfl ?_
      refine g_icmp_gt 36 dX8_where_28 (by decide) (fun c28 => ?_) (fun c28 => ?_)
      · refine g_aload_n dX8_where_36 1 rfl ?_
        refine g_bipush (v := (-6)) dX8_where_37 (by decide +kernel) ?_
        rw [if_pos (show nI σ.1.1 < x ∨ ¬ y ≤ nI σ.1.1 by first | exact Or.inl c28 | exact Or.inr c33)]
        refine g_callVq (st1 := [.int (-nI 6)]) dX8_where_39 (ev_refuse H ok 6 (by unfold noN; omega)) oX8_refuse wiX8_refuse weX8_refuse wmX8_68 kX8 (hO0) rfl ⟨(Nat.le_of_ble_eq_true rfl), (Nat.le_of_ble_eq_true rfl)⟩ ⟨Nat.zero_le _, Nat.zero_le _⟩ (Nat.le_of_ble_eq_true rfl) rfl rfl (fun h3 q3 => ?_)
        exact g_iret dX8_where_42 rfl ⟨Nat.zero_le _, Nat.zero_le _⟩ (⟨rfl, q3⟩)
      · refine g_iload_n dX8_where_31 3 rfl ?_
        refine g_iload_n dX8_where_32 0 rfl ?_
        refine g_icmp_le 43 dX8_where_33 (by decide) (fun c33 => ?_) (fun c33 => ?_)
        · rw [if_neg (show ¬ (nI σ.1.1 < x ∨ ¬ y ≤ nI σ.1.1) from (fun z => by rcases z with z | z; exact c28 z; exact z c33))]
          refine g_iload_n dX8_where_43 2 rfl ?_
          refine g_iload_n dX8_where_44 3 rfl ?_
          refine g_icmp_ne 55 dX8_where_45 (by decide) (fun c45 => ?_) (fun c45 => ?_)
          · rw [if_neg c45]
            clear c45
            obtain ⟨x1, hx1, rfl⟩ := nn_of (Int32.not_lt.mp c12)
            obtain ⟨y1, hy1, rfl⟩ := nn_of c16
            rw [cl_ hx1, cl_ hy1]
            have b1 := nn_lt (k := σ.1.1) (b := x1) (by omega) hx1
            rw [nI_ltI (by omega) hx1] at c28
            have b2 := (nI_leI hy1 (by omega)).mp c33
            refine g_aload_n dX8_where_55 1 rfl ?_
            refine g_getf dX8_where_56 kX8 wfX8_10 (Nat.le_of_ble_eq_true rfl) (hO0) rfl ?_
            refine g_getf dX8_where_59 kX6 wfX8_173 (Nat.le_of_ble_eq_true rfl) (hO1) rfl ?_
            refine g_iload_n dX8_where_62 2 rfl ?_
            refine g_iload_n dX8_where_63 3 rfl ?_
            refine g_callSp dX8_where_64 (ev_codeOf x1 y1 (by omega) (by omega) _) oX4_codeOf wsX4_codeOf wmX8_197 rfl ⟨(Nat.le_of_ble_eq_true rfl), (Nat.le_of_ble_eq_true rfl)⟩ ⟨Nat.zero_le _, Nat.zero_le _⟩ (Nat.le_of_ble_eq_true rfl) rfl ?_
            have b5 : cod x1 y1 < 196 := cod_lt (by omega) (by omega)
            refine g_callVp dX8_where_67 (ev_firstOf hR k2 hl (cod x1 y1) (by omega)) oX4_firstOf wiX4_firstOf weX4_firstOf wmX8_225 kX4 (hR.1) rfl ⟨(Nat.le_of_ble_eq_true rfl), (Nat.le_of_ble_eq_true rfl)⟩ ⟨Nat.zero_le _, Nat.zero_le _⟩ (Nat.le_of_ble_eq_true rfl) rfl ?_
            refine g_top (congrArg oI (fst_eq hC _)) ?_
            exact g_iret dX8_where_70 rfl ⟨Nat.zero_le _, Nat.zero_le _⟩ (⟨rfl, ⟨hO0, ⟨hO1, _, _, _, _, _, _, _, hP, hf, hT, ht, hR, hC, hl⟩, ⟨_, hI, hI2⟩, ⟨_, hDr⟩, hLt, hL, hH, ⟨⟨_, _, _, _, hX⟩, ⟨_, _, _, _, _, hXP⟩⟩, ⟨_, _, _, _, _, hTh⟩, ⟨_, _, _, _, _, hSp⟩, hRf⟩, Smo.rf⟩)
          · refine g_aload_n dX8_where_48 1 rfl ?_
            refine g_bipush (v := (-3)) dX8_where_49 (by decide +kernel) ?_
            rw [if_pos c45]
            refine g_callVq (st1 := [.int (-nI 3)]) dX8_where_51 (ev_refuse H ok 3 (by unfold noN; omega)) oX8_refuse wiX8_refuse weX8_refuse wmX8_68 kX8 (hO0) rfl ⟨(Nat.le_of_ble_eq_true rfl), (Nat.le_of_ble_eq_true rfl)⟩ ⟨Nat.zero_le _, Nat.zero_le _⟩ (Nat.le_of_ble_eq_true rfl) rfl rfl (fun h4 q4 => ?_)
            exact g_iret dX8_where_54 rfl ⟨Nat.zero_le _, Nat.zero_le _⟩ (⟨rfl, q4⟩)
        · refine g_aload_n dX8_where_36 1 rfl ?_
          refine g_bipush (v := (-6)) dX8_where_37 (by decide +kernel) ?_
          rw [if_pos (show nI σ.1.1 < x ∨ ¬ y ≤ nI σ.1.1 by first | exact Or.inl c28 | exact Or.inr c33)]
          refine g_callVq (st1 := [.int (-nI 6)]) dX8_where_39 (ev_refuse H ok 6 (by unfold noN; omega)) oX8_refuse wiX8_refuse weX8_refuse wmX8_68 kX8 (hO0) rfl ⟨(Nat.le_of_ble_eq_true rfl), (Nat.le_of_ble_eq_true rfl)⟩ ⟨Nat.zero_le _, Nat.zero_le _⟩ (Nat.le_of_ble_eq_true rfl) rfl rfl (fun h5 q5 => ?_)
          exact g_iret dX8_where_42 rfl ⟨Nat.zero_le _, Nat.zero_le _⟩ (⟨rfl, q5⟩)
    · refine g_aload_n dX8_where_19 1 rfl ?_
      refine g_bipush (v := (-4)) dX8_where_20 (by decide +kernel) ?_
      rw [show oWhere σ x y = rfS σ (-4) from if_pos (by first | exact Or.inl c12 | exact Or.inr c16)]
      refine g_callVq (st1 := [.int (-nI 4)]) dX8_where_22 (ev_refuse H ok 4 (by unfold noN; omega)) oX8_refuse wiX8_refuse weX8_refuse wmX8_68 kX8 (hO0) rfl ⟨(Nat.le_of_ble_eq_true rfl), (Nat.le_of_ble_eq_true rfl)⟩ ⟨Nat.zero_le _, Nat.zero_le _⟩ (Nat.le_of_ble_eq_true rfl) rfl rfl (fun h6 q6 => ?_)
      exact g_iret dX8_where_25 rfl ⟨Nat.zero_le _, Nat.zero_le _⟩ (⟨rfl, q6⟩)
