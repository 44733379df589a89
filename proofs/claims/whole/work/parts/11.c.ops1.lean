def oLetter (σ : Sg) (x : Int32) : Int32 × Sg := if 0 ≤ x then (if nI 255 < x ∨ 72 ≤ σ.2.1.1 then rfS σ (-6) else (nI (σ.2.1.1 + 1), (σ.1, (σ.2.1.1 + 1, σ.2.1.2.set σ.2.1.1 x.toNatClampNeg), σ.2.2))) else rfS σ (-4)
def oSize (σ : Sg) (x : Int32) : Int32 × Sg := if rSize x = 0 then (nI σ.1.1, ((x.toNatClampNeg, 0, σ.1.2.2.1, 0, σ.1.2.2.2.2.1, fun _ _ => 0), σ.2.1, σ.2.2.1, [], σ.2.2.2.2)) else rfS σ (rSize x)
def oPair (σ : Sg) (x y : Int32) : Int32 × Sg := if rPair σ.1.1 σ.1.2.1 x y = 0 then (nI σ.1.2.1, ((σ.1.1, σ.1.2.1 + 1, upF σ.1.2.2.1 σ.1.2.1 (x.toNatClampNeg, y.toNatClampNeg, 0), σ.1.2.2.2), σ.2.1, σ.2.2.1, [], σ.2.2.2.2)) else rfS σ (rPair σ.1.1 σ.1.2.1 x y)
def oDrop (σ : Sg) : Int32 × Sg := if σ.1.2.1 < 1 then rfS σ (-3) else (nI (σ.1.2.1 - 1), ((σ.1.1, σ.1.2.1 - 1, σ.1.2.2.1, σ.1.2.2.2), σ.2.1, σ.2.2.1, [], σ.2.2.2.2))
def oAdder (σ : Sg) (x y : Int32) : Int32 × Sg := if rAdder σ.1.1 σ.1.2.1 x y = 0 then (nI (σ.1.2.2.1 x.toNatClampNeg).2.2, ((σ.1.1, σ.1.2.1, upF σ.1.2.2.1 x.toNatClampNeg ((σ.1.2.2.1 x.toNatClampNeg).1, (σ.1.2.2.1 x.toNatClampNeg).2.1, y.toNatClampNeg), σ.1.2.2.2), σ.2.1, σ.2.2.1, (σ.1.2.2.1, σ.1.2.2.2.2.2) :: σ.2.2.2.1.take 11, σ.2.2.2.2)) else rfS σ (rAdder σ.1.1 σ.1.2.1 x y)
theorem HR.o {h : List aC} {n m : Nat} {rm : Nat → Nat → Nat} {hi : List Hs} (H : HR h n m rm hi) : ∃ nx, rd h 42 = some (.inr (0, [.ref 43, .ref 56, .ref 69, .ref 82, .ref 83, .int (nI nx), .int (nI hi.length)])) := by
  obtain ⟨h1, nx, HF, HS, HD, PL, CO, hA, h2, h3⟩ := H
  exact ⟨nx, hA.1⟩
theorem nn_neg {r : Int32} (h : isNo r) (h0 : r = 0) : r = nI 0 := h0
theorem cl_ {k : Nat} (h : k < 2 ^ 31) : (nI k).toNatClampNeg = k := nI_clamp h

set_option maxRecDepth 100000 in
set_option maxHeartbeats 4000000 in
theorem ev_x_letter {h : List aC} {σ : Sg} (H : RC h σ) (ok : okSg σ) (x : Int32) : Ev mX8_letter 2 0 0 [.ref 0, .int x] h (sp h (oLetter σ x)) := by
  obtain ⟨hO0, hS, ⟨ci, hI, hI2⟩, ⟨cd, hDr⟩, hLt, hL, hH, ⟨⟨sw_, sc_, sgs, sgk, hX⟩, ⟨xn, xm, xF, xS, xA, hXP⟩⟩, ⟨tn, tm, tF, tS, tA, hTh⟩, ⟨pn, pm, pF, pS, pA, hSp⟩, hRf⟩ := id H
  obtain ⟨hO1, F, S, A, K, U, C, T, hP, hf, hT, ht, hR, hC, hl⟩ := id hS
  have hO1 : rd h 1 = some (.inr (6, [.ref 2, .ref 6, .ref 9])) := hO1
  have hP : PA h 2 _ _ F S A := hP
  have hT : TA h 6 _ K U := hT
  have hR : RA h 9 _ C T := hR
  obtain ⟨-, -, -, -, lF, lS, lA⟩ := id hP
  obtain ⟨-, -, -, lK, lU⟩ := id hT
  obtain ⟨-, -, -, lC, lT⟩ := id hR
  obtain ⟨okc, ⟨okl, okw⟩, okn, ⟨okh, oke⟩, oki, okr⟩ := id ok
  obtain ⟨k1, k2, k3, k4, k5, k6, k7, k8, k9⟩ := id okc
  have hbn : bnd σ.1.1 σ.1.2.1 F S A := okc.bnd hf
  refine Ev.of pX8_letter (Nat.le_of_ble_eq_true rfl) ?_
  show G mX8_letter (rmD 2 0 0) none _ 0 0 0 [(0, .ref 0), (1, .int x)] [] h
  obtain ⟨nx1, o1⟩ := HR.o hH
  refine g_iload_n dX8_letter_0 1 rfl ?_
  refine g_if_ge 11 dX8_letter_1 (by decide) (fun c1 => ?_) (fun c1 => ?_)
  · refine g_iload_n dX8_letter_11 1 rfl ?_
    refine g_sipush (v := nI 255) dX8_letter_12 (by decide +kernel) ?_
    refine g_icmp_gt 30 dX8_letter_15 (by decide) (fun c15 => ?_) (fun c15 => ?_)
    · refine g_aload_n dX8_letter_30 0 rfl ?_
      refine g_bipush (v := (-6)) dX8_letter_31 (by decide +kernel) ?_
      rw [show oLetter σ _ = rfS σ (-6) from (if_pos c1).trans (if_pos (by first | exact Or.inl c15 | exact Or.inr c27))]
      refine g_callVq (st1 := [.int (-nI 6)]) dX8_letter_33 (ev_refuse H ok 6 (by unfold noN; omega)) oX8_refuse wiX8_refuse weX8_refuse wmX8_68 kX8 (hO0) rfl ⟨(Nat.le_of_ble_eq_true rfl), (Nat.le_of_ble_eq_true rfl)⟩ ⟨Nat.zero_le _, Nat.zero_le _⟩ (Nat.le_of_ble_eq_true rfl) rfl rfl (fun h2 q2 => ?_)
      exact g_iret dX8_letter_36 rfl ⟨Nat.zero_le _, Nat.zero_le _⟩ (⟨rfl, q2⟩)
    · refine g_aload_n dX8_letter_18 0 rfl ?_
      refine g_getf dX8_letter_19 kX8 wfX8_29 (Nat.le_of_ble_eq_true rfl) (hO0) rfl ?_
      refine g_getf dX8_letter_22 kX1 wfX8_72 (Nat.le_of_ble_eq_true rfl) (hLt.1) rfl ?_
      refine g_bipush (v := nI 72) dX8_letter_25 (by decide +kernel) ?_
      refine g_icmp_ltN 37 dX8_letter_27 (by decide) (by omega) (by omega) (fun c27 => ?_) (fun c27 => ?_)
      · rw [show oLetter σ x = (nI (σ.2.1.1 + 1), (σ.1, (σ.2.1.1 + 1, σ.2.1.2.set σ.2.1.1 x.toNatClampNeg), σ.2.2)) from (if_pos c1).trans (if_neg (fun z => by rcases z with z | z; exact c15 z; omega))]
        obtain ⟨x1, hx1, rfl⟩ := nn_of c1
        rw [cl_ hx1]
        refine g_aload_n dX8_letter_37 0 rfl ?_
        refine g_getf dX8_letter_38 kX8 wfX8_29 (Nat.le_of_ble_eq_true rfl) (hO0) rfl ?_
        refine g_iload_n dX8_letter_41 1 rfl ?_
        refine g_callVq (st1 := [.int (nI (σ.2.1.1 + 1))]) dX8_letter_42 (ev_come hLt (by omega) x1) oX1_come wiX1_come weX1_come wmX8_76 kX1 (hLt.1) rfl ⟨(Nat.le_of_ble_eq_true rfl), (Nat.le_of_ble_eq_true rfl)⟩ ⟨Nat.zero_le _, Nat.zero_le _⟩ (Nat.le_of_ble_eq_true rfl) rfl rfl (fun h3 q3 => ?_)
        obtain ⟨q1a, q1s⟩ := q3
        have b3_2 := hP.mv q1s (by omega)
        have b3_6 := hT.mv q1s (by omega)
        have b3_9 := hR.mv q1s (by omega)
        have b3_12 := hI.mv q1s (by omega)
        have b3_23 := hDr.mv q1s (by omega)
        have b3_42 := hH.mv q1s (by omega)
        obtain ⟨nx4, o4⟩ := HR.o b3_42
        have b3_36 := hL.mv q1s (by omega)
        have b3_84 := hX.mv q1s (by omega)
        have b3_85 := hXP.mv q1s (by omega)
        have b3_89 := hTh.mv q1s (by omega)
        have b3_93 := hSp.mv q1s (by omega)
        have f3_0 : rd h3 0 = some (.inr (8, [.ref 1, .ref 12, .ref 23, .int (nI (bI σ.2.2.2.2.1.isSome)), .ref 34, .ref 36, .ref 42, .ref 84, .ref 89, .ref 93, .ref 97])) := by rw [q1s _ (by omega)]; exact hO0
        have f3_1 : rd h3 1 = some (.inr (6, [.ref 2, .ref 6, .ref 9])) := by rw [q1s _ (by omega)]; exact hO1
        have f3_97 : rd h3 97 = some (.inl (σ.2.2.2.2.2)) := by rw [q1s _ (by omega)]; exact hRf
        exact g_iret dX8_letter_45 rfl ⟨Nat.zero_le _, Nat.zero_le _⟩ (⟨rfl, ⟨f3_0, ⟨f3_1, _, _, _, _, _, _, _, b3_2, hf, b3_6, ht, b3_9, hC, hl⟩, ⟨_, b3_12, hI2⟩, ⟨_, b3_23⟩, q1a, b3_36, b3_42, ⟨⟨_, _, _, _, b3_84⟩, ⟨_, _, _, _, _, b3_85⟩⟩, ⟨_, _, _, _, _, b3_89⟩, ⟨_, _, _, _, _, b3_93⟩, f3_97⟩, (fun q hq => by rw [q1s q (by omega)])⟩)
      · refine g_aload_n dX8_letter_30 0 rfl ?_
        refine g_bipush (v := (-6)) dX8_letter_31 (by decide +kernel) ?_
        rw [show oLetter σ _ = rfS σ (-6) from (if_pos c1).trans (if_pos (by first | exact Or.inl c15 | exact Or.inr c27))]
        refine g_callVq (st1 := [.int (-nI 6)]) dX8_letter_33 (ev_refuse H ok 6 (by unfold noN; omega)) oX8_refuse wiX8_refuse weX8_refuse wmX8_68 kX8 (hO0) rfl ⟨(Nat.le_of_ble_eq_true rfl), (Nat.le_of_ble_eq_true rfl)⟩ ⟨Nat.zero_le _, Nat.zero_le _⟩ (Nat.le_of_ble_eq_true rfl) rfl rfl (fun h5 q5 => ?_)
        exact g_iret dX8_letter_36 rfl ⟨Nat.zero_le _, Nat.zero_le _⟩ (⟨rfl, q5⟩)
  · refine g_aload_n dX8_letter_4 0 rfl ?_
    refine g_bipush (v := (-4)) dX8_letter_5 (by decide +kernel) ?_
    rw [show oLetter σ x = rfS σ (-4) from if_neg c1]
    refine g_callVq (st1 := [.int (-nI 4)]) dX8_letter_7 (ev_refuse H ok 4 (by unfold noN; omega)) oX8_refuse wiX8_refuse weX8_refuse wmX8_68 kX8 (hO0) rfl ⟨(Nat.le_of_ble_eq_true rfl), (Nat.le_of_ble_eq_true rfl)⟩ ⟨Nat.zero_le _, Nat.zero_le _⟩ (Nat.le_of_ble_eq_true rfl) rfl rfl (fun h6 q6 => ?_)
    exact g_iret dX8_letter_10 rfl ⟨Nat.zero_le _, Nat.zero_le _⟩ (⟨rfl, q6⟩)

theorem rSize_nn {x : Int32} (h : rSize x = 0) : 0 ≤ x := by
  unfold rSize at h
  by_cases q : x < 3
  · rw [if_pos q] at h; exact absurd h (by decide)
  · exact Int32.le_trans (show (0 : Int32) ≤ 3 by decide) (Int32.not_lt.mp q)
theorem rPair_nn {n m : Nat} {x y : Int32} (h : rPair n m x y = 0) : 0 ≤ x ∧ 0 ≤ y := by
  unfold rPair at h
  by_cases q : x < 1 ∨ y < 1
  · rw [if_pos q] at h; exact absurd h (by decide)
  · exact ⟨Int32.le_trans (show (0 : Int32) ≤ 1 by decide) (Int32.not_lt.mp fun z => q (Or.inl z)), Int32.le_trans (show (0 : Int32) ≤ 1 by decide) (Int32.not_lt.mp fun z => q (Or.inr z))⟩
theorem rAdder_nn {n m : Nat} {x y : Int32} (h : rAdder n m x y = 0) : 0 ≤ x ∧ 0 ≤ y := by
  unfold rAdder at h
  by_cases q : ¬ (0 ≤ x ∧ x < nI m)
  · rw [if_pos q] at h; exact absurd h (by decide)
  · rw [if_neg q] at h
    by_cases q2 : y < 0
    · rw [if_pos q2] at h; exact absurd h (by decide)
    · exact ⟨(Decidable.not_not.mp q).1, Int32.not_lt.mp q2⟩
theorem rTurn_nn {a : Nat} {x y : Int32} (h : rTurn a x y = 0) : 0 ≤ x ∧ 0 ≤ y := by
  unfold rTurn at h
  by_cases q : x < 0 ∨ 5 < x
  · rw [if_pos q] at h; exact absurd h (by decide)
  · rw [if_neg q] at h
    by_cases q2 : y < 0
    · rw [if_pos q2] at h; exact absurd h (by decide)
    · exact ⟨Int32.not_lt.mp fun z => q (Or.inl z), Int32.not_lt.mp q2⟩

set_option maxRecDepth 100000 in
set_option maxHeartbeats 4000000 in
theorem ev_x_size {h : List aC} {σ : Sg} (H : RC h σ) (ok : okSg σ) (x : Int32) : Ev mX8_size 3 0 0 [.ref 0, .int x] h (sp h (oSize σ x)) := by
  obtain ⟨hO0, hS, ⟨ci, hI, hI2⟩, ⟨cd, hDr⟩, hLt, hL, hH, ⟨⟨sw_, sc_, sgs, sgk, hX⟩, ⟨xn, xm, xF, xS, xA, hXP⟩⟩, ⟨tn, tm, tF, tS, tA, hTh⟩, ⟨pn, pm, pF, pS, pA, hSp⟩, hRf⟩ := id H
  obtain ⟨hO1, F, S, A, K, U, C, T, hP, hf, hT, ht, hR, hC, hl⟩ := id hS
  have hO1 : rd h 1 = some (.inr (6, [.ref 2, .ref 6, .ref 9])) := hO1
  have hP : PA h 2 _ _ F S A := hP
  have hT : TA h 6 _ K U := hT
  have hR : RA h 9 _ C T := hR
  obtain ⟨-, -, -, -, lF, lS, lA⟩ := id hP
  obtain ⟨-, -, -, lK, lU⟩ := id hT
  obtain ⟨-, -, -, lC, lT⟩ := id hR
  obtain ⟨okc, ⟨okl, okw⟩, okn, ⟨okh, oke⟩, oki, okr⟩ := id ok
  obtain ⟨k1, k2, k3, k4, k5, k6, k7, k8, k9⟩ := id okc
  have hbn : bnd σ.1.1 σ.1.2.1 F S A := okc.bnd hf
  refine Ev.of pX8_size (Nat.le_of_ble_eq_true rfl) ?_
  show G mX8_size (rmD 3 0 0) none _ 0 0 0 [(0, .ref 0), (1, .int x)] [] h
  obtain ⟨nx1, o1⟩ := HR.o hH
  refine g_iload_n dX8_size_0 1 rfl ?_
  refine g_callSp dX8_size_1 (ev_rSize x _) oX6_refusalOfSize wsX6_refusalOfSize wmX8_94 rfl ⟨(Nat.le_of_ble_eq_true rfl), (Nat.le_of_ble_eq_true rfl)⟩ ⟨Nat.zero_le _, Nat.zero_le _⟩ (Nat.le_of_ble_eq_true rfl) rfl ?_
  refine g_istore_n (ls' := [(2, .int (rSize x)), (0, .ref 0), (1, .int x)]) dX8_size_4 (Nat.le_of_ble_eq_true rfl) rfl ?_
  refine g_iload_n dX8_size_5 0 rfl ?_
  refine g_if_eq 15 dX8_size_6 (by decide) (fun c6 => ?_) (fun c6 => ?_)
  · rw [show oSize σ x = (nI σ.1.1, ((x.toNatClampNeg, 0, σ.1.2.2.1, 0, σ.1.2.2.2.2.1, fun _ _ => 0), σ.2.1, σ.2.2.1, [], σ.2.2.2.2)) from if_pos c6]
    obtain ⟨x1, hx1, rfl⟩ := nn_of (rSize_nn c6)
    have g := rSize_in hx1 c6
    rw [cl_ hx1]
    refine g_aload_n dX8_size_15 1 rfl ?_
    refine g_getf dX8_size_16 kX8 wfX8_10 (Nat.le_of_ble_eq_true rfl) (hO0) rfl ?_
    refine g_getf dX8_size_19 kX6 wfX8_97 (Nat.le_of_ble_eq_true rfl) (hO1) rfl ?_
    refine g_getf dX8_size_22 kX3 wfX8_100 (Nat.le_of_ble_eq_true rfl) (hP.1) rfl ?_
    refine g_istore_n (ls' := [(3, .int (nI σ.1.1)), (2, .int (rSize (nI x1))), (0, .ref 0), (1, .int (nI x1))]) dX8_size_25 (Nat.le_of_ble_eq_true rfl) rfl ?_
    refine g_aload_n dX8_size_26 2 rfl ?_
    refine g_getf dX8_size_27 kX8 wfX8_10 (Nat.le_of_ble_eq_true rfl) (hO0) rfl ?_
    refine g_iload_n dX8_size_30 3 rfl ?_
    refine g_callVq (st1 := []) dX8_size_31 (st_resize hS x1 (by omega) σ.1.2.2.1 σ.1.2.2.2.2.1) oX6_resize wiX6_resize weX6_resize wmX8_103 kX6 (hO1) rfl ⟨(Nat.le_of_ble_eq_true rfl), (Nat.le_of_ble_eq_true rfl)⟩ ⟨Nat.zero_le _, Nat.zero_le _⟩ (Nat.le_of_ble_eq_true rfl) rfl rfl (fun h2 q2 => ?_)
    obtain ⟨q2a, q2s⟩ := q2
    have b2_12 := hI.mv q2s (by omega)
    have b2_23 := hDr.mv q2s (by omega)
    have b2_42 := hH.mv q2s (by omega)
    obtain ⟨nx3, o3⟩ := HR.o b2_42
    have b2_34 := hLt.mv q2s (by omega)
    have b2_36 := hL.mv q2s (by omega)
    have b2_84 := hX.mv q2s (by omega)
    have b2_85 := hXP.mv q2s (by omega)
    have b2_89 := hTh.mv q2s (by omega)
    have b2_93 := hSp.mv q2s (by omega)
    have f2_0 : rd h2 0 = some (.inr (8, [.ref 1, .ref 12, .ref 23, .int (nI (bI σ.2.2.2.2.1.isSome)), .ref 34, .ref 36, .ref 42, .ref 84, .ref 89, .ref 93, .ref 97])) := by rw [q2s _ (by omega)]; exact hO0
    have f2_97 : rd h2 97 = some (.inl (σ.2.2.2.2.2)) := by rw [q2s _ (by omega)]; exact hRf
    refine g_aload_n dX8_size_34 2 rfl ?_
    refine g_getf dX8_size_35 kX8 wfX8_43 (Nat.le_of_ble_eq_true rfl) (f2_0) rfl ?_
    refine g_callVq (st1 := []) dX8_size_38 (hx_forget b2_42) oX0_forget wiX0_forget weX0_forget wmX8_91 kX0 (o3) rfl ⟨(Nat.le_of_ble_eq_true rfl), (Nat.le_of_ble_eq_true rfl)⟩ ⟨Nat.zero_le _, Nat.zero_le _⟩ (Nat.le_of_ble_eq_true rfl) rfl rfl (fun h4 q4 => ?_)
    obtain ⟨q4a, q4s⟩ := q4
    have z4 := q4a (x1) (0) ((fun _ _ => 0))
    obtain ⟨nx5, o5⟩ := HR.o z4
    have b4_12 := b2_12.mv q4s (by omega)
    have b4_23 := b2_23.mv q4s (by omega)
    have b4_34 := b2_34.mv q4s (by omega)
    have b4_36 := b2_36.mv q4s (by omega)
    have b4_84 := b2_84.mv q4s (by omega)
    have b4_85 := b2_85.mv q4s (by omega)
    have b4_89 := b2_89.mv q4s (by omega)
    have b4_93 := b2_93.mv q4s (by omega)
    have b4_1 := q2a.mv q4s (by omega)
    have f4_0 : rd h4 0 = some (.inr (8, [.ref 1, .ref 12, .ref 23, .int (nI (bI σ.2.2.2.2.1.isSome)), .ref 34, .ref 36, .ref 42, .ref 84, .ref 89, .ref 93, .ref 97])) := by rw [q4s _ (by omega)]; exact f2_0
    have f4_97 : rd h4 97 = some (.inl (σ.2.2.2.2.2)) := by rw [q4s _ (by omega)]; exact f2_97
    refine g_iload_n dX8_size_41 0 rfl ?_
    exact g_iret dX8_size_42 rfl ⟨Nat.zero_le _, Nat.zero_le _⟩ (⟨rfl, ⟨f4_0, b4_1, ⟨_, b4_12, hI2⟩, ⟨_, b4_23⟩, b4_34, b4_36, z4, ⟨⟨_, _, _, _, b4_84⟩, ⟨_, _, _, _, _, b4_85⟩⟩, ⟨_, _, _, _, _, b4_89⟩, ⟨_, _, _, _, _, b4_93⟩, f4_97⟩, (fun q hq => by rw [q4s q (by omega), q2s q (by omega)])⟩)
  · refine g_aload_n dX8_size_9 1 rfl ?_
    refine g_iload_n dX8_size_10 0 rfl ?_
    rw [show oSize σ x = rfS σ (rSize x) from if_neg c6]
    refine g_callVq (st1 := [.int (rSize x)]) dX8_size_11 (ev_refuseR H ok ((rSize_no x)) c6) oX8_refuse wiX8_refuse weX8_refuse wmX8_68 kX8 (hO0) rfl ⟨(Nat.le_of_ble_eq_true rfl), (Nat.le_of_ble_eq_true rfl)⟩ ⟨Nat.zero_le _, Nat.zero_le _⟩ (Nat.le_of_ble_eq_true rfl) rfl rfl (fun h6 q6 => ?_)
    exact g_iret dX8_size_14 rfl ⟨Nat.zero_le _, Nat.zero_le _⟩ (⟨rfl, q6⟩)

set_option maxRecDepth 100000 in
set_option maxHeartbeats 4000000 in
theorem ev_x_pair {h : List aC} {σ : Sg} (H : RC h σ) (ok : okSg σ) (x y : Int32) : Ev mX8_pair 4 0 0 [.ref 0, .int x, .int y] h (sp h (oPair σ x y)) := by
  obtain ⟨hO0, hS, ⟨ci, hI, hI2⟩, ⟨cd, hDr⟩, hLt, hL, hH, ⟨⟨sw_, sc_, sgs, sgk, hX⟩, ⟨xn, xm, xF, xS, xA, hXP⟩⟩, ⟨tn, tm, tF, tS, tA, hTh⟩, ⟨pn, pm, pF, pS, pA, hSp⟩, hRf⟩ := id H
  obtain ⟨hO1, F, S, A, K, U, C, T, hP, hf, hT, ht, hR, hC, hl⟩ := id hS
  have hO1 : rd h 1 = some (.inr (6, [.ref 2, .ref 6, .ref 9])) := hO1
  have hP : PA h 2 _ _ F S A := hP
  have hT : TA h 6 _ K U := hT
  have hR : RA h 9 _ C T := hR
  obtain ⟨-, -, -, -, lF, lS, lA⟩ := id hP
  obtain ⟨-, -, -, lK, lU⟩ := id hT
  obtain ⟨-, -, -, lC, lT⟩ := id hR
  obtain ⟨okc, ⟨okl, okw⟩, okn, ⟨okh, oke⟩, oki, okr⟩ := id ok
  obtain ⟨k1, k2, k3, k4, k5, k6, k7, k8, k9⟩ := id okc
  have hbn : bnd σ.1.1 σ.1.2.1 F S A := okc.bnd hf
  refine Ev.of pX8_pair (Nat.le_of_ble_eq_true rfl) ?_
  show G mX8_pair (rmD 4 0 0) none _ 0 0 0 [(0, .ref 0), (1, .int x), (2, .int y)] [] h
  obtain ⟨nx1, o1⟩ := HR.o hH
  refine g_aload_n dX8_pair_0 0 rfl ?_
  refine g_getf dX8_pair_1 kX8 wfX8_10 (Nat.le_of_ble_eq_true rfl) (hO0) rfl ?_
  refine g_iload_n dX8_pair_4 1 rfl ?_
  refine g_iload_n dX8_pair_5 2 rfl ?_
  refine g_callVp dX8_pair_6 (ev_rPair hO1 hP hT hR (by omega) (by omega) x y) oX6_refusalOfPair wiX6_refusalOfPair weX6_refusalOfPair wmX8_107 kX6 (hO1) rfl ⟨(Nat.le_of_ble_eq_true rfl), (Nat.le_of_ble_eq_true rfl)⟩ ⟨Nat.zero_le _, Nat.zero_le _⟩ (Nat.le_of_ble_eq_true rfl) rfl ?_
  refine g_istore_n (ls' := [(3, .int (rPair σ.1.1 σ.1.2.1 x y)), (0, .ref 0), (1, .int x), (2, .int y)]) dX8_pair_9 (Nat.le_of_ble_eq_true rfl) rfl ?_
  refine g_iload_n dX8_pair_10 0 rfl ?_
  refine g_if_eq 20 dX8_pair_11 (by decide) (fun c11 => ?_) (fun c11 => ?_)
  · rw [show oPair σ x y = (nI σ.1.2.1, ((σ.1.1, σ.1.2.1 + 1, upF σ.1.2.2.1 σ.1.2.1 (x.toNatClampNeg, y.toNatClampNeg, 0), σ.1.2.2.2), σ.2.1, σ.2.2.1, [], σ.2.2.2.2)) from if_pos c11]
    obtain ⟨b1, b2⟩ := rPair_nn c11
    obtain ⟨x1, hx1, rfl⟩ := nn_of b1
    obtain ⟨y1, hy1, rfl⟩ := nn_of b2
    have g := rPair_in (by omega) hx1 hy1 c11
    rw [cl_ hx1, cl_ hy1]
    refine g_aload_n dX8_pair_20 1 rfl ?_
    refine g_getf dX8_pair_21 kX8 wfX8_43 (Nat.le_of_ble_eq_true rfl) (hO0) rfl ?_
    refine g_callVq (st1 := []) dX8_pair_24 (hx_forget hH) oX0_forget wiX0_forget weX0_forget wmX8_91 kX0 (o1) rfl ⟨(Nat.le_of_ble_eq_true rfl), (Nat.le_of_ble_eq_true rfl)⟩ ⟨Nat.zero_le _, Nat.zero_le _⟩ (Nat.le_of_ble_eq_true rfl) rfl rfl (fun h2 q2 => ?_)
    obtain ⟨q2a, q2s⟩ := q2
    have z2 := q2a (σ.1.1) (σ.1.2.1 + 1) (σ.1.2.2.2.2.2)
    obtain ⟨nx3, o3⟩ := HR.o z2
    have b2_2 := hP.mv q2s (by omega)
    have b2_6 := hT.mv q2s (by omega)
    have b2_9 := hR.mv q2s (by omega)
    have b2_12 := hI.mv q2s (by omega)
    have b2_23 := hDr.mv q2s (by omega)
    have b2_34 := hLt.mv q2s (by omega)
    have b2_36 := hL.mv q2s (by omega)
    have b2_84 := hX.mv q2s (by omega)
    have b2_85 := hXP.mv q2s (by omega)
    have b2_89 := hTh.mv q2s (by omega)
    have b2_93 := hSp.mv q2s (by omega)
    have f2_0 : rd h2 0 = some (.inr (8, [.ref 1, .ref 12, .ref 23, .int (nI (bI σ.2.2.2.2.1.isSome)), .ref 34, .ref 36, .ref 42, .ref 84, .ref 89, .ref 93, .ref 97])) := by rw [q2s _ (by omega)]; exact hO0
    have f2_1 : rd h2 1 = some (.inr (6, [.ref 2, .ref 6, .ref 9])) := by rw [q2s _ (by omega)]; exact hO1
    have f2_97 : rd h2 97 = some (.inl (σ.2.2.2.2.2)) := by rw [q2s _ (by omega)]; exact hRf
    refine g_aload_n dX8_pair_27 1 rfl ?_
    refine g_getf dX8_pair_28 kX8 wfX8_10 (Nat.le_of_ble_eq_true rfl) (f2_0) rfl ?_
    refine g_getf dX8_pair_31 kX6 wfX8_97 (Nat.le_of_ble_eq_true rfl) (f2_1) rfl ?_
    refine g_iload_n dX8_pair_34 2 rfl ?_
    refine g_iload_n dX8_pair_35 3 rfl ?_
    refine g_callVq (st1 := []) dX8_pair_36 (ev_append b2_2 (by omega) x1 y1) oX3_append wiX3_append weX3_append wmX8_111 kX3 (b2_2.1) rfl ⟨(Nat.le_of_ble_eq_true rfl), (Nat.le_of_ble_eq_true rfl)⟩ ⟨Nat.zero_le _, Nat.zero_le _⟩ (Nat.le_of_ble_eq_true rfl) rfl rfl (fun h4 q4 => ?_)
    obtain ⟨q4a, q4s⟩ := q4
    have b4_6 := b2_6.mv q4s (by omega)
    have b4_9 := b2_9.mv q4s (by omega)
    have b4_12 := b2_12.mv q4s (by omega)
    have b4_23 := b2_23.mv q4s (by omega)
    have b4_42 := z2.mv q4s (by omega)
    obtain ⟨nx5, o5⟩ := HR.o b4_42
    have b4_34 := b2_34.mv q4s (by omega)
    have b4_36 := b2_36.mv q4s (by omega)
    have b4_84 := b2_84.mv q4s (by omega)
    have b4_85 := b2_85.mv q4s (by omega)
    have b4_89 := b2_89.mv q4s (by omega)
    have b4_93 := b2_93.mv q4s (by omega)
    have f4_0 : rd h4 0 = some (.inr (8, [.ref 1, .ref 12, .ref 23, .int (nI (bI σ.2.2.2.2.1.isSome)), .ref 34, .ref 36, .ref 42, .ref 84, .ref 89, .ref 93, .ref 97])) := by rw [q4s _ (by omega)]; exact f2_0
    have f4_1 : rd h4 1 = some (.inr (6, [.ref 2, .ref 6, .ref 9])) := by rw [q4s _ (by omega)]; exact f2_1
    have f4_97 : rd h4 97 = some (.inl (σ.2.2.2.2.2)) := by rw [q4s _ (by omega)]; exact f2_97
    refine g_aload_n dX8_pair_39 1 rfl ?_
    refine g_getf dX8_pair_40 kX8 wfX8_10 (Nat.le_of_ble_eq_true rfl) (f4_0) rfl ?_
    refine g_getf dX8_pair_43 kX6 wfX8_97 (Nat.le_of_ble_eq_true rfl) (f4_1) rfl ?_
    refine g_getf dX8_pair_46 kX3 wfX8_115 (Nat.le_of_ble_eq_true rfl) (q4a.1) rfl ?_
    refine g_iconst (v := nI 1) dX8_pair_49 (by decide +kernel) ?_
    refine g_isubN dX8_pair_50 (by omega) ?_
    refine g_top (congrArg nI (show σ.1.2.1 + 1 - 1 = σ.1.2.1 by omega)) ?_
    exact g_iret dX8_pair_51 rfl ⟨Nat.zero_le _, Nat.zero_le _⟩ (⟨rfl, ⟨f4_0, ⟨f4_1, _, _, _, _, _, _, _, q4a, (fOf_app hf (by omega) (by omega) (by omega) x1 y1 0), b4_6, ht, b4_9, hC, hl⟩, ⟨_, b4_12, hI2⟩, ⟨_, b4_23⟩, b4_34, b4_36, b4_42, ⟨⟨_, _, _, _, b4_84⟩, ⟨_, _, _, _, _, b4_85⟩⟩, ⟨_, _, _, _, _, b4_89⟩, ⟨_, _, _, _, _, b4_93⟩, f4_97⟩, (fun q hq => by rw [q4s q (by omega), q2s q (by omega)])⟩)
  · refine g_aload_n dX8_pair_14 1 rfl ?_
    refine g_iload_n dX8_pair_15 0 rfl ?_
    rw [show oPair σ x y = rfS σ (rPair σ.1.1 σ.1.2.1 x y) from if_neg c11]
    refine g_callVq (st1 := [.int (rPair σ.1.1 σ.1.2.1 x y)]) dX8_pair_16 (ev_refuseR H ok ((rPair_no _ _ x y)) c11) oX8_refuse wiX8_refuse weX8_refuse wmX8_68 kX8 (hO0) rfl ⟨(Nat.le_of_ble_eq_true rfl), (Nat.le_of_ble_eq_true rfl)⟩ ⟨Nat.zero_le _, Nat.zero_le _⟩ (Nat.le_of_ble_eq_true rfl) rfl rfl (fun h6 q6 => ?_)
    exact g_iret dX8_pair_19 rfl ⟨Nat.zero_le _, Nat.zero_le _⟩ (⟨rfl, q6⟩)

set_option maxRecDepth 100000 in
set_option maxHeartbeats 4000000 in
theorem ev_x_drop {h : List aC} {σ : Sg} (H : RC h σ) (ok : okSg σ) : Ev mX8_drop 2 0 0 [.ref 0] h (sp h (oDrop σ)) := by
  obtain ⟨hO0, hS, ⟨ci, hI, hI2⟩, ⟨cd, hDr⟩, hLt, hL, hH, ⟨⟨sw_, sc_, sgs, sgk, hX⟩, ⟨xn, xm, xF, xS, xA, hXP⟩⟩, ⟨tn, tm, tF, tS, tA, hTh⟩, ⟨pn, pm, pF, pS, pA, hSp⟩, hRf⟩ := id H
  obtain ⟨hO1, F, S, A, K, U, C, T, hP, hf, hT, ht, hR, hC, hl⟩ := id hS
  have hO1 : rd h 1 = some (.inr (6, [.ref 2, .ref 6, .ref 9])) := hO1
  have hP : PA h 2 _ _ F S A := hP
  have hT : TA h 6 _ K U := hT
  have hR : RA h 9 _ C T := hR
  obtain ⟨-, -, -, -, lF, lS, lA⟩ := id hP
  obtain ⟨-, -, -, lK, lU⟩ := id hT
  obtain ⟨-, -, -, lC, lT⟩ := id hR
  obtain ⟨okc, ⟨okl, okw⟩, okn, ⟨okh, oke⟩, oki, okr⟩ := id ok
  obtain ⟨k1, k2, k3, k4, k5, k6, k7, k8, k9⟩ := id okc
  have hbn : bnd σ.1.1 σ.1.2.1 F S A := okc.bnd hf
  refine Ev.of pX8_drop (Nat.le_of_ble_eq_true rfl) ?_
  show G mX8_drop (rmD 2 0 0) none _ 0 0 0 [(0, .ref 0)] [] h
  obtain ⟨nx1, o1⟩ := HR.o hH
  refine g_aload_n dX8_drop_0 0 rfl ?_
  refine g_getf dX8_drop_1 kX8 wfX8_10 (Nat.le_of_ble_eq_true rfl) (hO0) rfl ?_
  refine g_getf dX8_drop_4 kX6 wfX8_97 (Nat.le_of_ble_eq_true rfl) (hO1) rfl ?_
  refine g_getf dX8_drop_7 kX3 wfX8_115 (Nat.le_of_ble_eq_true rfl) (hP.1) rfl ?_
  refine g_iconst (v := nI 1) dX8_drop_10 (by decide +kernel) ?_
  refine g_icmp_geN 21 dX8_drop_11 (by decide) (by omega) (by omega) (fun c11 => ?_) (fun c11 => ?_)
  · rw [show oDrop σ = (nI (σ.1.2.1 - 1), ((σ.1.1, σ.1.2.1 - 1, σ.1.2.2.1, σ.1.2.2.2), σ.2.1, σ.2.2.1, [], σ.2.2.2.2)) from if_neg (by omega)]
    refine g_aload_n dX8_drop_21 0 rfl ?_
    refine g_getf dX8_drop_22 kX8 wfX8_43 (Nat.le_of_ble_eq_true rfl) (hO0) rfl ?_
    refine g_callVq (st1 := []) dX8_drop_25 (hx_forget hH) oX0_forget wiX0_forget weX0_forget wmX8_91 kX0 (o1) rfl ⟨(Nat.le_of_ble_eq_true rfl), (Nat.le_of_ble_eq_true rfl)⟩ ⟨Nat.zero_le _, Nat.zero_le _⟩ (Nat.le_of_ble_eq_true rfl) rfl rfl (fun h2 q2 => ?_)
    obtain ⟨q2a, q2s⟩ := q2
    have z2 := q2a (σ.1.1) (σ.1.2.1 - 1) (σ.1.2.2.2.2.2)
    obtain ⟨nx3, o3⟩ := HR.o z2
    have b2_2 := hP.mv q2s (by omega)
    have b2_6 := hT.mv q2s (by omega)
    have b2_9 := hR.mv q2s (by omega)
    have b2_12 := hI.mv q2s (by omega)
    have b2_23 := hDr.mv q2s (by omega)
    have b2_34 := hLt.mv q2s (by omega)
    have b2_36 := hL.mv q2s (by omega)
    have b2_84 := hX.mv q2s (by omega)
    have b2_85 := hXP.mv q2s (by omega)
    have b2_89 := hTh.mv q2s (by omega)
    have b2_93 := hSp.mv q2s (by omega)
    have f2_0 : rd h2 0 = some (.inr (8, [.ref 1, .ref 12, .ref 23, .int (nI (bI σ.2.2.2.2.1.isSome)), .ref 34, .ref 36, .ref 42, .ref 84, .ref 89, .ref 93, .ref 97])) := by rw [q2s _ (by omega)]; exact hO0
    have f2_1 : rd h2 1 = some (.inr (6, [.ref 2, .ref 6, .ref 9])) := by rw [q2s _ (by omega)]; exact hO1
    have f2_97 : rd h2 97 = some (.inl (σ.2.2.2.2.2)) := by rw [q2s _ (by omega)]; exact hRf
    refine g_aload_n dX8_drop_28 0 rfl ?_
    refine g_getf dX8_drop_29 kX8 wfX8_10 (Nat.le_of_ble_eq_true rfl) (f2_0) rfl ?_
    refine g_getf dX8_drop_32 kX6 wfX8_97 (Nat.le_of_ble_eq_true rfl) (f2_1) rfl ?_
    refine g_dup dX8_drop_35 rfl ?_
    refine g_getf dX8_drop_36 kX3 wfX8_115 (Nat.le_of_ble_eq_true rfl) (b2_2.1) rfl ?_
    refine g_iconst (v := nI 1) dX8_drop_39 (by decide +kernel) ?_
    refine g_isubN dX8_drop_40 (by omega) ?_
    refine g_putv dX8_drop_41 kX3 wfX8_115 (Nat.le_of_ble_eq_true rfl) rfl (fun _ _ => ⟨rfl, rfl⟩) (b2_2.1) (Nat.le_of_ble_eq_true rfl) (fs' := [.ref 3, .ref 4, .ref 5, .int (nI σ.1.1), .int (nI (σ.1.2.1 - 1))]) rfl (fun h4 e4 => ?_)
    have f4_2 : rd h4 2 = some (.inr (3, [.ref 3, .ref 4, .ref 5, .int (nI σ.1.1), .int (nI (σ.1.2.1 - 1))])) := by rw [e4]; exact rd_wr_eq (b2_2.1)
    have s4 : Smo 2 (2 + 1) h2 h4 := by rw [e4]; exact Smo.wr (by omega) (by omega)
    have b4_6 := b2_6.mv s4 (by omega)
    have b4_9 := b2_9.mv s4 (by omega)
    have b4_12 := b2_12.mv s4 (by omega)
    have b4_23 := b2_23.mv s4 (by omega)
    have b4_42 := z2.mv s4 (by omega)
    obtain ⟨nx5, o5⟩ := HR.o b4_42
    have b4_34 := b2_34.mv s4 (by omega)
    have b4_36 := b2_36.mv s4 (by omega)
    have b4_84 := b2_84.mv s4 (by omega)
    have b4_85 := b2_85.mv s4 (by omega)
    have b4_89 := b2_89.mv s4 (by omega)
    have b4_93 := b2_93.mv s4 (by omega)
    have f4_0 : rd h4 0 = some (.inr (8, [.ref 1, .ref 12, .ref 23, .int (nI (bI σ.2.2.2.2.1.isSome)), .ref 34, .ref 36, .ref 42, .ref 84, .ref 89, .ref 93, .ref 97])) := by rw [s4 _ (by omega)]; exact f2_0
    have f4_1 : rd h4 1 = some (.inr (6, [.ref 2, .ref 6, .ref 9])) := by rw [s4 _ (by omega)]; exact f2_1
    have f4_3 : rd h4 3 = some (.inl ((F).map nI)) := by rw [s4 _ (by omega)]; exact b2_2.2.1
    have f4_4 : rd h4 4 = some (.inl ((S).map nI)) := by rw [s4 _ (by omega)]; exact b2_2.2.2.1
    have f4_5 : rd h4 5 = some (.inl ((A).map nI)) := by rw [s4 _ (by omega)]; exact b2_2.2.2.2.1
    have f4_97 : rd h4 97 = some (.inl (σ.2.2.2.2.2)) := by rw [s4 _ (by omega)]; exact f2_97
    have H6 : PA h4 2 σ.1.1 (σ.1.2.1 - 1) F S A := ⟨f4_2, f4_3, f4_4, f4_5, lF, lS, lA⟩
    refine g_aload_n dX8_drop_44 0 rfl ?_
    refine g_getf dX8_drop_45 kX8 wfX8_10 (Nat.le_of_ble_eq_true rfl) (f4_0) rfl ?_
    refine g_getf dX8_drop_48 kX6 wfX8_97 (Nat.le_of_ble_eq_true rfl) (f4_1) rfl ?_
    refine g_getf dX8_drop_51 kX3 wfX8_115 (Nat.le_of_ble_eq_true rfl) (H6.1) rfl ?_
    exact g_iret dX8_drop_54 rfl ⟨Nat.zero_le _, Nat.zero_le _⟩ (⟨rfl, ⟨f4_0, ⟨f4_1, _, _, _, _, _, _, _, H6, (fun i hi => hf i (by have y : i < σ.1.2.1 - 1 := hi; omega)), b4_6, ht, b4_9, hC, hl⟩, ⟨_, b4_12, hI2⟩, ⟨_, b4_23⟩, b4_34, b4_36, b4_42, ⟨⟨_, _, _, _, b4_84⟩, ⟨_, _, _, _, _, b4_85⟩⟩, ⟨_, _, _, _, _, b4_89⟩, ⟨_, _, _, _, _, b4_93⟩, f4_97⟩, (fun q hq => by rw [s4 q (by omega), q2s q (by omega)])⟩)
  · refine g_aload_n dX8_drop_14 0 rfl ?_
    refine g_bipush (v := (-3)) dX8_drop_15 (by decide +kernel) ?_
    rw [show oDrop σ = rfS σ (-3) from if_pos c11]
    refine g_callVq (st1 := [.int (-nI 3)]) dX8_drop_17 (ev_refuse H ok 3 (by unfold noN; omega)) oX8_refuse wiX8_refuse weX8_refuse wmX8_68 kX8 (hO0) rfl ⟨(Nat.le_of_ble_eq_true rfl), (Nat.le_of_ble_eq_true rfl)⟩ ⟨Nat.zero_le _, Nat.zero_le _⟩ (Nat.le_of_ble_eq_true rfl) rfl rfl (fun h7 q7 => ?_)
    exact g_iret dX8_drop_20 rfl ⟨Nat.zero_le _, Nat.zero_le _⟩ (⟨rfl, q7⟩)

theorem fOf_setA {F S A : List Nat} {m : Nat} {f : Nat → Pr} (h : ∀ i, i < m → fOf F S A i = f i) {k : Nat} (hk : k < m) (lA : k < A.length) (v : Nat) : ∀ i, i < m → fOf F S (A.set k v) i = upF f k ((f k).1, (f k).2.1, v) i := fun i hi => by
  by_cases q : i = k
  · subst q
    rw [upF_eq, ← h i hi]
    unfold fOf
    rw [getD_set_eq lA]
  · rw [upF_ne q, ← h i hi]
    unfold fOf
    rw [getD_set_ne (fun z => q z.symm)]

set_option maxRecDepth 100000 in
set_option maxHeartbeats 4000000 in
theorem ev_x_adder {h : List aC} {σ : Sg} (H : RC h σ) (ok : okSg σ) (x y : Int32) : Ev mX8_adder 4 0 0 [.ref 0, .int x, .int y] h (sp h (oAdder σ x y)) := by
  obtain ⟨hO0, hS, ⟨ci, hI, hI2⟩, ⟨cd, hDr⟩, hLt, hL, hH, ⟨⟨sw_, sc_, sgs, sgk, hX⟩, ⟨xn, xm, xF, xS, xA, hXP⟩⟩, ⟨tn, tm, tF, tS, tA, hTh⟩, ⟨pn, pm, pF, pS, pA, hSp⟩, hRf⟩ := id H
  obtain ⟨hO1, F, S, A, K, U, C, T, hP, hf, hT, ht, hR, hC, hl⟩ := id hS
  have hO1 : rd h 1 = some (.inr (6, [.ref 2, .ref 6, .ref 9])) := hO1
  have hP : PA h 2 _ _ F S A := hP
  have hT : TA h 6 _ K U := hT
  have hR : RA h 9 _ C T := hR
  obtain ⟨-, -, -, -, lF, lS, lA⟩ := id hP
  obtain ⟨-, -, -, lK, lU⟩ := id hT
  obtain ⟨-, -, -, lC, lT⟩ := id hR
  obtain ⟨okc, ⟨okl, okw⟩, okn, ⟨okh, oke⟩, oki, okr⟩ := id ok
  obtain ⟨k1, k2, k3, k4, k5, k6, k7, k8, k9⟩ := id okc
  have hbn : bnd σ.1.1 σ.1.2.1 F S A := okc.bnd hf
  refine Ev.of pX8_adder (Nat.le_of_ble_eq_true rfl) ?_
  show G mX8_adder (rmD 4 0 0) none _ 0 0 0 [(0, .ref 0), (1, .int x), (2, .int y)] [] h
  obtain ⟨nx1, o1⟩ := HR.o hH
  refine g_aload_n dX8_adder_0 0 rfl ?_
  refine g_getf dX8_adder_1 kX8 wfX8_10 (Nat.le_of_ble_eq_true rfl) (hO0) rfl ?_
  refine g_iload_n dX8_adder_4 1 rfl ?_
  refine g_iload_n dX8_adder_5 2 rfl ?_
  refine g_callVp dX8_adder_6 (ev_rAdder hO1 hP hT hR (by omega) x y) oX6_refusalOfAdder wiX6_refusalOfAdder weX6_refusalOfAdder wmX8_116 kX6 (hO1) rfl ⟨(Nat.le_of_ble_eq_true rfl), (Nat.le_of_ble_eq_true rfl)⟩ ⟨Nat.zero_le _, Nat.zero_le _⟩ (Nat.le_of_ble_eq_true rfl) rfl ?_
  refine g_istore_n (ls' := [(3, .int (rAdder σ.1.1 σ.1.2.1 x y)), (0, .ref 0), (1, .int x), (2, .int y)]) dX8_adder_9 (Nat.le_of_ble_eq_true rfl) rfl ?_
  refine g_iload_n dX8_adder_10 0 rfl ?_
  refine g_if_eq 20 dX8_adder_11 (by decide) (fun c11 => ?_) (fun c11 => ?_)
  · rw [show oAdder σ x y = (nI (σ.1.2.2.1 x.toNatClampNeg).2.2, ((σ.1.1, σ.1.2.1, upF σ.1.2.2.1 x.toNatClampNeg ((σ.1.2.2.1 x.toNatClampNeg).1, (σ.1.2.2.1 x.toNatClampNeg).2.1, y.toNatClampNeg), σ.1.2.2.2), σ.2.1, σ.2.2.1, (σ.1.2.2.1, σ.1.2.2.2.2.2) :: σ.2.2.2.1.take 11, σ.2.2.2.2)) from if_pos c11]
    obtain ⟨b1, b2⟩ := rAdder_nn c11
    obtain ⟨x1, hx1, rfl⟩ := nn_of b1
    obtain ⟨y1, hy1, rfl⟩ := nn_of b2
    have g := rAdder_in (by omega) (by omega) hx1 hy1 c11
    rw [cl_ hx1, cl_ hy1]
    refine g_aload_n dX8_adder_20 1 rfl ?_
    refine g_getf dX8_adder_21 kX8 wfX8_43 (Nat.le_of_ble_eq_true rfl) (hO0) rfl ?_
    refine g_aload_n dX8_adder_24 1 rfl ?_
    refine g_getf dX8_adder_25 kX8 wfX8_10 (Nat.le_of_ble_eq_true rfl) (hO0) rfl ?_
    refine g_getf dX8_adder_28 kX6 wfX8_97 (Nat.le_of_ble_eq_true rfl) (hO1) rfl ?_
    refine g_callVq (st1 := []) dX8_adder_31 (hx_keep hH hP (by omega) hf) oX0_keep wiX0_keep weX0_keep wmX8_119 kX0 (o1) rfl ⟨(Nat.le_of_ble_eq_true rfl), (Nat.le_of_ble_eq_true rfl)⟩ ⟨Nat.zero_le _, Nat.zero_le _⟩ (Nat.le_of_ble_eq_true rfl) rfl rfl (fun h2 q2 => ?_)
    obtain ⟨q2a, q2s⟩ := q2
    obtain ⟨nx3, o3⟩ := HR.o q2a
    have b2_2 := hP.mv q2s (by omega)
    have b2_6 := hT.mv q2s (by omega)
    have b2_9 := hR.mv q2s (by omega)
    have b2_12 := hI.mv q2s (by omega)
    have b2_23 := hDr.mv q2s (by omega)
    have b2_34 := hLt.mv q2s (by omega)
    have b2_36 := hL.mv q2s (by omega)
    have b2_84 := hX.mv q2s (by omega)
    have b2_85 := hXP.mv q2s (by omega)
    have b2_89 := hTh.mv q2s (by omega)
    have b2_93 := hSp.mv q2s (by omega)
    have f2_0 : rd h2 0 = some (.inr (8, [.ref 1, .ref 12, .ref 23, .int (nI (bI σ.2.2.2.2.1.isSome)), .ref 34, .ref 36, .ref 42, .ref 84, .ref 89, .ref 93, .ref 97])) := by rw [q2s _ (by omega)]; exact hO0
    have f2_1 : rd h2 1 = some (.inr (6, [.ref 2, .ref 6, .ref 9])) := by rw [q2s _ (by omega)]; exact hO1
    have f2_97 : rd h2 97 = some (.inl (σ.2.2.2.2.2)) := by rw [q2s _ (by omega)]; exact hRf
    refine g_aload_n dX8_adder_34 1 rfl ?_
    refine g_getf dX8_adder_35 kX8 wfX8_10 (Nat.le_of_ble_eq_true rfl) (f2_0) rfl ?_
    refine g_getf dX8_adder_38 kX6 wfX8_97 (Nat.le_of_ble_eq_true rfl) (f2_1) rfl ?_
    refine g_getf dX8_adder_41 kX3 wfX8_123 (Nat.le_of_ble_eq_true rfl) (b2_2.1) rfl ?_
    refine g_iload_n dX8_adder_44 2 rfl ?_
    refine g_ialN dX8_adder_45 (b2_2.2.2.2.1) (by omega) (by omega) ?_
    refine g_top (congrArg (fun z : Pr => nI z.2.2) (hf x1 g.1)) ?_
    refine g_istore (ls' := [(4, .int (nI ((σ.1.2.2.1 x1).2.2))), (3, .int (rAdder σ.1.1 σ.1.2.1 (nI x1) (nI y1))), (0, .ref 0), (1, .int (nI x1)), (2, .int (nI y1))]) dX8_adder_46 (Nat.le_of_ble_eq_true rfl) rfl ?_
    refine g_aload_n dX8_adder_48 2 rfl ?_
    refine g_getf dX8_adder_49 kX8 wfX8_10 (Nat.le_of_ble_eq_true rfl) (f2_0) rfl ?_
    refine g_getf dX8_adder_52 kX6 wfX8_97 (Nat.le_of_ble_eq_true rfl) (f2_1) rfl ?_
    refine g_getf dX8_adder_55 kX3 wfX8_123 (Nat.le_of_ble_eq_true rfl) (b2_2.1) rfl ?_
    refine g_iload_n dX8_adder_58 3 rfl ?_
    refine g_iload_n dX8_adder_59 4 rfl ?_
    refine g_iasN dX8_adder_60 (b2_2.2.2.2.1) (by omega) (by omega) (fun h4 e4 => ?_)
    have f4_5 : rd h4 5 = some (.inl (((A).set x1 y1).map nI)) := by rw [e4]; exact rd_wr_eq (b2_2.2.2.2.1)
    have s4 : Smo 5 (5 + 1) h2 h4 := by rw [e4]; exact Smo.wr (by omega) (by omega)
    have b4_6 := b2_6.mv s4 (by omega)
    have b4_9 := b2_9.mv s4 (by omega)
    have b4_12 := b2_12.mv s4 (by omega)
    have b4_23 := b2_23.mv s4 (by omega)
    have b4_42 := q2a.mv s4 (by omega)
    obtain ⟨nx5, o5⟩ := HR.o b4_42
    have b4_34 := b2_34.mv s4 (by omega)
    have b4_36 := b2_36.mv s4 (by omega)
    have b4_84 := b2_84.mv s4 (by omega)
    have b4_85 := b2_85.mv s4 (by omega)
    have b4_89 := b2_89.mv s4 (by omega)
    have b4_93 := b2_93.mv s4 (by omega)
    have f4_0 : rd h4 0 = some (.inr (8, [.ref 1, .ref 12, .ref 23, .int (nI (bI σ.2.2.2.2.1.isSome)), .ref 34, .ref 36, .ref 42, .ref 84, .ref 89, .ref 93, .ref 97])) := by rw [s4 _ (by omega)]; exact f2_0
    have f4_1 : rd h4 1 = some (.inr (6, [.ref 2, .ref 6, .ref 9])) := by rw [s4 _ (by omega)]; exact f2_1
    have f4_2 : rd h4 2 = some (.inr (3, [.ref 3, .ref 4, .ref 5, .int (nI σ.1.1), .int (nI σ.1.2.1)])) := by rw [s4 _ (by omega)]; exact b2_2.1
    have f4_3 : rd h4 3 = some (.inl ((F).map nI)) := by rw [s4 _ (by omega)]; exact b2_2.2.1
    have f4_4 : rd h4 4 = some (.inl ((S).map nI)) := by rw [s4 _ (by omega)]; exact b2_2.2.2.1
    have f4_97 : rd h4 97 = some (.inl (σ.2.2.2.2.2)) := by rw [s4 _ (by omega)]; exact f2_97
    have H6 : PA h4 2 σ.1.1 σ.1.2.1 F S (A.set x1 y1) := ⟨f4_2, f4_3, f4_4, f4_5, lF, lS, List.length_set.trans lA⟩
    refine g_iload dX8_adder_61 0 rfl ?_
    exact g_iret dX8_adder_63 rfl ⟨Nat.zero_le _, Nat.zero_le _⟩ (⟨rfl, ⟨f4_0, ⟨f4_1, _, _, _, _, _, _, _, H6, (fOf_setA hf g.1 (by omega) y1), b4_6, ht, b4_9, hC, hl⟩, ⟨_, b4_12, hI2⟩, ⟨_, b4_23⟩, b4_34, b4_36, b4_42, ⟨⟨_, _, _, _, b4_84⟩, ⟨_, _, _, _, _, b4_85⟩⟩, ⟨_, _, _, _, _, b4_89⟩, ⟨_, _, _, _, _, b4_93⟩, f4_97⟩, (fun q hq => by rw [s4 q (by omega), q2s q (by omega)])⟩)
  · refine g_aload_n dX8_adder_14 1 rfl ?_
    refine g_iload_n dX8_adder_15 0 rfl ?_
    rw [show oAdder σ x y = rfS σ (rAdder σ.1.1 σ.1.2.1 x y) from if_neg c11]
    refine g_callVq (st1 := [.int (rAdder σ.1.1 σ.1.2.1 x y)]) dX8_adder_16 (ev_refuseR H ok ((rAdder_no _ _ x y)) c11) oX8_refuse wiX8_refuse weX8_refuse wmX8_68 kX8 (hO0) rfl ⟨(Nat.le_of_ble_eq_true rfl), (Nat.le_of_ble_eq_true rfl)⟩ ⟨Nat.zero_le _, Nat.zero_le _⟩ (Nat.le_of_ble_eq_true rfl) rfl rfl (fun h7 q7 => ?_)
    exact g_iret dX8_adder_19 rfl ⟨Nat.zero_le _, Nat.zero_le _⟩ (⟨rfl, q7⟩)
