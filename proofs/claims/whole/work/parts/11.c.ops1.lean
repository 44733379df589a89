def oLetter (σ : Sg) (x : Int32) : Int32 × Sg := if 0 ≤ x then (if nI 255 < x ∨ 72 ≤ σ.2.1.1 then rfS σ (-6) else (nI (σ.2.1.1 + 1), (σ.1, (σ.2.1.1 + 1, σ.2.1.2.set σ.2.1.1 x.toNatClampNeg), σ.2.2))) else rfS σ (-4)
def oSize (σ : Sg) (x : Int32) : Int32 × Sg := if rSize x = 0 then (nI σ.1.1, ((x.toNatClampNeg, 0, σ.1.2.2.1, 0, σ.1.2.2.2.2.1, fun _ _ => 0), σ.2.1, σ.2.2.1, [], σ.2.2.2.2)) else rfS σ (rSize x)
def oPair (σ : Sg) (x y : Int32) : Int32 × Sg := if rPair σ.1.1 σ.1.2.1 x y = 0 then (nI σ.1.2.1, ((σ.1.1, σ.1.2.1 + 1, upF σ.1.2.2.1 σ.1.2.1 (x.toNatClampNeg, y.toNatClampNeg, 0), σ.1.2.2.2), σ.2.1, σ.2.2.1, [], σ.2.2.2.2)) else rfS σ (rPair σ.1.1 σ.1.2.1 x y)
def oDrop (σ : Sg) : Int32 × Sg := if σ.1.2.1 < 1 then rfS σ (-3) else (nI (σ.1.2.1 - 1), ((σ.1.1, σ.1.2.1 - 1, σ.1.2.2.1, σ.1.2.2.2), σ.2.1, σ.2.2.1, [], σ.2.2.2.2))
def oAdder (σ : Sg) (x y : Int32) : Int32 × Sg := if rAdder σ.1.1 σ.1.2.1 x y = 0 then (nI (σ.1.2.2.1 x.toNatClampNeg).2.2, ((σ.1.1, σ.1.2.1, upF σ.1.2.2.1 x.toNatClampNeg ((σ.1.2.2.1 x.toNatClampNeg).1, (σ.1.2.2.1 x.toNatClampNeg).2.1, y.toNatClampNeg), σ.1.2.2.2), σ.2.1, σ.2.2.1, (σ.1.2.2.1, σ.1.2.2.2.2.2) :: σ.2.2.2.1.take 11, σ.2.2.2.2)) else rfS σ (rAdder σ.1.1 σ.1.2.1 x y)
theorem nn_neg {r : Int32} (h : isNo r) (h0 : r = 0) : r = nI 0 := h0
theorem cl_ {k : Nat} (h : k < 2 ^ 31) : (nI k).toNatClampNeg = k := nI_clamp h

set_option maxRecDepth 100000 in
set_option maxHeartbeats 4000000 in
theorem ev_x_letter {h : List aC} {σ : Sg} (H : RC h σ) (ok : okSg σ) (x : Int32) : Ev mX8_letter 2 0 0 [.ref 0, .int x] h (sp h (oLetter σ x)) := by
  obtain ⟨hO0, hS, ⟨ci, hI, hI2⟩, ⟨cd, hDr⟩, hLt, hL, hH, ⟨⟨sw_, sc_, sgs, sgk, hX⟩, ⟨xn, xm, xF, xS, xA, hXP⟩⟩, ⟨tn, tm, tF, tS, tA, hTh⟩, ⟨pn, pm, pF, pS, pA, hSp⟩, hRf⟩ := id H
  obtain ⟨hO1, F, S, A, K, U, C, T, hP, hf, hT, ht, hR, hC, hl⟩ := id hS
  have hO1 : rd h 1 = some (.inr (6, [.ref 2, .ref 6, .ref 9])) := hO1
  have hP : PA h 2 _ _ F S A := hP
  have hT : TA h 6 _ K U := hT
  have hR : RA h 9 _ C T := hR
  obtain ⟨-, -, -, -, lF, lS, lA⟩ := id hP
  obtain ⟨-, -, -, lK, lU⟩ := id hT
  obtain ⟨-, -, -, lC, lT⟩ := id hR
  obtain ⟨okc, ⟨okl, okw⟩, okn, ⟨okh, oke⟩, oki, okr⟩ := id ok
  obtain ⟨k1, k2, k3, k4, k5, k6, k7, k8, k9⟩ := id okc
  have hbn : bnd σ.1.1 σ.1.2.1 F S A := okc.bnd hf
  refine Ev.of pX8_letter (Nat.le_of_ble_eq_true rfl) ?_
  show G mX8_letter (rmD 2 0 0) none _ 0 0 0 [(0, .ref 0), (1, .int x)] [] h
  refine g_iload_n dX8_letter_0 1 rfl ?_
  refine g_if_ge 11 dX8_letter_1 (by decide) (fun c1 => ?_) (fun c1 => ?_)
  · refine g_iload_n dX8_letter_11 1 rfl ?_
    refine g_sipush (v := nI 255) dX8_letter_12 (by decide +kernel) ?_
    refine g_icmp_gt 30 dX8_letter_15 (by decide) (fun c15 => ?_) (fun c15 => ?_)
    · refine g_aload_n dX8_letter_30 0 rfl ?_
      refine g_bipush (v := (-6)) dX8_letter_31 (by decide +kernel) ?_
      rw [show oLetter σ _ = rfS σ (-6) from (if_pos c1).trans (if_pos (by first | exact Or.inl c15 | exact Or.inr c27))]
      refine g_callVq (st1 := [.int (-nI 6)]) dX8_letter_33 (ev_refuse H ok 6 (by unfold noN; omega)) oX8_refuse wiX8_refuse weX8_refuse wmX8_68 kX8 (hO0) rfl ⟨(Nat.le_of_ble_eq_true rfl), (Nat.le_of_ble_eq_true rfl)⟩ ⟨Nat.zero_le _, Nat.zero_le _⟩ (Nat.le_of_ble_eq_true rfl) rfl rfl (fun h1 q1 => ?_)
      exact g_iret dX8_letter_36 rfl ⟨Nat.zero_le _, Nat.zero_le _⟩ (⟨rfl, q1⟩)
    · refine g_aload_n dX8_letter_18 0 rfl ?_
      refine g_getf dX8_letter_19 kX8 wfX8_29 (Nat.le_of_ble_eq_true rfl) (hO0) rfl ?_
      refine g_getf dX8_letter_22 kX1 wfX8_72 (Nat.le_of_ble_eq_true rfl) (hLt.1) rfl ?_
      refine g_bipush (v := nI 72) dX8_letter_25 (by decide +kernel) ?_
      refine g_icmp_ltN 37 dX8_letter_27 (by decide) (by omega) (by omega) (fun c27 => ?_) (fun c27 => ?_)
      · rw [show oLetter σ x = (nI (σ.2.1.1 + 1), (σ.1, (σ.2.1.1 + 1, σ.2.1.2.set σ.2.1.1 x.toNatClampNeg), σ.2.2)) from (if_pos c1).trans (if_neg (fun z => by rcases z with z | z; exact c15 z; omega))]
        obtain ⟨x1, hx1, rfl⟩ := nn_of c1
        rw [cl_ hx1]
        refine g_aload_n dX8_letter_37 0 rfl ?_
        refine g_getf dX8_letter_38 kX8 wfX8_29 (Nat.le_of_ble_eq_true rfl) (hO0) rfl ?_
        refine g_iload_n dX8_letter_41 1 rfl ?_
        refine g_callVq (st1 := [.int (nI (σ.2.1.1 + 1))]) dX8_letter_42 (ev_come hLt (by omega) x1) oX1_come wiX1_come weX1_come wmX8_76 kX1 (hLt.1) rfl ⟨(Nat.le_of_ble_eq_true rfl), (Nat.le_of_ble_eq_true rfl)⟩ ⟨Nat.zero_le _, Nat.zero_le _⟩ (Nat.le_of_ble_eq_true rfl) rfl rfl (fun h2 q2 => ?_)
        obtain ⟨q1a, q1s⟩ := q2
        have b2_2 := hP.mv q1s (by omega)
        have b2_6 := hT.mv q1s (by omega)
        have b2_9 := hR.mv q1s (by omega)
        have b2_12 := hI.mv q1s (by omega)
        have b2_23 := hDr.mv q1s (by omega)
        have b2_42 := hH.mv q1s (by omega)
        have b2_36 := hL.mv q1s (by omega)
        have b2_84 := hX.mv q1s (by omega)
        have b2_85 := hXP.mv q1s (by omega)
        have b2_89 := hTh.mv q1s (by omega)
        have b2_93 := hSp.mv q1s (by omega)
        have f2_0 : rd h2 0 = some (.inr (8, [.ref 1, .ref 12, .ref 23, .int (nI (bI σ.2.2.2.2.1.isSome)), .ref 34, .ref 36, .ref 42, .ref 84, .ref 89, .ref 93, .ref 97])) := by rw [q1s _ (by omega)]; exact hO0
        have f2_1 : rd h2 1 = some (.inr (6, [.ref 2, .ref 6, .ref 9])) := by rw [q1s _ (by omega)]; exact hO1
        have f2_97 : rd h2 97 = some (.inl (σ.2.2.2.2.2)) := by rw [q1s _ (by omega)]; exact hRf
        exact g_iret dX8_letter_45 rfl ⟨Nat.zero_le _, Nat.zero_le _⟩ (⟨rfl, ⟨f2_0, ⟨f2_1, _, _, _, _, _, _, _, b2_2, hf, b2_6, ht, b2_9, hC, hl⟩, ⟨_, b2_12, hI2⟩, ⟨_, b2_23⟩, q1a, b2_36, b2_42, ⟨⟨_, _, _, _, b2_84⟩, ⟨_, _, _, _, _, b2_85⟩⟩, ⟨_, _, _, _, _, b2_89⟩, ⟨_, _, _, _, _, b2_93⟩, f2_97⟩, (fun q hq => by rw [q1s q (by omega)])⟩)
      · refine g_aload_n dX8_letter_30 0 rfl ?_
        refine g_bipush (v := (-6)) dX8_letter_31 (by decide +kernel) ?_
        rw [show oLetter σ _ = rfS σ (-6) from (if_pos c1).trans (if_pos (by first | exact Or.inl c15 | exact Or.inr c27))]
        refine g_callVq (st1 := [.int (-nI 6)]) dX8_letter_33 (ev_refuse H ok 6 (by unfold noN; omega)) oX8_refuse wiX8_refuse weX8_refuse wmX8_68 kX8 (hO0) rfl ⟨(Nat.le_of_ble_eq_true rfl), (Nat.le_of_ble_eq_true rfl)⟩ ⟨Nat.zero_le _, Nat.zero_le _⟩ (Nat.le_of_ble_eq_true rfl) rfl rfl (fun h3 q3 => ?_)
        exact g_iret dX8_letter_36 rfl ⟨Nat.zero_le _, Nat.zero_le _⟩ (⟨rfl, q3⟩)
  · refine g_aload_n dX8_letter_4 0 rfl ?_
    refine g_bipush (v := (-4)) dX8_letter_5 (by decide +kernel) ?_
    rw [show oLetter σ x = rfS σ (-4) from if_neg c1]
    refine g_callVq (st1 := [.int (-nI 4)]) dX8_letter_7 (ev_refuse H ok 4 (by unfold noN; omega)) oX8_refuse wiX8_refuse weX8_refuse wmX8_68 kX8 (hO0) rfl ⟨(Nat.le_of_ble_eq_true rfl), (Nat.le_of_ble_eq_true rfl)⟩ ⟨Nat.zero_le _, Nat.zero_le _⟩ (Nat.le_of_ble_eq_true rfl) rfl rfl (fun h4 q4 => ?_)
    exact g_iret dX8_letter_10 rfl ⟨Nat.zero_le _, Nat.zero_le _⟩ (⟨rfl, q4⟩)
