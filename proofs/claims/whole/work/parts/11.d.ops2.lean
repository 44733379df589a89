def oTurn (σ : Sg) (x y : Int32) : Int32 × Sg := if rTurn σ.1.2.2.2.1 x y = 0 then (nI (σ.1.2.2.2.1 + 1), ((σ.1.1, σ.1.2.1, σ.1.2.2.1, σ.1.2.2.2.1 + 1, upT σ.1.2.2.2.2.1 σ.1.2.2.2.1 (x.toNatClampNeg, y.toNatClampNeg), σ.1.2.2.2.2.2), σ.2)) else rfS σ (rTurn σ.1.2.2.2.1 x y)
def oStill (σ : Sg) : Int32 × Sg := (nI σ.1.2.2.2.1, ((σ.1.1, σ.1.2.1, σ.1.2.2.1, 0, σ.1.2.2.2.2.1, σ.1.2.2.2.2.2), σ.2))
def oUndo (σ : Sg) : Int32 × Sg := match σ.2.2.2.1 with
  | [] => rfS σ (-3)
  | e :: t => (nI t.length, ((σ.1.1, σ.1.2.1, e.1, σ.1.2.2.2.1, σ.1.2.2.2.2.1, e.2), σ.2.1, σ.2.2.1, t, σ.2.2.2.2))
def oImage (σ : Sg) : Int32 × Sg := (nI σ.1.2.1, (σ.1, σ.2.1, σ.2.2.1, σ.2.2.2.1, some σ.1, σ.2.2.2.2.2))
def oOn (σ : Sg) : Int32 × Sg := match σ.2.2.2.2.1 with
  | none => rfS σ (-3)
  | some c2 => (nI c2.2.1, (c2, σ.2.1, σ.2.2.1, [], σ.2.2.2.2))
def ltZ (σ : Sg) : Sg := (σ.1, (0, σ.2.1.2), σ.2.2)
def oText (σ : Sg) : Int32 × Sg := match wp σ.2.1.2 σ.2.1.1 0 0 with
  | some p => (-1000 - nI p, ltZ σ)
  | none => match (tRun σ.2.1.2 σ.2.1.1 σ.2.1.1 0 0 σ.1).1 with
    | some i => (-2000 - nI i, ltZ σ)
    | none => (nI (tRun σ.2.1.2 σ.2.1.1 σ.2.1.1 0 0 σ.1).2.1, ((tRun σ.2.1.2 σ.2.1.1 σ.2.1.1 0 0 σ.1).2.2, (0, σ.2.1.2), σ.2.2.1, [], σ.2.2.2.2))
theorem tu_app {K U : List Nat} {a : Nat} {tu : Nat → Nat × Nat} (ht : ∀ i, i < a → (K.getD i 0, U.getD i 0) = tu i) (lK : a < K.length) (lU : a < U.length) (x y : Nat) : ∀ i, i < a + 1 → ((K.set a x).getD i 0, (U.set a y).getD i 0) = upT tu a (x, y) i := fun i hi => by
  by_cases q : i = a
  · subst q; rw [upT_eq, getD_set_eq lK, getD_set_eq lU]
  · rw [upT_ne q, getD_set_ne (fun z => q z.symm), getD_set_ne (fun z => q z.symm)]; exact ht i (by omega)

set_option maxRecDepth 100000 in
set_option maxHeartbeats 4000000 in
theorem ev_x_turn {h : List aC} {σ : Sg} (H : RC h σ) (ok : okSg σ) (x y : Int32) : Ev mX8_turn 3 0 0 [.ref 0, .int x, .int y] h (sp h (oTurn σ x y)) := by
  obtain ⟨hO0, hS, ⟨ci, hI, hI2⟩, ⟨cd, hDr⟩, hLt, hL, hH, ⟨⟨sw_, sc_, sgs, sgk, hX⟩, ⟨xn, xm, xF, xS, xA, hXP⟩⟩, ⟨tn, tm, tF, tS, tA, hTh⟩, ⟨pn, pm, pF, pS, pA, hSp⟩, hRf⟩ := id H
  obtain ⟨hO1, F, S, A, K, U, C, T, hP, hf, hT, ht, hR, hC, hl⟩ := id hS
  have hO1 : rd h 1 = some (.inr (6, [.ref 2, .ref 6, .ref 9])) := hO1
  have hP : PA h 2 _ _ F S A := hP
  have hT : TA h 6 _ K U := hT
  have hR : RA h 9 _ C T := hR
  obtain ⟨-, -, -, -, lF, lS, lA⟩ := id hP
  obtain ⟨-, -, -, lK, lU⟩ := id hT
  obtain ⟨-, -, -, lC, lT⟩ := id hR
  obtain ⟨okc, ⟨okl, okw⟩, okn, ⟨okh, oke⟩, oki, okr⟩ := id ok
  obtain ⟨k1, k2, k3, k4, k5, k6, k7, k8, k9⟩ := id okc
  have hbn : bnd σ.1.1 σ.1.2.1 F S A := okc.bnd hf
  refine Ev.of pX8_turn (Nat.le_of_ble_eq_true rfl) ?_
  show G mX8_turn (rmD 3 0 0) none _ 0 0 0 [(0, .ref 0), (1, .int x), (2, .int y)] [] h
  obtain ⟨nx1, o1⟩ := HR.o hH
  refine g_aload_n dX8_turn_0 0 rfl ?_
  refine g_getf dX8_turn_1 kX8 wfX8_10 (Nat.le_of_ble_eq_true rfl) (hO0) rfl ?_
  refine g_iload_n dX8_turn_4 1 rfl ?_
  refine g_iload_n dX8_turn_5 2 rfl ?_
  refine g_callVp dX8_turn_6 (ev_rTurn hO1 hP hT hR (by omega) x y) oX6_refusalOfTurn wiX6_refusalOfTurn weX6_refusalOfTurn wmX8_266 kX6 (hO1) rfl ⟨(Nat.le_of_ble_eq_true rfl), (Nat.le_of_ble_eq_true rfl)⟩ ⟨Nat.zero_le _, Nat.zero_le _⟩ (Nat.le_of_ble_eq_true rfl) rfl ?_
  refine g_istore_n (ls' := [(3, .int (rTurn σ.1.2.2.2.1 x y)), (0, .ref 0), (1, .int x), (2, .int y)]) dX8_turn_9 (Nat.le_of_ble_eq_true rfl) rfl ?_
  refine g_iload_n dX8_turn_10 0 rfl ?_
  refine g_if_eq 20 dX8_turn_11 (by decide) (fun c11 => ?_) (fun c11 => ?_)
  · rw [show oTurn σ x y = (nI (σ.1.2.2.2.1 + 1), ((σ.1.1, σ.1.2.1, σ.1.2.2.1, σ.1.2.2.2.1 + 1, upT σ.1.2.2.2.2.1 σ.1.2.2.2.1 (x.toNatClampNeg, y.toNatClampNeg), σ.1.2.2.2.2.2), σ.2)) from if_pos c11]
    obtain ⟨b1, b2⟩ := rTurn_nn c11
    obtain ⟨x1, hx1, rfl⟩ := nn_of b1
    obtain ⟨y1, hy1, rfl⟩ := nn_of b2
    have g := rTurn_in hx1 hy1 c11
    rw [cl_ hx1, cl_ hy1]
    refine g_aload_n dX8_turn_20 1 rfl ?_
    refine g_getf dX8_turn_21 kX8 wfX8_10 (Nat.le_of_ble_eq_true rfl) (hO0) rfl ?_
    refine g_getf dX8_turn_24 kX6 wfX8_269 (Nat.le_of_ble_eq_true rfl) (hO1) rfl ?_
    refine g_iload_n dX8_turn_27 2 rfl ?_
    refine g_iload_n dX8_turn_28 3 rfl ?_
    refine g_callVq (st1 := []) dX8_turn_29 (ev_tappend hT (by omega) x1 y1) oX7_append wiX7_append weX7_append wmX8_273 kX7 (hT.1) rfl ⟨(Nat.le_of_ble_eq_true rfl), (Nat.le_of_ble_eq_true rfl)⟩ ⟨Nat.zero_le _, Nat.zero_le _⟩ (Nat.le_of_ble_eq_true rfl) rfl rfl (fun h2 q2 => ?_)
    obtain ⟨q2a, q2s⟩ := q2
    have b2_2 := hP.mv q2s (by omega)
    have b2_9 := hR.mv q2s (by omega)
    have b2_12 := hI.mv q2s (by omega)
    have b2_23 := hDr.mv q2s (by omega)
    have b2_42 := hH.mv q2s (by omega)
    obtain ⟨nx3, o3⟩ := HR.o b2_42
    have b2_34 := hLt.mv q2s (by omega)
    have b2_36 := hL.mv q2s (by omega)
    have b2_84 := hX.mv q2s (by omega)
    have b2_85 := hXP.mv q2s (by omega)
    have b2_89 := hTh.mv q2s (by omega)
    have b2_93 := hSp.mv q2s (by omega)
    have f2_0 : rd h2 0 = some (.inr (8, [.ref 1, .ref 12, .ref 23, .int (nI (bI σ.2.2.2.2.1.isSome)), .ref 34, .ref 36, .ref 42, .ref 84, .ref 89, .ref 93, .ref 97])) := by rw [q2s _ (by omega)]; exact hO0
    have f2_1 : rd h2 1 = some (.inr (6, [.ref 2, .ref 6, .ref 9])) := by rw [q2s _ (by omega)]; exact hO1
    have f2_97 : rd h2 97 = some (.inl (σ.2.2.2.2.2)) := by rw [q2s _ (by omega)]; exact hRf
    refine g_aload_n dX8_turn_32 1 rfl ?_
    refine g_getf dX8_turn_33 kX8 wfX8_10 (Nat.le_of_ble_eq_true rfl) (f2_0) rfl ?_
    refine g_getf dX8_turn_36 kX6 wfX8_269 (Nat.le_of_ble_eq_true rfl) (f2_1) rfl ?_
    refine g_getf dX8_turn_39 kX7 wfX8_276 (Nat.le_of_ble_eq_true rfl) (q2a.1) rfl ?_
    exact g_iret dX8_turn_42 rfl ⟨Nat.zero_le _, Nat.zero_le _⟩ (⟨rfl, ⟨f2_0, ⟨f2_1, _, _, _, _, _, _, _, b2_2, hf, q2a, (tu_app ht (by omega) (by omega) x1 y1), b2_9, hC, hl⟩, ⟨_, b2_12, hI2⟩, ⟨_, b2_23⟩, b2_34, b2_36, b2_42, ⟨⟨_, _, _, _, b2_84⟩, ⟨_, _, _, _, _, b2_85⟩⟩, ⟨_, _, _, _, _, b2_89⟩, ⟨_, _, _, _, _, b2_93⟩, f2_97⟩, (fun q hq => by rw [q2s q (by omega)])⟩)
  · refine g_aload_n dX8_turn_14 1 rfl ?_
    refine g_iload_n dX8_turn_15 0 rfl ?_
    rw [show oTurn σ x y = rfS σ (rTurn σ.1.2.2.2.1 x y) from if_neg c11]
    refine g_callVq (st1 := [.int (rTurn σ.1.2.2.2.1 x y)]) dX8_turn_16 (ev_refuseR H ok ((rTurn_no _ x y)) c11) oX8_refuse wiX8_refuse weX8_refuse wmX8_68 kX8 (hO0) rfl ⟨(Nat.le_of_ble_eq_true rfl), (Nat.le_of_ble_eq_true rfl)⟩ ⟨Nat.zero_le _, Nat.zero_le _⟩ (Nat.le_of_ble_eq_true rfl) rfl rfl (fun h4 q4 => ?_)
    exact g_iret dX8_turn_19 rfl ⟨Nat.zero_le _, Nat.zero_le _⟩ (⟨rfl, q4⟩)

set_option maxRecDepth 100000 in
set_option maxHeartbeats 4000000 in
theorem ev_x_still {h : List aC} {σ : Sg} (H : RC h σ) (ok : okSg σ) : Ev mX8_still 2 0 0 [.ref 0] h (sp h (oStill σ)) := by
  obtain ⟨hO0, hS, ⟨ci, hI, hI2⟩, ⟨cd, hDr⟩, hLt, hL, hH, ⟨⟨sw_, sc_, sgs, sgk, hX⟩, ⟨xn, xm, xF, xS, xA, hXP⟩⟩, ⟨tn, tm, tF, tS, tA, hTh⟩, ⟨pn, pm, pF, pS, pA, hSp⟩, hRf⟩ := id H
  obtain ⟨hO1, F, S, A, K, U, C, T, hP, hf, hT, ht, hR, hC, hl⟩ := id hS
  have hO1 : rd h 1 = some (.inr (6, [.ref 2, .ref 6, .ref 9])) := hO1
  have hP : PA h 2 _ _ F S A := hP
  have hT : TA h 6 _ K U := hT
  have hR : RA h 9 _ C T := hR
  obtain ⟨-, -, -, -, lF, lS, lA⟩ := id hP
  obtain ⟨-, -, -, lK, lU⟩ := id hT
  obtain ⟨-, -, -, lC, lT⟩ := id hR
  obtain ⟨okc, ⟨okl, okw⟩, okn, ⟨okh, oke⟩, oki, okr⟩ := id ok
  obtain ⟨k1, k2, k3, k4, k5, k6, k7, k8, k9⟩ := id okc
  have hbn : bnd σ.1.1 σ.1.2.1 F S A := okc.bnd hf
  refine Ev.of pX8_still (Nat.le_of_ble_eq_true rfl) ?_
  show G mX8_still (rmD 2 0 0) none _ 0 0 0 [(0, .ref 0)] [] h
  obtain ⟨nx1, o1⟩ := HR.o hH
  refine g_aload_n dX8_still_0 0 rfl ?_
  refine g_getf dX8_still_1 kX8 wfX8_10 (Nat.le_of_ble_eq_true rfl) (hO0) rfl ?_
  refine g_getf dX8_still_4 kX6 wfX8_269 (Nat.le_of_ble_eq_true rfl) (hO1) rfl ?_
  refine g_getf dX8_still_7 kX7 wfX8_276 (Nat.le_of_ble_eq_true rfl) (hT.1) rfl ?_
  refine g_istore_n (ls' := [(1, .int (nI σ.1.2.2.2.1)), (0, .ref 0)]) dX8_still_10 (Nat.le_of_ble_eq_true rfl) rfl ?_
  refine g_aload_n dX8_still_11 1 rfl ?_
  refine g_getf dX8_still_12 kX8 wfX8_10 (Nat.le_of_ble_eq_true rfl) (hO0) rfl ?_
  refine g_getf dX8_still_15 kX6 wfX8_269 (Nat.le_of_ble_eq_true rfl) (hO1) rfl ?_
  refine g_iconst (v := nI 0) dX8_still_18 (by decide +kernel) ?_
  refine g_putv dX8_still_19 kX7 wfX8_276 (Nat.le_of_ble_eq_true rfl) rfl (fun _ _ => ⟨rfl, rfl⟩) (hT.1) (Nat.le_of_ble_eq_true rfl) (fs' := [.ref 7, .ref 8, .int (nI 0)]) rfl (fun h2 e2 => ?_)
  have f2_6 : rd h2 6 = some (.inr (7, [.ref 7, .ref 8, .int (nI 0)])) := by rw [e2]; exact rd_wr_eq (hT.1)
  have s2 : Smo 6 (6 + 1) h h2 := by rw [e2]; exact Smo.wr (by omega) (by omega)
  have b2_2 := hP.mv s2 (by omega)
  have b2_9 := hR.mv s2 (by omega)
  have b2_12 := hI.mv s2 (by omega)
  have b2_23 := hDr.mv s2 (by omega)
  have b2_42 := hH.mv s2 (by omega)
  obtain ⟨nx3, o3⟩ := HR.o b2_42
  have b2_34 := hLt.mv s2 (by omega)
  have b2_36 := hL.mv s2 (by omega)
  have b2_84 := hX.mv s2 (by omega)
  have b2_85 := hXP.mv s2 (by omega)
  have b2_89 := hTh.mv s2 (by omega)
  have b2_93 := hSp.mv s2 (by omega)
  have f2_0 : rd h2 0 = some (.inr (8, [.ref 1, .ref 12, .ref 23, .int (nI (bI σ.2.2.2.2.1.isSome)), .ref 34, .ref 36, .ref 42, .ref 84, .ref 89, .ref 93, .ref 97])) := by rw [s2 _ (by omega)]; exact hO0
  have f2_1 : rd h2 1 = some (.inr (6, [.ref 2, .ref 6, .ref 9])) := by rw [s2 _ (by omega)]; exact hO1
  have f2_7 : rd h2 7 = some (.inl ((K).map nI)) := by rw [s2 _ (by omega)]; exact hT.2.1
  have f2_8 : rd h2 8 = some (.inl ((U).map nI)) := by rw [s2 _ (by omega)]; exact hT.2.2.1
  have f2_97 : rd h2 97 = some (.inl (σ.2.2.2.2.2)) := by rw [s2 _ (by omega)]; exact hRf
  have H4 : TA h2 6 0 K U := ⟨f2_6, f2_7, f2_8, lK, lU⟩
  refine g_iload_n dX8_still_22 0 rfl ?_
  exact g_iret dX8_still_23 rfl ⟨Nat.zero_le _, Nat.zero_le _⟩ (⟨rfl, ⟨f2_0, ⟨f2_1, _, _, _, _, _, _, _, b2_2, hf, H4, (fun i hi => absurd hi (Nat.not_lt_zero i)), b2_9, hC, hl⟩, ⟨_, b2_12, hI2⟩, ⟨_, b2_23⟩, b2_34, b2_36, b2_42, ⟨⟨_, _, _, _, b2_84⟩, ⟨_, _, _, _, _, b2_85⟩⟩, ⟨_, _, _, _, _, b2_89⟩, ⟨_, _, _, _, _, b2_93⟩, f2_97⟩, (fun q hq => by rw [s2 q (by omega)])⟩)

set_option maxRecDepth 100000 in
set_option maxHeartbeats 4000000 in
theorem ev_x_undo0 {h : List aC} {σ : Sg} (H : RC h σ) (ok : okSg σ) (eh : σ.2.2.2.1 = []) : Ev mX8_undo 3 0 0 [.ref 0] h (sp h (oUndo σ)) := by
  obtain ⟨hO0, hS, ⟨ci, hI, hI2⟩, ⟨cd, hDr⟩, hLt, hL, hH, ⟨⟨sw_, sc_, sgs, sgk, hX⟩, ⟨xn, xm, xF, xS, xA, hXP⟩⟩, ⟨tn, tm, tF, tS, tA, hTh⟩, ⟨pn, pm, pF, pS, pA, hSp⟩, hRf⟩ := id H
  obtain ⟨hO1, F, S, A, K, U, C, T, hP, hf, hT, ht, hR, hC, hl⟩ := id hS
  have hO1 : rd h 1 = some (.inr (6, [.ref 2, .ref 6, .ref 9])) := hO1
  have hP : PA h 2 _ _ F S A := hP
  have hT : TA h 6 _ K U := hT
  have hR : RA h 9 _ C T := hR
  obtain ⟨-, -, -, -, lF, lS, lA⟩ := id hP
  obtain ⟨-, -, -, lK, lU⟩ := id hT
  obtain ⟨-, -, -, lC, lT⟩ := id hR
  obtain ⟨okc, ⟨okl, okw⟩, okn, ⟨okh, oke⟩, oki, okr⟩ := id ok
  obtain ⟨k1, k2, k3, k4, k5, k6, k7, k8, k9⟩ := id okc
  have hbn : bnd σ.1.1 σ.1.2.1 F S A := okc.bnd hf
  rw [eh] at hH
  refine Ev.of pX8_undo (Nat.le_of_ble_eq_true rfl) ?_
  show G mX8_undo (rmD 3 0 0) none _ 0 0 0 [(0, .ref 0)] [] h
  obtain ⟨nx1, o1⟩ := HR.o hH
  obtain ⟨nx2, o2⟩ := HR.o hH
  refine g_aload_n dX8_undo_0 0 rfl ?_
  refine g_getf dX8_undo_1 kX8 wfX8_43 (Nat.le_of_ble_eq_true rfl) (hO0) rfl ?_
  refine g_getf dX8_undo_4 kX0 wfX8_313 (Nat.le_of_ble_eq_true rfl) (o2) rfl ?_
  refine g_top (show nI ([] : List Hs).length = nI 0 from rfl) ?_
  refine g_iconst (v := nI 1) dX8_undo_7 (by decide +kernel) ?_
  refine g_icmp_geN 18 dX8_undo_8 (by decide) (by omega) (by omega) (fun z => absurd z (by show ¬ 1 ≤ 0; omega)) (fun c8 => ?_)
  refine g_aload_n dX8_undo_11 0 rfl ?_
  refine g_bipush (v := (-3)) dX8_undo_12 (by decide +kernel) ?_
  rw [show oUndo σ = rfS σ (-3) from by unfold oUndo; rw [eh]]
  refine g_callVq (st1 := [.int (-nI 3)]) dX8_undo_14 (ev_refuse H ok 3 (by unfold noN; omega)) oX8_refuse wiX8_refuse weX8_refuse wmX8_68 kX8 (hO0) rfl ⟨(Nat.le_of_ble_eq_true rfl), (Nat.le_of_ble_eq_true rfl)⟩ ⟨Nat.zero_le _, Nat.zero_le _⟩ (Nat.le_of_ble_eq_true rfl) rfl rfl (fun h3 q3 => ?_)
  exact g_iret dX8_undo_17 rfl ⟨Nat.zero_le _, Nat.zero_le _⟩ (⟨rfl, q3⟩)

set_option maxRecDepth 100000 in
set_option maxHeartbeats 4000000 in
theorem ev_x_undo1 {h : List aC} {σ : Sg} (H : RC h σ) (ok : okSg σ) (e0 : Hs) (t0 : List Hs) (eh : σ.2.2.2.1 = e0 :: t0) : Ev mX8_undo 3 0 0 [.ref 0] h (sp h (oUndo σ)) := by
  obtain ⟨hO0, hS, ⟨ci, hI, hI2⟩, ⟨cd, hDr⟩, hLt, hL, hH, ⟨⟨sw_, sc_, sgs, sgk, hX⟩, ⟨xn, xm, xF, xS, xA, hXP⟩⟩, ⟨tn, tm, tF, tS, tA, hTh⟩, ⟨pn, pm, pF, pS, pA, hSp⟩, hRf⟩ := id H
  obtain ⟨hO1, F, S, A, K, U, C, T, hP, hf, hT, ht, hR, hC, hl⟩ := id hS
  have hO1 : rd h 1 = some (.inr (6, [.ref 2, .ref 6, .ref 9])) := hO1
  have hP : PA h 2 _ _ F S A := hP
  have hT : TA h 6 _ K U := hT
  have hR : RA h 9 _ C T := hR
  obtain ⟨-, -, -, -, lF, lS, lA⟩ := id hP
  obtain ⟨-, -, -, lK, lU⟩ := id hT
  obtain ⟨-, -, -, lC, lT⟩ := id hR
  obtain ⟨okc, ⟨okl, okw⟩, okn, ⟨okh, oke⟩, oki, okr⟩ := id ok
  obtain ⟨k1, k2, k3, k4, k5, k6, k7, k8, k9⟩ := id okc
  have hbn : bnd σ.1.1 σ.1.2.1 F S A := okc.bnd hf
  rw [eh] at hH
  have lt0 : t0.length + 1 ≤ 12 := by rw [eh] at okh; exact okh
  refine Ev.of pX8_undo (Nat.le_of_ble_eq_true rfl) ?_
  show G mX8_undo (rmD 3 0 0) none _ 0 0 0 [(0, .ref 0)] [] h
  obtain ⟨nx1, o1⟩ := HR.o hH
  obtain ⟨nx2, o2⟩ := HR.o hH
  refine g_aload_n dX8_undo_0 0 rfl ?_
  refine g_getf dX8_undo_1 kX8 wfX8_43 (Nat.le_of_ble_eq_true rfl) (hO0) rfl ?_
  refine g_getf dX8_undo_4 kX0 wfX8_313 (Nat.le_of_ble_eq_true rfl) (o2) rfl ?_
  refine g_top (show nI (e0 :: t0).length = nI (t0.length + 1) from rfl) ?_
  refine g_iconst (v := nI 1) dX8_undo_7 (by decide +kernel) ?_
  refine g_icmp_geN 18 dX8_undo_8 (by decide) (by omega) (by omega) (fun c8 => ?_) (fun z => absurd z (by omega))
  rw [show oUndo σ = (nI t0.length, ((σ.1.1, σ.1.2.1, e0.1, σ.1.2.2.2.1, σ.1.2.2.2.2.1, e0.2), σ.2.1, σ.2.2.1, t0, σ.2.2.2.2)) from by unfold oUndo; rw [eh]]
  refine g_aload_n dX8_undo_18 0 rfl ?_
  refine g_getf dX8_undo_19 kX8 wfX8_43 (Nat.le_of_ble_eq_true rfl) (hO0) rfl ?_
  refine g_aload_n dX8_undo_22 0 rfl ?_
  refine g_getf dX8_undo_23 kX8 wfX8_10 (Nat.le_of_ble_eq_true rfl) (hO0) rfl ?_
  refine g_callVq (st1 := []) dX8_undo_26 (hx_goBack hH hS (by omega)) oX0_goBack wiX0_goBack weX0_goBack wmX8_314 kX0 (o2) rfl ⟨(Nat.le_of_ble_eq_true rfl), (Nat.le_of_ble_eq_true rfl)⟩ ⟨Nat.zero_le _, Nat.zero_le _⟩ (Nat.le_of_ble_eq_true rfl) rfl rfl (fun h3 q3 => ?_)
  obtain ⟨hm3, s3a, s3b, q3h, q3s⟩ := q3
  obtain ⟨nx4, o4⟩ := HR.o q3h
  have b3_12 := hI.mv s3a (by omega)
  have b3_23 := hDr.mv s3a (by omega)
  have b3_34 := hLt.mv s3a (by omega)
  have b3_36 := hL.mv s3a (by omega)
  have b3_84 := hX.mv s3a (by omega)
  have b3_85 := hXP.mv s3a (by omega)
  have b3_89 := hTh.mv s3a (by omega)
  have b3_93 := hSp.mv s3a (by omega)
  have f3_0 : rd hm3 0 = some (.inr (8, [.ref 1, .ref 12, .ref 23, .int (nI (bI σ.2.2.2.2.1.isSome)), .ref 34, .ref 36, .ref 42, .ref 84, .ref 89, .ref 93, .ref 97])) := by rw [s3a _ (by omega)]; exact hO0
  have f3_97 : rd hm3 97 = some (.inl (σ.2.2.2.2.2)) := by rw [s3a _ (by omega)]; exact hRf
  obtain ⟨nx5, o5⟩ := HR.o q3h
  have b6_12 := b3_12.mv s3b (by omega)
  have b6_23 := b3_23.mv s3b (by omega)
  have b6_34 := b3_34.mv s3b (by omega)
  have b6_36 := b3_36.mv s3b (by omega)
  have b6_84 := b3_84.mv s3b (by omega)
  have b6_85 := b3_85.mv s3b (by omega)
  have b6_89 := b3_89.mv s3b (by omega)
  have b6_93 := b3_93.mv s3b (by omega)
  have f6_0 : rd h3 0 = some (.inr (8, [.ref 1, .ref 12, .ref 23, .int (nI (bI σ.2.2.2.2.1.isSome)), .ref 34, .ref 36, .ref 42, .ref 84, .ref 89, .ref 93, .ref 97])) := by rw [s3b _ (by omega)]; exact f3_0
  have f6_97 : rd h3 97 = some (.inl (σ.2.2.2.2.2)) := by rw [s3b _ (by omega)]; exact f3_97
  obtain ⟨nx7, o7⟩ := HR.o q3h
  refine g_aload_n dX8_undo_29 0 rfl ?_
  refine g_getf dX8_undo_30 kX8 wfX8_43 (Nat.le_of_ble_eq_true rfl) (f6_0) rfl ?_
  refine g_getf dX8_undo_33 kX0 wfX8_313 (Nat.le_of_ble_eq_true rfl) (o7) rfl ?_
  exact g_iret dX8_undo_36 rfl ⟨Nat.zero_le _, Nat.zero_le _⟩ (⟨rfl, ⟨f6_0, q3s, ⟨_, b6_12, hI2⟩, ⟨_, b6_23⟩, b6_34, b6_36, q3h, ⟨⟨_, _, _, _, b6_84⟩, ⟨_, _, _, _, _, b6_85⟩⟩, ⟨_, _, _, _, _, b6_89⟩, ⟨_, _, _, _, _, b6_93⟩, f6_97⟩, (fun q hq => by rw [s3b q (by omega), s3a q (by omega)])⟩)

theorem ev_x_undo {h : List aC} {σ : Sg} (H : RC h σ) (ok : okSg σ) : Ev mX8_undo 3 0 0 [.ref 0] h (sp h (oUndo σ)) := by
  rcases eh : σ.2.2.2.1 with _ | ⟨e0, t0⟩
  · exact ev_x_undo0 H ok eh
  · exact ev_x_undo1 H ok e0 t0 eh

set_option maxRecDepth 100000 in
set_option maxHeartbeats 4000000 in
theorem ev_x_image {h : List aC} {σ : Sg} (H : RC h σ) (ok : okSg σ) : Ev mX8_image 3 0 0 [.ref 0] h (sp h (oImage σ)) := by
  obtain ⟨hO0, hS, ⟨ci, hI, hI2⟩, ⟨cd, hDr⟩, hLt, hL, hH, ⟨⟨sw_, sc_, sgs, sgk, hX⟩, ⟨xn, xm, xF, xS, xA, hXP⟩⟩, ⟨tn, tm, tF, tS, tA, hTh⟩, ⟨pn, pm, pF, pS, pA, hSp⟩, hRf⟩ := id H
  obtain ⟨hO1, F, S, A, K, U, C, T, hP, hf, hT, ht, hR, hC, hl⟩ := id hS
  have hO1 : rd h 1 = some (.inr (6, [.ref 2, .ref 6, .ref 9])) := hO1
  have hP : PA h 2 _ _ F S A := hP
  have hT : TA h 6 _ K U := hT
  have hR : RA h 9 _ C T := hR
  obtain ⟨-, -, -, -, lF, lS, lA⟩ := id hP
  obtain ⟨-, -, -, lK, lU⟩ := id hT
  obtain ⟨-, -, -, lC, lT⟩ := id hR
  obtain ⟨okc, ⟨okl, okw⟩, okn, ⟨okh, oke⟩, oki, okr⟩ := id ok
  obtain ⟨k1, k2, k3, k4, k5, k6, k7, k8, k9⟩ := id okc
  have hbn : bnd σ.1.1 σ.1.2.1 F S A := okc.bnd hf
  refine Ev.of pX8_image (Nat.le_of_ble_eq_true rfl) ?_
  show G mX8_image (rmD 3 0 0) none _ 0 0 0 [(0, .ref 0)] [] h
  obtain ⟨nx1, o1⟩ := HR.o hH
  refine g_aload_n dX8_image_0 0 rfl ?_
  refine g_getf dX8_image_1 kX8 wfX8_16 (Nat.le_of_ble_eq_true rfl) (hO0) rfl ?_
  refine g_aload_n dX8_image_4 0 rfl ?_
  refine g_getf dX8_image_5 kX8 wfX8_10 (Nat.le_of_ble_eq_true rfl) (hO0) rfl ?_
  refine g_callVq (st1 := []) dX8_image_8 (st_copy hI hS (by omega)) oX6_copyFrom wiX6_copyFrom weX6_copyFrom wmX8_83 kX6 (hI.1) rfl ⟨(Nat.le_of_ble_eq_true rfl), (Nat.le_of_ble_eq_true rfl)⟩ ⟨Nat.zero_le _, Nat.zero_le _⟩ (Nat.le_of_ble_eq_true rfl) rfl rfl (fun h2 q2 => ?_)
  obtain ⟨q2a, q2s⟩ := q2
  have b2_2 := hP.mv q2s (by omega)
  have b2_6 := hT.mv q2s (by omega)
  have b2_9 := hR.mv q2s (by omega)
  have b2_23 := hDr.mv q2s (by omega)
  have b2_42 := hH.mv q2s (by omega)
  obtain ⟨nx3, o3⟩ := HR.o b2_42
  have b2_34 := hLt.mv q2s (by omega)
  have b2_36 := hL.mv q2s (by omega)
  have b2_84 := hX.mv q2s (by omega)
  have b2_85 := hXP.mv q2s (by omega)
  have b2_89 := hTh.mv q2s (by omega)
  have b2_93 := hSp.mv q2s (by omega)
  have f2_0 : rd h2 0 = some (.inr (8, [.ref 1, .ref 12, .ref 23, .int (nI (bI σ.2.2.2.2.1.isSome)), .ref 34, .ref 36, .ref 42, .ref 84, .ref 89, .ref 93, .ref 97])) := by rw [q2s _ (by omega)]; exact hO0
  have f2_1 : rd h2 1 = some (.inr (6, [.ref 2, .ref 6, .ref 9])) := by rw [q2s _ (by omega)]; exact hO1
  have f2_97 : rd h2 97 = some (.inl (σ.2.2.2.2.2)) := by rw [q2s _ (by omega)]; exact hRf
  refine g_aload_n dX8_image_11 0 rfl ?_
  refine g_iconst (v := nI 1) dX8_image_12 (by decide +kernel) ?_
  refine g_putv dX8_image_13 kX8 wfX8_22 (Nat.le_of_ble_eq_true rfl) rfl (fun _ _ => ⟨rfl, rfl⟩) (f2_0) (Nat.le_of_ble_eq_true rfl) (fs' := [.ref 1, .ref 12, .ref 23, .int (nI 1), .ref 34, .ref 36, .ref 42, .ref 84, .ref 89, .ref 93, .ref 97]) rfl (fun h4 e4 => ?_)
  have f4_0 : rd h4 0 = some (.inr (8, [.ref 1, .ref 12, .ref 23, .int (nI 1), .ref 34, .ref 36, .ref 42, .ref 84, .ref 89, .ref 93, .ref 97])) := by rw [e4]; exact rd_wr_eq (f2_0)
  have s4 : Smo 0 (0 + 1) h2 h4 := by rw [e4]; exact Smo.wr (by omega) (by omega)
  have b4_2 := b2_2.mv s4 (by omega)
  have b4_6 := b2_6.mv s4 (by omega)
  have b4_9 := b2_9.mv s4 (by omega)
  have b4_12 := q2a.mv s4 (by omega)
  have b4_23 := b2_23.mv s4 (by omega)
  have b4_42 := b2_42.mv s4 (by omega)
  obtain ⟨nx5, o5⟩ := HR.o b4_42
  have b4_34 := b2_34.mv s4 (by omega)
  have b4_36 := b2_36.mv s4 (by omega)
  have b4_84 := b2_84.mv s4 (by omega)
  have b4_85 := b2_85.mv s4 (by omega)
  have b4_89 := b2_89.mv s4 (by omega)
  have b4_93 := b2_93.mv s4 (by omega)
  have f4_1 : rd h4 1 = some (.inr (6, [.ref 2, .ref 6, .ref 9])) := by rw [s4 _ (by omega)]; exact f2_1
  have f4_97 : rd h4 97 = some (.inl (σ.2.2.2.2.2)) := by rw [s4 _ (by omega)]; exact f2_97
  refine g_aload_n dX8_image_16 0 rfl ?_
  refine g_getf dX8_image_17 kX8 wfX8_10 (Nat.le_of_ble_eq_true rfl) (f4_0) rfl ?_
  refine g_getf dX8_image_20 kX6 wfX8_97 (Nat.le_of_ble_eq_true rfl) (f4_1) rfl ?_
  refine g_getf dX8_image_23 kX3 wfX8_115 (Nat.le_of_ble_eq_true rfl) (b4_2.1) rfl ?_
  exact g_iret dX8_image_26 rfl ⟨Nat.zero_le _, Nat.zero_le _⟩ (⟨rfl, ⟨f4_0, ⟨f4_1, _, _, _, _, _, _, _, b4_2, hf, b4_6, ht, b4_9, hC, hl⟩, ⟨_, b4_12, (fun c3 z => Option.some.inj z)⟩, ⟨_, b4_23⟩, b4_34, b4_36, b4_42, ⟨⟨_, _, _, _, b4_84⟩, ⟨_, _, _, _, _, b4_85⟩⟩, ⟨_, _, _, _, _, b4_89⟩, ⟨_, _, _, _, _, b4_93⟩, f4_97⟩, (fun q hq => by rw [s4 q (by omega), q2s q (by omega)])⟩)

set_option maxRecDepth 100000 in
set_option maxHeartbeats 4000000 in
theorem ev_x_on0 {h : List aC} {σ : Sg} (H : RC h σ) (ok : okSg σ) (eh : σ.2.2.2.2.1 = none) : Ev mX8_on 3 0 0 [.ref 0] h (sp h (oOn σ)) := by
  obtain ⟨hO0, hS, ⟨ci, hI, hI2⟩, ⟨cd, hDr⟩, hLt, hL, hH, ⟨⟨sw_, sc_, sgs, sgk, hX⟩, ⟨xn, xm, xF, xS, xA, hXP⟩⟩, ⟨tn, tm, tF, tS, tA, hTh⟩, ⟨pn, pm, pF, pS, pA, hSp⟩, hRf⟩ := id H
  obtain ⟨hO1, F, S, A, K, U, C, T, hP, hf, hT, ht, hR, hC, hl⟩ := id hS
  have hO1 : rd h 1 = some (.inr (6, [.ref 2, .ref 6, .ref 9])) := hO1
  have hP : PA h 2 _ _ F S A := hP
  have hT : TA h 6 _ K U := hT
  have hR : RA h 9 _ C T := hR
  obtain ⟨-, -, -, -, lF, lS, lA⟩ := id hP
  obtain ⟨-, -, -, lK, lU⟩ := id hT
  obtain ⟨-, -, -, lC, lT⟩ := id hR
  obtain ⟨okc, ⟨okl, okw⟩, okn, ⟨okh, oke⟩, oki, okr⟩ := id ok
  obtain ⟨k1, k2, k3, k4, k5, k6, k7, k8, k9⟩ := id okc
  have hbn : bnd σ.1.1 σ.1.2.1 F S A := okc.bnd hf
  refine Ev.of pX8_on (Nat.le_of_ble_eq_true rfl) ?_
  show G mX8_on (rmD 3 0 0) none _ 0 0 0 [(0, .ref 0)] [] h
  obtain ⟨nx1, o1⟩ := HR.o hH
  refine g_aload_n dX8_on_0 0 rfl ?_
  refine g_getf dX8_on_1 kX8 wfX8_22 (Nat.le_of_ble_eq_true rfl) (hO0) rfl ?_
  refine g_top (show nI (bI σ.2.2.2.2.1.isSome) = nI (bI false) from congrArg (fun z : Option Cr => nI (bI z.isSome)) eh) ?_
  refine g_if_neB 14 dX8_on_4 (by decide) (fun z => absurd z (by decide)) (fun c4 => ?_)
  refine g_aload_n dX8_on_7 0 rfl ?_
  refine g_bipush (v := (-3)) dX8_on_8 (by decide +kernel) ?_
  rw [show oOn σ = rfS σ (-3) from by unfold oOn; rw [eh]]
  refine g_callVq (st1 := [.int (-nI 3)]) dX8_on_10 (ev_refuse H ok 3 (by unfold noN; omega)) oX8_refuse wiX8_refuse weX8_refuse wmX8_68 kX8 (hO0) rfl ⟨(Nat.le_of_ble_eq_true rfl), (Nat.le_of_ble_eq_true rfl)⟩ ⟨Nat.zero_le _, Nat.zero_le _⟩ (Nat.le_of_ble_eq_true rfl) rfl rfl (fun h2 q2 => ?_)
  exact g_iret dX8_on_13 rfl ⟨Nat.zero_le _, Nat.zero_le _⟩ (⟨rfl, q2⟩)

set_option maxRecDepth 100000 in
set_option maxHeartbeats 4000000 in
theorem ev_x_on1 {h : List aC} {σ : Sg} (H : RC h σ) (ok : okSg σ) (c2 : Cr) (eh : σ.2.2.2.2.1 = some c2) : Ev mX8_on 3 0 0 [.ref 0] h (sp h (oOn σ)) := by
  obtain ⟨hO0, hS, ⟨ci, hI, hI2⟩, ⟨cd, hDr⟩, hLt, hL, hH, ⟨⟨sw_, sc_, sgs, sgk, hX⟩, ⟨xn, xm, xF, xS, xA, hXP⟩⟩, ⟨tn, tm, tF, tS, tA, hTh⟩, ⟨pn, pm, pF, pS, pA, hSp⟩, hRf⟩ := id H
  obtain ⟨hO1, F, S, A, K, U, C, T, hP, hf, hT, ht, hR, hC, hl⟩ := id hS
  have hO1 : rd h 1 = some (.inr (6, [.ref 2, .ref 6, .ref 9])) := hO1
  have hP : PA h 2 _ _ F S A := hP
  have hT : TA h 6 _ K U := hT
  have hR : RA h 9 _ C T := hR
  obtain ⟨-, -, -, -, lF, lS, lA⟩ := id hP
  obtain ⟨-, -, -, lK, lU⟩ := id hT
  obtain ⟨-, -, -, lC, lT⟩ := id hR
  obtain ⟨okc, ⟨okl, okw⟩, okn, ⟨okh, oke⟩, oki, okr⟩ := id ok
  obtain ⟨k1, k2, k3, k4, k5, k6, k7, k8, k9⟩ := id okc
  have hbn : bnd σ.1.1 σ.1.2.1 F S A := okc.bnd hf
  refine Ev.of pX8_on (Nat.le_of_ble_eq_true rfl) ?_
  show G mX8_on (rmD 3 0 0) none _ 0 0 0 [(0, .ref 0)] [] h
  obtain ⟨nx1, o1⟩ := HR.o hH
  refine g_aload_n dX8_on_0 0 rfl ?_
  refine g_getf dX8_on_1 kX8 wfX8_22 (Nat.le_of_ble_eq_true rfl) (hO0) rfl ?_
  refine g_top (show nI (bI σ.2.2.2.2.1.isSome) = nI (bI true) from congrArg (fun z : Option Cr => nI (bI z.isSome)) eh) ?_
  refine g_if_neB 14 dX8_on_4 (by decide) (fun c4 => ?_) (fun z => absurd z (by decide))
  rw [show oOn σ = (nI c2.2.1, (c2, σ.2.1, σ.2.2.1, [], σ.2.2.2.2)) from by unfold oOn; rw [eh]]
  refine g_aload_n dX8_on_14 0 rfl ?_
  refine g_getf dX8_on_15 kX8 wfX8_10 (Nat.le_of_ble_eq_true rfl) (hO0) rfl ?_
  refine g_aload_n dX8_on_18 0 rfl ?_
  refine g_getf dX8_on_19 kX8 wfX8_16 (Nat.le_of_ble_eq_true rfl) (hO0) rfl ?_
  refine g_callVq (st1 := []) dX8_on_22 (st_copy hS (hI2 c2 eh ▸ hI) (by omega)) oX6_copyFrom wiX6_copyFrom weX6_copyFrom wmX8_83 kX6 (hO1) rfl ⟨(Nat.le_of_ble_eq_true rfl), (Nat.le_of_ble_eq_true rfl)⟩ ⟨Nat.zero_le _, Nat.zero_le _⟩ (Nat.le_of_ble_eq_true rfl) rfl rfl (fun h2 q2 => ?_)
  obtain ⟨q2a, q2s⟩ := q2
  have b2_12 := hI.mv q2s (by omega)
  have b2_23 := hDr.mv q2s (by omega)
  have b2_42 := hH.mv q2s (by omega)
  obtain ⟨nx3, o3⟩ := HR.o b2_42
  have b2_34 := hLt.mv q2s (by omega)
  have b2_36 := hL.mv q2s (by omega)
  have b2_84 := hX.mv q2s (by omega)
  have b2_85 := hXP.mv q2s (by omega)
  have b2_89 := hTh.mv q2s (by omega)
  have b2_93 := hSp.mv q2s (by omega)
  have f2_0 : rd h2 0 = some (.inr (8, [.ref 1, .ref 12, .ref 23, .int (nI (bI σ.2.2.2.2.1.isSome)), .ref 34, .ref 36, .ref 42, .ref 84, .ref 89, .ref 93, .ref 97])) := by rw [q2s _ (by omega)]; exact hO0
  have f2_97 : rd h2 97 = some (.inl (σ.2.2.2.2.2)) := by rw [q2s _ (by omega)]; exact hRf
  refine g_aload_n dX8_on_25 0 rfl ?_
  refine g_getf dX8_on_26 kX8 wfX8_43 (Nat.le_of_ble_eq_true rfl) (f2_0) rfl ?_
  refine g_callVq (st1 := []) dX8_on_29 (hx_forget b2_42) oX0_forget wiX0_forget weX0_forget wmX8_91 kX0 (o3) rfl ⟨(Nat.le_of_ble_eq_true rfl), (Nat.le_of_ble_eq_true rfl)⟩ ⟨Nat.zero_le _, Nat.zero_le _⟩ (Nat.le_of_ble_eq_true rfl) rfl rfl (fun h4 q4 => ?_)
  obtain ⟨q4a, q4s⟩ := q4
  have z4 := q4a (c2.1) (c2.2.1) (c2.2.2.2.2.2)
  obtain ⟨nx5, o5⟩ := HR.o z4
  have b4_12 := b2_12.mv q4s (by omega)
  have b4_23 := b2_23.mv q4s (by omega)
  have b4_34 := b2_34.mv q4s (by omega)
  have b4_36 := b2_36.mv q4s (by omega)
  have b4_84 := b2_84.mv q4s (by omega)
  have b4_85 := b2_85.mv q4s (by omega)
  have b4_89 := b2_89.mv q4s (by omega)
  have b4_93 := b2_93.mv q4s (by omega)
  have b4_1 := q2a.mv q4s (by omega)
  have f4_0 : rd h4 0 = some (.inr (8, [.ref 1, .ref 12, .ref 23, .int (nI (bI σ.2.2.2.2.1.isSome)), .ref 34, .ref 36, .ref 42, .ref 84, .ref 89, .ref 93, .ref 97])) := by rw [q4s _ (by omega)]; exact f2_0
  have f4_97 : rd h4 97 = some (.inl (σ.2.2.2.2.2)) := by rw [q4s _ (by omega)]; exact f2_97
  refine g_aload_n dX8_on_32 0 rfl ?_
  refine g_getf dX8_on_33 kX8 wfX8_10 (Nat.le_of_ble_eq_true rfl) (f4_0) rfl ?_
  obtain ⟨zO, zF, zS, zA, zK, zU, zC, zT, zP, zf, zt0, zt, zR, zc, zl⟩ := id b4_1
  have zO : rd h4 1 = some (.inr (6, [.ref 2, .ref 6, .ref 9])) := zO
  have zP : PA h4 2 _ _ zF zS zA := zP
  have zt0 : TA h4 6 _ zK zU := zt0
  have zR : RA h4 9 _ zC zT := zR
  refine g_getf dX8_on_36 kX6 wfX8_97 (Nat.le_of_ble_eq_true rfl) (zO) rfl ?_
  refine g_getf dX8_on_39 kX3 wfX8_115 (Nat.le_of_ble_eq_true rfl) (zP.1) rfl ?_
  exact g_iret dX8_on_42 rfl ⟨Nat.zero_le _, Nat.zero_le _⟩ (⟨rfl, ⟨f4_0, ⟨zO, _, _, _, _, _, _, _, zP, zf, zt0, zt, zR, zc, zl⟩, ⟨_, b4_12, hI2⟩, ⟨_, b4_23⟩, b4_34, b4_36, z4, ⟨⟨_, _, _, _, b4_84⟩, ⟨_, _, _, _, _, b4_85⟩⟩, ⟨_, _, _, _, _, b4_89⟩, ⟨_, _, _, _, _, b4_93⟩, f4_97⟩, (fun q hq => by rw [q4s q (by omega), q2s q (by omega)])⟩)

theorem ev_x_on {h : List aC} {σ : Sg} (H : RC h σ) (ok : okSg σ) : Ev mX8_on 3 0 0 [.ref 0] h (sp h (oOn σ)) := by
  rcases eh : σ.2.2.2.2.1 with _ | c2
  · exact ev_x_on0 H ok eh
  · exact ev_x_on1 H ok c2 eh
