theorem wp_le {W : List Nat} : ∀ (j i l p : Nat), wp W j i l = some p → p ≤ i + j
  | 0, i, l, p, h => by
    have h' : (if l ≠ 0 ∨ i = 0 then some i else none) = some p := h
    by_cases q : l ≠ 0 ∨ i = 0
    · rw [if_pos q] at h'; have := Option.some.inj h'; omega
    · rw [if_neg q] at h'; cases h'
  | j + 1, i, l, p, h => by
    have h' : (if l = 0 then (if lnO (W.getD i 0) = 0 then some i else wp W j (i + 1) (lnO (W.getD i 0) - 1)) else if (l = 1 ∧ W.getD i 0 ≠ 59) ∨ (l ≠ 1 ∧ (W.getD i 0 < 48 ∨ 57 < W.getD i 0)) then some i else wp W j (i + 1) (l - 1)) = some p := h
    split at h'
    · split at h'
      · have := Option.some.inj h'; omega
      · have := wp_le j _ _ p h'; omega
    · split at h'
      · have := Option.some.inj h'; omega
      · have := wp_le j _ _ p h'; omega
theorem tRun_in {W : List Nat} {am : Nat} : ∀ (j i q : Nat) (c : Cr), (∀ p, (tRun W am j i q c).1 = some p → p < am) ∧ (tRun W am j i q c).2.1 ≤ q + j
  | 0, i, q, c => ⟨fun p h => (by cases h), Nat.le_refl _⟩
  | j + 1, i, q, c => by
    by_cases h : am ≤ i
    · rw [tRun_e h]; exact ⟨fun p h => (by cases h), by show q ≤ _; omega⟩
    · rcases e : tStep W i c with _ | c2
      · rw [tRun_n (by omega) e]; exact ⟨fun p h => (by have := Option.some.inj h; omega), by show q ≤ _; omega⟩
      · rw [tRun_s (by omega) e]
        obtain ⟨a, b⟩ := tRun_in (W := W) (am := am) j (i + lnO (W.getD i 0)) (q + 1) c2
        exact ⟨a, by omega⟩
theorem neg1 : ∀ p, p < 73 → (-1000) - nI p < 0 := by decide +kernel
theorem neg2 : ∀ p, p < 73 → (-2000) - nI p < 0 := by decide +kernel
theorem tAns_s {r : Option Nat × Nat × Cr} {i : Nat} (h : r.1 = some i) : tAns r = (-2000) - nI i := by unfold tAns; rw [h]
theorem tAns_n {r : Option Nat × Nat × Cr} (h : r.1 = none) : tAns r = nI r.2.1 := by unfold tAns; rw [h]

set_option maxRecDepth 100000 in
set_option maxHeartbeats 4000000 in
theorem ev_x_text0 {h : List aC} {σ : Sg} (H : RC h σ) (ok : okSg σ) (p : Nat) (ew : wp σ.2.1.2 σ.2.1.1 0 0 = some p) : Ev mX8_text 7 0 0 [.ref 0] h (sp h (oText σ)) := by
  obtain ⟨hO0, hS, ⟨ci, hI, hI2⟩, ⟨cd, hDr⟩, hLt, hL, hH, ⟨⟨sw_, sc_, sgs, sgk, hX⟩, ⟨xn, xm, xF, xS, xA, hXP⟩⟩, ⟨tn, tm, tF, tS, tA, hTh⟩, ⟨pn, pm, pF, pS, pA, hSp⟩, hRf⟩ := id H
  obtain ⟨hO1, F, S, A, K, U, C, T, hP, hf, hT, ht, hR, hC, hl⟩ := id hS
  have hO1 : rd h 1 = some (.inr (6, [.ref 2, .ref 6, .ref 9])) := hO1
  have hP : PA h 2 _ _ F S A := hP
  have hT : TA h 6 _ K U := hT
  have hR : RA h 9 _ C T := hR
  obtain ⟨-, -, -, -, lF, lS, lA⟩ := id hP
  obtain ⟨-, -, -, lK, lU⟩ := id hT
  obtain ⟨-, -, -, lC, lT⟩ := id hR
  obtain ⟨okc, ⟨okl, okw⟩, okn, ⟨okh, oke⟩, oki, okr⟩ := id ok
  obtain ⟨k1, k2, k3, k4, k5, k6, k7, k8, k9⟩ := id okc
  have hbn : bnd σ.1.1 σ.1.2.1 F S A := okc.bnd hf
  have zw := ev_wrong hLt okl okw
  rw [ew] at zw
  have zp := wp_le _ _ _ p ew
  rw [show oText σ = (-1000 - nI p, ltZ σ) from by unfold oText; rw [ew]]
  refine Ev.of pX8_text (Nat.le_of_ble_eq_true rfl) ?_
  show G mX8_text (rmD 7 0 0) none _ 0 0 0 [(0, .ref 0)] [] h
  obtain ⟨nx1, o1⟩ := HR.o hH
  refine g_aload_n dX8_text_0 0 rfl ?_
  refine g_getf dX8_text_1 kX8 wfX8_29 (Nat.le_of_ble_eq_true rfl) (hO0) rfl ?_
  refine g_callVp dX8_text_4 (zw) oX1_wrongPlace wiX1_wrongPlace weX1_wrongPlace wmX8_79 kX1 (hLt.1) rfl ⟨(Nat.le_of_ble_eq_true rfl), (Nat.le_of_ble_eq_true rfl)⟩ ⟨Nat.zero_le _, Nat.zero_le _⟩ (Nat.le_of_ble_eq_true rfl) rfl ?_
  refine g_istore_n (ls' := [(1, .int (nI p)), (0, .ref 0)]) dX8_text_7 (Nat.le_of_ble_eq_true rfl) rfl ?_
  refine g_sipush (v := (-1000)) dX8_text_8 (by decide +kernel) ?_
  refine g_iload_n dX8_text_11 0 rfl ?_
  refine g_isub dX8_text_12 ?_
  refine g_istore_n (ls' := [(2, .int ((-1000) - (nI p))), (1, .int (nI p)), (0, .ref 0)]) dX8_text_13 (Nat.le_of_ble_eq_true rfl) rfl ?_
  refine g_iload_n dX8_text_14 1 rfl ?_
  refine g_if_geN 41 dX8_text_15 (by decide) (by omega) ?_
  refine g_aload_n dX8_text_41 2 rfl ?_
  refine g_getf dX8_text_42 kX8 wfX8_29 (Nat.le_of_ble_eq_true rfl) (hO0) rfl ?_
  refine g_iconst (v := nI 0) dX8_text_45 (by decide +kernel) ?_
  refine g_putv dX8_text_46 kX1 wfX8_72 (Nat.le_of_ble_eq_true rfl) rfl (fun _ _ => ⟨rfl, rfl⟩) (hLt.1) (Nat.le_of_ble_eq_true rfl) (fs' := [.ref 35, .int (nI 0)]) rfl (fun h2 e2 => ?_)
  have f2_34 : rd h2 34 = some (.inr (1, [.ref 35, .int (nI 0)])) := by rw [e2]; exact rd_wr_eq (hLt.1)
  have s2 : Smo 34 (34 + 1) h h2 := by rw [e2]; exact Smo.wr (by omega) (by omega)
  have b2_2 := hP.mv s2 (by omega)
  have b2_6 := hT.mv s2 (by omega)
  have b2_9 := hR.mv s2 (by omega)
  have b2_12 := hI.mv s2 (by omega)
  have b2_23 := hDr.mv s2 (by omega)
  have b2_42 := hH.mv s2 (by omega)
  obtain ⟨nx3, o3⟩ := HR.o b2_42
  have b2_36 := hL.mv s2 (by omega)
  have b2_84 := hX.mv s2 (by omega)
  have b2_85 := hXP.mv s2 (by omega)
  have b2_89 := hTh.mv s2 (by omega)
  have b2_93 := hSp.mv s2 (by omega)
  have f2_0 : rd h2 0 = some (.inr (8, [.ref 1, .ref 12, .ref 23, .int (nI (bI σ.2.2.2.2.1.isSome)), .ref 34, .ref 36, .ref 42, .ref 84, .ref 89, .ref 93, .ref 97])) := by rw [s2 _ (by omega)]; exact hO0
  have f2_1 : rd h2 1 = some (.inr (6, [.ref 2, .ref 6, .ref 9])) := by rw [s2 _ (by omega)]; exact hO1
  have f2_35 : rd h2 35 = some (.inl ((σ.2.1.2).map nI)) := by rw [s2 _ (by omega)]; exact hLt.2.1
  have f2_97 : rd h2 97 = some (.inl (σ.2.2.2.2.2)) := by rw [s2 _ (by omega)]; exact hRf
  have H4 : LtA h2 0 σ.2.1.2 := ⟨f2_34, f2_35, hLt.2.2⟩
  refine g_iload_n dX8_text_49 0 rfl ?_
  refine g_if_lt 71 dX8_text_50 (by decide) (fun c50 => ?_) (fun z => absurd z (not_not_intro (neg1 p (by omega))))
  refine g_iload_n dX8_text_71 0 rfl ?_
  exact g_iret dX8_text_72 rfl ⟨Nat.zero_le _, Nat.zero_le _⟩ (⟨rfl, ⟨f2_0, ⟨f2_1, _, _, _, _, _, _, _, b2_2, hf, b2_6, ht, b2_9, hC, hl⟩, ⟨_, b2_12, hI2⟩, ⟨_, b2_23⟩, H4, b2_36, b2_42, ⟨⟨_, _, _, _, b2_84⟩, ⟨_, _, _, _, _, b2_85⟩⟩, ⟨_, _, _, _, _, b2_89⟩, ⟨_, _, _, _, _, b2_93⟩, f2_97⟩, (fun q hq => by rw [s2 q (by omega)])⟩)

set_option maxRecDepth 100000 in
set_option maxHeartbeats 4000000 in
theorem ev_x_text1 {h : List aC} {σ : Sg} (H : RC h σ) (ok : okSg σ) (ew : wp σ.2.1.2 σ.2.1.1 0 0 = none) (i : Nat) (er : (tRun σ.2.1.2 σ.2.1.1 σ.2.1.1 0 0 σ.1).1 = some i) : Ev mX8_text 7 0 0 [.ref 0] h (sp h (oText σ)) := by
  obtain ⟨hO0, hS, ⟨ci, hI, hI2⟩, ⟨cd, hDr⟩, hLt, hL, hH, ⟨⟨sw_, sc_, sgs, sgk, hX⟩, ⟨xn, xm, xF, xS, xA, hXP⟩⟩, ⟨tn, tm, tF, tS, tA, hTh⟩, ⟨pn, pm, pF, pS, pA, hSp⟩, hRf⟩ := id H
  obtain ⟨hO1, F, S, A, K, U, C, T, hP, hf, hT, ht, hR, hC, hl⟩ := id hS
  have hO1 : rd h 1 = some (.inr (6, [.ref 2, .ref 6, .ref 9])) := hO1
  have hP : PA h 2 _ _ F S A := hP
  have hT : TA h 6 _ K U := hT
  have hR : RA h 9 _ C T := hR
  obtain ⟨-, -, -, -, lF, lS, lA⟩ := id hP
  obtain ⟨-, -, -, lK, lU⟩ := id hT
  obtain ⟨-, -, -, lC, lT⟩ := id hR
  obtain ⟨okc, ⟨okl, okw⟩, okn, ⟨okh, oke⟩, oki, okr⟩ := id ok
  obtain ⟨k1, k2, k3, k4, k5, k6, k7, k8, k9⟩ := id okc
  have hbn : bnd σ.1.1 σ.1.2.1 F S A := okc.bnd hf
  have zw := ev_wrong hLt okl okw
  rw [ew] at zw
  have zr := tRun_in (W := σ.2.1.2) (am := σ.2.1.1) σ.2.1.1 0 0 σ.1
  have zi := zr.1 i er
  rw [show oText σ = (-2000 - nI i, ltZ σ) from by unfold oText; rw [ew]; show (match (tRun σ.2.1.2 σ.2.1.1 σ.2.1.1 0 0 σ.1).1 with | some i => _ | none => _) = _; rw [er]]
  refine Ev.of pX8_text (Nat.le_of_ble_eq_true rfl) ?_
  show G mX8_text (rmD 7 0 0) none _ 0 0 0 [(0, .ref 0)] [] h
  obtain ⟨nx1, o1⟩ := HR.o hH
  refine g_aload_n dX8_text_0 0 rfl ?_
  refine g_getf dX8_text_1 kX8 wfX8_29 (Nat.le_of_ble_eq_true rfl) (hO0) rfl ?_
  refine g_callVp dX8_text_4 (zw) oX1_wrongPlace wiX1_wrongPlace weX1_wrongPlace wmX8_79 kX1 (hLt.1) rfl ⟨(Nat.le_of_ble_eq_true rfl), (Nat.le_of_ble_eq_true rfl)⟩ ⟨Nat.zero_le _, Nat.zero_le _⟩ (Nat.le_of_ble_eq_true rfl) rfl ?_
  refine g_istore_n (ls' := [(1, .int (-1)), (0, .ref 0)]) dX8_text_7 (Nat.le_of_ble_eq_true rfl) rfl ?_
  refine g_sipush (v := (-1000)) dX8_text_8 (by decide +kernel) ?_
  refine g_iload_n dX8_text_11 0 rfl ?_
  refine g_isub dX8_text_12 ?_
  refine g_istore_n (ls' := [(2, .int ((-1000) - (-1))), (1, .int (-1)), (0, .ref 0)]) dX8_text_13 (Nat.le_of_ble_eq_true rfl) rfl ?_
  refine g_iload_n dX8_text_14 1 rfl ?_
  refine g_if_ge 41 dX8_text_15 (by decide) (fun z => absurd z (by decide)) (fun c15 => ?_)
  refine g_aload_n dX8_text_18 2 rfl ?_
  refine g_getf dX8_text_19 kX8 wfX8_19 (Nat.le_of_ble_eq_true rfl) (hO0) rfl ?_
  refine g_aload_n dX8_text_22 2 rfl ?_
  refine g_getf dX8_text_23 kX8 wfX8_10 (Nat.le_of_ble_eq_true rfl) (hO0) rfl ?_
  refine g_callVq (st1 := []) dX8_text_26 (st_copy hDr hS (by omega)) oX6_copyFrom wiX6_copyFrom weX6_copyFrom wmX8_83 kX6 (hDr.1) rfl ⟨(Nat.le_of_ble_eq_true rfl), (Nat.le_of_ble_eq_true rfl)⟩ ⟨Nat.zero_le _, Nat.zero_le _⟩ (Nat.le_of_ble_eq_true rfl) rfl rfl (fun h2 q2 => ?_)
  obtain ⟨q2a, q2s⟩ := q2
  have b2_2 := hP.mv q2s (by omega)
  have b2_6 := hT.mv q2s (by omega)
  have b2_9 := hR.mv q2s (by omega)
  have b2_12 := hI.mv q2s (by omega)
  have b2_42 := hH.mv q2s (by omega)
  obtain ⟨nx3, o3⟩ := HR.o b2_42
  have b2_34 := hLt.mv q2s (by omega)
  have b2_36 := hL.mv q2s (by omega)
  have b2_84 := hX.mv q2s (by omega)
  have b2_85 := hXP.mv q2s (by omega)
  have b2_89 := hTh.mv q2s (by omega)
  have b2_93 := hSp.mv q2s (by omega)
  have f2_0 : rd h2 0 = some (.inr (8, [.ref 1, .ref 12, .ref 23, .int (nI (bI σ.2.2.2.2.1.isSome)), .ref 34, .ref 36, .ref 42, .ref 84, .ref 89, .ref 93, .ref 97])) := by rw [q2s _ (by omega)]; exact hO0
  have f2_1 : rd h2 1 = some (.inr (6, [.ref 2, .ref 6, .ref 9])) := by rw [q2s _ (by omega)]; exact hO1
  have f2_97 : rd h2 97 = some (.inl (σ.2.2.2.2.2)) := by rw [q2s _ (by omega)]; exact hRf
  refine g_aload_n dX8_text_29 2 rfl ?_
  refine g_getf dX8_text_30 kX8 wfX8_29 (Nat.le_of_ble_eq_true rfl) (f2_0) rfl ?_
  refine g_aload_n dX8_text_33 2 rfl ?_
  refine g_getf dX8_text_34 kX8 wfX8_19 (Nat.le_of_ble_eq_true rfl) (f2_0) rfl ?_
  refine g_callVq (st1 := [.int (tAns (tRun σ.2.1.2 σ.2.1.1 σ.2.1.1 0 0 σ.1))]) dX8_text_37 (ev_layOn b2_34 okl okw q2a okc (by omega) ⟨Nat.zero_le _, ew⟩) oX1_layOn wiX1_layOn weX1_layOn wmX8_87 kX1 (b2_34.1) rfl ⟨(Nat.le_of_ble_eq_true rfl), (Nat.le_of_ble_eq_true rfl)⟩ ⟨Nat.zero_le _, Nat.zero_le _⟩ (Nat.le_of_ble_eq_true rfl) rfl rfl (fun h4 q4 => ?_)
  obtain ⟨q4a, q4s⟩ := q4
  have b4_2 := b2_2.mv q4s (by omega)
  have b4_6 := b2_6.mv q4s (by omega)
  have b4_9 := b2_9.mv q4s (by omega)
  have b4_12 := b2_12.mv q4s (by omega)
  have b4_42 := b2_42.mv q4s (by omega)
  obtain ⟨nx5, o5⟩ := HR.o b4_42
  have b4_34 := b2_34.mv q4s (by omega)
  have b4_36 := b2_36.mv q4s (by omega)
  have b4_84 := b2_84.mv q4s (by omega)
  have b4_85 := b2_85.mv q4s (by omega)
  have b4_89 := b2_89.mv q4s (by omega)
  have b4_93 := b2_93.mv q4s (by omega)
  have f4_0 : rd h4 0 = some (.inr (8, [.ref 1, .ref 12, .ref 23, .int (nI (bI σ.2.2.2.2.1.isSome)), .ref 34, .ref 36, .ref 42, .ref 84, .ref 89, .ref 93, .ref 97])) := by rw [q4s _ (by omega)]; exact f2_0
  have f4_1 : rd h4 1 = some (.inr (6, [.ref 2, .ref 6, .ref 9])) := by rw [q4s _ (by omega)]; exact f2_1
  have f4_97 : rd h4 97 = some (.inl (σ.2.2.2.2.2)) := by rw [q4s _ (by omega)]; exact f2_97
  refine g_top (tAns_s er) ?_
  refine g_istore_n (ls' := [(2, .int ((-2000) - nI i)), (1, .int (-1)), (0, .ref 0)]) dX8_text_40 (Nat.le_of_ble_eq_true rfl) rfl ?_
  refine g_aload_n dX8_text_41 2 rfl ?_
  refine g_getf dX8_text_42 kX8 wfX8_29 (Nat.le_of_ble_eq_true rfl) (f4_0) rfl ?_
  refine g_iconst (v := nI 0) dX8_text_45 (by decide +kernel) ?_
  refine g_putv dX8_text_46 kX1 wfX8_72 (Nat.le_of_ble_eq_true rfl) rfl (fun _ _ => ⟨rfl, rfl⟩) (b4_34.1) (Nat.le_of_ble_eq_true rfl) (fs' := [.ref 35, .int (nI 0)]) rfl (fun h6 e6 => ?_)
  have f6_34 : rd h6 34 = some (.inr (1, [.ref 35, .int (nI 0)])) := by rw [e6]; exact rd_wr_eq (b4_34.1)
  have s6 : Smo 34 (34 + 1) h4 h6 := by rw [e6]; exact Smo.wr (by omega) (by omega)
  have b6_2 := b4_2.mv s6 (by omega)
  have b6_6 := b4_6.mv s6 (by omega)
  have b6_9 := b4_9.mv s6 (by omega)
  have b6_12 := b4_12.mv s6 (by omega)
  have b6_23 := q4a.mv s6 (by omega)
  have b6_42 := b4_42.mv s6 (by omega)
  obtain ⟨nx7, o7⟩ := HR.o b6_42
  have b6_36 := b4_36.mv s6 (by omega)
  have b6_84 := b4_84.mv s6 (by omega)
  have b6_85 := b4_85.mv s6 (by omega)
  have b6_89 := b4_89.mv s6 (by omega)
  have b6_93 := b4_93.mv s6 (by omega)
  have f6_0 : rd h6 0 = some (.inr (8, [.ref 1, .ref 12, .ref 23, .int (nI (bI σ.2.2.2.2.1.isSome)), .ref 34, .ref 36, .ref 42, .ref 84, .ref 89, .ref 93, .ref 97])) := by rw [s6 _ (by omega)]; exact f4_0
  have f6_1 : rd h6 1 = some (.inr (6, [.ref 2, .ref 6, .ref 9])) := by rw [s6 _ (by omega)]; exact f4_1
  have f6_35 : rd h6 35 = some (.inl ((σ.2.1.2).map nI)) := by rw [s6 _ (by omega)]; exact b4_34.2.1
  have f6_97 : rd h6 97 = some (.inl (σ.2.2.2.2.2)) := by rw [s6 _ (by omega)]; exact f4_97
  have H8 : LtA h6 0 σ.2.1.2 := ⟨f6_34, f6_35, hLt.2.2⟩
  refine g_iload_n dX8_text_49 0 rfl ?_
  refine g_if_lt 71 dX8_text_50 (by decide) (fun c50 => ?_) (fun z => absurd z (not_not_intro (neg2 i (by omega))))
  refine g_iload_n dX8_text_71 0 rfl ?_
  exact g_iret dX8_text_72 rfl ⟨Nat.zero_le _, Nat.zero_le _⟩ (⟨rfl, ⟨f6_0, ⟨f6_1, _, _, _, _, _, _, _, b6_2, hf, b6_6, ht, b6_9, hC, hl⟩, ⟨_, b6_12, hI2⟩, ⟨_, b6_23⟩, H8, b6_36, b6_42, ⟨⟨_, _, _, _, b6_84⟩, ⟨_, _, _, _, _, b6_85⟩⟩, ⟨_, _, _, _, _, b6_89⟩, ⟨_, _, _, _, _, b6_93⟩, f6_97⟩, (fun q hq => by rw [s6 q (by omega), q4s q (by omega), q2s q (by omega)])⟩)

set_option maxRecDepth 100000 in
set_option maxHeartbeats 4000000 in
theorem ev_x_text2 {h : List aC} {σ : Sg} (H : RC h σ) (ok : okSg σ) (ew : wp σ.2.1.2 σ.2.1.1 0 0 = none) (er : (tRun σ.2.1.2 σ.2.1.1 σ.2.1.1 0 0 σ.1).1 = none) : Ev mX8_text 7 0 0 [.ref 0] h (sp h (oText σ)) := by
  obtain ⟨hO0, hS, ⟨ci, hI, hI2⟩, ⟨cd, hDr⟩, hLt, hL, hH, ⟨⟨sw_, sc_, sgs, sgk, hX⟩, ⟨xn, xm, xF, xS, xA, hXP⟩⟩, ⟨tn, tm, tF, tS, tA, hTh⟩, ⟨pn, pm, pF, pS, pA, hSp⟩, hRf⟩ := id H
  obtain ⟨hO1, F, S, A, K, U, C, T, hP, hf, hT, ht, hR, hC, hl⟩ := id hS
  have hO1 : rd h 1 = some (.inr (6, [.ref 2, .ref 6, .ref 9])) := hO1
  have hP : PA h 2 _ _ F S A := hP
  have hT : TA h 6 _ K U := hT
  have hR : RA h 9 _ C T := hR
  obtain ⟨-, -, -, -, lF, lS, lA⟩ := id hP
  obtain ⟨-, -, -, lK, lU⟩ := id hT
  obtain ⟨-, -, -, lC, lT⟩ := id hR
  obtain ⟨okc, ⟨okl, okw⟩, okn, ⟨okh, oke⟩, oki, okr⟩ := id ok
  obtain ⟨k1, k2, k3, k4, k5, k6, k7, k8, k9⟩ := id okc
  have hbn : bnd σ.1.1 σ.1.2.1 F S A := okc.bnd hf
  have zw := ev_wrong hLt okl okw
  rw [ew] at zw
  have zr := tRun_in (W := σ.2.1.2) (am := σ.2.1.1) σ.2.1.1 0 0 σ.1
  have zi := zr.2
  rw [show oText σ = (nI (tRun σ.2.1.2 σ.2.1.1 σ.2.1.1 0 0 σ.1).2.1, ((tRun σ.2.1.2 σ.2.1.1 σ.2.1.1 0 0 σ.1).2.2, (0, σ.2.1.2), σ.2.2.1, [], σ.2.2.2.2)) from by unfold oText; rw [ew]; show (match (tRun σ.2.1.2 σ.2.1.1 σ.2.1.1 0 0 σ.1).1 with | some i => _ | none => _) = _; rw [er]]
  refine Ev.of pX8_text (Nat.le_of_ble_eq_true rfl) ?_
  show G mX8_text (rmD 7 0 0) none _ 0 0 0 [(0, .ref 0)] [] h
  obtain ⟨nx1, o1⟩ := HR.o hH
  refine g_aload_n dX8_text_0 0 rfl ?_
  refine g_getf dX8_text_1 kX8 wfX8_29 (Nat.le_of_ble_eq_true rfl) (hO0) rfl ?_
  refine g_callVp dX8_text_4 (zw) oX1_wrongPlace wiX1_wrongPlace weX1_wrongPlace wmX8_79 kX1 (hLt.1) rfl ⟨(Nat.le_of_ble_eq_true rfl), (Nat.le_of_ble_eq_true rfl)⟩ ⟨Nat.zero_le _, Nat.zero_le _⟩ (Nat.le_of_ble_eq_true rfl) rfl ?_
  refine g_istore_n (ls' := [(1, .int (-1)), (0, .ref 0)]) dX8_text_7 (Nat.le_of_ble_eq_true rfl) rfl ?_
  refine g_sipush (v := (-1000)) dX8_text_8 (by decide +kernel) ?_
  refine g_iload_n dX8_text_11 0 rfl ?_
  refine g_isub dX8_text_12 ?_
  refine g_istore_n (ls' := [(2, .int ((-1000) - (-1))), (1, .int (-1)), (0, .ref 0)]) dX8_text_13 (Nat.le_of_ble_eq_true rfl) rfl ?_
  refine g_iload_n dX8_text_14 1 rfl ?_
  refine g_if_ge 41 dX8_text_15 (by decide) (fun z => absurd z (by decide)) (fun c15 => ?_)
  refine g_aload_n dX8_text_18 2 rfl ?_
  refine g_getf dX8_text_19 kX8 wfX8_19 (Nat.le_of_ble_eq_true rfl) (hO0) rfl ?_
  refine g_aload_n dX8_text_22 2 rfl ?_
  refine g_getf dX8_text_23 kX8 wfX8_10 (Nat.le_of_ble_eq_true rfl) (hO0) rfl ?_
  refine g_callVq (st1 := []) dX8_text_26 (st_copy hDr hS (by omega)) oX6_copyFrom wiX6_copyFrom weX6_copyFrom wmX8_83 kX6 (hDr.1) rfl ⟨(Nat.le_of_ble_eq_true rfl), (Nat.le_of_ble_eq_true rfl)⟩ ⟨Nat.zero_le _, Nat.zero_le _⟩ (Nat.le_of_ble_eq_true rfl) rfl rfl (fun h2 q2 => ?_)
  obtain ⟨q2a, q2s⟩ := q2
  have b2_2 := hP.mv q2s (by omega)
  have b2_6 := hT.mv q2s (by omega)
  have b2_9 := hR.mv q2s (by omega)
  have b2_12 := hI.mv q2s (by omega)
  have b2_42 := hH.mv q2s (by omega)
  obtain ⟨nx3, o3⟩ := HR.o b2_42
  have b2_34 := hLt.mv q2s (by omega)
  have b2_36 := hL.mv q2s (by omega)
  have b2_84 := hX.mv q2s (by omega)
  have b2_85 := hXP.mv q2s (by omega)
  have b2_89 := hTh.mv q2s (by omega)
  have b2_93 := hSp.mv q2s (by omega)
  have f2_0 : rd h2 0 = some (.inr (8, [.ref 1, .ref 12, .ref 23, .int (nI (bI σ.2.2.2.2.1.isSome)), .ref 34, .ref 36, .ref 42, .ref 84, .ref 89, .ref 93, .ref 97])) := by rw [q2s _ (by omega)]; exact hO0
  have f2_1 : rd h2 1 = some (.inr (6, [.ref 2, .ref 6, .ref 9])) := by rw [q2s _ (by omega)]; exact hO1
  have f2_97 : rd h2 97 = some (.inl (σ.2.2.2.2.2)) := by rw [q2s _ (by omega)]; exact hRf
  refine g_aload_n dX8_text_29 2 rfl ?_
  refine g_getf dX8_text_30 kX8 wfX8_29 (Nat.le_of_ble_eq_true rfl) (f2_0) rfl ?_
  refine g_aload_n dX8_text_33 2 rfl ?_
  refine g_getf dX8_text_34 kX8 wfX8_19 (Nat.le_of_ble_eq_true rfl) (f2_0) rfl ?_
  refine g_callVq (st1 := [.int (tAns (tRun σ.2.1.2 σ.2.1.1 σ.2.1.1 0 0 σ.1))]) dX8_text_37 (ev_layOn b2_34 okl okw q2a okc (by omega) ⟨Nat.zero_le _, ew⟩) oX1_layOn wiX1_layOn weX1_layOn wmX8_87 kX1 (b2_34.1) rfl ⟨(Nat.le_of_ble_eq_true rfl), (Nat.le_of_ble_eq_true rfl)⟩ ⟨Nat.zero_le _, Nat.zero_le _⟩ (Nat.le_of_ble_eq_true rfl) rfl rfl (fun h4 q4 => ?_)
  obtain ⟨q4a, q4s⟩ := q4
  have b4_2 := b2_2.mv q4s (by omega)
  have b4_6 := b2_6.mv q4s (by omega)
  have b4_9 := b2_9.mv q4s (by omega)
  have b4_12 := b2_12.mv q4s (by omega)
  have b4_42 := b2_42.mv q4s (by omega)
  obtain ⟨nx5, o5⟩ := HR.o b4_42
  have b4_34 := b2_34.mv q4s (by omega)
  have b4_36 := b2_36.mv q4s (by omega)
  have b4_84 := b2_84.mv q4s (by omega)
  have b4_85 := b2_85.mv q4s (by omega)
  have b4_89 := b2_89.mv q4s (by omega)
  have b4_93 := b2_93.mv q4s (by omega)
  have f4_0 : rd h4 0 = some (.inr (8, [.ref 1, .ref 12, .ref 23, .int (nI (bI σ.2.2.2.2.1.isSome)), .ref 34, .ref 36, .ref 42, .ref 84, .ref 89, .ref 93, .ref 97])) := by rw [q4s _ (by omega)]; exact f2_0
  have f4_1 : rd h4 1 = some (.inr (6, [.ref 2, .ref 6, .ref 9])) := by rw [q4s _ (by omega)]; exact f2_1
  have f4_97 : rd h4 97 = some (.inl (σ.2.2.2.2.2)) := by rw [q4s _ (by omega)]; exact f2_97
  refine g_top (tAns_n er) ?_
  refine g_istore_n (ls' := [(2, .int (nI ((tRun σ.2.1.2 σ.2.1.1 σ.2.1.1 0 0 σ.1).2.1))), (1, .int (-1)), (0, .ref 0)]) dX8_text_40 (Nat.le_of_ble_eq_true rfl) rfl ?_
  refine g_aload_n dX8_text_41 2 rfl ?_
  refine g_getf dX8_text_42 kX8 wfX8_29 (Nat.le_of_ble_eq_true rfl) (f4_0) rfl ?_
  refine g_iconst (v := nI 0) dX8_text_45 (by decide +kernel) ?_
  refine g_putv dX8_text_46 kX1 wfX8_72 (Nat.le_of_ble_eq_true rfl) rfl (fun _ _ => ⟨rfl, rfl⟩) (b4_34.1) (Nat.le_of_ble_eq_true rfl) (fs' := [.ref 35, .int (nI 0)]) rfl (fun h6 e6 => ?_)
  have f6_34 : rd h6 34 = some (.inr (1, [.ref 35, .int (nI 0)])) := by rw [e6]; exact rd_wr_eq (b4_34.1)
  have s6 : Smo 34 (34 + 1) h4 h6 := by rw [e6]; exact Smo.wr (by omega) (by omega)
  have b6_2 := b4_2.mv s6 (by omega)
  have b6_6 := b4_6.mv s6 (by omega)
  have b6_9 := b4_9.mv s6 (by omega)
  have b6_12 := b4_12.mv s6 (by omega)
  have b6_23 := q4a.mv s6 (by omega)
  have b6_42 := b4_42.mv s6 (by omega)
  obtain ⟨nx7, o7⟩ := HR.o b6_42
  have b6_36 := b4_36.mv s6 (by omega)
  have b6_84 := b4_84.mv s6 (by omega)
  have b6_85 := b4_85.mv s6 (by omega)
  have b6_89 := b4_89.mv s6 (by omega)
  have b6_93 := b4_93.mv s6 (by omega)
  have f6_0 : rd h6 0 = some (.inr (8, [.ref 1, .ref 12, .ref 23, .int (nI (bI σ.2.2.2.2.1.isSome)), .ref 34, .ref 36, .ref 42, .ref 84, .ref 89, .ref 93, .ref 97])) := by rw [s6 _ (by omega)]; exact f4_0
  have f6_1 : rd h6 1 = some (.inr (6, [.ref 2, .ref 6, .ref 9])) := by rw [s6 _ (by omega)]; exact f4_1
  have f6_35 : rd h6 35 = some (.inl ((σ.2.1.2).map nI)) := by rw [s6 _ (by omega)]; exact b4_34.2.1
  have f6_97 : rd h6 97 = some (.inl (σ.2.2.2.2.2)) := by rw [s6 _ (by omega)]; exact f4_97
  have H8 : LtA h6 0 σ.2.1.2 := ⟨f6_34, f6_35, hLt.2.2⟩
  refine g_iload_n dX8_text_49 0 rfl ?_
  refine g_if_ltN 71 dX8_text_50 (by decide) (by omega) ?_
  refine g_aload_n dX8_text_53 2 rfl ?_
  refine g_getf dX8_text_54 kX8 wfX8_10 (Nat.le_of_ble_eq_true rfl) (f6_0) rfl ?_
  refine g_aload_n dX8_text_57 2 rfl ?_
  refine g_getf dX8_text_58 kX8 wfX8_19 (Nat.le_of_ble_eq_true rfl) (f6_0) rfl ?_
  refine g_callVq (st1 := []) dX8_text_61 (st_copy (show StA h6 1 σ.1 from ⟨f6_1, _, _, _, _, _, _, _, b6_2, hf, b6_6, ht, b6_9, hC, hl⟩) b6_23 (by omega)) oX6_copyFrom wiX6_copyFrom weX6_copyFrom wmX8_83 kX6 (f6_1) rfl ⟨(Nat.le_of_ble_eq_true rfl), (Nat.le_of_ble_eq_true rfl)⟩ ⟨Nat.zero_le _, Nat.zero_le _⟩ (Nat.le_of_ble_eq_true rfl) rfl rfl (fun h9 q9 => ?_)
  obtain ⟨q9a, q9s⟩ := q9
  have b9_12 := b6_12.mv q9s (by omega)
  have b9_23 := b6_23.mv q9s (by omega)
  have b9_42 := b6_42.mv q9s (by omega)
  obtain ⟨nx10, o10⟩ := HR.o b9_42
  have b9_34 := H8.mv q9s (by omega)
  have b9_36 := b6_36.mv q9s (by omega)
  have b9_84 := b6_84.mv q9s (by omega)
  have b9_85 := b6_85.mv q9s (by omega)
  have b9_89 := b6_89.mv q9s (by omega)
  have b9_93 := b6_93.mv q9s (by omega)
  have f9_0 : rd h9 0 = some (.inr (8, [.ref 1, .ref 12, .ref 23, .int (nI (bI σ.2.2.2.2.1.isSome)), .ref 34, .ref 36, .ref 42, .ref 84, .ref 89, .ref 93, .ref 97])) := by rw [q9s _ (by omega)]; exact f6_0
  have f9_97 : rd h9 97 = some (.inl (σ.2.2.2.2.2)) := by rw [q9s _ (by omega)]; exact f6_97
  refine g_aload_n dX8_text_64 2 rfl ?_
  refine g_getf dX8_text_65 kX8 wfX8_43 (Nat.le_of_ble_eq_true rfl) (f9_0) rfl ?_
  refine g_callVq (st1 := []) dX8_text_68 (hx_forget b9_42) oX0_forget wiX0_forget weX0_forget wmX8_91 kX0 (o10) rfl ⟨(Nat.le_of_ble_eq_true rfl), (Nat.le_of_ble_eq_true rfl)⟩ ⟨Nat.zero_le _, Nat.zero_le _⟩ (Nat.le_of_ble_eq_true rfl) rfl rfl (fun h11 q11 => ?_)
  obtain ⟨q11a, q11s⟩ := q11
  have z11 := q11a ((tRun σ.2.1.2 σ.2.1.1 σ.2.1.1 0 0 σ.1).2.2.1) ((tRun σ.2.1.2 σ.2.1.1 σ.2.1.1 0 0 σ.1).2.2.2.1) ((tRun σ.2.1.2 σ.2.1.1 σ.2.1.1 0 0 σ.1).2.2.2.2.2.2.2)
  obtain ⟨nx12, o12⟩ := HR.o z11
  have b11_12 := b9_12.mv q11s (by omega)
  have b11_23 := b9_23.mv q11s (by omega)
  have b11_34 := b9_34.mv q11s (by omega)
  have b11_36 := b9_36.mv q11s (by omega)
  have b11_84 := b9_84.mv q11s (by omega)
  have b11_85 := b9_85.mv q11s (by omega)
  have b11_89 := b9_89.mv q11s (by omega)
  have b11_93 := b9_93.mv q11s (by omega)
  have b11_1 := q9a.mv q11s (by omega)
  have f11_0 : rd h11 0 = some (.inr (8, [.ref 1, .ref 12, .ref 23, .int (nI (bI σ.2.2.2.2.1.isSome)), .ref 34, .ref 36, .ref 42, .ref 84, .ref 89, .ref 93, .ref 97])) := by rw [q11s _ (by omega)]; exact f9_0
  have f11_97 : rd h11 97 = some (.inl (σ.2.2.2.2.2)) := by rw [q11s _ (by omega)]; exact f9_97
  refine g_iload_n dX8_text_71 0 rfl ?_
  exact g_iret dX8_text_72 rfl ⟨Nat.zero_le _, Nat.zero_le _⟩ (⟨rfl, ⟨f11_0, b11_1, ⟨_, b11_12, hI2⟩, ⟨_, b11_23⟩, b11_34, b11_36, z11, ⟨⟨_, _, _, _, b11_84⟩, ⟨_, _, _, _, _, b11_85⟩⟩, ⟨_, _, _, _, _, b11_89⟩, ⟨_, _, _, _, _, b11_93⟩, f11_97⟩, (fun q hq => by rw [q11s q (by omega), q9s q (by omega), s6 q (by omega), q4s q (by omega), q2s q (by omega)])⟩)

theorem ev_x_text {h : List aC} {σ : Sg} (H : RC h σ) (ok : okSg σ) : Ev mX8_text 7 0 0 [.ref 0] h (sp h (oText σ)) := by
  rcases ew : wp σ.2.1.2 σ.2.1.1 0 0 with _ | p
  · rcases er : (tRun σ.2.1.2 σ.2.1.1 σ.2.1.1 0 0 σ.1).1 with _ | i
    · exact ev_x_text2 H ok ew er
    · exact ev_x_text1 H ok ew i er
  · exact ev_x_text0 H ok p ew
