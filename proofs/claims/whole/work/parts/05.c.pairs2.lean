set_option maxRecDepth 100000 in
set_option maxHeartbeats 4000000 in
theorem ev_becomeEmpty {h : List aC} {p n m : Nat} {F S A : List Nat} (hP : PA h p n m F S A) (x : Nat) : Ev mX3_becomeEmpty 1 0 0 [.ref p, .int (nI x)] h (pq none (fun h2 => PA h2 p x 0 F S A ∧ Smo p (p + 4) h h2)) := by
  obtain ⟨-, -, -, -, lF, lS, lA⟩ := id hP
  refine Ev.of pX3_becomeEmpty (Nat.le_of_ble_eq_true rfl) ?_
  show G mX3_becomeEmpty (rmD 1 0 0) none _ 0 0 0 [(0, .ref p), (1, .int (nI x))] [] h
  refine g_aload_n dX3_becomeEmpty_0 0 rfl ?_
  refine g_iload_n dX3_becomeEmpty_1 1 rfl ?_
  refine g_putv dX3_becomeEmpty_2 kX3 wfX3_21 (Nat.le_of_ble_eq_true rfl) rfl (fun _ _ => ⟨rfl, rfl⟩) (hP.1) (Nat.le_of_ble_eq_true rfl) (fs' := [.ref (p + 1), .ref (p + 2), .ref (p + 3), .int (nI x), .int (nI m)]) rfl (fun h1 e1 => ?_)
  have f1_p : rd h1 p = some (.inr (3, [.ref (p + 1), .ref (p + 2), .ref (p + 3), .int (nI x), .int (nI m)])) := by rw [e1]; exact rd_wr_eq (hP.1)
  have f1_p_1 : rd h1 (p + 1) = some (.inl ((F).map nI)) := by rw [e1, rd_wr_ne (by omega)]; exact hP.2.1
  have f1_p_2 : rd h1 (p + 2) = some (.inl ((S).map nI)) := by rw [e1, rd_wr_ne (by omega)]; exact hP.2.2.1
  have f1_p_3 : rd h1 (p + 3) = some (.inl ((A).map nI)) := by rw [e1, rd_wr_ne (by omega)]; exact hP.2.2.2.1
  refine g_aload_n dX3_becomeEmpty_5 0 rfl ?_
  refine g_iconst (v := nI 0) dX3_becomeEmpty_6 (by decide +kernel) ?_
  refine g_putv dX3_becomeEmpty_7 kX3 wfX3_25 (Nat.le_of_ble_eq_true rfl) rfl (fun _ _ => ⟨rfl, rfl⟩) (f1_p) (Nat.le_of_ble_eq_true rfl) (fs' := [.ref (p + 1), .ref (p + 2), .ref (p + 3), .int (nI x), .int (nI 0)]) rfl (fun h2 e2 => ?_)
  have f2_p : rd h2 p = some (.inr (3, [.ref (p + 1), .ref (p + 2), .ref (p + 3), .int (nI x), .int (nI 0)])) := by rw [e2]; exact rd_wr_eq (f1_p)
  have f2_p_1 : rd h2 (p + 1) = some (.inl ((F).map nI)) := by rw [e2, rd_wr_ne (by omega)]; exact f1_p_1
  have f2_p_2 : rd h2 (p + 2) = some (.inl ((S).map nI)) := by rw [e2, rd_wr_ne (by omega)]; exact f1_p_2
  have f2_p_3 : rd h2 (p + 3) = some (.inl ((A).map nI)) := by rw [e2, rd_wr_ne (by omega)]; exact f1_p_3
  exact g_vret dX3_becomeEmpty_10 rfl ⟨Nat.zero_le _, Nat.zero_le _⟩ (⟨rfl, ⟨f2_p, f2_p_1, f2_p_2, f2_p_3, lF, lS, lA⟩, (fun q hq => by rw [e2, rd_wr_ne (by omega), e1, rd_wr_ne (by omega)])⟩)

set_option maxRecDepth 100000 in
set_option maxHeartbeats 4000000 in
theorem ev_append {h : List aC} {p n m : Nat} {F S A : List Nat} (hP : PA h p n m F S A) (hm : m < 6) (x y : Nat) : Ev mX3_append 1 0 0 [.ref p, .int (nI x), .int (nI y)] h (pq none (fun h2 => PA h2 p n (m + 1) (F.set m x) (S.set m y) (A.set m 0) ∧ Smo p (p + 4) h h2)) := by
  obtain ⟨-, -, -, -, lF, lS, lA⟩ := id hP
  refine Ev.of pX3_append (Nat.le_of_ble_eq_true rfl) ?_
  show G mX3_append (rmD 1 0 0) none _ 0 0 0 [(0, .ref p), (1, .int (nI x)), (2, .int (nI y))] [] h
  refine g_aload_n dX3_append_0 0 rfl ?_
  refine g_getf dX3_append_1 kX3 wfX3_25 (Nat.le_of_ble_eq_true rfl) (hP.1) rfl ?_
  refine g_bipush (v := nI 6) dX3_append_4 (by decide +kernel) ?_
  refine g_icmp_geN 49 dX3_append_6 (by decide) (by omega) (by omega) (fun z => absurd z (by omega)) (fun c6 => ?_)
  refine g_aload_n dX3_append_9 0 rfl ?_
  refine g_getf dX3_append_10 kX3 wfX3_9 (Nat.le_of_ble_eq_true rfl) (hP.1) rfl ?_
  refine g_aload_n dX3_append_13 0 rfl ?_
  refine g_getf dX3_append_14 kX3 wfX3_25 (Nat.le_of_ble_eq_true rfl) (hP.1) rfl ?_
  refine g_iload_n dX3_append_17 1 rfl ?_
  refine g_iasN dX3_append_18 (hP.2.1) (by omega) (by omega) (fun h1 e1 => ?_)
  have f1_p_1 : rd h1 (p + 1) = some (.inl (((F).set m x).map nI)) := by rw [e1]; exact rd_wr_eq (hP.2.1)
  have f1_p : rd h1 p = some (.inr (3, [.ref (p + 1), .ref (p + 2), .ref (p + 3), .int (nI n), .int (nI m)])) := by rw [e1, rd_wr_ne (by omega)]; exact hP.1
  have f1_p_2 : rd h1 (p + 2) = some (.inl ((S).map nI)) := by rw [e1, rd_wr_ne (by omega)]; exact hP.2.2.1
  have f1_p_3 : rd h1 (p + 3) = some (.inl ((A).map nI)) := by rw [e1, rd_wr_ne (by omega)]; exact hP.2.2.2.1
  refine g_aload_n dX3_append_19 0 rfl ?_
  refine g_getf dX3_append_20 kX3 wfX3_15 (Nat.le_of_ble_eq_true rfl) (f1_p) rfl ?_
  refine g_aload_n dX3_append_23 0 rfl ?_
  refine g_getf dX3_append_24 kX3 wfX3_25 (Nat.le_of_ble_eq_true rfl) (f1_p) rfl ?_
  refine g_iload_n dX3_append_27 2 rfl ?_
  refine g_iasN dX3_append_28 (f1_p_2) (by omega) (by omega) (fun h2 e2 => ?_)
  have f2_p_2 : rd h2 (p + 2) = some (.inl (((S).set m y).map nI)) := by rw [e2]; exact rd_wr_eq (f1_p_2)
  have f2_p : rd h2 p = some (.inr (3, [.ref (p + 1), .ref (p + 2), .ref (p + 3), .int (nI n), .int (nI m)])) := by rw [e2, rd_wr_ne (by omega)]; exact f1_p
  have f2_p_1 : rd h2 (p + 1) = some (.inl (((F).set m x).map nI)) := by rw [e2, rd_wr_ne (by omega)]; exact f1_p_1
  have f2_p_3 : rd h2 (p + 3) = some (.inl ((A).map nI)) := by rw [e2, rd_wr_ne (by omega)]; exact f1_p_3
  refine g_aload_n dX3_append_29 0 rfl ?_
  refine g_getf dX3_append_30 kX3 wfX3_18 (Nat.le_of_ble_eq_true rfl) (f2_p) rfl ?_
  refine g_aload_n dX3_append_33 0 rfl ?_
  refine g_getf dX3_append_34 kX3 wfX3_25 (Nat.le_of_ble_eq_true rfl) (f2_p) rfl ?_
  refine g_iconst (v := nI 0) dX3_append_37 (by decide +kernel) ?_
  refine g_iasN dX3_append_38 (f2_p_3) (by omega) (by omega) (fun h3 e3 => ?_)
  have f3_p_3 : rd h3 (p + 3) = some (.inl (((A).set m 0).map nI)) := by rw [e3]; exact rd_wr_eq (f2_p_3)
  have f3_p : rd h3 p = some (.inr (3, [.ref (p + 1), .ref (p + 2), .ref (p + 3), .int (nI n), .int (nI m)])) := by rw [e3, rd_wr_ne (by omega)]; exact f2_p
  have f3_p_1 : rd h3 (p + 1) = some (.inl (((F).set m x).map nI)) := by rw [e3, rd_wr_ne (by omega)]; exact f2_p_1
  have f3_p_2 : rd h3 (p + 2) = some (.inl (((S).set m y).map nI)) := by rw [e3, rd_wr_ne (by omega)]; exact f2_p_2
  refine g_aload_n dX3_append_39 0 rfl ?_
  refine g_dup dX3_append_40 rfl ?_
  refine g_getf dX3_append_41 kX3 wfX3_25 (Nat.le_of_ble_eq_true rfl) (f3_p) rfl ?_
  refine g_iconst (v := nI 1) dX3_append_44 (by decide +kernel) ?_
  refine g_iaddN dX3_append_45 ?_
  refine g_putv dX3_append_46 kX3 wfX3_25 (Nat.le_of_ble_eq_true rfl) rfl (fun _ _ => ⟨rfl, rfl⟩) (f3_p) (Nat.le_of_ble_eq_true rfl) (fs' := [.ref (p + 1), .ref (p + 2), .ref (p + 3), .int (nI n), .int (nI (m + 1))]) rfl (fun h4 e4 => ?_)
  have f4_p : rd h4 p = some (.inr (3, [.ref (p + 1), .ref (p + 2), .ref (p + 3), .int (nI n), .int (nI (m + 1))])) := by rw [e4]; exact rd_wr_eq (f3_p)
  have f4_p_1 : rd h4 (p + 1) = some (.inl (((F).set m x).map nI)) := by rw [e4, rd_wr_ne (by omega)]; exact f3_p_1
  have f4_p_2 : rd h4 (p + 2) = some (.inl (((S).set m y).map nI)) := by rw [e4, rd_wr_ne (by omega)]; exact f3_p_2
  have f4_p_3 : rd h4 (p + 3) = some (.inl (((A).set m 0).map nI)) := by rw [e4, rd_wr_ne (by omega)]; exact f3_p_3
  exact g_vret dX3_append_49 rfl ⟨Nat.zero_le _, Nat.zero_le _⟩ (⟨rfl, ⟨f4_p, f4_p_1, f4_p_2, f4_p_3, by simp [lF], by simp [lS], by simp [lA]⟩, (fun q hq => by rw [e4, rd_wr_ne (by omega), e3, rd_wr_ne (by omega), e2, rd_wr_ne (by omega), e1, rd_wr_ne (by omega)])⟩)

set_option maxRecDepth 100000 in
set_option maxHeartbeats 4000000 in
theorem ev_copyFrom {h : List aC} {p n m : Nat} {F S A : List Nat} (hP : PA h p n m F S A) {p2 n2 m2 : Nat} {F2 S2 A2 : List Nat} (hP2 : PA h p2 n2 m2 F2 S2 A2) (hd : p + 4 ≤ p2 ∨ p2 + 4 ≤ p) : Ev mX3_copyFrom 1 0 0 [.ref p, .ref p2] h (pq none (fun h2 => PA h2 p n2 m2 F2 S2 A2 ∧ Smo p (p + 4) h h2)) := by
  obtain ⟨-, -, -, -, lF, lS, lA⟩ := id hP
  obtain ⟨-, -, -, -, kF, kS, kA⟩ := id hP2
  refine Ev.of pX3_copyFrom (Nat.le_of_ble_eq_true rfl) ?_
  show G mX3_copyFrom (rmD 1 0 0) none _ 0 0 0 [(0, .ref p), (1, .ref p2)] [] h
  refine g_aload_n dX3_copyFrom_0 0 rfl ?_
  refine g_aload_n dX3_copyFrom_1 1 rfl ?_
  refine g_getf dX3_copyFrom_2 kX3 wfX3_21 (Nat.le_of_ble_eq_true rfl) (hP2.1) rfl ?_
  refine g_putv dX3_copyFrom_5 kX3 wfX3_21 (Nat.le_of_ble_eq_true rfl) rfl (fun _ _ => ⟨rfl, rfl⟩) (hP.1) (Nat.le_of_ble_eq_true rfl) (fs' := [.ref (p + 1), .ref (p + 2), .ref (p + 3), .int (nI n2), .int (nI m)]) rfl (fun h1 e1 => ?_)
  have f1_p : rd h1 p = some (.inr (3, [.ref (p + 1), .ref (p + 2), .ref (p + 3), .int (nI n2), .int (nI m)])) := by rw [e1]; exact rd_wr_eq (hP.1)
  have f1_p2 : rd h1 p2 = some (.inr (3, [.ref (p2 + 1), .ref (p2 + 2), .ref (p2 + 3), .int (nI n2), .int (nI m2)])) := by rw [e1, rd_wr_ne (by omega)]; exact hP2.1
  have f1_p_1 : rd h1 (p + 1) = some (.inl ((F).map nI)) := by rw [e1, rd_wr_ne (by omega)]; exact hP.2.1
  have f1_p_2 : rd h1 (p + 2) = some (.inl ((S).map nI)) := by rw [e1, rd_wr_ne (by omega)]; exact hP.2.2.1
  have f1_p_3 : rd h1 (p + 3) = some (.inl ((A).map nI)) := by rw [e1, rd_wr_ne (by omega)]; exact hP.2.2.2.1
  have f1_p2_1 : rd h1 (p2 + 1) = some (.inl ((F2).map nI)) := by rw [e1, rd_wr_ne (by omega)]; exact hP2.2.1
  have f1_p2_2 : rd h1 (p2 + 2) = some (.inl ((S2).map nI)) := by rw [e1, rd_wr_ne (by omega)]; exact hP2.2.2.1
  have f1_p2_3 : rd h1 (p2 + 3) = some (.inl ((A2).map nI)) := by rw [e1, rd_wr_ne (by omega)]; exact hP2.2.2.2.1
  refine g_aload_n dX3_copyFrom_8 0 rfl ?_
  refine g_aload_n dX3_copyFrom_9 1 rfl ?_
  refine g_getf dX3_copyFrom_10 kX3 wfX3_25 (Nat.le_of_ble_eq_true rfl) (f1_p2) rfl ?_
  refine g_putv dX3_copyFrom_13 kX3 wfX3_25 (Nat.le_of_ble_eq_true rfl) rfl (fun _ _ => ⟨rfl, rfl⟩) (f1_p) (Nat.le_of_ble_eq_true rfl) (fs' := [.ref (p + 1), .ref (p + 2), .ref (p + 3), .int (nI n2), .int (nI m2)]) rfl (fun h2 e2 => ?_)
  have f2_p : rd h2 p = some (.inr (3, [.ref (p + 1), .ref (p + 2), .ref (p + 3), .int (nI n2), .int (nI m2)])) := by rw [e2]; exact rd_wr_eq (f1_p)
  have f2_p2 : rd h2 p2 = some (.inr (3, [.ref (p2 + 1), .ref (p2 + 2), .ref (p2 + 3), .int (nI n2), .int (nI m2)])) := by rw [e2, rd_wr_ne (by omega)]; exact f1_p2
  have f2_p_1 : rd h2 (p + 1) = some (.inl ((F).map nI)) := by rw [e2, rd_wr_ne (by omega)]; exact f1_p_1
  have f2_p_2 : rd h2 (p + 2) = some (.inl ((S).map nI)) := by rw [e2, rd_wr_ne (by omega)]; exact f1_p_2
  have f2_p_3 : rd h2 (p + 3) = some (.inl ((A).map nI)) := by rw [e2, rd_wr_ne (by omega)]; exact f1_p_3
  have f2_p2_1 : rd h2 (p2 + 1) = some (.inl ((F2).map nI)) := by rw [e2, rd_wr_ne (by omega)]; exact f1_p2_1
  have f2_p2_2 : rd h2 (p2 + 2) = some (.inl ((S2).map nI)) := by rw [e2, rd_wr_ne (by omega)]; exact f1_p2_2
  have f2_p2_3 : rd h2 (p2 + 3) = some (.inl ((A2).map nI)) := by rw [e2, rd_wr_ne (by omega)]; exact f1_p2_3
  refine g_aload_n dX3_copyFrom_16 1 rfl ?_
  refine g_getf dX3_copyFrom_17 kX3 wfX3_9 (Nat.le_of_ble_eq_true rfl) (f2_p2) rfl ?_
  refine g_iconst (v := nI 0) dX3_copyFrom_20 (by decide +kernel) ?_
  refine g_aload_n dX3_copyFrom_21 0 rfl ?_
  refine g_getf dX3_copyFrom_22 kX3 wfX3_9 (Nat.le_of_ble_eq_true rfl) (f2_p) rfl ?_
  refine g_iconst (v := nI 0) dX3_copyFrom_25 (by decide +kernel) ?_
  refine g_bipush (v := nI 6) dX3_copyFrom_26 (by decide +kernel) ?_
  refine g_copyv dX3_copyFrom_28 wmX3_28 (f2_p2_1) (f2_p_1) (by simp [kF]) (by simp [lF]) (by omega) ⟨(Nat.le_of_ble_eq_true rfl), by decide +kernel⟩ (Nat.le_of_ble_eq_true rfl) (fun h3 e3 => ?_)
  have f3_p_1 : rd h3 (p + 1) = some (.inl ((F2).map nI)) := by rw [e3]; exact rd_wr_eq (f2_p_1)
  have f3_p : rd h3 p = some (.inr (3, [.ref (p + 1), .ref (p + 2), .ref (p + 3), .int (nI n2), .int (nI m2)])) := by rw [e3, rd_wr_ne (by omega)]; exact f2_p
  have f3_p2 : rd h3 p2 = some (.inr (3, [.ref (p2 + 1), .ref (p2 + 2), .ref (p2 + 3), .int (nI n2), .int (nI m2)])) := by rw [e3, rd_wr_ne (by omega)]; exact f2_p2
  have f3_p_2 : rd h3 (p + 2) = some (.inl ((S).map nI)) := by rw [e3, rd_wr_ne (by omega)]; exact f2_p_2
  have f3_p_3 : rd h3 (p + 3) = some (.inl ((A).map nI)) := by rw [e3, rd_wr_ne (by omega)]; exact f2_p_3
  have f3_p2_1 : rd h3 (p2 + 1) = some (.inl ((F2).map nI)) := by rw [e3, rd_wr_ne (by omega)]; exact f2_p2_1
  have f3_p2_2 : rd h3 (p2 + 2) = some (.inl ((S2).map nI)) := by rw [e3, rd_wr_ne (by omega)]; exact f2_p2_2
  have f3_p2_3 : rd h3 (p2 + 3) = some (.inl ((A2).map nI)) := by rw [e3, rd_wr_ne (by omega)]; exact f2_p2_3
  refine g_aload_n dX3_copyFrom_31 1 rfl ?_
  refine g_getf dX3_copyFrom_32 kX3 wfX3_15 (Nat.le_of_ble_eq_true rfl) (f3_p2) rfl ?_
  refine g_iconst (v := nI 0) dX3_copyFrom_35 (by decide +kernel) ?_
  refine g_aload_n dX3_copyFrom_36 0 rfl ?_
  refine g_getf dX3_copyFrom_37 kX3 wfX3_15 (Nat.le_of_ble_eq_true rfl) (f3_p) rfl ?_
  refine g_iconst (v := nI 0) dX3_copyFrom_40 (by decide +kernel) ?_
  refine g_bipush (v := nI 6) dX3_copyFrom_41 (by decide +kernel) ?_
  refine g_copyv dX3_copyFrom_43 wmX3_28 (f3_p2_2) (f3_p_2) (by simp [kS]) (by simp [lS]) (by omega) ⟨(Nat.le_of_ble_eq_true rfl), by decide +kernel⟩ (Nat.le_of_ble_eq_true rfl) (fun h4 e4 => ?_)
  have f4_p_2 : rd h4 (p + 2) = some (.inl ((S2).map nI)) := by rw [e4]; exact rd_wr_eq (f3_p_2)
  have f4_p : rd h4 p = some (.inr (3, [.ref (p + 1), .ref (p + 2), .ref (p + 3), .int (nI n2), .int (nI m2)])) := by rw [e4, rd_wr_ne (by omega)]; exact f3_p
  have f4_p2 : rd h4 p2 = some (.inr (3, [.ref (p2 + 1), .ref (p2 + 2), .ref (p2 + 3), .int (nI n2), .int (nI m2)])) := by rw [e4, rd_wr_ne (by omega)]; exact f3_p2
  have f4_p_1 : rd h4 (p + 1) = some (.inl ((F2).map nI)) := by rw [e4, rd_wr_ne (by omega)]; exact f3_p_1
  have f4_p_3 : rd h4 (p + 3) = some (.inl ((A).map nI)) := by rw [e4, rd_wr_ne (by omega)]; exact f3_p_3
  have f4_p2_1 : rd h4 (p2 + 1) = some (.inl ((F2).map nI)) := by rw [e4, rd_wr_ne (by omega)]; exact f3_p2_1
  have f4_p2_2 : rd h4 (p2 + 2) = some (.inl ((S2).map nI)) := by rw [e4, rd_wr_ne (by omega)]; exact f3_p2_2
  have f4_p2_3 : rd h4 (p2 + 3) = some (.inl ((A2).map nI)) := by rw [e4, rd_wr_ne (by omega)]; exact f3_p2_3
  refine g_aload_n dX3_copyFrom_46 1 rfl ?_
  refine g_getf dX3_copyFrom_47 kX3 wfX3_18 (Nat.le_of_ble_eq_true rfl) (f4_p2) rfl ?_
  refine g_iconst (v := nI 0) dX3_copyFrom_50 (by decide +kernel) ?_
  refine g_aload_n dX3_copyFrom_51 0 rfl ?_
  refine g_getf dX3_copyFrom_52 kX3 wfX3_18 (Nat.le_of_ble_eq_true rfl) (f4_p) rfl ?_
  refine g_iconst (v := nI 0) dX3_copyFrom_55 (by decide +kernel) ?_
  refine g_bipush (v := nI 6) dX3_copyFrom_56 (by decide +kernel) ?_
  refine g_copyv dX3_copyFrom_58 wmX3_28 (f4_p2_3) (f4_p_3) (by simp [kA]) (by simp [lA]) (by omega) ⟨(Nat.le_of_ble_eq_true rfl), by decide +kernel⟩ (Nat.le_of_ble_eq_true rfl) (fun h5 e5 => ?_)
  have f5_p_3 : rd h5 (p + 3) = some (.inl ((A2).map nI)) := by rw [e5]; exact rd_wr_eq (f4_p_3)
  have f5_p : rd h5 p = some (.inr (3, [.ref (p + 1), .ref (p + 2), .ref (p + 3), .int (nI n2), .int (nI m2)])) := by rw [e5, rd_wr_ne (by omega)]; exact f4_p
  have f5_p2 : rd h5 p2 = some (.inr (3, [.ref (p2 + 1), .ref (p2 + 2), .ref (p2 + 3), .int (nI n2), .int (nI m2)])) := by rw [e5, rd_wr_ne (by omega)]; exact f4_p2
  have f5_p_1 : rd h5 (p + 1) = some (.inl ((F2).map nI)) := by rw [e5, rd_wr_ne (by omega)]; exact f4_p_1
  have f5_p_2 : rd h5 (p + 2) = some (.inl ((S2).map nI)) := by rw [e5, rd_wr_ne (by omega)]; exact f4_p_2
  have f5_p2_1 : rd h5 (p2 + 1) = some (.inl ((F2).map nI)) := by rw [e5, rd_wr_ne (by omega)]; exact f4_p2_1
  have f5_p2_2 : rd h5 (p2 + 2) = some (.inl ((S2).map nI)) := by rw [e5, rd_wr_ne (by omega)]; exact f4_p2_2
  have f5_p2_3 : rd h5 (p2 + 3) = some (.inl ((A2).map nI)) := by rw [e5, rd_wr_ne (by omega)]; exact f4_p2_3
  exact g_vret dX3_copyFrom_61 rfl ⟨Nat.zero_le _, Nat.zero_le _⟩ (⟨rfl, ⟨f5_p, f5_p_1, f5_p_2, f5_p_3, kF, kS, kA⟩, (fun q hq => by rw [e5, rd_wr_ne (by omega), e4, rd_wr_ne (by omega), e3, rd_wr_ne (by omega), e2, rd_wr_ne (by omega), e1, rd_wr_ne (by omega)])⟩)

/-- the book's pairs, d of them laid -/
def bkF (F : List Nat) : Nat → List Nat
  | 0 => F
  | d + 1 => (bkF F d).set d (d + 1)
def bkS (S : List Nat) (n : Nat) : Nat → List Nat
  | 0 => S
  | d + 1 => (bkS S n d).set d (n - (d + 1))
def bkA (A : List Nat) : Nat → List Nat
  | 0 => A
  | d + 1 => (bkA A d).set d 0
theorem bkF_len {F : List Nat} (l : F.length = 6) : ∀ d, (bkF F d).length = 6
  | 0 => l
  | d + 1 => by show ((bkF F d).set d _).length = 6; rw [List.length_set]; exact bkF_len l d
theorem bkS_len {F : List Nat} {n : Nat} (l : F.length = 6) : ∀ d, (bkS F n d).length = 6
  | 0 => l
  | d + 1 => by show ((bkS F n d).set d _).length = 6; rw [List.length_set]; exact bkS_len l d
theorem bkA_len {F : List Nat} (l : F.length = 6) : ∀ d, (bkA F d).length = 6
  | 0 => l
  | d + 1 => by show ((bkA F d).set d _).length = 6; rw [List.length_set]; exact bkA_len l d
theorem getD_set_eq {l : List Nat} {i : Nat} {x : Nat} (h : i < l.length) : (l.set i x).getD i 0 = x := by
  rw [List.getD_eq_getElem?_getD, List.getElem?_set_self h]
  rfl
theorem getD_set_ne {l : List Nat} {i j : Nat} {x : Nat} (h : i ≠ j) : (l.set i x).getD j 0 = l.getD j 0 := by
  rw [List.getD_eq_getElem?_getD, List.getD_eq_getElem?_getD, List.getElem?_set_ne h]
theorem bkF_at {F : List Nat} (l : F.length = 6) : ∀ d, d ≤ 6 → ∀ k, k < d → (bkF F d).getD k 0 = k + 1
  | d + 1, hd, k, hk => by
    show ((bkF F d).set d (d + 1)).getD k 0 = k + 1
    by_cases h : d = k
    · subst h
      rw [getD_set_eq (by rw [bkF_len l]; omega)]
    · rw [getD_set_ne h]
      exact bkF_at l d (by omega) k (by omega)
theorem bkS_at {F : List Nat} {n : Nat} (l : F.length = 6) : ∀ d, d ≤ 6 → ∀ k, k < d → (bkS F n d).getD k 0 = n - (k + 1)
  | d + 1, hd, k, hk => by
    show ((bkS F n d).set d (n - (d + 1))).getD k 0 = n - (k + 1)
    by_cases h : d = k
    · subst h
      rw [getD_set_eq (by rw [bkS_len l]; omega)]
    · rw [getD_set_ne h]
      exact bkS_at l d (by omega) k (by omega)
theorem bkA_at {F : List Nat} (l : F.length = 6) : ∀ d, d ≤ 6 → ∀ k, k < d → (bkA F d).getD k 0 = 0
  | d + 1, hd, k, hk => by
    show ((bkA F d).set d 0).getD k 0 = 0
    by_cases h : d = k
    · subst h
      rw [getD_set_eq (by rw [bkA_len l]; omega)]
    · rw [getD_set_ne h]
      exact bkA_at l d (by omega) k (by omega)

set_option maxRecDepth 100000 in
set_option maxHeartbeats 4000000 in
theorem lp_becomeBook {h0 : List aC} {p x : Nat} {F S A : List Nat} (hx : 3 ≤ x ∧ x ≤ 13) : ∀ j k (h : List aC), k + j = (x - 1) / 2 → PA h p x k (bkF F k) (bkS S x k) (bkA A k) → Smo p (p + 4) h0 h → G mX3_becomeBook (rmD 2 0 0) none (pq none (fun h2 => PA h2 p x ((x - 1) / 2) (bkF F ((x - 1) / 2)) (bkS S x ((x - 1) / 2)) (bkA A ((x - 1) / 2)) ∧ Smo p (p + 4) h0 h2)) 0 0 7 [(2, .int (nI (k + 1))), (0, .ref p), (1, .int (nI x))] [] h := by
  intro j
  induction j with
  | zero =>
    intro k h hk hP hS
    refine g_iload_n dX3_becomeBook_7 0 rfl ?_
    refine g_aload_n dX3_becomeBook_8 1 rfl ?_
    refine g_callVp dX3_becomeBook_9 (ev_most hP (by omega)) oX3_most wiX3_most weX3_most wmX3_38 kX3 (hP.1) rfl ⟨(Nat.le_of_ble_eq_true rfl), (Nat.le_of_ble_eq_true rfl)⟩ ⟨Nat.zero_le _, Nat.zero_le _⟩ (Nat.le_of_ble_eq_true rfl) rfl ?_
    refine g_icmp_gtN 29 dX3_becomeBook_12 (by decide) (by omega) (by omega) (fun c12 => ?_) (fun z => absurd z (by omega))
    exact g_vret dX3_becomeBook_29 rfl ⟨Nat.zero_le _, Nat.zero_le _⟩ (⟨rfl, by rw [← (show k = (x - 1) / 2 by omega)]; exact hP, hS⟩)
  | succ j ih =>
    intro k h hk hP hS
    refine g_iload_n dX3_becomeBook_7 0 rfl ?_
    refine g_aload_n dX3_becomeBook_8 1 rfl ?_
    refine g_callVp dX3_becomeBook_9 (ev_most hP (by omega)) oX3_most wiX3_most weX3_most wmX3_38 kX3 (hP.1) rfl ⟨(Nat.le_of_ble_eq_true rfl), (Nat.le_of_ble_eq_true rfl)⟩ ⟨Nat.zero_le _, Nat.zero_le _⟩ (Nat.le_of_ble_eq_true rfl) rfl ?_
    refine g_icmp_gtN 29 dX3_becomeBook_12 (by decide) (by omega) (by omega) (fun z => absurd z (by omega)) (fun c12 => ?_)
    refine g_aload_n dX3_becomeBook_15 1 rfl ?_
    refine g_iload_n dX3_becomeBook_16 0 rfl ?_
    refine g_iload_n dX3_becomeBook_17 2 rfl ?_
    refine g_iload_n dX3_becomeBook_18 0 rfl ?_
    refine g_isubN dX3_becomeBook_19 (by omega) ?_
    refine g_callVq (st1 := []) dX3_becomeBook_20 (ev_append hP (by omega) (k + 1) (x - (k + 1))) oX3_append wiX3_append weX3_append wmX3_42 kX3 (hP.1) rfl ⟨(Nat.le_of_ble_eq_true rfl), (Nat.le_of_ble_eq_true rfl)⟩ ⟨Nat.zero_le _, Nat.zero_le _⟩ (Nat.le_of_ble_eq_true rfl) rfl rfl (fun h1 q1 => ?_)
    obtain ⟨q1a, q1s⟩ := q1
    refine g_iinc (q := 0) (v := nI (k + 1 + 1)) (ls' := [(2, .int (nI (k + 1 + 1))), (0, .ref p), (1, .int (nI x))]) dX3_becomeBook_23 rfl (inc1 _) (Nat.le_of_ble_eq_true rfl) rfl ?_
    refine g_goto 7 dX3_becomeBook_26 (by decide) ?_
    exact ih (k + 1) h1 (by omega) q1a (hS.tr q1s)

set_option maxRecDepth 100000 in
set_option maxHeartbeats 4000000 in
theorem ev_becomeBook {h : List aC} {p n m : Nat} {F S A : List Nat} (hP : PA h p n m F S A) (x : Nat) (hx : 3 ≤ x ∧ x ≤ 13) : Ev mX3_becomeBook 2 0 0 [.ref p, .int (nI x)] h (pq none (fun h2 => PA h2 p x ((x - 1) / 2) (bkF F ((x - 1) / 2)) (bkS S x ((x - 1) / 2)) (bkA A ((x - 1) / 2)) ∧ Smo p (p + 4) h h2)) := by
  obtain ⟨-, -, -, -, lF, lS, lA⟩ := id hP
  refine Ev.of pX3_becomeBook (Nat.le_of_ble_eq_true rfl) ?_
  show G mX3_becomeBook (rmD 2 0 0) none _ 0 0 0 [(0, .ref p), (1, .int (nI x))] [] h
  refine g_aload_n dX3_becomeBook_0 0 rfl ?_
  refine g_iload_n dX3_becomeBook_1 1 rfl ?_
  refine g_callVq (st1 := []) dX3_becomeBook_2 (ev_becomeEmpty hP (x)) oX3_becomeEmpty wiX3_becomeEmpty weX3_becomeEmpty wmX3_34 kX3 (hP.1) rfl ⟨(Nat.le_of_ble_eq_true rfl), (Nat.le_of_ble_eq_true rfl)⟩ ⟨Nat.zero_le _, Nat.zero_le _⟩ (Nat.le_of_ble_eq_true rfl) rfl rfl (fun h1 q1 => ?_)
  obtain ⟨q1a, q1s⟩ := q1
  refine g_iconst (v := nI 1) dX3_becomeBook_5 (by decide +kernel) ?_
  refine g_istore_n (ls' := [(2, .int (nI 1)), (0, .ref p), (1, .int (nI x))]) dX3_becomeBook_6 (Nat.le_of_ble_eq_true rfl) rfl ?_
  exact lp_becomeBook hx ((x - 1) / 2) 0 h1 (by omega) q1a q1s

def popN (x : Nat) : Nat → Nat
  | 0 => 0
  | k + 1 => popN x k + x / 2 ^ k % 2
def bcA (x : Int32) : Int32 := x - ((x.toUInt32 >>> ((nI 1).toUInt32 &&& Int32.toUInt32 31)).toInt32 &&& nI 1431655765)
def bcB (x : Int32) : Int32 := (x &&& nI 858993459) + ((x.toUInt32 >>> ((nI 2).toUInt32 &&& Int32.toUInt32 31)).toInt32 &&& nI 858993459)
def bcC (x : Int32) : Int32 := (x + (x.toUInt32 >>> ((nI 4).toUInt32 &&& Int32.toUInt32 31)).toInt32) &&& nI 252645135
def bcD (x : Int32) : Int32 := x + (x.toUInt32 >>> ((nI 8).toUInt32 &&& Int32.toUInt32 31)).toInt32
def bcE (x : Int32) : Int32 := x + (x.toUInt32 >>> ((nI 16).toUInt32 &&& Int32.toUInt32 31)).toInt32
theorem bc_tab : ∀ a, a < 128 → ∀ b, b < 128 → bcE (bcD (bcC (bcB (bcA (nI (128 * a + b)))))) &&& nI 63 = nI (popN (128 * a + b) 14) := by decide +kernel
theorem bc_eq (x : Nat) (hx : x < 2 ^ 14) : bcE (bcD (bcC (bcB (bcA (nI x))))) &&& nI 63 = nI (popN x 14) := by
  have h := bc_tab (x / 128) (by omega) (x % 128) (by omega)
  rw [Nat.div_add_mod] at h
  exact h

set_option maxRecDepth 100000 in
set_option maxHeartbeats 4000000 in
theorem ev_bitCount (x : Nat) (hx : x < 2 ^ 14) (h : List aC) : Ev mJ6_bitCount_0f7a4 1 0 0 [.int (nI x)] h (pv (.int (nI (popN x 14))) h) := by
  refine Ev.of pJ6_bitCount_0f7a4 (Nat.le_of_ble_eq_true rfl) ?_
  show G mJ6_bitCount_0f7a4 (rmD 1 0 0) none _ 0 0 0 [(0, .int (nI x))] [] h
  refine g_iload_n dJ6_bitCount_0f7a4_0 0 rfl ?_
  refine g_iload_n dJ6_bitCount_0f7a4_1 0 rfl ?_
  refine g_iconst (v := nI 1) dJ6_bitCount_0f7a4_2 (by decide +kernel) ?_
  refine g_iushr (v := ((nI x).toUInt32 >>> ((nI 1).toUInt32 &&& Int32.toUInt32 31)).toInt32) dJ6_bitCount_0f7a4_3 (rfl) ?_
  refine g_ldcw dJ6_bitCount_0f7a4_4 wxJ6_265 ?_
  refine g_top (show ((1431655765) : Int32) = nI 1431655765 by decide +kernel) ?_
  refine g_iand dJ6_bitCount_0f7a4_7 ?_
  refine g_isub dJ6_bitCount_0f7a4_8 ?_
  refine g_top (rfl) ?_
  refine g_istore_n (ls' := [(0, .int (bcA (nI x)))]) dJ6_bitCount_0f7a4_9 (Nat.le_of_ble_eq_true rfl) rfl ?_
  refine g_iload_n dJ6_bitCount_0f7a4_10 0 rfl ?_
  refine g_ldcw dJ6_bitCount_0f7a4_11 wxJ6_266 ?_
  refine g_top (show ((858993459) : Int32) = nI 858993459 by decide +kernel) ?_
  refine g_iand dJ6_bitCount_0f7a4_14 ?_
  refine g_iload_n dJ6_bitCount_0f7a4_15 0 rfl ?_
  refine g_iconst (v := nI 2) dJ6_bitCount_0f7a4_16 (by decide +kernel) ?_
  refine g_iushr (v := ((bcA (nI x)).toUInt32 >>> ((nI 2).toUInt32 &&& Int32.toUInt32 31)).toInt32) dJ6_bitCount_0f7a4_17 (rfl) ?_
  refine g_ldcw dJ6_bitCount_0f7a4_18 wxJ6_266 ?_
  refine g_top (show ((858993459) : Int32) = nI 858993459 by decide +kernel) ?_
  refine g_iand dJ6_bitCount_0f7a4_21 ?_
  refine g_iadd dJ6_bitCount_0f7a4_22 ?_
  refine g_top (rfl) ?_
  refine g_istore_n (ls' := [(0, .int (bcB (bcA (nI x))))]) dJ6_bitCount_0f7a4_23 (Nat.le_of_ble_eq_true rfl) rfl ?_
  refine g_iload_n dJ6_bitCount_0f7a4_24 0 rfl ?_
  refine g_iload_n dJ6_bitCount_0f7a4_25 0 rfl ?_
  refine g_iconst (v := nI 4) dJ6_bitCount_0f7a4_26 (by decide +kernel) ?_
  refine g_iushr (v := ((bcB (bcA (nI x))).toUInt32 >>> ((nI 4).toUInt32 &&& Int32.toUInt32 31)).toInt32) dJ6_bitCount_0f7a4_27 (rfl) ?_
  refine g_iadd dJ6_bitCount_0f7a4_28 ?_
  refine g_ldcw dJ6_bitCount_0f7a4_29 wxJ6_267 ?_
  refine g_top (show ((252645135) : Int32) = nI 252645135 by decide +kernel) ?_
  refine g_iand dJ6_bitCount_0f7a4_32 ?_
  refine g_top (rfl) ?_
  refine g_istore_n (ls' := [(0, .int (bcC (bcB (bcA (nI x)))))]) dJ6_bitCount_0f7a4_33 (Nat.le_of_ble_eq_true rfl) rfl ?_
  refine g_iload_n dJ6_bitCount_0f7a4_34 0 rfl ?_
  refine g_iload_n dJ6_bitCount_0f7a4_35 0 rfl ?_
  refine g_bipush (v := nI 8) dJ6_bitCount_0f7a4_36 (by decide +kernel) ?_
  refine g_iushr (v := ((bcC (bcB (bcA (nI x)))).toUInt32 >>> ((nI 8).toUInt32 &&& Int32.toUInt32 31)).toInt32) dJ6_bitCount_0f7a4_38 (rfl) ?_
  refine g_iadd dJ6_bitCount_0f7a4_39 ?_
  refine g_top (rfl) ?_
  refine g_istore_n (ls' := [(0, .int (bcD (bcC (bcB (bcA (nI x))))))]) dJ6_bitCount_0f7a4_40 (Nat.le_of_ble_eq_true rfl) rfl ?_
  refine g_iload_n dJ6_bitCount_0f7a4_41 0 rfl ?_
  refine g_iload_n dJ6_bitCount_0f7a4_42 0 rfl ?_
  refine g_bipush (v := nI 16) dJ6_bitCount_0f7a4_43 (by decide +kernel) ?_
  refine g_iushr (v := ((bcD (bcC (bcB (bcA (nI x))))).toUInt32 >>> ((nI 16).toUInt32 &&& Int32.toUInt32 31)).toInt32) dJ6_bitCount_0f7a4_45 (rfl) ?_
  refine g_iadd dJ6_bitCount_0f7a4_46 ?_
  refine g_top (rfl) ?_
  refine g_istore_n (ls' := [(0, .int (bcE (bcD (bcC (bcB (bcA (nI x)))))))]) dJ6_bitCount_0f7a4_47 (Nat.le_of_ble_eq_true rfl) rfl ?_
  refine g_iload_n dJ6_bitCount_0f7a4_48 0 rfl ?_
  refine g_bipush (v := nI 63) dJ6_bitCount_0f7a4_49 (by decide +kernel) ?_
  refine g_iand dJ6_bitCount_0f7a4_51 ?_
  exact g_iret dJ6_bitCount_0f7a4_52 rfl ⟨Nat.zero_le _, Nat.zero_le _⟩ (⟨by rw [bc_eq x hx], rfl⟩)
