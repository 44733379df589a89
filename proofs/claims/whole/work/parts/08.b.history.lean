/-- the cells of the History at 42 -/
def HA (h : List aC) (nx am : Nat) (HF HS HD : Nat → List Nat) (PL : List Int32) (CO : List Nat) : Prop := rd h 42 = some (.inr (0, [.ref 43, .ref 56, .ref 69, .ref 82, .ref 83, .int (nI nx), .int (nI am)])) ∧ rd h 43 = some (.inr (100, (List.range 12).map (fun i => Value.ref (44 + i)))) ∧ rd h 56 = some (.inr (100, (List.range 12).map (fun i => Value.ref (57 + i)))) ∧ rd h 69 = some (.inr (100, (List.range 12).map (fun i => Value.ref (70 + i)))) ∧ (∀ i, i < 12 → rd h (44 + i) = some (.inl ((HF i).map nI)) ∧ (HF i).length = 6) ∧ (∀ i, i < 12 → rd h (57 + i) = some (.inl ((HS i).map nI)) ∧ (HS i).length = 6) ∧ (∀ i, i < 12 → rd h (70 + i) = some (.inl ((HD i).map nI)) ∧ (HD i).length = 6) ∧ rd h 82 = some (.inl PL) ∧ PL.length = 12 ∧ rd h 83 = some (.inl (CO.map nI)) ∧ CO.length = 12
theorem HA.mv {h h' : List aC} {nx am lo hi : Nat} {HF HS HD : Nat → List Nat} {PL : List Int32} {CO : List Nat} (H : HA h nx am HF HS HD PL CO) (s : Smo lo hi h h') (hq : 84 ≤ lo ∨ hi ≤ 42) : HA h' nx am HF HS HD PL CO := ⟨by rw [s _ (by omega)]; exact H.1, by rw [s _ (by omega)]; exact H.2.1, by rw [s _ (by omega)]; exact H.2.2.1, by rw [s _ (by omega)]; exact H.2.2.2.1, fun i hi => by rw [s _ (by omega)]; exact H.2.2.2.2.1 i hi, fun i hi => by rw [s _ (by omega)]; exact H.2.2.2.2.2.1 i hi, fun i hi => by rw [s _ (by omega)]; exact H.2.2.2.2.2.2.1 i hi, by rw [s _ (by omega)]; exact H.2.2.2.2.2.2.2.1, H.2.2.2.2.2.2.2.2.1, by rw [s _ (by omega)]; exact H.2.2.2.2.2.2.2.2.2.1, H.2.2.2.2.2.2.2.2.2.2⟩
theorem rows_at (b : Nat) {y : Nat} (hy : y < 12) : ((List.range 12).map (fun i => Value.ref (b + i))).getD y .null = .ref (b + y) := by
  rw [List.getD_eq_getElem?_getD, List.getElem?_map, List.getElem?_range hy]
  rfl
def upL (f : Nat → List Nat) (y : Nat) (v : List Nat) : Nat → List Nat := fun j => if j = y then v else f j

set_option maxRecDepth 100000 in
set_option maxHeartbeats 4000000 in
theorem ev_forget {h : List aC} {nx am : Nat} {HF HS HD : Nat → List Nat} {PL : List Int32} {CO : List Nat} (hH : HA h nx am HF HS HD PL CO) (hx : nx < 12) (ha : am ≤ 12) : Ev mX0_forget 1 0 0 [.ref 42] h (pq none (fun h2 => HA h2 nx 0 HF HS HD PL CO ∧ Smo 42 43 h h2)) := by
  obtain ⟨-, -, -, -, rF, rS, rD, -, lPL, -, lCO⟩ := id hH
  refine Ev.of pX0_forget (Nat.le_of_ble_eq_true rfl) ?_
  show G mX0_forget (rmD 1 0 0) none _ 0 0 0 [(0, .ref 42)] [] h
  refine g_aload_n dX0_forget_0 0 rfl ?_
  refine g_iconst (v := nI 0) dX0_forget_1 (by decide +kernel) ?_
  refine g_putv dX0_forget_2 kX0 wfX0_33 (Nat.le_of_ble_eq_true rfl) rfl (fun _ _ => ⟨rfl, rfl⟩) (hH.1) (Nat.le_of_ble_eq_true rfl) (fs' := [.ref 43, .ref 56, .ref 69, .ref 82, .ref 83, .int (nI nx), .int (nI 0)]) rfl (fun h1 e1 => ?_)
  have f1_42 : rd h1 42 = some (.inr (0, [.ref 43, .ref 56, .ref 69, .ref 82, .ref 83, .int (nI nx), .int (nI 0)])) := by rw [e1]; exact rd_wr_eq (hH.1)
  have s1 : Smo 42 (42 + 1) h h1 := by rw [e1]; exact Smo.wr (by omega) (by omega)
  have f1_43 : rd h1 43 = some (.inr (100, (List.range 12).map (fun i => Value.ref (44 + i)))) := by rw [s1 _ (by omega)]; exact hH.2.1
  have f1_56 : rd h1 56 = some (.inr (100, (List.range 12).map (fun i => Value.ref (57 + i)))) := by rw [s1 _ (by omega)]; exact hH.2.2.1
  have f1_69 : rd h1 69 = some (.inr (100, (List.range 12).map (fun i => Value.ref (70 + i)))) := by rw [s1 _ (by omega)]; exact hH.2.2.2.1
  have f1_44_nx : rd h1 (44 + nx) = some (.inl ((HF nx).map nI)) := by rw [s1 _ (by omega)]; exact (hH.2.2.2.2.1 nx hx).1
  have f1_57_nx : rd h1 (57 + nx) = some (.inl ((HS nx).map nI)) := by rw [s1 _ (by omega)]; exact (hH.2.2.2.2.2.1 nx hx).1
  have f1_70_nx : rd h1 (70 + nx) = some (.inl ((HD nx).map nI)) := by rw [s1 _ (by omega)]; exact (hH.2.2.2.2.2.2.1 nx hx).1
  have f1_82 : rd h1 82 = some (.inl (PL)) := by rw [s1 _ (by omega)]; exact hH.2.2.2.2.2.2.2.1
  have f1_83 : rd h1 83 = some (.inl ((CO).map nI)) := by rw [s1 _ (by omega)]; exact hH.2.2.2.2.2.2.2.2.2.1
  exact g_vret dX0_forget_5 rfl ⟨Nat.zero_le _, Nat.zero_le _⟩ (⟨rfl, ⟨f1_42, f1_43, f1_56, f1_69, fun i hi => by rw [s1 _ (by omega)]; exact rF i hi, fun i hi => by rw [s1 _ (by omega)]; exact rS i hi, fun i hi => by rw [s1 _ (by omega)]; exact rD i hi, f1_82, lPL, f1_83, lCO⟩, (fun q hq => by rw [s1 q (by omega)])⟩)

set_option maxRecDepth 100000 in
set_option maxHeartbeats 4000000 in
theorem ev_keepCell {h : List aC} {nx am : Nat} {HF HS HD : Nat → List Nat} {PL : List Int32} {CO : List Nat} (hH : HA h nx am HF HS HD PL CO) (hx : nx < 12) (ha : am ≤ 12) {p n m : Nat} {F S A : List Nat} (hP : PA h p n m F S A) (hd : p + 4 ≤ 42 ∨ 84 ≤ p) (pl : Int32) (co : Nat) : Ev mX0_keepCell 2 0 0 [.ref 42, .ref p, .int pl, .int (nI co)] h (pq none (fun h2 => HA h2 ((nx + 1) % 12) (min (am + 1) 12) (upL HF nx F) (upL HS nx S) (upL HD nx A) (PL.set nx pl) (CO.set nx co) ∧ Smo 42 84 h h2)) := by
  obtain ⟨-, -, -, -, rF, rS, rD, -, lPL, -, lCO⟩ := id hH
  obtain ⟨-, -, -, -, lF, lS, lA⟩ := id hP
  refine Ev.of pX0_keepCell (Nat.le_of_ble_eq_true rfl) ?_
  show G mX0_keepCell (rmD 2 0 0) none _ 0 0 0 [(0, .ref 42), (1, .ref p), (2, .int pl), (3, .int (nI co))] [] h
  refine g_aload_n dX0_keepCell_0 1 rfl ?_
  refine g_getf dX0_keepCell_1 kX3 wfX0_42 (Nat.le_of_ble_eq_true rfl) (hP.1) rfl ?_
  refine g_iconst (v := nI 0) dX0_keepCell_4 (by decide +kernel) ?_
  refine g_aload_n dX0_keepCell_5 0 rfl ?_
  refine g_getf dX0_keepCell_6 kX0 wfX0_11 (Nat.le_of_ble_eq_true rfl) (hH.1) rfl ?_
  refine g_aload_n dX0_keepCell_9 0 rfl ?_
  refine g_getf dX0_keepCell_10 kX0 wfX0_29 (Nat.le_of_ble_eq_true rfl) (hH.1) rfl ?_
  refine g_aalN dX0_keepCell_13 (hH.2.1) (by simp; omega) (by simp) (rows_at 44 hx) ?_
  refine g_iconst (v := nI 0) dX0_keepCell_14 (by decide +kernel) ?_
  refine g_bipush (v := nI 6) dX0_keepCell_15 (by decide +kernel) ?_
  refine g_copyv dX0_keepCell_17 wmX0_46 (hP.2.1) ((hH.2.2.2.2.1 nx hx).1) (by rw [List.length_map]; exact lF) (by rw [List.length_map]; exact (rF nx hx).2) (by omega) ⟨(Nat.le_of_ble_eq_true rfl), by decide +kernel⟩ (Nat.le_of_ble_eq_true rfl) (fun h1 e1 => ?_)
  have f1_44_nx : rd h1 (44 + nx) = some (.inl ((F).map nI)) := by rw [e1]; exact rd_wr_eq ((hH.2.2.2.2.1 nx hx).1)
  have s1 : Smo (44 + nx) ((44 + nx) + 1) h h1 := by rw [e1]; exact Smo.wr (by omega) (by omega)
  have b1_p := hP.mv s1 (by omega)
  have f1_42 : rd h1 42 = some (.inr (0, [.ref 43, .ref 56, .ref 69, .ref 82, .ref 83, .int (nI nx), .int (nI am)])) := by rw [s1 _ (by omega)]; exact hH.1
  have f1_43 : rd h1 43 = some (.inr (100, (List.range 12).map (fun i => Value.ref (44 + i)))) := by rw [s1 _ (by omega)]; exact hH.2.1
  have f1_56 : rd h1 56 = some (.inr (100, (List.range 12).map (fun i => Value.ref (57 + i)))) := by rw [s1 _ (by omega)]; exact hH.2.2.1
  have f1_69 : rd h1 69 = some (.inr (100, (List.range 12).map (fun i => Value.ref (70 + i)))) := by rw [s1 _ (by omega)]; exact hH.2.2.2.1
  have f1_57_nx : rd h1 (57 + nx) = some (.inl ((HS nx).map nI)) := by rw [s1 _ (by omega)]; exact (hH.2.2.2.2.2.1 nx hx).1
  have f1_70_nx : rd h1 (70 + nx) = some (.inl ((HD nx).map nI)) := by rw [s1 _ (by omega)]; exact (hH.2.2.2.2.2.2.1 nx hx).1
  have f1_82 : rd h1 82 = some (.inl (PL)) := by rw [s1 _ (by omega)]; exact hH.2.2.2.2.2.2.2.1
  have f1_83 : rd h1 83 = some (.inl ((CO).map nI)) := by rw [s1 _ (by omega)]; exact hH.2.2.2.2.2.2.2.2.2.1
  refine g_aload_n dX0_keepCell_20 1 rfl ?_
  refine g_getf dX0_keepCell_21 kX3 wfX0_52 (Nat.le_of_ble_eq_true rfl) (b1_p.1) rfl ?_
  refine g_iconst (v := nI 0) dX0_keepCell_24 (by decide +kernel) ?_
  refine g_aload_n dX0_keepCell_25 0 rfl ?_
  refine g_getf dX0_keepCell_26 kX0 wfX0_16 (Nat.le_of_ble_eq_true rfl) (f1_42) rfl ?_
  refine g_aload_n dX0_keepCell_29 0 rfl ?_
  refine g_getf dX0_keepCell_30 kX0 wfX0_29 (Nat.le_of_ble_eq_true rfl) (f1_42) rfl ?_
  refine g_aalN dX0_keepCell_33 (f1_56) (by simp; omega) (by simp) (rows_at 57 hx) ?_
  refine g_iconst (v := nI 0) dX0_keepCell_34 (by decide +kernel) ?_
  refine g_bipush (v := nI 6) dX0_keepCell_35 (by decide +kernel) ?_
  refine g_copyv dX0_keepCell_37 wmX0_46 (b1_p.2.2.1) (f1_57_nx) (by rw [List.length_map]; exact lS) (by rw [List.length_map]; exact (rS nx hx).2) (by omega) ⟨(Nat.le_of_ble_eq_true rfl), by decide +kernel⟩ (Nat.le_of_ble_eq_true rfl) (fun h2 e2 => ?_)
  have f2_57_nx : rd h2 (57 + nx) = some (.inl ((S).map nI)) := by rw [e2]; exact rd_wr_eq (f1_57_nx)
  have s2 : Smo (57 + nx) ((57 + nx) + 1) h1 h2 := by rw [e2]; exact Smo.wr (by omega) (by omega)
  have b2_p := b1_p.mv s2 (by omega)
  have f2_42 : rd h2 42 = some (.inr (0, [.ref 43, .ref 56, .ref 69, .ref 82, .ref 83, .int (nI nx), .int (nI am)])) := by rw [s2 _ (by omega)]; exact f1_42
  have f2_43 : rd h2 43 = some (.inr (100, (List.range 12).map (fun i => Value.ref (44 + i)))) := by rw [s2 _ (by omega)]; exact f1_43
  have f2_56 : rd h2 56 = some (.inr (100, (List.range 12).map (fun i => Value.ref (57 + i)))) := by rw [s2 _ (by omega)]; exact f1_56
  have f2_69 : rd h2 69 = some (.inr (100, (List.range 12).map (fun i => Value.ref (70 + i)))) := by rw [s2 _ (by omega)]; exact f1_69
  have f2_44_nx : rd h2 (44 + nx) = some (.inl ((F).map nI)) := by rw [s2 _ (by omega)]; exact f1_44_nx
  have f2_70_nx : rd h2 (70 + nx) = some (.inl ((HD nx).map nI)) := by rw [s2 _ (by omega)]; exact f1_70_nx
  have f2_82 : rd h2 82 = some (.inl (PL)) := by rw [s2 _ (by omega)]; exact f1_82
  have f2_83 : rd h2 83 = some (.inl ((CO).map nI)) := by rw [s2 _ (by omega)]; exact f1_83
  refine g_aload_n dX0_keepCell_40 1 rfl ?_
  refine g_getf dX0_keepCell_41 kX3 wfX0_54 (Nat.le_of_ble_eq_true rfl) (b2_p.1) rfl ?_
  refine g_iconst (v := nI 0) dX0_keepCell_44 (by decide +kernel) ?_
  refine g_aload_n dX0_keepCell_45 0 rfl ?_
  refine g_getf dX0_keepCell_46 kX0 wfX0_19 (Nat.le_of_ble_eq_true rfl) (f2_42) rfl ?_
  refine g_aload_n dX0_keepCell_49 0 rfl ?_
  refine g_getf dX0_keepCell_50 kX0 wfX0_29 (Nat.le_of_ble_eq_true rfl) (f2_42) rfl ?_
  refine g_aalN dX0_keepCell_53 (f2_69) (by simp; omega) (by simp) (rows_at 70 hx) ?_
  refine g_iconst (v := nI 0) dX0_keepCell_54 (by decide +kernel) ?_
  refine g_bipush (v := nI 6) dX0_keepCell_55 (by decide +kernel) ?_
  refine g_copyv dX0_keepCell_57 wmX0_46 (b2_p.2.2.2.1) (f2_70_nx) (by rw [List.length_map]; exact lA) (by rw [List.length_map]; exact (rD nx hx).2) (by omega) ⟨(Nat.le_of_ble_eq_true rfl), by decide +kernel⟩ (Nat.le_of_ble_eq_true rfl) (fun h3 e3 => ?_)
  have f3_70_nx : rd h3 (70 + nx) = some (.inl ((A).map nI)) := by rw [e3]; exact rd_wr_eq (f2_70_nx)
  have s3 : Smo (70 + nx) ((70 + nx) + 1) h2 h3 := by rw [e3]; exact Smo.wr (by omega) (by omega)
  have b3_p := b2_p.mv s3 (by omega)
  have f3_42 : rd h3 42 = some (.inr (0, [.ref 43, .ref 56, .ref 69, .ref 82, .ref 83, .int (nI nx), .int (nI am)])) := by rw [s3 _ (by omega)]; exact f2_42
  have f3_43 : rd h3 43 = some (.inr (100, (List.range 12).map (fun i => Value.ref (44 + i)))) := by rw [s3 _ (by omega)]; exact f2_43
  have f3_56 : rd h3 56 = some (.inr (100, (List.range 12).map (fun i => Value.ref (57 + i)))) := by rw [s3 _ (by omega)]; exact f2_56
  have f3_69 : rd h3 69 = some (.inr (100, (List.range 12).map (fun i => Value.ref (70 + i)))) := by rw [s3 _ (by omega)]; exact f2_69
  have f3_44_nx : rd h3 (44 + nx) = some (.inl ((F).map nI)) := by rw [s3 _ (by omega)]; exact f2_44_nx
  have f3_57_nx : rd h3 (57 + nx) = some (.inl ((S).map nI)) := by rw [s3 _ (by omega)]; exact f2_57_nx
  have f3_82 : rd h3 82 = some (.inl (PL)) := by rw [s3 _ (by omega)]; exact f2_82
  have f3_83 : rd h3 83 = some (.inl ((CO).map nI)) := by rw [s3 _ (by omega)]; exact f2_83
  refine g_aload_n dX0_keepCell_60 0 rfl ?_
  refine g_getf dX0_keepCell_61 kX0 wfX0_22 (Nat.le_of_ble_eq_true rfl) (f3_42) rfl ?_
  refine g_aload_n dX0_keepCell_64 0 rfl ?_
  refine g_getf dX0_keepCell_65 kX0 wfX0_29 (Nat.le_of_ble_eq_true rfl) (f3_42) rfl ?_
  refine g_iload_n dX0_keepCell_68 2 rfl ?_
  refine g_iasI dX0_keepCell_69 (f3_82) (by omega) (by omega) (fun h4 e4 => ?_)
  have f4_82 : rd h4 82 = some (.inl ((PL).set nx pl)) := by rw [e4]; exact rd_wr_eq (f3_82)
  have s4 : Smo 82 (82 + 1) h3 h4 := by rw [e4]; exact Smo.wr (by omega) (by omega)
  have b4_p := b3_p.mv s4 (by omega)
  have f4_42 : rd h4 42 = some (.inr (0, [.ref 43, .ref 56, .ref 69, .ref 82, .ref 83, .int (nI nx), .int (nI am)])) := by rw [s4 _ (by omega)]; exact f3_42
  have f4_43 : rd h4 43 = some (.inr (100, (List.range 12).map (fun i => Value.ref (44 + i)))) := by rw [s4 _ (by omega)]; exact f3_43
  have f4_56 : rd h4 56 = some (.inr (100, (List.range 12).map (fun i => Value.ref (57 + i)))) := by rw [s4 _ (by omega)]; exact f3_56
  have f4_69 : rd h4 69 = some (.inr (100, (List.range 12).map (fun i => Value.ref (70 + i)))) := by rw [s4 _ (by omega)]; exact f3_69
  have f4_44_nx : rd h4 (44 + nx) = some (.inl ((F).map nI)) := by rw [s4 _ (by omega)]; exact f3_44_nx
  have f4_57_nx : rd h4 (57 + nx) = some (.inl ((S).map nI)) := by rw [s4 _ (by omega)]; exact f3_57_nx
  have f4_70_nx : rd h4 (70 + nx) = some (.inl ((A).map nI)) := by rw [s4 _ (by omega)]; exact f3_70_nx
  have f4_83 : rd h4 83 = some (.inl ((CO).map nI)) := by rw [s4 _ (by omega)]; exact f3_83
  refine g_aload_n dX0_keepCell_70 0 rfl ?_
  refine g_getf dX0_keepCell_71 kX0 wfX0_26 (Nat.le_of_ble_eq_true rfl) (f4_42) rfl ?_
  refine g_aload_n dX0_keepCell_74 0 rfl ?_
  refine g_getf dX0_keepCell_75 kX0 wfX0_29 (Nat.le_of_ble_eq_true rfl) (f4_42) rfl ?_
  refine g_iload_n dX0_keepCell_78 3 rfl ?_
  refine g_iasN dX0_keepCell_79 (f4_83) (by omega) (by omega) (fun h5 e5 => ?_)
  have f5_83 : rd h5 83 = some (.inl (((CO).set nx co).map nI)) := by rw [e5]; exact rd_wr_eq (f4_83)
  have s5 : Smo 83 (83 + 1) h4 h5 := by rw [e5]; exact Smo.wr (by omega) (by omega)
  have b5_p := b4_p.mv s5 (by omega)
  have f5_42 : rd h5 42 = some (.inr (0, [.ref 43, .ref 56, .ref 69, .ref 82, .ref 83, .int (nI nx), .int (nI am)])) := by rw [s5 _ (by omega)]; exact f4_42
  have f5_43 : rd h5 43 = some (.inr (100, (List.range 12).map (fun i => Value.ref (44 + i)))) := by rw [s5 _ (by omega)]; exact f4_43
  have f5_56 : rd h5 56 = some (.inr (100, (List.range 12).map (fun i => Value.ref (57 + i)))) := by rw [s5 _ (by omega)]; exact f4_56
  have f5_69 : rd h5 69 = some (.inr (100, (List.range 12).map (fun i => Value.ref (70 + i)))) := by rw [s5 _ (by omega)]; exact f4_69
  have f5_44_nx : rd h5 (44 + nx) = some (.inl ((F).map nI)) := by rw [s5 _ (by omega)]; exact f4_44_nx
  have f5_57_nx : rd h5 (57 + nx) = some (.inl ((S).map nI)) := by rw [s5 _ (by omega)]; exact f4_57_nx
  have f5_70_nx : rd h5 (70 + nx) = some (.inl ((A).map nI)) := by rw [s5 _ (by omega)]; exact f4_70_nx
  have f5_82 : rd h5 82 = some (.inl ((PL).set nx pl)) := by rw [s5 _ (by omega)]; exact f4_82
  refine g_aload_n dX0_keepCell_80 0 rfl ?_
  refine g_aload_n dX0_keepCell_81 0 rfl ?_
  refine g_getf dX0_keepCell_82 kX0 wfX0_29 (Nat.le_of_ble_eq_true rfl) (f5_42) rfl ?_
  refine g_iconst (v := nI 1) dX0_keepCell_85 (by decide +kernel) ?_
  refine g_iaddN dX0_keepCell_86 ?_
  refine g_bipush (v := nI 12) dX0_keepCell_87 (by decide +kernel) ?_
  refine g_iremN dX0_keepCell_89 (by omega) (by omega) (by omega) ?_
  refine g_putv dX0_keepCell_90 kX0 wfX0_29 (Nat.le_of_ble_eq_true rfl) rfl (fun _ _ => ⟨rfl, rfl⟩) (f5_42) (Nat.le_of_ble_eq_true rfl) (fs' := [.ref 43, .ref 56, .ref 69, .ref 82, .ref 83, .int (nI ((nx + 1) % 12)), .int (nI am)]) rfl (fun h6 e6 => ?_)
  have f6_42 : rd h6 42 = some (.inr (0, [.ref 43, .ref 56, .ref 69, .ref 82, .ref 83, .int (nI ((nx + 1) % 12)), .int (nI am)])) := by rw [e6]; exact rd_wr_eq (f5_42)
  have s6 : Smo 42 (42 + 1) h5 h6 := by rw [e6]; exact Smo.wr (by omega) (by omega)
  have b6_p := b5_p.mv s6 (by omega)
  have f6_43 : rd h6 43 = some (.inr (100, (List.range 12).map (fun i => Value.ref (44 + i)))) := by rw [s6 _ (by omega)]; exact f5_43
  have f6_56 : rd h6 56 = some (.inr (100, (List.range 12).map (fun i => Value.ref (57 + i)))) := by rw [s6 _ (by omega)]; exact f5_56
  have f6_69 : rd h6 69 = some (.inr (100, (List.range 12).map (fun i => Value.ref (70 + i)))) := by rw [s6 _ (by omega)]; exact f5_69
  have f6_44_nx : rd h6 (44 + nx) = some (.inl ((F).map nI)) := by rw [s6 _ (by omega)]; exact f5_44_nx
  have f6_57_nx : rd h6 (57 + nx) = some (.inl ((S).map nI)) := by rw [s6 _ (by omega)]; exact f5_57_nx
  have f6_70_nx : rd h6 (70 + nx) = some (.inl ((A).map nI)) := by rw [s6 _ (by omega)]; exact f5_70_nx
  have f6_82 : rd h6 82 = some (.inl ((PL).set nx pl)) := by rw [s6 _ (by omega)]; exact f5_82
  have f6_83 : rd h6 83 = some (.inl (((CO).set nx co).map nI)) := by rw [s6 _ (by omega)]; exact f5_83
  refine g_aload_n dX0_keepCell_93 0 rfl ?_
  refine g_aload_n dX0_keepCell_94 0 rfl ?_
  refine g_getf dX0_keepCell_95 kX0 wfX0_33 (Nat.le_of_ble_eq_true rfl) (f6_42) rfl ?_
  refine g_iconst (v := nI 1) dX0_keepCell_98 (by decide +kernel) ?_
  refine g_iaddN dX0_keepCell_99 ?_
  refine g_bipush (v := nI 12) dX0_keepCell_100 (by decide +kernel) ?_
  refine g_callSp dX0_keepCell_102 (ev_min (am + 1) (12) (by omega) (by omega) _) oJ9_min_7cf53 wsJ9_min_7cf53 wmX0_56 rfl ⟨(Nat.le_of_ble_eq_true rfl), (Nat.le_of_ble_eq_true rfl)⟩ ⟨Nat.zero_le _, Nat.zero_le _⟩ (Nat.le_of_ble_eq_true rfl) rfl ?_
  refine g_putv dX0_keepCell_105 kX0 wfX0_33 (Nat.le_of_ble_eq_true rfl) rfl (fun _ _ => ⟨rfl, rfl⟩) (f6_42) (Nat.le_of_ble_eq_true rfl) (fs' := [.ref 43, .ref 56, .ref 69, .ref 82, .ref 83, .int (nI ((nx + 1) % 12)), .int (nI (min (am + 1) (12)))]) rfl (fun h7 e7 => ?_)
  have f7_42 : rd h7 42 = some (.inr (0, [.ref 43, .ref 56, .ref 69, .ref 82, .ref 83, .int (nI ((nx + 1) % 12)), .int (nI (min (am + 1) (12)))])) := by rw [e7]; exact rd_wr_eq (f6_42)
  have s7 : Smo 42 (42 + 1) h6 h7 := by rw [e7]; exact Smo.wr (by omega) (by omega)
  have b7_p := b6_p.mv s7 (by omega)
  have f7_43 : rd h7 43 = some (.inr (100, (List.range 12).map (fun i => Value.ref (44 + i)))) := by rw [s7 _ (by omega)]; exact f6_43
  have f7_56 : rd h7 56 = some (.inr (100, (List.range 12).map (fun i => Value.ref (57 + i)))) := by rw [s7 _ (by omega)]; exact f6_56
  have f7_69 : rd h7 69 = some (.inr (100, (List.range 12).map (fun i => Value.ref (70 + i)))) := by rw [s7 _ (by omega)]; exact f6_69
  have f7_44_nx : rd h7 (44 + nx) = some (.inl ((F).map nI)) := by rw [s7 _ (by omega)]; exact f6_44_nx
  have f7_57_nx : rd h7 (57 + nx) = some (.inl ((S).map nI)) := by rw [s7 _ (by omega)]; exact f6_57_nx
  have f7_70_nx : rd h7 (70 + nx) = some (.inl ((A).map nI)) := by rw [s7 _ (by omega)]; exact f6_70_nx
  have f7_82 : rd h7 82 = some (.inl ((PL).set nx pl)) := by rw [s7 _ (by omega)]; exact f6_82
  have f7_83 : rd h7 83 = some (.inl (((CO).set nx co).map nI)) := by rw [s7 _ (by omega)]; exact f6_83
  exact g_vret dX0_keepCell_108 rfl ⟨Nat.zero_le _, Nat.zero_le _⟩ (⟨rfl, ⟨f7_42, f7_43, f7_56, f7_69, (fun i hi => by by_cases q : i = nx; (subst q; exact ⟨by rw [show ∀ f v, upL f i v i = v from fun f v => if_pos rfl]; exact f7_44_nx, by rw [show ∀ f v, upL f i v i = v from fun f v => if_pos rfl]; exact lF⟩); exact ⟨by rw [show ∀ f v, upL f nx v i = f i from fun f v => if_neg q, s7 _ (by omega), s6 _ (by omega), s5 _ (by omega), s4 _ (by omega), s3 _ (by omega), s2 _ (by omega), s1 _ (by omega)]; exact (rF i hi).1, by rw [show ∀ f v, upL f nx v i = f i from fun f v => if_neg q]; exact (rF i hi).2⟩), (fun i hi => by by_cases q : i = nx; (subst q; exact ⟨by rw [show ∀ f v, upL f i v i = v from fun f v => if_pos rfl]; exact f7_57_nx, by rw [show ∀ f v, upL f i v i = v from fun f v => if_pos rfl]; exact lS⟩); exact ⟨by rw [show ∀ f v, upL f nx v i = f i from fun f v => if_neg q, s7 _ (by omega), s6 _ (by omega), s5 _ (by omega), s4 _ (by omega), s3 _ (by omega), s2 _ (by omega), s1 _ (by omega)]; exact (rS i hi).1, by rw [show ∀ f v, upL f nx v i = f i from fun f v => if_neg q]; exact (rS i hi).2⟩), (fun i hi => by by_cases q : i = nx; (subst q; exact ⟨by rw [show ∀ f v, upL f i v i = v from fun f v => if_pos rfl]; exact f7_70_nx, by rw [show ∀ f v, upL f i v i = v from fun f v => if_pos rfl]; exact lA⟩); exact ⟨by rw [show ∀ f v, upL f nx v i = f i from fun f v => if_neg q, s7 _ (by omega), s6 _ (by omega), s5 _ (by omega), s4 _ (by omega), s3 _ (by omega), s2 _ (by omega), s1 _ (by omega)]; exact (rD i hi).1, by rw [show ∀ f v, upL f nx v i = f i from fun f v => if_neg q]; exact (rD i hi).2⟩), f7_82, by simp [lPL], f7_83, by simp [lCO]⟩, (fun q hq => by rw [s7 q (by omega), s6 q (by omega), s5 q (by omega), s4 q (by omega), s3 q (by omega), s2 q (by omega), s1 q (by omega)])⟩)

set_option maxRecDepth 100000 in
set_option maxHeartbeats 4000000 in
theorem ev_keep {h : List aC} {nx am : Nat} {HF HS HD : Nat → List Nat} {PL : List Int32} {CO : List Nat} (hH : HA h nx am HF HS HD PL CO) (hx : nx < 12) (ha : am ≤ 12) {p n m : Nat} {F S A : List Nat} (hP : PA h p n m F S A) (hd : p + 4 ≤ 42 ∨ 84 ≤ p) : Ev mX0_keep 3 0 0 [.ref 42, .ref p] h (pq none (fun h2 => HA h2 ((nx + 1) % 12) (min (am + 1) 12) (upL HF nx F) (upL HS nx S) (upL HD nx A) (PL.set nx (-1)) (CO.set nx 0) ∧ Smo 42 84 h h2)) := by
  refine Ev.of pX0_keep (Nat.le_of_ble_eq_true rfl) ?_
  show G mX0_keep (rmD 3 0 0) none _ 0 0 0 [(0, .ref 42), (1, .ref p)] [] h
  refine g_aload_n dX0_keep_0 0 rfl ?_
  refine g_aload_n dX0_keep_1 1 rfl ?_
  refine g_iconst (v := (-1)) dX0_keep_2 (by decide +kernel) ?_
  refine g_iconst (v := nI 0) dX0_keep_3 (by decide +kernel) ?_
  refine g_callVq (st1 := []) dX0_keep_4 (ev_keepCell hH hx ha hP hd (-1) 0) oX0_keepCell wiX0_keepCell weX0_keepCell wmX0_38 kX0 (hH.1) rfl ⟨(Nat.le_of_ble_eq_true rfl), (Nat.le_of_ble_eq_true rfl)⟩ ⟨Nat.zero_le _, Nat.zero_le _⟩ (Nat.le_of_ble_eq_true rfl) rfl rfl (fun h1 q1 => ?_)
  exact g_vret dX0_keep_7 rfl ⟨Nat.zero_le _, Nat.zero_le _⟩ (⟨rfl, q1⟩)

set_option maxRecDepth 100000 in
set_option maxHeartbeats 4000000 in
theorem ev_goBack0 {h : List aC} {nx am : Nat} {HF HS HD : Nat → List Nat} {PL : List Int32} {CO : List Nat} (hH : HA h nx am HF HS HD PL CO) (hx : nx < 12) (ha : am ≤ 12) (h1 : 0 < am) {y : Nat} (ey : (nx + 12 - 1) % 12 = y) {n m : Nat} {F S A : List Nat} {rn : Nat} {C : List Nat} {T : List Int32} {r8 : Value} (hO : rd h 1 = some (.inr (6, [.ref 2, r8, .ref 9]))) (hP : PA h 2 n m F S A) (hR : RA h 9 rn C T) (hp : PL.getD y 0 = -1) : Ev mX0_goBack 2 0 0 [.ref 42, .ref 1] h (pq none (fun h2 => ∃ hm, Smo 42 43 h hm ∧ Smo 1 12 hm h2 ∧ (∀ q, (q = 1 ∨ 6 ≤ q ∧ q ≤ 8) → rd h2 q = rd hm q) ∧ HA h2 y (am - 1) HF HS HD PL CO ∧ PA h2 2 n m (HF y) (HS y) (HD y) ∧ RA h2 9 rn C T)) := by
  have hy : y < 12 := by omega
  obtain ⟨-, -, -, -, rF, rS, rD, -, lPL, -, lCO⟩ := id hH
  obtain ⟨-, -, -, -, lF, lS, lA⟩ := id hP
  obtain ⟨-, -, -, lC, lT⟩ := id hR
  refine Ev.of pX0_goBack (Nat.le_of_ble_eq_true rfl) ?_
  show G mX0_goBack (rmD 2 0 0) none _ 0 0 0 [(0, .ref 42), (1, .ref 1)] [] h
  refine g_aload_n dX0_goBack_0 0 rfl ?_
  refine g_aload_n dX0_goBack_1 0 rfl ?_
  refine g_getf dX0_goBack_2 kX0 wfX0_29 (Nat.le_of_ble_eq_true rfl) (hH.1) rfl ?_
  refine g_bipush (v := nI 12) dX0_goBack_5 (by decide +kernel) ?_
  refine g_iaddN dX0_goBack_7 ?_
  refine g_iconst (v := nI 1) dX0_goBack_8 (by decide +kernel) ?_
  refine g_isubN dX0_goBack_9 (by omega) ?_
  refine g_bipush (v := nI 12) dX0_goBack_10 (by decide +kernel) ?_
  refine g_iremN dX0_goBack_12 (by omega) (by omega) (by omega) ?_
  refine g_top (congrArg nI ey) ?_
  refine g_putv dX0_goBack_13 kX0 wfX0_29 (Nat.le_of_ble_eq_true rfl) rfl (fun _ _ => ⟨rfl, rfl⟩) (hH.1) (Nat.le_of_ble_eq_true rfl) (fs' := [.ref 43, .ref 56, .ref 69, .ref 82, .ref 83, .int (nI y), .int (nI am)]) rfl (fun h1 e1 => ?_)
  have f1_42 : rd h1 42 = some (.inr (0, [.ref 43, .ref 56, .ref 69, .ref 82, .ref 83, .int (nI y), .int (nI am)])) := by rw [e1]; exact rd_wr_eq (hH.1)
  have s1 : Smo 42 (42 + 1) h h1 := by rw [e1]; exact Smo.wr (by omega) (by omega)
  have b1_2 := hP.mv s1 (by omega)
  have b1_9 := hR.mv s1 (by omega)
  have f1_1 : rd h1 1 = some (.inr (6, [.ref 2, r8, .ref 9])) := by rw [s1 _ (by omega)]; exact hO
  have f1_43 : rd h1 43 = some (.inr (100, (List.range 12).map (fun i => Value.ref (44 + i)))) := by rw [s1 _ (by omega)]; exact hH.2.1
  have f1_56 : rd h1 56 = some (.inr (100, (List.range 12).map (fun i => Value.ref (57 + i)))) := by rw [s1 _ (by omega)]; exact hH.2.2.1
  have f1_69 : rd h1 69 = some (.inr (100, (List.range 12).map (fun i => Value.ref (70 + i)))) := by rw [s1 _ (by omega)]; exact hH.2.2.2.1
  have f1_44_y : rd h1 (44 + y) = some (.inl ((HF y).map nI)) := by rw [s1 _ (by omega)]; exact (hH.2.2.2.2.1 y hy).1
  have f1_57_y : rd h1 (57 + y) = some (.inl ((HS y).map nI)) := by rw [s1 _ (by omega)]; exact (hH.2.2.2.2.2.1 y hy).1
  have f1_70_y : rd h1 (70 + y) = some (.inl ((HD y).map nI)) := by rw [s1 _ (by omega)]; exact (hH.2.2.2.2.2.2.1 y hy).1
  have f1_82 : rd h1 82 = some (.inl (PL)) := by rw [s1 _ (by omega)]; exact hH.2.2.2.2.2.2.2.1
  have f1_83 : rd h1 83 = some (.inl ((CO).map nI)) := by rw [s1 _ (by omega)]; exact hH.2.2.2.2.2.2.2.2.2.1
  refine g_aload_n dX0_goBack_16 0 rfl ?_
  refine g_dup dX0_goBack_17 rfl ?_
  refine g_getf dX0_goBack_18 kX0 wfX0_33 (Nat.le_of_ble_eq_true rfl) (f1_42) rfl ?_
  refine g_iconst (v := nI 1) dX0_goBack_21 (by decide +kernel) ?_
  refine g_isubN dX0_goBack_22 (by omega) ?_
  refine g_putv dX0_goBack_23 kX0 wfX0_33 (Nat.le_of_ble_eq_true rfl) rfl (fun _ _ => ⟨rfl, rfl⟩) (f1_42) (Nat.le_of_ble_eq_true rfl) (fs' := [.ref 43, .ref 56, .ref 69, .ref 82, .ref 83, .int (nI y), .int (nI (am - 1))]) rfl (fun h2 e2 => ?_)
  have f2_42 : rd h2 42 = some (.inr (0, [.ref 43, .ref 56, .ref 69, .ref 82, .ref 83, .int (nI y), .int (nI (am - 1))])) := by rw [e2]; exact rd_wr_eq (f1_42)
  have s2 : Smo 42 (42 + 1) h1 h2 := by rw [e2]; exact Smo.wr (by omega) (by omega)
  have b2_2 := b1_2.mv s2 (by omega)
  have b2_9 := b1_9.mv s2 (by omega)
  have f2_1 : rd h2 1 = some (.inr (6, [.ref 2, r8, .ref 9])) := by rw [s2 _ (by omega)]; exact f1_1
  have f2_43 : rd h2 43 = some (.inr (100, (List.range 12).map (fun i => Value.ref (44 + i)))) := by rw [s2 _ (by omega)]; exact f1_43
  have f2_56 : rd h2 56 = some (.inr (100, (List.range 12).map (fun i => Value.ref (57 + i)))) := by rw [s2 _ (by omega)]; exact f1_56
  have f2_69 : rd h2 69 = some (.inr (100, (List.range 12).map (fun i => Value.ref (70 + i)))) := by rw [s2 _ (by omega)]; exact f1_69
  have f2_44_y : rd h2 (44 + y) = some (.inl ((HF y).map nI)) := by rw [s2 _ (by omega)]; exact f1_44_y
  have f2_57_y : rd h2 (57 + y) = some (.inl ((HS y).map nI)) := by rw [s2 _ (by omega)]; exact f1_57_y
  have f2_70_y : rd h2 (70 + y) = some (.inl ((HD y).map nI)) := by rw [s2 _ (by omega)]; exact f1_70_y
  have f2_82 : rd h2 82 = some (.inl (PL)) := by rw [s2 _ (by omega)]; exact f1_82
  have f2_83 : rd h2 83 = some (.inl ((CO).map nI)) := by rw [s2 _ (by omega)]; exact f1_83
  refine g_aload_n dX0_goBack_26 0 rfl ?_
  refine g_getf dX0_goBack_27 kX0 wfX0_11 (Nat.le_of_ble_eq_true rfl) (f2_42) rfl ?_
  refine g_aload_n dX0_goBack_30 0 rfl ?_
  refine g_getf dX0_goBack_31 kX0 wfX0_29 (Nat.le_of_ble_eq_true rfl) (f2_42) rfl ?_
  refine g_aalN dX0_goBack_34 (f2_43) (by simp; omega) (by simp) (rows_at 44 hy) ?_
  refine g_iconst (v := nI 0) dX0_goBack_35 (by decide +kernel) ?_
  refine g_aload_n dX0_goBack_36 1 rfl ?_
  refine g_getf dX0_goBack_37 kX6 wfX0_62 (Nat.le_of_ble_eq_true rfl) (f2_1) rfl ?_
  refine g_getf dX0_goBack_40 kX3 wfX0_42 (Nat.le_of_ble_eq_true rfl) (b2_2.1) rfl ?_
  refine g_iconst (v := nI 0) dX0_goBack_43 (by decide +kernel) ?_
  refine g_bipush (v := nI 6) dX0_goBack_44 (by decide +kernel) ?_
  refine g_copyv dX0_goBack_46 wmX0_46 (f2_44_y) (b2_2.2.1) (by rw [List.length_map]; exact (rF y hy).2) (by rw [List.length_map]; exact lF) (by omega) ⟨(Nat.le_of_ble_eq_true rfl), by decide +kernel⟩ (Nat.le_of_ble_eq_true rfl) (fun h3 e3 => ?_)
  have f3_3 : rd h3 3 = some (.inl ((HF y).map nI)) := by rw [e3]; exact rd_wr_eq (b2_2.2.1)
  have s3 : Smo 3 (3 + 1) h2 h3 := by rw [e3]; exact Smo.wr (by omega) (by omega)
  have b3_9 := b2_9.mv s3 (by omega)
  have f3_42 : rd h3 42 = some (.inr (0, [.ref 43, .ref 56, .ref 69, .ref 82, .ref 83, .int (nI y), .int (nI (am - 1))])) := by rw [s3 _ (by omega)]; exact f2_42
  have f3_1 : rd h3 1 = some (.inr (6, [.ref 2, r8, .ref 9])) := by rw [s3 _ (by omega)]; exact f2_1
  have f3_2 : rd h3 2 = some (.inr (3, [.ref 3, .ref 4, .ref 5, .int (nI n), .int (nI m)])) := by rw [s3 _ (by omega)]; exact b2_2.1
  have f3_43 : rd h3 43 = some (.inr (100, (List.range 12).map (fun i => Value.ref (44 + i)))) := by rw [s3 _ (by omega)]; exact f2_43
  have f3_56 : rd h3 56 = some (.inr (100, (List.range 12).map (fun i => Value.ref (57 + i)))) := by rw [s3 _ (by omega)]; exact f2_56
  have f3_69 : rd h3 69 = some (.inr (100, (List.range 12).map (fun i => Value.ref (70 + i)))) := by rw [s3 _ (by omega)]; exact f2_69
  have f3_44_y : rd h3 (44 + y) = some (.inl ((HF y).map nI)) := by rw [s3 _ (by omega)]; exact f2_44_y
  have f3_57_y : rd h3 (57 + y) = some (.inl ((HS y).map nI)) := by rw [s3 _ (by omega)]; exact f2_57_y
  have f3_70_y : rd h3 (70 + y) = some (.inl ((HD y).map nI)) := by rw [s3 _ (by omega)]; exact f2_70_y
  have f3_82 : rd h3 82 = some (.inl (PL)) := by rw [s3 _ (by omega)]; exact f2_82
  have f3_83 : rd h3 83 = some (.inl ((CO).map nI)) := by rw [s3 _ (by omega)]; exact f2_83
  have f3_4 : rd h3 4 = some (.inl ((S).map nI)) := by rw [s3 _ (by omega)]; exact b2_2.2.2.1
  have f3_5 : rd h3 5 = some (.inl ((A).map nI)) := by rw [s3 _ (by omega)]; exact b2_2.2.2.2.1
  refine g_aload_n dX0_goBack_49 0 rfl ?_
  refine g_getf dX0_goBack_50 kX0 wfX0_16 (Nat.le_of_ble_eq_true rfl) (f3_42) rfl ?_
  refine g_aload_n dX0_goBack_53 0 rfl ?_
  refine g_getf dX0_goBack_54 kX0 wfX0_29 (Nat.le_of_ble_eq_true rfl) (f3_42) rfl ?_
  refine g_aalN dX0_goBack_57 (f3_56) (by simp; omega) (by simp) (rows_at 57 hy) ?_
  refine g_iconst (v := nI 0) dX0_goBack_58 (by decide +kernel) ?_
  refine g_aload_n dX0_goBack_59 1 rfl ?_
  refine g_getf dX0_goBack_60 kX6 wfX0_62 (Nat.le_of_ble_eq_true rfl) (f3_1) rfl ?_
  refine g_getf dX0_goBack_63 kX3 wfX0_52 (Nat.le_of_ble_eq_true rfl) (f3_2) rfl ?_
  refine g_iconst (v := nI 0) dX0_goBack_66 (by decide +kernel) ?_
  refine g_bipush (v := nI 6) dX0_goBack_67 (by decide +kernel) ?_
  refine g_copyv dX0_goBack_69 wmX0_46 (f3_57_y) (f3_4) (by rw [List.length_map]; exact (rS y hy).2) (by rw [List.length_map]; exact lS) (by omega) ⟨(Nat.le_of_ble_eq_true rfl), by decide +kernel⟩ (Nat.le_of_ble_eq_true rfl) (fun h4 e4 => ?_)
  have f4_4 : rd h4 4 = some (.inl ((HS y).map nI)) := by rw [e4]; exact rd_wr_eq (f3_4)
  have s4 : Smo 4 (4 + 1) h3 h4 := by rw [e4]; exact Smo.wr (by omega) (by omega)
  have b4_9 := b3_9.mv s4 (by omega)
  have f4_42 : rd h4 42 = some (.inr (0, [.ref 43, .ref 56, .ref 69, .ref 82, .ref 83, .int (nI y), .int (nI (am - 1))])) := by rw [s4 _ (by omega)]; exact f3_42
  have f4_1 : rd h4 1 = some (.inr (6, [.ref 2, r8, .ref 9])) := by rw [s4 _ (by omega)]; exact f3_1
  have f4_2 : rd h4 2 = some (.inr (3, [.ref 3, .ref 4, .ref 5, .int (nI n), .int (nI m)])) := by rw [s4 _ (by omega)]; exact f3_2
  have f4_43 : rd h4 43 = some (.inr (100, (List.range 12).map (fun i => Value.ref (44 + i)))) := by rw [s4 _ (by omega)]; exact f3_43
  have f4_56 : rd h4 56 = some (.inr (100, (List.range 12).map (fun i => Value.ref (57 + i)))) := by rw [s4 _ (by omega)]; exact f3_56
  have f4_69 : rd h4 69 = some (.inr (100, (List.range 12).map (fun i => Value.ref (70 + i)))) := by rw [s4 _ (by omega)]; exact f3_69
  have f4_44_y : rd h4 (44 + y) = some (.inl ((HF y).map nI)) := by rw [s4 _ (by omega)]; exact f3_44_y
  have f4_57_y : rd h4 (57 + y) = some (.inl ((HS y).map nI)) := by rw [s4 _ (by omega)]; exact f3_57_y
  have f4_70_y : rd h4 (70 + y) = some (.inl ((HD y).map nI)) := by rw [s4 _ (by omega)]; exact f3_70_y
  have f4_82 : rd h4 82 = some (.inl (PL)) := by rw [s4 _ (by omega)]; exact f3_82
  have f4_83 : rd h4 83 = some (.inl ((CO).map nI)) := by rw [s4 _ (by omega)]; exact f3_83
  have f4_3 : rd h4 3 = some (.inl ((HF y).map nI)) := by rw [s4 _ (by omega)]; exact f3_3
  have f4_5 : rd h4 5 = some (.inl ((A).map nI)) := by rw [s4 _ (by omega)]; exact f3_5
  refine g_aload_n dX0_goBack_72 0 rfl ?_
  refine g_getf dX0_goBack_73 kX0 wfX0_19 (Nat.le_of_ble_eq_true rfl) (f4_42) rfl ?_
  refine g_aload_n dX0_goBack_76 0 rfl ?_
  refine g_getf dX0_goBack_77 kX0 wfX0_29 (Nat.le_of_ble_eq_true rfl) (f4_42) rfl ?_
  refine g_aalN dX0_goBack_80 (f4_69) (by simp; omega) (by simp) (rows_at 70 hy) ?_
  refine g_iconst (v := nI 0) dX0_goBack_81 (by decide +kernel) ?_
  refine g_aload_n dX0_goBack_82 1 rfl ?_
  refine g_getf dX0_goBack_83 kX6 wfX0_62 (Nat.le_of_ble_eq_true rfl) (f4_1) rfl ?_
  refine g_getf dX0_goBack_86 kX3 wfX0_54 (Nat.le_of_ble_eq_true rfl) (f4_2) rfl ?_
  refine g_iconst (v := nI 0) dX0_goBack_89 (by decide +kernel) ?_
  refine g_bipush (v := nI 6) dX0_goBack_90 (by decide +kernel) ?_
  refine g_copyv dX0_goBack_92 wmX0_46 (f4_70_y) (f4_5) (by rw [List.length_map]; exact (rD y hy).2) (by rw [List.length_map]; exact lA) (by omega) ⟨(Nat.le_of_ble_eq_true rfl), by decide +kernel⟩ (Nat.le_of_ble_eq_true rfl) (fun h5 e5 => ?_)
  have f5_5 : rd h5 5 = some (.inl ((HD y).map nI)) := by rw [e5]; exact rd_wr_eq (f4_5)
  have s5 : Smo 5 (5 + 1) h4 h5 := by rw [e5]; exact Smo.wr (by omega) (by omega)
  have b5_9 := b4_9.mv s5 (by omega)
  have f5_42 : rd h5 42 = some (.inr (0, [.ref 43, .ref 56, .ref 69, .ref 82, .ref 83, .int (nI y), .int (nI (am - 1))])) := by rw [s5 _ (by omega)]; exact f4_42
  have f5_1 : rd h5 1 = some (.inr (6, [.ref 2, r8, .ref 9])) := by rw [s5 _ (by omega)]; exact f4_1
  have f5_2 : rd h5 2 = some (.inr (3, [.ref 3, .ref 4, .ref 5, .int (nI n), .int (nI m)])) := by rw [s5 _ (by omega)]; exact f4_2
  have f5_43 : rd h5 43 = some (.inr (100, (List.range 12).map (fun i => Value.ref (44 + i)))) := by rw [s5 _ (by omega)]; exact f4_43
  have f5_56 : rd h5 56 = some (.inr (100, (List.range 12).map (fun i => Value.ref (57 + i)))) := by rw [s5 _ (by omega)]; exact f4_56
  have f5_69 : rd h5 69 = some (.inr (100, (List.range 12).map (fun i => Value.ref (70 + i)))) := by rw [s5 _ (by omega)]; exact f4_69
  have f5_44_y : rd h5 (44 + y) = some (.inl ((HF y).map nI)) := by rw [s5 _ (by omega)]; exact f4_44_y
  have f5_57_y : rd h5 (57 + y) = some (.inl ((HS y).map nI)) := by rw [s5 _ (by omega)]; exact f4_57_y
  have f5_70_y : rd h5 (70 + y) = some (.inl ((HD y).map nI)) := by rw [s5 _ (by omega)]; exact f4_70_y
  have f5_82 : rd h5 82 = some (.inl (PL)) := by rw [s5 _ (by omega)]; exact f4_82
  have f5_83 : rd h5 83 = some (.inl ((CO).map nI)) := by rw [s5 _ (by omega)]; exact f4_83
  have f5_3 : rd h5 3 = some (.inl ((HF y).map nI)) := by rw [s5 _ (by omega)]; exact f4_3
  have f5_4 : rd h5 4 = some (.inl ((HS y).map nI)) := by rw [s5 _ (by omega)]; exact f4_4
  refine g_aload_n dX0_goBack_95 0 rfl ?_
  refine g_getf dX0_goBack_96 kX0 wfX0_22 (Nat.le_of_ble_eq_true rfl) (f5_42) rfl ?_
  refine g_aload_n dX0_goBack_99 0 rfl ?_
  refine g_getf dX0_goBack_100 kX0 wfX0_29 (Nat.le_of_ble_eq_true rfl) (f5_42) rfl ?_
  refine g_ialI dX0_goBack_103 (f5_82) (by omega) (by omega) ?_
  refine g_iconst (v := (-1)) dX0_goBack_104 (by decide +kernel) ?_
  refine g_icmp_eq 134 dX0_goBack_105 (by decide) (fun c105 => ?_) (fun z => absurd z (not_not_intro hp))
  exact g_vret dX0_goBack_134 rfl ⟨Nat.zero_le _, Nat.zero_le _⟩ (⟨rfl, h2, (fun q hq => by rw [s2 q (by omega), s1 q (by omega)]), (fun q hq => by rw [s5 q (by omega), s4 q (by omega), s3 q (by omega)]), (fun q hq => by rw [s5 q (by omega), s4 q (by omega), s3 q (by omega)]), ⟨f5_42, f5_43, f5_56, f5_69, fun i hi => by rw [s5 _ (by omega), s4 _ (by omega), s3 _ (by omega), s2 _ (by omega), s1 _ (by omega)]; exact rF i hi, fun i hi => by rw [s5 _ (by omega), s4 _ (by omega), s3 _ (by omega), s2 _ (by omega), s1 _ (by omega)]; exact rS i hi, fun i hi => by rw [s5 _ (by omega), s4 _ (by omega), s3 _ (by omega), s2 _ (by omega), s1 _ (by omega)]; exact rD i hi, f5_82, lPL, f5_83, lCO⟩, ⟨f5_2, f5_3, f5_4, f5_5, (rF y hy).2, (rS y hy).2, (rD y hy).2⟩, ⟨b5_9.1, b5_9.2.1, b5_9.2.2.1, lC, lT⟩⟩)

set_option maxRecDepth 100000 in
set_option maxHeartbeats 4000000 in
theorem ev_goBack1 {h : List aC} {nx am : Nat} {HF HS HD : Nat → List Nat} {PL : List Int32} {CO : List Nat} (hH : HA h nx am HF HS HD PL CO) (hx : nx < 12) (ha : am ≤ 12) (h1 : 0 < am) {y : Nat} (ey : (nx + 12 - 1) % 12 = y) {n m : Nat} {F S A : List Nat} {rn : Nat} {C : List Nat} {T : List Int32} {r8 : Value} (hO : rd h 1 = some (.inr (6, [.ref 2, r8, .ref 9]))) (hP : PA h 2 n m F S A) (hR : RA h 9 rn C T) (pl : Nat) (hpl : pl < 169) (hp : PL.getD y 0 = nI pl) : Ev mX0_goBack 2 0 0 [.ref 42, .ref 1] h (pq none (fun h2 => ∃ hm, Smo 42 43 h hm ∧ Smo 1 12 hm h2 ∧ (∀ q, (q = 1 ∨ 6 ≤ q ∧ q ≤ 8) → rd h2 q = rd hm q) ∧ HA h2 y (am - 1) HF HS HD PL CO ∧ PA h2 2 n m (HF y) (HS y) (HD y) ∧ RA h2 9 rn (C.set pl (CO.getD y 0)) T)) := by
  have hy : y < 12 := by omega
  obtain ⟨-, -, -, -, rF, rS, rD, -, lPL, -, lCO⟩ := id hH
  obtain ⟨-, -, -, -, lF, lS, lA⟩ := id hP
  obtain ⟨-, -, -, lC, lT⟩ := id hR
  refine Ev.of pX0_goBack (Nat.le_of_ble_eq_true rfl) ?_
  show G mX0_goBack (rmD 2 0 0) none _ 0 0 0 [(0, .ref 42), (1, .ref 1)] [] h
  refine g_aload_n dX0_goBack_0 0 rfl ?_
  refine g_aload_n dX0_goBack_1 0 rfl ?_
  refine g_getf dX0_goBack_2 kX0 wfX0_29 (Nat.le_of_ble_eq_true rfl) (hH.1) rfl ?_
  refine g_bipush (v := nI 12) dX0_goBack_5 (by decide +kernel) ?_
  refine g_iaddN dX0_goBack_7 ?_
  refine g_iconst (v := nI 1) dX0_goBack_8 (by decide +kernel) ?_
  refine g_isubN dX0_goBack_9 (by omega) ?_
  refine g_bipush (v := nI 12) dX0_goBack_10 (by decide +kernel) ?_
  refine g_iremN dX0_goBack_12 (by omega) (by omega) (by omega) ?_
  refine g_top (congrArg nI ey) ?_
  refine g_putv dX0_goBack_13 kX0 wfX0_29 (Nat.le_of_ble_eq_true rfl) rfl (fun _ _ => ⟨rfl, rfl⟩) (hH.1) (Nat.le_of_ble_eq_true rfl) (fs' := [.ref 43, .ref 56, .ref 69, .ref 82, .ref 83, .int (nI y), .int (nI am)]) rfl (fun h1 e1 => ?_)
  have f1_42 : rd h1 42 = some (.inr (0, [.ref 43, .ref 56, .ref 69, .ref 82, .ref 83, .int (nI y), .int (nI am)])) := by rw [e1]; exact rd_wr_eq (hH.1)
  have s1 : Smo 42 (42 + 1) h h1 := by rw [e1]; exact Smo.wr (by omega) (by omega)
  have b1_2 := hP.mv s1 (by omega)
  have b1_9 := hR.mv s1 (by omega)
  have f1_1 : rd h1 1 = some (.inr (6, [.ref 2, r8, .ref 9])) := by rw [s1 _ (by omega)]; exact hO
  have f1_43 : rd h1 43 = some (.inr (100, (List.range 12).map (fun i => Value.ref (44 + i)))) := by rw [s1 _ (by omega)]; exact hH.2.1
  have f1_56 : rd h1 56 = some (.inr (100, (List.range 12).map (fun i => Value.ref (57 + i)))) := by rw [s1 _ (by omega)]; exact hH.2.2.1
  have f1_69 : rd h1 69 = some (.inr (100, (List.range 12).map (fun i => Value.ref (70 + i)))) := by rw [s1 _ (by omega)]; exact hH.2.2.2.1
  have f1_44_y : rd h1 (44 + y) = some (.inl ((HF y).map nI)) := by rw [s1 _ (by omega)]; exact (hH.2.2.2.2.1 y hy).1
  have f1_57_y : rd h1 (57 + y) = some (.inl ((HS y).map nI)) := by rw [s1 _ (by omega)]; exact (hH.2.2.2.2.2.1 y hy).1
  have f1_70_y : rd h1 (70 + y) = some (.inl ((HD y).map nI)) := by rw [s1 _ (by omega)]; exact (hH.2.2.2.2.2.2.1 y hy).1
  have f1_82 : rd h1 82 = some (.inl (PL)) := by rw [s1 _ (by omega)]; exact hH.2.2.2.2.2.2.2.1
  have f1_83 : rd h1 83 = some (.inl ((CO).map nI)) := by rw [s1 _ (by omega)]; exact hH.2.2.2.2.2.2.2.2.2.1
  refine g_aload_n dX0_goBack_16 0 rfl ?_
  refine g_dup dX0_goBack_17 rfl ?_
  refine g_getf dX0_goBack_18 kX0 wfX0_33 (Nat.le_of_ble_eq_true rfl) (f1_42) rfl ?_
  refine g_iconst (v := nI 1) dX0_goBack_21 (by decide +kernel) ?_
  refine g_isubN dX0_goBack_22 (by omega) ?_
  refine g_putv dX0_goBack_23 kX0 wfX0_33 (Nat.le_of_ble_eq_true rfl) rfl (fun _ _ => ⟨rfl, rfl⟩) (f1_42) (Nat.le_of_ble_eq_true rfl) (fs' := [.ref 43, .ref 56, .ref 69, .ref 82, .ref 83, .int (nI y), .int (nI (am - 1))]) rfl (fun h2 e2 => ?_)
  have f2_42 : rd h2 42 = some (.inr (0, [.ref 43, .ref 56, .ref 69, .ref 82, .ref 83, .int (nI y), .int (nI (am - 1))])) := by rw [e2]; exact rd_wr_eq (f1_42)
  have s2 : Smo 42 (42 + 1) h1 h2 := by rw [e2]; exact Smo.wr (by omega) (by omega)
  have b2_2 := b1_2.mv s2 (by omega)
  have b2_9 := b1_9.mv s2 (by omega)
  have f2_1 : rd h2 1 = some (.inr (6, [.ref 2, r8, .ref 9])) := by rw [s2 _ (by omega)]; exact f1_1
  have f2_43 : rd h2 43 = some (.inr (100, (List.range 12).map (fun i => Value.ref (44 + i)))) := by rw [s2 _ (by omega)]; exact f1_43
  have f2_56 : rd h2 56 = some (.inr (100, (List.range 12).map (fun i => Value.ref (57 + i)))) := by rw [s2 _ (by omega)]; exact f1_56
  have f2_69 : rd h2 69 = some (.inr (100, (List.range 12).map (fun i => Value.ref (70 + i)))) := by rw [s2 _ (by omega)]; exact f1_69
  have f2_44_y : rd h2 (44 + y) = some (.inl ((HF y).map nI)) := by rw [s2 _ (by omega)]; exact f1_44_y
  have f2_57_y : rd h2 (57 + y) = some (.inl ((HS y).map nI)) := by rw [s2 _ (by omega)]; exact f1_57_y
  have f2_70_y : rd h2 (70 + y) = some (.inl ((HD y).map nI)) := by rw [s2 _ (by omega)]; exact f1_70_y
  have f2_82 : rd h2 82 = some (.inl (PL)) := by rw [s2 _ (by omega)]; exact f1_82
  have f2_83 : rd h2 83 = some (.inl ((CO).map nI)) := by rw [s2 _ (by omega)]; exact f1_83
  refine g_aload_n dX0_goBack_26 0 rfl ?_
  refine g_getf dX0_goBack_27 kX0 wfX0_11 (Nat.le_of_ble_eq_true rfl) (f2_42) rfl ?_
  refine g_aload_n dX0_goBack_30 0 rfl ?_
  refine g_getf dX0_goBack_31 kX0 wfX0_29 (Nat.le_of_ble_eq_true rfl) (f2_42) rfl ?_
  refine g_aalN dX0_goBack_34 (f2_43) (by simp; omega) (by simp) (rows_at 44 hy) ?_
  refine g_iconst (v := nI 0) dX0_goBack_35 (by decide +kernel) ?_
  refine g_aload_n dX0_goBack_36 1 rfl ?_
  refine g_getf dX0_goBack_37 kX6 wfX0_62 (Nat.le_of_ble_eq_true rfl) (f2_1) rfl ?_
  refine g_getf dX0_goBack_40 kX3 wfX0_42 (Nat.le_of_ble_eq_true rfl) (b2_2.1) rfl ?_
  refine g_iconst (v := nI 0) dX0_goBack_43 (by decide +kernel) ?_
  refine g_bipush (v := nI 6) dX0_goBack_44 (by decide +kernel) ?_
  refine g_copyv dX0_goBack_46 wmX0_46 (f2_44_y) (b2_2.2.1) (by rw [List.length_map]; exact (rF y hy).2) (by rw [List.length_map]; exact lF) (by omega) ⟨(Nat.le_of_ble_eq_true rfl), by decide +kernel⟩ (Nat.le_of_ble_eq_true rfl) (fun h3 e3 => ?_)
  have f3_3 : rd h3 3 = some (.inl ((HF y).map nI)) := by rw [e3]; exact rd_wr_eq (b2_2.2.1)
  have s3 : Smo 3 (3 + 1) h2 h3 := by rw [e3]; exact Smo.wr (by omega) (by omega)
  have b3_9 := b2_9.mv s3 (by omega)
  have f3_42 : rd h3 42 = some (.inr (0, [.ref 43, .ref 56, .ref 69, .ref 82, .ref 83, .int (nI y), .int (nI (am - 1))])) := by rw [s3 _ (by omega)]; exact f2_42
  have f3_1 : rd h3 1 = some (.inr (6, [.ref 2, r8, .ref 9])) := by rw [s3 _ (by omega)]; exact f2_1
  have f3_2 : rd h3 2 = some (.inr (3, [.ref 3, .ref 4, .ref 5, .int (nI n), .int (nI m)])) := by rw [s3 _ (by omega)]; exact b2_2.1
  have f3_43 : rd h3 43 = some (.inr (100, (List.range 12).map (fun i => Value.ref (44 + i)))) := by rw [s3 _ (by omega)]; exact f2_43
  have f3_56 : rd h3 56 = some (.inr (100, (List.range 12).map (fun i => Value.ref (57 + i)))) := by rw [s3 _ (by omega)]; exact f2_56
  have f3_69 : rd h3 69 = some (.inr (100, (List.range 12).map (fun i => Value.ref (70 + i)))) := by rw [s3 _ (by omega)]; exact f2_69
  have f3_44_y : rd h3 (44 + y) = some (.inl ((HF y).map nI)) := by rw [s3 _ (by omega)]; exact f2_44_y
  have f3_57_y : rd h3 (57 + y) = some (.inl ((HS y).map nI)) := by rw [s3 _ (by omega)]; exact f2_57_y
  have f3_70_y : rd h3 (70 + y) = some (.inl ((HD y).map nI)) := by rw [s3 _ (by omega)]; exact f2_70_y
  have f3_82 : rd h3 82 = some (.inl (PL)) := by rw [s3 _ (by omega)]; exact f2_82
  have f3_83 : rd h3 83 = some (.inl ((CO).map nI)) := by rw [s3 _ (by omega)]; exact f2_83
  have f3_4 : rd h3 4 = some (.inl ((S).map nI)) := by rw [s3 _ (by omega)]; exact b2_2.2.2.1
  have f3_5 : rd h3 5 = some (.inl ((A).map nI)) := by rw [s3 _ (by omega)]; exact b2_2.2.2.2.1
  refine g_aload_n dX0_goBack_49 0 rfl ?_
  refine g_getf dX0_goBack_50 kX0 wfX0_16 (Nat.le_of_ble_eq_true rfl) (f3_42) rfl ?_
  refine g_aload_n dX0_goBack_53 0 rfl ?_
  refine g_getf dX0_goBack_54 kX0 wfX0_29 (Nat.le_of_ble_eq_true rfl) (f3_42) rfl ?_
  refine g_aalN dX0_goBack_57 (f3_56) (by simp; omega) (by simp) (rows_at 57 hy) ?_
  refine g_iconst (v := nI 0) dX0_goBack_58 (by decide +kernel) ?_
  refine g_aload_n dX0_goBack_59 1 rfl ?_
  refine g_getf dX0_goBack_60 kX6 wfX0_62 (Nat.le_of_ble_eq_true rfl) (f3_1) rfl ?_
  refine g_getf dX0_goBack_63 kX3 wfX0_52 (Nat.le_of_ble_eq_true rfl) (f3_2) rfl ?_
  refine g_iconst (v := nI 0) dX0_goBack_66 (by decide +kernel) ?_
  refine g_bipush (v := nI 6) dX0_goBack_67 (by decide +kernel) ?_
  refine g_copyv dX0_goBack_69 wmX0_46 (f3_57_y) (f3_4) (by rw [List.length_map]; exact (rS y hy).2) (by rw [List.length_map]; exact lS) (by omega) ⟨(Nat.le_of_ble_eq_true rfl), by decide +kernel⟩ (Nat.le_of_ble_eq_true rfl) (fun h4 e4 => ?_)
  have f4_4 : rd h4 4 = some (.inl ((HS y).map nI)) := by rw [e4]; exact rd_wr_eq (f3_4)
  have s4 : Smo 4 (4 + 1) h3 h4 := by rw [e4]; exact Smo.wr (by omega) (by omega)
  have b4_9 := b3_9.mv s4 (by omega)
  have f4_42 : rd h4 42 = some (.inr (0, [.ref 43, .ref 56, .ref 69, .ref 82, .ref 83, .int (nI y), .int (nI (am - 1))])) := by rw [s4 _ (by omega)]; exact f3_42
  have f4_1 : rd h4 1 = some (.inr (6, [.ref 2, r8, .ref 9])) := by rw [s4 _ (by omega)]; exact f3_1
  have f4_2 : rd h4 2 = some (.inr (3, [.ref 3, .ref 4, .ref 5, .int (nI n), .int (nI m)])) := by rw [s4 _ (by omega)]; exact f3_2
  have f4_43 : rd h4 43 = some (.inr (100, (List.range 12).map (fun i => Value.ref (44 + i)))) := by rw [s4 _ (by omega)]; exact f3_43
  have f4_56 : rd h4 56 = some (.inr (100, (List.range 12).map (fun i => Value.ref (57 + i)))) := by rw [s4 _ (by omega)]; exact f3_56
  have f4_69 : rd h4 69 = some (.inr (100, (List.range 12).map (fun i => Value.ref (70 + i)))) := by rw [s4 _ (by omega)]; exact f3_69
  have f4_44_y : rd h4 (44 + y) = some (.inl ((HF y).map nI)) := by rw [s4 _ (by omega)]; exact f3_44_y
  have f4_57_y : rd h4 (57 + y) = some (.inl ((HS y).map nI)) := by rw [s4 _ (by omega)]; exact f3_57_y
  have f4_70_y : rd h4 (70 + y) = some (.inl ((HD y).map nI)) := by rw [s4 _ (by omega)]; exact f3_70_y
  have f4_82 : rd h4 82 = some (.inl (PL)) := by rw [s4 _ (by omega)]; exact f3_82
  have f4_83 : rd h4 83 = some (.inl ((CO).map nI)) := by rw [s4 _ (by omega)]; exact f3_83
  have f4_3 : rd h4 3 = some (.inl ((HF y).map nI)) := by rw [s4 _ (by omega)]; exact f3_3
  have f4_5 : rd h4 5 = some (.inl ((A).map nI)) := by rw [s4 _ (by omega)]; exact f3_5
  refine g_aload_n dX0_goBack_72 0 rfl ?_
  refine g_getf dX0_goBack_73 kX0 wfX0_19 (Nat.le_of_ble_eq_true rfl) (f4_42) rfl ?_
  refine g_aload_n dX0_goBack_76 0 rfl ?_
  refine g_getf dX0_goBack_77 kX0 wfX0_29 (Nat.le_of_ble_eq_true rfl) (f4_42) rfl ?_
  refine g_aalN dX0_goBack_80 (f4_69) (by simp; omega) (by simp) (rows_at 70 hy) ?_
  refine g_iconst (v := nI 0) dX0_goBack_81 (by decide +kernel) ?_
  refine g_aload_n dX0_goBack_82 1 rfl ?_
  refine g_getf dX0_goBack_83 kX6 wfX0_62 (Nat.le_of_ble_eq_true rfl) (f4_1) rfl ?_
  refine g_getf dX0_goBack_86 kX3 wfX0_54 (Nat.le_of_ble_eq_true rfl) (f4_2) rfl ?_
  refine g_iconst (v := nI 0) dX0_goBack_89 (by decide +kernel) ?_
  refine g_bipush (v := nI 6) dX0_goBack_90 (by decide +kernel) ?_
  refine g_copyv dX0_goBack_92 wmX0_46 (f4_70_y) (f4_5) (by rw [List.length_map]; exact (rD y hy).2) (by rw [List.length_map]; exact lA) (by omega) ⟨(Nat.le_of_ble_eq_true rfl), by decide +kernel⟩ (Nat.le_of_ble_eq_true rfl) (fun h5 e5 => ?_)
  have f5_5 : rd h5 5 = some (.inl ((HD y).map nI)) := by rw [e5]; exact rd_wr_eq (f4_5)
  have s5 : Smo 5 (5 + 1) h4 h5 := by rw [e5]; exact Smo.wr (by omega) (by omega)
  have b5_9 := b4_9.mv s5 (by omega)
  have f5_42 : rd h5 42 = some (.inr (0, [.ref 43, .ref 56, .ref 69, .ref 82, .ref 83, .int (nI y), .int (nI (am - 1))])) := by rw [s5 _ (by omega)]; exact f4_42
  have f5_1 : rd h5 1 = some (.inr (6, [.ref 2, r8, .ref 9])) := by rw [s5 _ (by omega)]; exact f4_1
  have f5_2 : rd h5 2 = some (.inr (3, [.ref 3, .ref 4, .ref 5, .int (nI n), .int (nI m)])) := by rw [s5 _ (by omega)]; exact f4_2
  have f5_43 : rd h5 43 = some (.inr (100, (List.range 12).map (fun i => Value.ref (44 + i)))) := by rw [s5 _ (by omega)]; exact f4_43
  have f5_56 : rd h5 56 = some (.inr (100, (List.range 12).map (fun i => Value.ref (57 + i)))) := by rw [s5 _ (by omega)]; exact f4_56
  have f5_69 : rd h5 69 = some (.inr (100, (List.range 12).map (fun i => Value.ref (70 + i)))) := by rw [s5 _ (by omega)]; exact f4_69
  have f5_44_y : rd h5 (44 + y) = some (.inl ((HF y).map nI)) := by rw [s5 _ (by omega)]; exact f4_44_y
  have f5_57_y : rd h5 (57 + y) = some (.inl ((HS y).map nI)) := by rw [s5 _ (by omega)]; exact f4_57_y
  have f5_70_y : rd h5 (70 + y) = some (.inl ((HD y).map nI)) := by rw [s5 _ (by omega)]; exact f4_70_y
  have f5_82 : rd h5 82 = some (.inl (PL)) := by rw [s5 _ (by omega)]; exact f4_82
  have f5_83 : rd h5 83 = some (.inl ((CO).map nI)) := by rw [s5 _ (by omega)]; exact f4_83
  have f5_3 : rd h5 3 = some (.inl ((HF y).map nI)) := by rw [s5 _ (by omega)]; exact f4_3
  have f5_4 : rd h5 4 = some (.inl ((HS y).map nI)) := by rw [s5 _ (by omega)]; exact f4_4
  refine g_aload_n dX0_goBack_95 0 rfl ?_
  refine g_getf dX0_goBack_96 kX0 wfX0_22 (Nat.le_of_ble_eq_true rfl) (f5_42) rfl ?_
  refine g_aload_n dX0_goBack_99 0 rfl ?_
  refine g_getf dX0_goBack_100 kX0 wfX0_29 (Nat.le_of_ble_eq_true rfl) (f5_42) rfl ?_
  refine g_ialI dX0_goBack_103 (f5_82) (by omega) (by omega) ?_
  refine g_iconst (v := (-1)) dX0_goBack_104 (by decide +kernel) ?_
  refine g_icmp_eq 134 dX0_goBack_105 (by decide) (fun z => absurd z (by rw [hp]; exact fun z => absurd (congrArg Int32.toInt z) (by rw [nI_toInt (by omega)]; show ¬ (pl : Int) = -1; omega))) (fun c105 => ?_)
  refine g_aload_n dX0_goBack_108 1 rfl ?_
  refine g_getf dX0_goBack_109 kX6 wfX0_68 (Nat.le_of_ble_eq_true rfl) (f5_1) rfl ?_
  refine g_getf dX0_goBack_112 kX4 wfX0_72 (Nat.le_of_ble_eq_true rfl) (b5_9.1) rfl ?_
  refine g_aload_n dX0_goBack_115 0 rfl ?_
  refine g_getf dX0_goBack_116 kX0 wfX0_22 (Nat.le_of_ble_eq_true rfl) (f5_42) rfl ?_
  refine g_aload_n dX0_goBack_119 0 rfl ?_
  refine g_getf dX0_goBack_120 kX0 wfX0_29 (Nat.le_of_ble_eq_true rfl) (f5_42) rfl ?_
  refine g_ialI dX0_goBack_123 (f5_82) (by omega) (by omega) ?_
  refine g_top (hp) ?_
  refine g_aload_n dX0_goBack_124 0 rfl ?_
  refine g_getf dX0_goBack_125 kX0 wfX0_26 (Nat.le_of_ble_eq_true rfl) (f5_42) rfl ?_
  refine g_aload_n dX0_goBack_128 0 rfl ?_
  refine g_getf dX0_goBack_129 kX0 wfX0_29 (Nat.le_of_ble_eq_true rfl) (f5_42) rfl ?_
  refine g_ialN dX0_goBack_132 (f5_83) (by omega) (by omega) ?_
  refine g_iasN dX0_goBack_133 (b5_9.2.1) (by omega) (by omega) (fun h6 e6 => ?_)
  have f6_10 : rd h6 10 = some (.inl (((C).set pl ((CO).getD y 0)).map nI)) := by rw [e6]; exact rd_wr_eq (b5_9.2.1)
  have s6 : Smo 10 (10 + 1) h5 h6 := by rw [e6]; exact Smo.wr (by omega) (by omega)
  have f6_42 : rd h6 42 = some (.inr (0, [.ref 43, .ref 56, .ref 69, .ref 82, .ref 83, .int (nI y), .int (nI (am - 1))])) := by rw [s6 _ (by omega)]; exact f5_42
  have f6_1 : rd h6 1 = some (.inr (6, [.ref 2, r8, .ref 9])) := by rw [s6 _ (by omega)]; exact f5_1
  have f6_2 : rd h6 2 = some (.inr (3, [.ref 3, .ref 4, .ref 5, .int (nI n), .int (nI m)])) := by rw [s6 _ (by omega)]; exact f5_2
  have f6_9 : rd h6 9 = some (.inr (4, [.ref 10, .ref 11, .int (nI rn)])) := by rw [s6 _ (by omega)]; exact b5_9.1
  have f6_43 : rd h6 43 = some (.inr (100, (List.range 12).map (fun i => Value.ref (44 + i)))) := by rw [s6 _ (by omega)]; exact f5_43
  have f6_56 : rd h6 56 = some (.inr (100, (List.range 12).map (fun i => Value.ref (57 + i)))) := by rw [s6 _ (by omega)]; exact f5_56
  have f6_69 : rd h6 69 = some (.inr (100, (List.range 12).map (fun i => Value.ref (70 + i)))) := by rw [s6 _ (by omega)]; exact f5_69
  have f6_44_y : rd h6 (44 + y) = some (.inl ((HF y).map nI)) := by rw [s6 _ (by omega)]; exact f5_44_y
  have f6_57_y : rd h6 (57 + y) = some (.inl ((HS y).map nI)) := by rw [s6 _ (by omega)]; exact f5_57_y
  have f6_70_y : rd h6 (70 + y) = some (.inl ((HD y).map nI)) := by rw [s6 _ (by omega)]; exact f5_70_y
  have f6_82 : rd h6 82 = some (.inl (PL)) := by rw [s6 _ (by omega)]; exact f5_82
  have f6_83 : rd h6 83 = some (.inl ((CO).map nI)) := by rw [s6 _ (by omega)]; exact f5_83
  have f6_3 : rd h6 3 = some (.inl ((HF y).map nI)) := by rw [s6 _ (by omega)]; exact f5_3
  have f6_4 : rd h6 4 = some (.inl ((HS y).map nI)) := by rw [s6 _ (by omega)]; exact f5_4
  have f6_5 : rd h6 5 = some (.inl ((HD y).map nI)) := by rw [s6 _ (by omega)]; exact f5_5
  have f6_11 : rd h6 11 = some (.inl (T)) := by rw [s6 _ (by omega)]; exact b5_9.2.2.1
  exact g_vret dX0_goBack_134 rfl ⟨Nat.zero_le _, Nat.zero_le _⟩ (⟨rfl, h2, (fun q hq => by rw [s2 q (by omega), s1 q (by omega)]), (fun q hq => by rw [s6 q (by omega), s5 q (by omega), s4 q (by omega), s3 q (by omega)]), (fun q hq => by rw [s6 q (by omega), s5 q (by omega), s4 q (by omega), s3 q (by omega)]), ⟨f6_42, f6_43, f6_56, f6_69, fun i hi => by rw [s6 _ (by omega), s5 _ (by omega), s4 _ (by omega), s3 _ (by omega), s2 _ (by omega), s1 _ (by omega)]; exact rF i hi, fun i hi => by rw [s6 _ (by omega), s5 _ (by omega), s4 _ (by omega), s3 _ (by omega), s2 _ (by omega), s1 _ (by omega)]; exact rS i hi, fun i hi => by rw [s6 _ (by omega), s5 _ (by omega), s4 _ (by omega), s3 _ (by omega), s2 _ (by omega), s1 _ (by omega)]; exact rD i hi, f6_82, lPL, f6_83, lCO⟩, ⟨f6_2, f6_3, f6_4, f6_5, (rF y hy).2, (rS y hy).2, (rD y hy).2⟩, ⟨f6_9, f6_10, f6_11, by simp [lC], lT⟩⟩)
