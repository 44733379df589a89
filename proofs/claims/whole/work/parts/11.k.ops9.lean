theorem blw_lt {z : Int32} {m : Nat} (h : 0 < m) : blw z m < m := Nat.mod_lt _ h
theorem lotGo_ext {m : Nat} {F F2 : List Nat} (h0 : 0 < m) (hF : ∀ i, i < m → F.getD i 0 = F2.getD i 0) : ∀ j z c S S2, (∀ i, i < m → S.getD i 0 = S2.getD i 0) → m ≤ S.length → m ≤ S2.length → (lotGo m F j z c S).1 = (lotGo m F2 j z c S2).1 ∧ ∀ i, i < m → (lotGo m F j z c S).2.getD i 0 = (lotGo m F2 j z c S2).2.getD i 0
  | 0, _, _, _, _, h, _, _ => ⟨rfl, h⟩
  | j + 1, z, c, S, S2, h, l1, l2 => by
    have a := blw_lt (z := drw z) h0
    have b := blw_lt (z := drw (drw z)) h0
    by_cases q : F.getD (blw (drw z) m) 0 ≠ S.getD (blw (drw (drw z)) m) 0 ∧ F.getD (blw (drw (drw z)) m) 0 ≠ S.getD (blw (drw z) m) 0
    · have q2 := q
      rw [hF _ a, hF _ b, h _ a, h _ b] at q2
      rw [lotGo_pos q.1 q.2, lotGo_pos q2.1 q2.2]
      refine lotGo_ext h0 hF j _ _ _ _ (fun i hi => ?_) (by rw [List.length_set, List.length_set]; exact l1) (by rw [List.length_set, List.length_set]; exact l2)
      by_cases e1 : blw (drw (drw z)) m = i
      · rw [← e1, getD_set_eq (by rw [List.length_set]; omega), getD_set_eq (by rw [List.length_set]; omega)]; exact h _ a
      · rw [getD_set_ne e1, getD_set_ne e1]
        by_cases e2 : blw (drw z) m = i
        · rw [← e2, getD_set_eq (by omega), getD_set_eq (by omega)]; exact h _ b
        · rw [getD_set_ne e2, getD_set_ne e2]; exact h i hi
    · have q2 := q
      rw [hF _ a, hF _ b, h _ a, h _ b] at q2
      rw [lotGo_neg q, lotGo_neg q2]
      exact lotGo_ext h0 hF j _ _ _ _ h l1 l2
theorem qS_len (f : Nat → Pr) : (qS f).length = 6 := by unfold qS; simp
def oLots (σ : Sg) (x z y : Int32) : Int32 × Sg := if nI 1 ≤ x then (if x ≤ nI 50 then (if y < 0 ∨ ¬ y ≤ nI 1 then rfS σ (-2) else (if 1 ≤ σ.1.2.1 then (nI (if y.toNatClampNeg = 0 then (lotGo σ.1.2.1 (qF σ.1.2.2.1) x.toNatClampNeg z 0 (qS σ.1.2.2.1)).1 else popN (dBits σ.1.1 (qF σ.1.2.2.1) (lotGo σ.1.2.1 (qF σ.1.2.2.1) x.toNatClampNeg z 0 (qS σ.1.2.2.1)).2 σ.1.2.1) 14), σ) else rfS σ (-3))) else rfS σ (-6)) else rfS σ (-4)
theorem le_nn {x : Int32} (h : nI 1 ≤ x) : 0 ≤ x := Int32.le_trans (show (0 : Int32) ≤ nI 1 by decide) h

set_option maxRecDepth 100000 in
set_option maxHeartbeats 4000000 in
theorem ev_x_lots {h : List aC} {σ : Sg} (H : RC h σ) (ok : okSg σ) (x z y : Int32) : Ev mX8_lots 5 0 0 [.ref 0, .int x, .int z, .int y] h (sp h (oLots σ x z y)) := by
  obtain ⟨hO0, hS, ⟨ci, hI, hI2⟩, ⟨cd, hDr⟩, hLt, hL, hH, ⟨⟨sw_, sc_, sgs, sgk, hX⟩, ⟨xn, xm, xF, xS, xA, hXP⟩⟩, ⟨tn, tm, tF, tS, tA, hTh⟩, ⟨pn, pm, pF, pS, pA, hSp⟩, hRf⟩ := id H
  obtain ⟨hO1, F, S, A, K, U, C, T, hP, hf, hT, ht, hR, hC, hl⟩ := id hS
  have hO1 : rd h 1 = some (.inr (6, [.ref 2, .ref 6, .ref 9])) := hO1
  have hP : PA h 2 _ _ F S A := hP
  have hT : TA h 6 _ K U := hT
  have hR : RA h 9 _ C T := hR
  obtain ⟨-, -, -, -, lF, lS, lA⟩ := id hP
  obtain ⟨-, -, -, lK, lU⟩ := id hT
  obtain ⟨-, -, -, lC, lT⟩ := id hR
  obtain ⟨okc, ⟨okl, okw⟩, okn, ⟨okh, oke⟩, oki, okr⟩ := id ok
  obtain ⟨k1, k2, k3, k4, k5, k6, k7, k8, k9⟩ := id okc
  have hbn : bnd σ.1.1 σ.1.2.1 F S A := okc.bnd hf
  refine Ev.of pX8_lots (Nat.le_of_ble_eq_true rfl) ?_
  show G mX8_lots (rmD 5 0 0) none _ 0 0 0 [(0, .ref 0), (1, .int x), (2, .int z), (3, .int y)] [] h
  obtain ⟨nx1, o1⟩ := HR.o hH
  refine g_iload_n dX8_lots_0 1 rfl ?_
  refine g_iconst (v := nI 1) dX8_lots_1 (by decide +kernel) ?_
  refine g_icmp_ge 12 dX8_lots_2 (by decide) (fun c2 => ?_) (fun c2 => ?_)
  · rw [show oLots σ x z y = _ from if_pos c2]
    refine g_iload_n dX8_lots_12 1 rfl ?_
    refine g_bipush (v := nI 50) dX8_lots_13 (by decide +kernel) ?_
    refine g_icmp_le 25 dX8_lots_15 (by decide) (fun c15 => ?_) (fun c15 => ?_)
    · rw [if_pos c15]
      refine g_iload_n dX8_lots_25 3 rfl ?_
      refine g_if_lt 34 dX8_lots_26 (by decide) (fun c26 => ?_) (fun c26 => ?_)
      · refine g_aload_n dX8_lots_34 0 rfl ?_
        refine g_bipush (v := (-2)) dX8_lots_35 (by decide +kernel) ?_
        rw [if_pos (show y < 0 ∨ ¬ y ≤ nI 1 by first | exact Or.inl c26 | exact Or.inr c31)]
        refine g_callVq (st1 := [.int (-nI 2)]) dX8_lots_37 (ev_refuse H ok 2 (by unfold noN; omega)) oX8_refuse wiX8_refuse weX8_refuse wmX8_68 kX8 (hO0) rfl ⟨(Nat.le_of_ble_eq_true rfl), (Nat.le_of_ble_eq_true rfl)⟩ ⟨Nat.zero_le _, Nat.zero_le _⟩ (Nat.le_of_ble_eq_true rfl) rfl rfl (fun h2 q2 => ?_)
        exact g_iret dX8_lots_40 rfl ⟨Nat.zero_le _, Nat.zero_le _⟩ (⟨rfl, q2⟩)
      · refine g_iload_n dX8_lots_29 3 rfl ?_
        refine g_iconst (v := nI 1) dX8_lots_30 (by decide +kernel) ?_
        refine g_icmp_le 41 dX8_lots_31 (by decide) (fun c31 => ?_) (fun c31 => ?_)
        · rw [if_neg (show ¬ (y < 0 ∨ ¬ y ≤ nI 1) from (fun z => by rcases z with z | z; exact c26 z; exact z c31))]
          refine g_aload_n dX8_lots_41 0 rfl ?_
          refine g_getf dX8_lots_42 kX8 wfX8_10 (Nat.le_of_ble_eq_true rfl) (hO0) rfl ?_
          refine g_getf dX8_lots_45 kX6 wfX8_97 (Nat.le_of_ble_eq_true rfl) (hO1) rfl ?_
          refine g_getf dX8_lots_48 kX3 wfX8_115 (Nat.le_of_ble_eq_true rfl) (hP.1) rfl ?_
          refine g_iconst (v := nI 1) dX8_lots_51 (by decide +kernel) ?_
          refine g_icmp_geN 62 dX8_lots_52 (by decide) (by omega) (by omega) (fun c52 => ?_) (fun c52 => ?_)
          · rw [if_pos (show 1 ≤ σ.1.2.1 by omega)]
            obtain ⟨x1, hx1, rfl⟩ := nn_of (le_nn c2)
            obtain ⟨y1, hy1, rfl⟩ := nn_of (Int32.not_lt.mp c26)
            rw [cl_ hx1, cl_ hy1]
            have b1 := (nI_leI hx1 (by omega)).mp c15
            have b2 := (nI_leI hy1 (by omega)).mp c31
            obtain ⟨g1, g2⟩ := lotGo_ext (F := F) (F2 := qF σ.1.2.2.1) (show 0 < σ.1.2.1 by omega) (fun i hi => (lFS hf (by omega) i hi).1) x1 z 0 S (qS σ.1.2.2.1) (fun i hi => (lFS hf (by omega) i hi).2) (by omega) (by rw [qS_len]; omega)
            refine g_aload_n dX8_lots_62 0 rfl ?_
            refine g_getf dX8_lots_63 kX8 wfX8_57 (Nat.le_of_ble_eq_true rfl) (hO0) rfl ?_
            refine g_aload_n dX8_lots_66 0 rfl ?_
            refine g_getf dX8_lots_67 kX8 wfX8_10 (Nat.le_of_ble_eq_true rfl) (hO0) rfl ?_
            refine g_getf dX8_lots_70 kX6 wfX8_97 (Nat.le_of_ble_eq_true rfl) (hO1) rfl ?_
            refine g_callVq (st1 := []) dX8_lots_73 (ev_copyFrom hTh hP (by omega)) oX3_copyFrom wiX3_copyFrom weX3_copyFrom wmX8_153 kX3 (hTh.1) rfl ⟨(Nat.le_of_ble_eq_true rfl), (Nat.le_of_ble_eq_true rfl)⟩ ⟨Nat.zero_le _, Nat.zero_le _⟩ (Nat.le_of_ble_eq_true rfl) rfl rfl (fun h3 q3 => ?_)
            obtain ⟨q3a, q3s⟩ := q3
            have b3_2 := hP.mv q3s (by omega)
            have b3_6 := hT.mv q3s (by omega)
            have b3_9 := hR.mv q3s (by omega)
            have b3_12 := hI.mv q3s (by omega)
            have b3_23 := hDr.mv q3s (by omega)
            have b3_42 := hH.mv q3s (by omega)
            obtain ⟨nx4, o4⟩ := HR.o b3_42
            have b3_34 := hLt.mv q3s (by omega)
            have b3_36 := hL.mv q3s (by omega)
            have b3_84 := hX.mv q3s (by omega)
            have b3_85 := hXP.mv q3s (by omega)
            have b3_93 := hSp.mv q3s (by omega)
            have f3_0 : rd h3 0 = some (.inr (8, [.ref 1, .ref 12, .ref 23, .int (nI (bI σ.2.2.2.2.1.isSome)), .ref 34, .ref 36, .ref 42, .ref 84, .ref 89, .ref 93, .ref 97])) := by rw [q3s _ (by omega)]; exact hO0
            have f3_1 : rd h3 1 = some (.inr (6, [.ref 2, .ref 6, .ref 9])) := by rw [q3s _ (by omega)]; exact hO1
            have f3_97 : rd h3 97 = some (.inl (σ.2.2.2.2.2)) := by rw [q3s _ (by omega)]; exact hRf
            refine g_aload_n dX8_lots_76 0 rfl ?_
            refine g_getf dX8_lots_77 kX8 wfX8_57 (Nat.le_of_ble_eq_true rfl) (f3_0) rfl ?_
            refine g_iload_n dX8_lots_80 1 rfl ?_
            refine g_iload_n dX8_lots_81 2 rfl ?_
            refine g_callVq (st1 := [.int (nI ((lotGo σ.1.2.1 F x1 z 0 S).1))]) dX8_lots_82 (ev_lots q3a (by omega) k2 hbn x1 (by omega) z) oX3_changeByLots wiX3_changeByLots weX3_changeByLots wmX8_255 kX3 (q3a.1) rfl ⟨(Nat.le_of_ble_eq_true rfl), (Nat.le_of_ble_eq_true rfl)⟩ ⟨Nat.zero_le _, Nat.zero_le _⟩ (Nat.le_of_ble_eq_true rfl) rfl rfl (fun h5 q5 => ?_)
            obtain ⟨q5a, qb, q5s⟩ := q5
            have b5_2 := b3_2.mv q5s (by omega)
            have b5_6 := b3_6.mv q5s (by omega)
            have b5_9 := b3_9.mv q5s (by omega)
            have b5_12 := b3_12.mv q5s (by omega)
            have b5_23 := b3_23.mv q5s (by omega)
            have b5_42 := b3_42.mv q5s (by omega)
            obtain ⟨nx6, o6⟩ := HR.o b5_42
            have b5_34 := b3_34.mv q5s (by omega)
            have b5_36 := b3_36.mv q5s (by omega)
            have b5_84 := b3_84.mv q5s (by omega)
            have b5_85 := b3_85.mv q5s (by omega)
            have b5_93 := b3_93.mv q5s (by omega)
            have f5_0 : rd h5 0 = some (.inr (8, [.ref 1, .ref 12, .ref 23, .int (nI (bI σ.2.2.2.2.1.isSome)), .ref 34, .ref 36, .ref 42, .ref 84, .ref 89, .ref 93, .ref 97])) := by rw [q5s _ (by omega)]; exact f3_0
            have f5_1 : rd h5 1 = some (.inr (6, [.ref 2, .ref 6, .ref 9])) := by rw [q5s _ (by omega)]; exact f3_1
            have f5_97 : rd h5 97 = some (.inl (σ.2.2.2.2.2)) := by rw [q5s _ (by omega)]; exact f3_97
            refine g_istore (ls' := [(4, .int (nI ((lotGo σ.1.2.1 F x1 z 0 S).1))), (0, .ref 0), (1, .int (nI x1)), (2, .int z), (3, .int (nI y1))]) dX8_lots_85 (Nat.le_of_ble_eq_true rfl) rfl ?_
            refine g_iload_n dX8_lots_87 4 rfl ?_
            refine g_if_neN 96 dX8_lots_88 (by decide) (by omega) (fun c88 => ?_) (fun c88 => ?_)
            · refine g_aload_n dX8_lots_96 1 rfl ?_
              refine g_getf dX8_lots_97 kX8 wfX8_57 (Nat.le_of_ble_eq_true rfl) (f5_0) rfl ?_
              refine g_callVp dX8_lots_100 (ev_differenceBits q5a (by omega) k2 qb) oX3_differenceBits wiX3_differenceBits weX3_differenceBits wmX8_258 kX3 (q5a.1) rfl ⟨(Nat.le_of_ble_eq_true rfl), (Nat.le_of_ble_eq_true rfl)⟩ ⟨Nat.zero_le _, Nat.zero_le _⟩ (Nat.le_of_ble_eq_true rfl) rfl ?_
              refine g_top (congrArg nI (dBits_ext _ (fun i hi => ⟨(lFS hf (by omega) i hi).1, g2 i hi⟩))) ?_
              have zp := ev_bitCount (dBits σ.1.1 (qF σ.1.2.2.1) (lotGo σ.1.2.1 (qF σ.1.2.2.1) x1 z 0 (qS σ.1.2.2.1)).2 σ.1.2.1) (by rw [← dBits_ext σ.1.2.1 (fun i hi => ⟨(lFS hf (by omega) i hi).1, g2 i hi⟩)]; exact Nat.lt_of_lt_of_le (dBits_lt qb k2 _ (Nat.le_refl _)) (show 2 ^ 13 ≤ 2 ^ 14 by decide))
              refine g_callSp dX8_lots_103 (zp _) oJ6_bitCount_0f7a4 wsJ6_bitCount_0f7a4 wmX8_261 rfl ⟨(Nat.le_of_ble_eq_true rfl), (Nat.le_of_ble_eq_true rfl)⟩ ⟨Nat.zero_le _, Nat.zero_le _⟩ (Nat.le_of_ble_eq_true rfl) rfl ?_
              exact g_iret dX8_lots_106 rfl ⟨Nat.zero_le _, Nat.zero_le _⟩ (⟨by rw [if_neg (by omega)], ⟨f5_0, ⟨f5_1, _, _, _, _, _, _, _, b5_2, hf, b5_6, ht, b5_9, hC, hl⟩, ⟨_, b5_12, hI2⟩, ⟨_, b5_23⟩, b5_34, b5_36, b5_42, ⟨⟨_, _, _, _, b5_84⟩, ⟨_, _, _, _, _, b5_85⟩⟩, ⟨_, _, _, _, _, q5a⟩, ⟨_, _, _, _, _, b5_93⟩, f5_97⟩, (fun q hq => by rw [q5s q (by omega), q3s q (by omega)])⟩)
            · refine g_iload dX8_lots_91 0 rfl ?_
              refine g_goto 106 dX8_lots_93 (by decide) ?_
              exact g_iret dX8_lots_106 rfl ⟨Nat.zero_le _, Nat.zero_le _⟩ (⟨by rw [if_pos c88, g1], ⟨f5_0, ⟨f5_1, _, _, _, _, _, _, _, b5_2, hf, b5_6, ht, b5_9, hC, hl⟩, ⟨_, b5_12, hI2⟩, ⟨_, b5_23⟩, b5_34, b5_36, b5_42, ⟨⟨_, _, _, _, b5_84⟩, ⟨_, _, _, _, _, b5_85⟩⟩, ⟨_, _, _, _, _, q5a⟩, ⟨_, _, _, _, _, b5_93⟩, f5_97⟩, (fun q hq => by rw [q5s q (by omega), q3s q (by omega)])⟩)
          · refine g_aload_n dX8_lots_55 0 rfl ?_
            refine g_bipush (v := (-3)) dX8_lots_56 (by decide +kernel) ?_
            rw [if_neg (show ¬ 1 ≤ σ.1.2.1 by omega)]
            refine g_callVq (st1 := [.int (-nI 3)]) dX8_lots_58 (ev_refuse H ok 3 (by unfold noN; omega)) oX8_refuse wiX8_refuse weX8_refuse wmX8_68 kX8 (hO0) rfl ⟨(Nat.le_of_ble_eq_true rfl), (Nat.le_of_ble_eq_true rfl)⟩ ⟨Nat.zero_le _, Nat.zero_le _⟩ (Nat.le_of_ble_eq_true rfl) rfl rfl (fun h7 q7 => ?_)
            exact g_iret dX8_lots_61 rfl ⟨Nat.zero_le _, Nat.zero_le _⟩ (⟨rfl, q7⟩)
        · refine g_aload_n dX8_lots_34 0 rfl ?_
          refine g_bipush (v := (-2)) dX8_lots_35 (by decide +kernel) ?_
          rw [if_pos (show y < 0 ∨ ¬ y ≤ nI 1 by first | exact Or.inl c26 | exact Or.inr c31)]
          refine g_callVq (st1 := [.int (-nI 2)]) dX8_lots_37 (ev_refuse H ok 2 (by unfold noN; omega)) oX8_refuse wiX8_refuse weX8_refuse wmX8_68 kX8 (hO0) rfl ⟨(Nat.le_of_ble_eq_true rfl), (Nat.le_of_ble_eq_true rfl)⟩ ⟨Nat.zero_le _, Nat.zero_le _⟩ (Nat.le_of_ble_eq_true rfl) rfl rfl (fun h8 q8 => ?_)
          exact g_iret dX8_lots_40 rfl ⟨Nat.zero_le _, Nat.zero_le _⟩ (⟨rfl, q8⟩)
    · refine g_aload_n dX8_lots_18 0 rfl ?_
      refine g_bipush (v := (-6)) dX8_lots_19 (by decide +kernel) ?_
      rw [if_neg c15]
      refine g_callVq (st1 := [.int (-nI 6)]) dX8_lots_21 (ev_refuse H ok 6 (by unfold noN; omega)) oX8_refuse wiX8_refuse weX8_refuse wmX8_68 kX8 (hO0) rfl ⟨(Nat.le_of_ble_eq_true rfl), (Nat.le_of_ble_eq_true rfl)⟩ ⟨Nat.zero_le _, Nat.zero_le _⟩ (Nat.le_of_ble_eq_true rfl) rfl rfl (fun h9 q9 => ?_)
      exact g_iret dX8_lots_24 rfl ⟨Nat.zero_le _, Nat.zero_le _⟩ (⟨rfl, q9⟩)
  · refine g_aload_n dX8_lots_5 0 rfl ?_
    refine g_bipush (v := (-4)) dX8_lots_6 (by decide +kernel) ?_
    rw [show oLots σ x z y = rfS σ (-4) from if_neg c2]
    refine g_callVq (st1 := [.int (-nI 4)]) dX8_lots_8 (ev_refuse H ok 4 (by unfold noN; omega)) oX8_refuse wiX8_refuse weX8_refuse wmX8_68 kX8 (hO0) rfl ⟨(Nat.le_of_ble_eq_true rfl), (Nat.le_of_ble_eq_true rfl)⟩ ⟨Nat.zero_le _, Nat.zero_le _⟩ (Nat.le_of_ble_eq_true rfl) rfl rfl (fun h10 q10 => ?_)
    exact g_iret dX8_lots_11 rfl ⟨Nat.zero_le _, Nat.zero_le _⟩ (⟨rfl, q10⟩)
