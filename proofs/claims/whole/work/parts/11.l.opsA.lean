theorem limOf_neg {w : Int32} (h : w < 0) : limOf w = none := if_pos h
theorem limOf_nn {k : Nat} (hk : k < 2 ^ 31) : limOf (nI k) = some k := by
  unfold limOf
  rw [if_neg (nI_pos hk), nI_clamp hk]
theorem Pst_n {α : Type} {L : List α} {c : Nat} {mt : α → Prop} {w : Int32} (P : Pst (limOf w) L 0 c mt) (h : w < 0) : c = L.length := by
  rw [limOf_neg h] at P
  have P : c = 0 + L.length := P
  omega
theorem Pst_s {α : Type} {L : List α} {c k : Nat} {mt : α → Prop} (P : Pst (limOf (nI k)) L 0 c mt) (hk : k < 2 ^ 31) : c ≤ L.length ∧ (k < c ↔ k < L.length) ∧ (k < L.length → ∃ a, L[k]? = some a ∧ mt a) := by
  rw [limOf_nn hk] at P
  have P : (k < 0 + L.length → c = k + 1 ∧ ∃ a, L[k - 0]? = some a ∧ mt a) ∧ (¬ k < 0 + L.length → c = 0 + L.length) := P
  by_cases q : k < L.length
  · obtain ⟨e, a, h1, h2⟩ := P.1 (by omega)
    exact ⟨by omega, by omega, fun _ => ⟨a, h1, h2⟩⟩
  · have e := P.2 (by omega)
    exact ⟨by omega, by omega, fun z => absurd z q⟩
/-- all starters of a size -/
def stL (n : Nat) : List (List Pp) := E n ((n - 1) / 2) []
theorem stL_len {n : Nat} (hn : n ≤ 13) : (stL n).length ≤ 2 ^ 30 := by have := E_small (n := n) (d := (n - 1) / 2) hn (by omega) []; unfold stL; omega
def aDL (σ : Sg) : List (List Nat) := EA σ.1.1 (qF σ.1.2.2.1) (qS σ.1.2.2.1) σ.1.2.1 []
theorem aDL_len {σ : Sg} (ok : okSg σ) : (aDL σ).length ≤ 2 ^ 30 := by
  obtain ⟨k1, k2, k3, k4, -⟩ := ok.1
  have := EA_small (n := σ.1.1) (d := σ.1.2.1) (F := qF σ.1.2.2.1) (S := qS σ.1.2.2.1) k2 (by omega) []; unfold aDL; omega
def oStarters (σ : Sg) (x k : Int32) : Int32 × Sg := if -1 ≤ x then (if σ.1.1 ≤ 11 then (if ¬ x < 0 ∧ (k < 0 ∨ ¬ k < nI ((σ.1.1 - 1) / 2)) then rfS σ (-1) else (if x < 0 then nI (stL σ.1.1).length else if x.toNatClampNeg < (stL σ.1.1).length then nI (((stL σ.1.1).getD x.toNatClampNeg []).getD k.toNatClampNeg (0, 0)).2 else -9, σ)) else rfS σ (-3)) else rfS σ (-4)
def oStrong (σ : Sg) (y : Int32) : Int32 × Sg := if y < 0 ∨ ¬ y ≤ nI 1 then rfS σ (-2) else if σ.1.1 ≤ 11 then (nI (if y.toNatClampNeg = 0 then cnB (sgB σ.1.1) (stL σ.1.1) else cnB (skB σ.1.1) (stL σ.1.1)), σ) else rfS σ (-3)
def oAdders (σ : Sg) (x k : Int32) : Int32 × Sg := if -1 ≤ x then (if σ.1.1 ≤ 11 ∧ isSt σ.1.1 σ.1.2.1 (qF σ.1.2.2.1) (qS σ.1.2.2.1) = true then (if ¬ x < 0 ∧ ¬ (0 ≤ k ∧ k < nI σ.1.2.1) then rfS σ (-1) else (if x < 0 then nI (aDL σ).length else if x.toNatClampNeg < (aDL σ).length then nI (((aDL σ).getD x.toNatClampNeg []).getD k.toNatClampNeg 0) else -9, σ)) else rfS σ (-3)) else rfS σ (-4)
theorem mtS_at {F S : List Nat} {a : List Pp} (h : mtS F S a) {k : Nat} (hk : k < a.length) : S.getD k 0 = (a.getD k (0, 0)).2 := congrArg Prod.snd (h k hk)
theorem getD_of {α : Type} {L : List α} {k : Nat} {a d : α} (h : L[k]? = some a) : L.getD k d = a := by rw [List.getD_eq_getElem?_getD, h]; rfl
theorem mem_of {α : Type} {L : List α} {k : Nat} {a : α} (h : L[k]? = some a) : a ∈ L := List.mem_of_getElem? h
theorem hwB_nn {k c : Nat} (hk : k < 2 ^ 31) (hc : c < 2 ^ 31) : hwB (nI k) c = decide (k < c) := hw_some hc (limOf_nn hk)

set_option maxRecDepth 100000 in
set_option maxHeartbeats 4000000 in
theorem ev_x_starters {h : List aC} {σ : Sg} (H : RC h σ) (ok : okSg σ) (x k : Int32) : Ev mX8_starters 14 0 0 [.ref 0, .int x, .int k] h (sp h (oStarters σ x k)) := by
  obtain ⟨hO0, hS, ⟨ci, hI, hI2⟩, ⟨cd, hDr⟩, hLt, hL, hH, ⟨⟨sw_, sc_, sgs, sgk, hX⟩, ⟨xn, xm, xF, xS, xA, hXP⟩⟩, ⟨tn, tm, tF, tS, tA, hTh⟩, ⟨pn, pm, pF, pS, pA, hSp⟩, hRf⟩ := id H
  obtain ⟨hO1, F, S, A, K, U, C, T, hP, hf, hT, ht, hR, hC, hl⟩ := id hS
  have hO1 : rd h 1 = some (.inr (6, [.ref 2, .ref 6, .ref 9])) := hO1
  have hP : PA h 2 _ _ F S A := hP
  have hT : TA h 6 _ K U := hT
  have hR : RA h 9 _ C T := hR
  obtain ⟨-, -, -, -, lF, lS, lA⟩ := id hP
  obtain ⟨-, -, -, lK, lU⟩ := id hT
  obtain ⟨-, -, -, lC, lT⟩ := id hR
  obtain ⟨okc, ⟨okl, okw⟩, okn, ⟨okh, oke⟩, oki, okr⟩ := id ok
  obtain ⟨k1, k2, k3, k4, k5, k6, k7, k8, k9⟩ := id okc
  have hbn : bnd σ.1.1 σ.1.2.1 F S A := okc.bnd hf
  refine Ev.of pX8_starters (Nat.le_of_ble_eq_true rfl) ?_
  show G mX8_starters (rmD 14 0 0) none _ 0 0 0 [(0, .ref 0), (1, .int x), (2, .int k)] [] h
  obtain ⟨nx1, o1⟩ := HR.o hH
  refine g_aload_n dX8_starters_0 0 rfl ?_
  refine g_getf dX8_starters_1 kX8 wfX8_10 (Nat.le_of_ble_eq_true rfl) (hO0) rfl ?_
  refine g_getf dX8_starters_4 kX6 wfX8_97 (Nat.le_of_ble_eq_true rfl) (hO1) rfl ?_
  refine g_getf dX8_starters_7 kX3 wfX8_100 (Nat.le_of_ble_eq_true rfl) (hP.1) rfl ?_
  refine g_istore_n (ls' := [(3, .int (nI σ.1.1)), (0, .ref 0), (1, .int x), (2, .int k)]) dX8_starters_10 (Nat.le_of_ble_eq_true rfl) rfl ?_
  refine g_iload_n dX8_starters_11 2 rfl ?_
  refine g_iconst (v := (-1)) dX8_starters_12 (by decide +kernel) ?_
  refine g_icmp_ge 23 dX8_starters_13 (by decide) (fun c13 => ?_) (fun c13 => ?_)
  · rw [show oStarters σ x k = _ from if_pos c13]
    refine g_iload_n dX8_starters_23 0 rfl ?_
    refine g_bipush (v := nI 11) dX8_starters_24 (by decide +kernel) ?_
    refine g_icmp_leN 36 dX8_starters_26 (by decide) (by omega) (by omega) (fun c26 => ?_) (fun c26 => ?_)
    · rw [if_pos (show σ.1.1 ≤ 11 by omega)]
      refine g_iload_n dX8_starters_36 2 rfl ?_
      refine g_if_lt 64 dX8_starters_37 (by decide) (fun c37 => ?_) (fun c37 => ?_)
      · rw [if_neg (fun z => z.1 c37), if_pos c37]
        refine g_aload_n dX8_starters_64 1 rfl ?_
        refine g_getf dX8_starters_65 kX8 wfX8_50 (Nat.le_of_ble_eq_true rfl) (hO0) rfl ?_
        refine g_iload_n dX8_starters_68 0 rfl ?_
        refine g_iload_n dX8_starters_69 2 rfl ?_
        refine g_callVq (st1 := []) dX8_starters_70 (ev_goStarters hX hXP σ.1.1 (by omega) (x)) oX5_goThroughStarters wiX5_goThroughStarters weX5_goThroughStarters wmX8_228 kX5 (hX) rfl ⟨(Nat.le_of_ble_eq_true rfl), (Nat.le_of_ble_eq_true rfl)⟩ ⟨Nat.zero_le _, Nat.zero_le _⟩ (Nat.le_of_ble_eq_true rfl) rfl rfl (fun h2 q2 => ?_)
        obtain ⟨c1, gg, gk, F1, S1, A1, q2x, q2p, qP, qg, q2s⟩ := q2
        rw [show E σ.1.1 ((σ.1.1 - 1) / 2) [] = stL σ.1.1 from rfl] at qP qg
        have b2_2 := hP.mv q2s (by omega)
        have b2_6 := hT.mv q2s (by omega)
        have b2_9 := hR.mv q2s (by omega)
        have b2_12 := hI.mv q2s (by omega)
        have b2_23 := hDr.mv q2s (by omega)
        have b2_42 := hH.mv q2s (by omega)
        obtain ⟨nx3, o3⟩ := HR.o b2_42
        have b2_34 := hLt.mv q2s (by omega)
        have b2_36 := hL.mv q2s (by omega)
        have b2_89 := hTh.mv q2s (by omega)
        have b2_93 := hSp.mv q2s (by omega)
        have f2_0 : rd h2 0 = some (.inr (8, [.ref 1, .ref 12, .ref 23, .int (nI (bI σ.2.2.2.2.1.isSome)), .ref 34, .ref 36, .ref 42, .ref 84, .ref 89, .ref 93, .ref 97])) := by rw [q2s _ (by omega)]; exact hO0
        have f2_1 : rd h2 1 = some (.inr (6, [.ref 2, .ref 6, .ref 9])) := by rw [q2s _ (by omega)]; exact hO1
        have f2_97 : rd h2 97 = some (.inl (σ.2.2.2.2.2)) := by rw [q2s _ (by omega)]; exact hRf
        have ll := stL_len (n := σ.1.1) k2
        obtain ⟨-, -, -, -, l1F, l1S, l1A⟩ := id q2p
        have e1 := Pst_n qP c37
        refine g_iload_n dX8_starters_73 2 rfl ?_
        refine g_if_ge 85 dX8_starters_74 (by decide) (fun z => absurd z (Int32.not_le.mpr c37)) (fun c74 => ?_)
        refine g_aload_n dX8_starters_77 1 rfl ?_
        refine g_getf dX8_starters_78 kX8 wfX8_50 (Nat.le_of_ble_eq_true rfl) (f2_0) rfl ?_
        refine g_getf dX8_starters_81 kX5 wfX8_147 (Nat.le_of_ble_eq_true rfl) (q2x) rfl ?_
        exact g_iret dX8_starters_84 rfl ⟨Nat.zero_le _, Nat.zero_le _⟩ (⟨by rw [e1], ⟨f2_0, ⟨f2_1, _, _, _, _, _, _, _, b2_2, hf, b2_6, ht, b2_9, hC, hl⟩, ⟨_, b2_12, hI2⟩, ⟨_, b2_23⟩, b2_34, b2_36, b2_42, ⟨⟨_, _, _, _, q2x⟩, ⟨_, _, _, _, _, q2p⟩⟩, ⟨_, _, _, _, _, b2_89⟩, ⟨_, _, _, _, _, b2_93⟩, f2_97⟩, (fun q hq => by rw [q2s q (by omega)])⟩)
      · refine g_iload_n dX8_starters_40 3 rfl ?_
        refine g_if_lt 58 dX8_starters_41 (by decide) (fun c41 => ?_) (fun c41 => ?_)
        · refine g_aload_n dX8_starters_58 1 rfl ?_
          refine g_iconst (v := (-1)) dX8_starters_59 (by decide +kernel) ?_
          rw [if_pos (show ¬ x < 0 ∧ (k < 0 ∨ ¬ k < nI ((σ.1.1 - 1) / 2)) from ⟨c37, by first | exact Or.inl c41 | exact Or.inr c55⟩)]
          refine g_callVq (st1 := [.int (-nI 1)]) dX8_starters_60 (ev_refuse H ok 1 (by unfold noN; omega)) oX8_refuse wiX8_refuse weX8_refuse wmX8_68 kX8 (hO0) rfl ⟨(Nat.le_of_ble_eq_true rfl), (Nat.le_of_ble_eq_true rfl)⟩ ⟨Nat.zero_le _, Nat.zero_le _⟩ (Nat.le_of_ble_eq_true rfl) rfl rfl (fun h4 q4 => ?_)
          exact g_iret dX8_starters_63 rfl ⟨Nat.zero_le _, Nat.zero_le _⟩ (⟨rfl, q4⟩)
        · refine g_iload_n dX8_starters_44 3 rfl ?_
          refine g_aload_n dX8_starters_45 1 rfl ?_
          refine g_getf dX8_starters_46 kX8 wfX8_10 (Nat.le_of_ble_eq_true rfl) (hO0) rfl ?_
          refine g_getf dX8_starters_49 kX6 wfX8_97 (Nat.le_of_ble_eq_true rfl) (hO1) rfl ?_
          refine g_callVp dX8_starters_52 (ev_most hP (by omega)) oX3_most wiX3_most weX3_most wmX8_155 kX3 (hP.1) rfl ⟨(Nat.le_of_ble_eq_true rfl), (Nat.le_of_ble_eq_true rfl)⟩ ⟨Nat.zero_le _, Nat.zero_le _⟩ (Nat.le_of_ble_eq_true rfl) rfl ?_
          refine g_icmp_lt 64 dX8_starters_55 (by decide) (fun c55 => ?_) (fun c55 => ?_)
          · rw [if_neg (show ¬ (¬ x < 0 ∧ (k < 0 ∨ ¬ k < nI ((σ.1.1 - 1) / 2))) from fun z => by rcases z.2 with y | y; exact c41 y; exact y c55), if_neg c37]
            obtain ⟨x1, hx1, rfl⟩ := nn_of (Int32.not_lt.mp c37)
            obtain ⟨k1, hk1, rfl⟩ := nn_of (Int32.not_lt.mp c41)
            rw [cl_ hx1, cl_ hk1]
            have b1 := nn_lt hk1 (by omega) c55
            refine g_aload_n dX8_starters_64 1 rfl ?_
            refine g_getf dX8_starters_65 kX8 wfX8_50 (Nat.le_of_ble_eq_true rfl) (hO0) rfl ?_
            refine g_iload_n dX8_starters_68 0 rfl ?_
            refine g_iload_n dX8_starters_69 2 rfl ?_
            refine g_callVq (st1 := []) dX8_starters_70 (ev_goStarters hX hXP σ.1.1 (by omega) (nI x1)) oX5_goThroughStarters wiX5_goThroughStarters weX5_goThroughStarters wmX8_228 kX5 (hX) rfl ⟨(Nat.le_of_ble_eq_true rfl), (Nat.le_of_ble_eq_true rfl)⟩ ⟨Nat.zero_le _, Nat.zero_le _⟩ (Nat.le_of_ble_eq_true rfl) rfl rfl (fun h5 q5 => ?_)
            obtain ⟨c1, gg, gk, F1, S1, A1, q5x, q5p, qP, qg, q5s⟩ := q5
            rw [show E σ.1.1 ((σ.1.1 - 1) / 2) [] = stL σ.1.1 from rfl] at qP qg
            have b5_2 := hP.mv q5s (by omega)
            have b5_6 := hT.mv q5s (by omega)
            have b5_9 := hR.mv q5s (by omega)
            have b5_12 := hI.mv q5s (by omega)
            have b5_23 := hDr.mv q5s (by omega)
            have b5_42 := hH.mv q5s (by omega)
            obtain ⟨nx6, o6⟩ := HR.o b5_42
            have b5_34 := hLt.mv q5s (by omega)
            have b5_36 := hL.mv q5s (by omega)
            have b5_89 := hTh.mv q5s (by omega)
            have b5_93 := hSp.mv q5s (by omega)
            have f5_0 : rd h5 0 = some (.inr (8, [.ref 1, .ref 12, .ref 23, .int (nI (bI σ.2.2.2.2.1.isSome)), .ref 34, .ref 36, .ref 42, .ref 84, .ref 89, .ref 93, .ref 97])) := by rw [q5s _ (by omega)]; exact hO0
            have f5_1 : rd h5 1 = some (.inr (6, [.ref 2, .ref 6, .ref 9])) := by rw [q5s _ (by omega)]; exact hO1
            have f5_97 : rd h5 97 = some (.inl (σ.2.2.2.2.2)) := by rw [q5s _ (by omega)]; exact hRf
            have ll := stL_len (n := σ.1.1) k2
            obtain ⟨-, -, -, -, l1F, l1S, l1A⟩ := id q5p
            obtain ⟨e1, e2, e3⟩ := Pst_s qP hx1
            refine g_iload_n dX8_starters_73 2 rfl ?_
            refine g_if_geN 85 dX8_starters_74 (by decide) hx1 ?_
            refine g_aload_n dX8_starters_85 1 rfl ?_
            refine g_getf dX8_starters_86 kX8 wfX8_50 (Nat.le_of_ble_eq_true rfl) (f5_0) rfl ?_
            refine g_callVp dX8_starters_89 (ev_hasWanted q5x) oX5_hasWanted wiX5_hasWanted weX5_hasWanted wmX8_231 kX5 (q5x) rfl ⟨(Nat.le_of_ble_eq_true rfl), (Nat.le_of_ble_eq_true rfl)⟩ ⟨Nat.zero_le _, Nat.zero_le _⟩ (Nat.le_of_ble_eq_true rfl) rfl ?_
            refine g_top (congrArg (fun z => nI (bI z)) (hwB_nn hx1 (by omega))) ?_
            refine g_if_eqB 110 dX8_starters_92 (by decide) (fun c92 => ?_) (fun c92 => ?_)
            · refine g_bipush (v := (-9)) dX8_starters_110 (by decide +kernel) ?_
              exact g_iret dX8_starters_112 rfl ⟨Nat.zero_le _, Nat.zero_le _⟩ (⟨by rw [if_neg (fun z => of_decide_eq_false c92 (e2.mpr z))], ⟨f5_0, ⟨f5_1, _, _, _, _, _, _, _, b5_2, hf, b5_6, ht, b5_9, hC, hl⟩, ⟨_, b5_12, hI2⟩, ⟨_, b5_23⟩, b5_34, b5_36, b5_42, ⟨⟨_, _, _, _, q5x⟩, ⟨_, _, _, _, _, q5p⟩⟩, ⟨_, _, _, _, _, b5_89⟩, ⟨_, _, _, _, _, b5_93⟩, f5_97⟩, (fun q hq => by rw [q5s q (by omega)])⟩)
            · have b2 := e2.mp (of_decide_eq_true c92)
              obtain ⟨a, ea, ma⟩ := e3 b2
              have la := E_mem _ _ (mem_of ea)
              rw [List.length_nil] at la
              refine g_aload_n dX8_starters_95 1 rfl ?_
              refine g_getf dX8_starters_96 kX8 wfX8_50 (Nat.le_of_ble_eq_true rfl) (f5_0) rfl ?_
              refine g_getf dX8_starters_99 kX5 wfX8_150 (Nat.le_of_ble_eq_true rfl) (q5x) rfl ?_
              refine g_getf dX8_starters_102 kX3 wfX8_234 (Nat.le_of_ble_eq_true rfl) (q5p.1) rfl ?_
              refine g_iload_n dX8_starters_105 3 rfl ?_
              refine g_ialN dX8_starters_106 (q5p.2.2.1) (by omega) (by omega) ?_
              refine g_top (congrArg nI (mtS_at ma (by omega))) ?_
              refine g_goto 112 dX8_starters_107 (by decide) ?_
              exact g_iret dX8_starters_112 rfl ⟨Nat.zero_le _, Nat.zero_le _⟩ (⟨by rw [if_pos b2, getD_of ea], ⟨f5_0, ⟨f5_1, _, _, _, _, _, _, _, b5_2, hf, b5_6, ht, b5_9, hC, hl⟩, ⟨_, b5_12, hI2⟩, ⟨_, b5_23⟩, b5_34, b5_36, b5_42, ⟨⟨_, _, _, _, q5x⟩, ⟨_, _, _, _, _, q5p⟩⟩, ⟨_, _, _, _, _, b5_89⟩, ⟨_, _, _, _, _, b5_93⟩, f5_97⟩, (fun q hq => by rw [q5s q (by omega)])⟩)
          · refine g_aload_n dX8_starters_58 1 rfl ?_
            refine g_iconst (v := (-1)) dX8_starters_59 (by decide +kernel) ?_
            rw [if_pos (show ¬ x < 0 ∧ (k < 0 ∨ ¬ k < nI ((σ.1.1 - 1) / 2)) from ⟨c37, by first | exact Or.inl c41 | exact Or.inr c55⟩)]
            refine g_callVq (st1 := [.int (-nI 1)]) dX8_starters_60 (ev_refuse H ok 1 (by unfold noN; omega)) oX8_refuse wiX8_refuse weX8_refuse wmX8_68 kX8 (hO0) rfl ⟨(Nat.le_of_ble_eq_true rfl), (Nat.le_of_ble_eq_true rfl)⟩ ⟨Nat.zero_le _, Nat.zero_le _⟩ (Nat.le_of_ble_eq_true rfl) rfl rfl (fun h7 q7 => ?_)
            exact g_iret dX8_starters_63 rfl ⟨Nat.zero_le _, Nat.zero_le _⟩ (⟨rfl, q7⟩)
    · refine g_aload_n dX8_starters_29 1 rfl ?_
      refine g_bipush (v := (-3)) dX8_starters_30 (by decide +kernel) ?_
      rw [if_neg (show ¬ σ.1.1 ≤ 11 by omega)]
      refine g_callVq (st1 := [.int (-nI 3)]) dX8_starters_32 (ev_refuse H ok 3 (by unfold noN; omega)) oX8_refuse wiX8_refuse weX8_refuse wmX8_68 kX8 (hO0) rfl ⟨(Nat.le_of_ble_eq_true rfl), (Nat.le_of_ble_eq_true rfl)⟩ ⟨Nat.zero_le _, Nat.zero_le _⟩ (Nat.le_of_ble_eq_true rfl) rfl rfl (fun h8 q8 => ?_)
      exact g_iret dX8_starters_35 rfl ⟨Nat.zero_le _, Nat.zero_le _⟩ (⟨rfl, q8⟩)
  · refine g_aload_n dX8_starters_16 1 rfl ?_
    refine g_bipush (v := (-4)) dX8_starters_17 (by decide +kernel) ?_
    rw [show oStarters σ x k = rfS σ (-4) from if_neg c13]
    refine g_callVq (st1 := [.int (-nI 4)]) dX8_starters_19 (ev_refuse H ok 4 (by unfold noN; omega)) oX8_refuse wiX8_refuse weX8_refuse wmX8_68 kX8 (hO0) rfl ⟨(Nat.le_of_ble_eq_true rfl), (Nat.le_of_ble_eq_true rfl)⟩ ⟨Nat.zero_le _, Nat.zero_le _⟩ (Nat.le_of_ble_eq_true rfl) rfl rfl (fun h9 q9 => ?_)
    exact g_iret dX8_starters_22 rfl ⟨Nat.zero_le _, Nat.zero_le _⟩ (⟨rfl, q9⟩)

set_option maxRecDepth 100000 in
set_option maxHeartbeats 4000000 in
theorem ev_x_strong {h : List aC} {σ : Sg} (H : RC h σ) (ok : okSg σ) (y : Int32) : Ev mX8_strong 14 0 0 [.ref 0, .int y] h (sp h (oStrong σ y)) := by
  obtain ⟨hO0, hS, ⟨ci, hI, hI2⟩, ⟨cd, hDr⟩, hLt, hL, hH, ⟨⟨sw_, sc_, sgs, sgk, hX⟩, ⟨xn, xm, xF, xS, xA, hXP⟩⟩, ⟨tn, tm, tF, tS, tA, hTh⟩, ⟨pn, pm, pF, pS, pA, hSp⟩, hRf⟩ := id H
  obtain ⟨hO1, F, S, A, K, U, C, T, hP, hf, hT, ht, hR, hC, hl⟩ := id hS
  have hO1 : rd h 1 = some (.inr (6, [.ref 2, .ref 6, .ref 9])) := hO1
  have hP : PA h 2 _ _ F S A := hP
  have hT : TA h 6 _ K U := hT
  have hR : RA h 9 _ C T := hR
  obtain ⟨-, -, -, -, lF, lS, lA⟩ := id hP
  obtain ⟨-, -, -, lK, lU⟩ := id hT
  obtain ⟨-, -, -, lC, lT⟩ := id hR
  obtain ⟨okc, ⟨okl, okw⟩, okn, ⟨okh, oke⟩, oki, okr⟩ := id ok
  obtain ⟨k1, k2, k3, k4, k5, k6, k7, k8, k9⟩ := id okc
  have hbn : bnd σ.1.1 σ.1.2.1 F S A := okc.bnd hf
  refine Ev.of pX8_strong (Nat.le_of_ble_eq_true rfl) ?_
  show G mX8_strong (rmD 14 0 0) none _ 0 0 0 [(0, .ref 0), (1, .int y)] [] h
  obtain ⟨nx1, o1⟩ := HR.o hH
  refine g_iload_n dX8_strong_0 1 rfl ?_
  refine g_if_lt 9 dX8_strong_1 (by decide) (fun c1 => ?_) (fun c1 => ?_)
  · refine g_aload_n dX8_strong_9 0 rfl ?_
    refine g_bipush (v := (-2)) dX8_strong_10 (by decide +kernel) ?_
    rw [show oStrong σ y = rfS σ (-2) from if_pos (by first | exact Or.inl c1 | exact Or.inr c6)]
    refine g_callVq (st1 := [.int (-nI 2)]) dX8_strong_12 (ev_refuse H ok 2 (by unfold noN; omega)) oX8_refuse wiX8_refuse weX8_refuse wmX8_68 kX8 (hO0) rfl ⟨(Nat.le_of_ble_eq_true rfl), (Nat.le_of_ble_eq_true rfl)⟩ ⟨Nat.zero_le _, Nat.zero_le _⟩ (Nat.le_of_ble_eq_true rfl) rfl rfl (fun h2 q2 => ?_)
    exact g_iret dX8_strong_15 rfl ⟨Nat.zero_le _, Nat.zero_le _⟩ (⟨rfl, q2⟩)
  · refine g_iload_n dX8_strong_4 1 rfl ?_
    refine g_iconst (v := nI 1) dX8_strong_5 (by decide +kernel) ?_
    refine g_icmp_le 16 dX8_strong_6 (by decide) (fun c6 => ?_) (fun c6 => ?_)
    · rw [show oStrong σ y = _ from if_neg (fun z => by rcases z with z | z; exact c1 z; exact z c6)]
      refine g_aload_n dX8_strong_16 0 rfl ?_
      refine g_getf dX8_strong_17 kX8 wfX8_10 (Nat.le_of_ble_eq_true rfl) (hO0) rfl ?_
      refine g_getf dX8_strong_20 kX6 wfX8_97 (Nat.le_of_ble_eq_true rfl) (hO1) rfl ?_
      refine g_getf dX8_strong_23 kX3 wfX8_100 (Nat.le_of_ble_eq_true rfl) (hP.1) rfl ?_
      refine g_bipush (v := nI 11) dX8_strong_26 (by decide +kernel) ?_
      refine g_icmp_leN 38 dX8_strong_28 (by decide) (by omega) (by omega) (fun c28 => ?_) (fun c28 => ?_)
      · rw [if_pos (show σ.1.1 ≤ 11 by omega)]
        obtain ⟨y1, hy1, rfl⟩ := nn_of (Int32.not_lt.mp c1)
        rw [cl_ hy1]
        refine g_aload_n dX8_strong_38 0 rfl ?_
        refine g_getf dX8_strong_39 kX8 wfX8_50 (Nat.le_of_ble_eq_true rfl) (hO0) rfl ?_
        refine g_aload_n dX8_strong_42 0 rfl ?_
        refine g_getf dX8_strong_43 kX8 wfX8_10 (Nat.le_of_ble_eq_true rfl) (hO0) rfl ?_
        refine g_getf dX8_strong_46 kX6 wfX8_97 (Nat.le_of_ble_eq_true rfl) (hO1) rfl ?_
        refine g_getf dX8_strong_49 kX3 wfX8_100 (Nat.le_of_ble_eq_true rfl) (hP.1) rfl ?_
        refine g_iconst (v := (-1)) dX8_strong_52 (by decide +kernel) ?_
        refine g_callVq (st1 := []) dX8_strong_53 (ev_goStarters hX hXP σ.1.1 (by omega) (-1)) oX5_goThroughStarters wiX5_goThroughStarters weX5_goThroughStarters wmX8_228 kX5 (hX) rfl ⟨(Nat.le_of_ble_eq_true rfl), (Nat.le_of_ble_eq_true rfl)⟩ ⟨Nat.zero_le _, Nat.zero_le _⟩ (Nat.le_of_ble_eq_true rfl) rfl rfl (fun h3 q3 => ?_)
        obtain ⟨c1, gg, gk, F1, S1, A1, q3x, q3p, qP, qg, q3s⟩ := q3
        rw [show E σ.1.1 ((σ.1.1 - 1) / 2) [] = stL σ.1.1 from rfl] at qP qg
        have b3_2 := hP.mv q3s (by omega)
        have b3_6 := hT.mv q3s (by omega)
        have b3_9 := hR.mv q3s (by omega)
        have b3_12 := hI.mv q3s (by omega)
        have b3_23 := hDr.mv q3s (by omega)
        have b3_42 := hH.mv q3s (by omega)
        obtain ⟨nx4, o4⟩ := HR.o b3_42
        have b3_34 := hLt.mv q3s (by omega)
        have b3_36 := hL.mv q3s (by omega)
        have b3_89 := hTh.mv q3s (by omega)
        have b3_93 := hSp.mv q3s (by omega)
        have f3_0 : rd h3 0 = some (.inr (8, [.ref 1, .ref 12, .ref 23, .int (nI (bI σ.2.2.2.2.1.isSome)), .ref 34, .ref 36, .ref 42, .ref 84, .ref 89, .ref 93, .ref 97])) := by rw [q3s _ (by omega)]; exact hO0
        have f3_1 : rd h3 1 = some (.inr (6, [.ref 2, .ref 6, .ref 9])) := by rw [q3s _ (by omega)]; exact hO1
        have f3_97 : rd h3 97 = some (.inl (σ.2.2.2.2.2)) := by rw [q3s _ (by omega)]; exact hRf
        have ll := stL_len (n := σ.1.1) k2
        obtain ⟨-, -, -, -, l1F, l1S, l1A⟩ := id q3p
        obtain ⟨g1, g2⟩ := qg (by decide)
        refine g_iload_n dX8_strong_56 1 rfl ?_
        refine g_if_neN 70 dX8_strong_57 (by decide) hy1 (fun c57 => ?_) (fun c57 => ?_)
        · refine g_aload_n dX8_strong_70 0 rfl ?_
          refine g_getf dX8_strong_71 kX8 wfX8_50 (Nat.le_of_ble_eq_true rfl) (f3_0) rfl ?_
          refine g_getf dX8_strong_74 kX5 wfX8_240 (Nat.le_of_ble_eq_true rfl) (q3x) rfl ?_
          exact g_iret dX8_strong_77 rfl ⟨Nat.zero_le _, Nat.zero_le _⟩ (⟨by rw [if_neg (by omega), g2], ⟨f3_0, ⟨f3_1, _, _, _, _, _, _, _, b3_2, hf, b3_6, ht, b3_9, hC, hl⟩, ⟨_, b3_12, hI2⟩, ⟨_, b3_23⟩, b3_34, b3_36, b3_42, ⟨⟨_, _, _, _, q3x⟩, ⟨_, _, _, _, _, q3p⟩⟩, ⟨_, _, _, _, _, b3_89⟩, ⟨_, _, _, _, _, b3_93⟩, f3_97⟩, (fun q hq => by rw [q3s q (by omega)])⟩)
        · refine g_aload_n dX8_strong_60 0 rfl ?_
          refine g_getf dX8_strong_61 kX8 wfX8_50 (Nat.le_of_ble_eq_true rfl) (f3_0) rfl ?_
          refine g_getf dX8_strong_64 kX5 wfX8_237 (Nat.le_of_ble_eq_true rfl) (q3x) rfl ?_
          refine g_goto 77 dX8_strong_67 (by decide) ?_
          exact g_iret dX8_strong_77 rfl ⟨Nat.zero_le _, Nat.zero_le _⟩ (⟨by rw [if_pos c57, g1], ⟨f3_0, ⟨f3_1, _, _, _, _, _, _, _, b3_2, hf, b3_6, ht, b3_9, hC, hl⟩, ⟨_, b3_12, hI2⟩, ⟨_, b3_23⟩, b3_34, b3_36, b3_42, ⟨⟨_, _, _, _, q3x⟩, ⟨_, _, _, _, _, q3p⟩⟩, ⟨_, _, _, _, _, b3_89⟩, ⟨_, _, _, _, _, b3_93⟩, f3_97⟩, (fun q hq => by rw [q3s q (by omega)])⟩)
      · refine g_aload_n dX8_strong_31 0 rfl ?_
        refine g_bipush (v := (-3)) dX8_strong_32 (by decide +kernel) ?_
        rw [if_neg (show ¬ σ.1.1 ≤ 11 by omega)]
        refine g_callVq (st1 := [.int (-nI 3)]) dX8_strong_34 (ev_refuse H ok 3 (by unfold noN; omega)) oX8_refuse wiX8_refuse weX8_refuse wmX8_68 kX8 (hO0) rfl ⟨(Nat.le_of_ble_eq_true rfl), (Nat.le_of_ble_eq_true rfl)⟩ ⟨Nat.zero_le _, Nat.zero_le _⟩ (Nat.le_of_ble_eq_true rfl) rfl rfl (fun h5 q5 => ?_)
        exact g_iret dX8_strong_37 rfl ⟨Nat.zero_le _, Nat.zero_le _⟩ (⟨rfl, q5⟩)
    · refine g_aload_n dX8_strong_9 0 rfl ?_
      refine g_bipush (v := (-2)) dX8_strong_10 (by decide +kernel) ?_
      rw [show oStrong σ y = rfS σ (-2) from if_pos (by first | exact Or.inl c1 | exact Or.inr c6)]
      refine g_callVq (st1 := [.int (-nI 2)]) dX8_strong_12 (ev_refuse H ok 2 (by unfold noN; omega)) oX8_refuse wiX8_refuse weX8_refuse wmX8_68 kX8 (hO0) rfl ⟨(Nat.le_of_ble_eq_true rfl), (Nat.le_of_ble_eq_true rfl)⟩ ⟨Nat.zero_le _, Nat.zero_le _⟩ (Nat.le_of_ble_eq_true rfl) rfl rfl (fun h6 q6 => ?_)
      exact g_iret dX8_strong_15 rfl ⟨Nat.zero_le _, Nat.zero_le _⟩ (⟨rfl, q6⟩)

set_option maxRecDepth 100000 in
set_option maxHeartbeats 4000000 in
theorem ev_x_adders {h : List aC} {σ : Sg} (H : RC h σ) (ok : okSg σ) (x k : Int32) : Ev mX8_adders 14 0 0 [.ref 0, .int x, .int k] h (sp h (oAdders σ x k)) := by
  obtain ⟨hO0, hS, ⟨ci, hI, hI2⟩, ⟨cd, hDr⟩, hLt, hL, hH, ⟨⟨sw_, sc_, sgs, sgk, hX⟩, ⟨xn, xm, xF, xS, xA, hXP⟩⟩, ⟨tn, tm, tF, tS, tA, hTh⟩, ⟨pn, pm, pF, pS, pA, hSp⟩, hRf⟩ := id H
  obtain ⟨hO1, F, S, A, K, U, C, T, hP, hf, hT, ht, hR, hC, hl⟩ := id hS
  have hO1 : rd h 1 = some (.inr (6, [.ref 2, .ref 6, .ref 9])) := hO1
  have hP : PA h 2 _ _ F S A := hP
  have hT : TA h 6 _ K U := hT
  have hR : RA h 9 _ C T := hR
  obtain ⟨-, -, -, -, lF, lS, lA⟩ := id hP
  obtain ⟨-, -, -, lK, lU⟩ := id hT
  obtain ⟨-, -, -, lC, lT⟩ := id hR
  obtain ⟨okc, ⟨okl, okw⟩, okn, ⟨okh, oke⟩, oki, okr⟩ := id ok
  obtain ⟨k1, k2, k3, k4, k5, k6, k7, k8, k9⟩ := id okc
  have hbn : bnd σ.1.1 σ.1.2.1 F S A := okc.bnd hf
  refine Ev.of pX8_adders (Nat.le_of_ble_eq_true rfl) ?_
  show G mX8_adders (rmD 14 0 0) none _ 0 0 0 [(0, .ref 0), (1, .int x), (2, .int k)] [] h
  obtain ⟨nx1, o1⟩ := HR.o hH
  refine g_aload_n dX8_adders_0 0 rfl ?_
  refine g_getf dX8_adders_1 kX8 wfX8_10 (Nat.le_of_ble_eq_true rfl) (hO0) rfl ?_
  refine g_getf dX8_adders_4 kX6 wfX8_97 (Nat.le_of_ble_eq_true rfl) (hO1) rfl ?_
  refine g_astore_n (ls' := [(3, .ref 2), (0, .ref 0), (1, .int x), (2, .int k)]) dX8_adders_7 (Nat.le_of_ble_eq_true rfl) rfl ?_
  refine g_iload_n dX8_adders_8 2 rfl ?_
  refine g_iconst (v := (-1)) dX8_adders_9 (by decide +kernel) ?_
  refine g_icmp_ge 20 dX8_adders_10 (by decide) (fun c10 => ?_) (fun c10 => ?_)
  · rw [show oAdders σ x k = _ from if_pos c10]
    refine g_aload_n dX8_adders_20 0 rfl ?_
    refine g_getf dX8_adders_21 kX3 wfX8_100 (Nat.le_of_ble_eq_true rfl) (hP.1) rfl ?_
    refine g_bipush (v := nI 11) dX8_adders_24 (by decide +kernel) ?_
    refine g_icmp_gtN 36 dX8_adders_26 (by decide) (by omega) (by omega) (fun c26 => ?_) (fun c26 => ?_)
    · refine g_aload_n dX8_adders_36 1 rfl ?_
      refine g_bipush (v := (-3)) dX8_adders_37 (by decide +kernel) ?_
      rw [if_neg (show ¬ (σ.1.1 ≤ 11 ∧ isSt σ.1.1 σ.1.2.1 (qF σ.1.2.2.1) (qS σ.1.2.2.1) = true) from fun z => by first | omega | (rw [z.2] at c33; cases c33))]
      refine g_callVq (st1 := [.int (-nI 3)]) dX8_adders_39 (ev_refuse H ok 3 (by unfold noN; omega)) oX8_refuse wiX8_refuse weX8_refuse wmX8_68 kX8 (hO0) rfl ⟨(Nat.le_of_ble_eq_true rfl), (Nat.le_of_ble_eq_true rfl)⟩ ⟨Nat.zero_le _, Nat.zero_le _⟩ (Nat.le_of_ble_eq_true rfl) rfl rfl (fun h2 q2 => ?_)
      exact g_iret dX8_adders_42 rfl ⟨Nat.zero_le _, Nat.zero_le _⟩ (⟨rfl, q2⟩)
    · refine g_aload_n dX8_adders_29 0 rfl ?_
      refine g_callVp dX8_adders_30 (ev_areStarter hP (by omega) (by omega) hbn (by omega)) oX3_areStarter wiX3_areStarter weX3_areStarter wmX8_158 kX3 (hP.1) rfl ⟨(Nat.le_of_ble_eq_true rfl), (Nat.le_of_ble_eq_true rfl)⟩ ⟨Nat.zero_le _, Nat.zero_le _⟩ (Nat.le_of_ble_eq_true rfl) rfl ?_
      refine g_top (congrArg (fun z => nI (bI z)) (isSt_ext (lFS hf (by omega)))) ?_
      refine g_if_neB 43 dX8_adders_33 (by decide) (fun c33 => ?_) (fun c33 => ?_)
      · rw [if_pos (show σ.1.1 ≤ 11 ∧ isSt σ.1.1 σ.1.2.1 (qF σ.1.2.2.1) (qS σ.1.2.2.1) = true from ⟨by omega, c33⟩)]
        refine g_iload_n dX8_adders_43 2 rfl ?_
        refine g_if_lt 61 dX8_adders_44 (by decide) (fun c44 => ?_) (fun c44 => ?_)
        · rw [if_neg (fun z => z.1 c44), if_pos c44]
          refine g_aload_n dX8_adders_61 1 rfl ?_
          refine g_getf dX8_adders_62 kX8 wfX8_50 (Nat.le_of_ble_eq_true rfl) (hO0) rfl ?_
          refine g_aload_n dX8_adders_65 0 rfl ?_
          refine g_iload_n dX8_adders_66 2 rfl ?_
          refine g_callVq (st1 := []) dX8_adders_67 (ev_goAdders hX hXP hP (by omega) (by omega) (by omega) (fun k hk => ⟨(hbn k hk).1, (hbn k hk).2.1⟩) (x)) oX5_goThroughAdders wiX5_goThroughAdders weX5_goThroughAdders wmX8_143 kX5 (hX) rfl ⟨(Nat.le_of_ble_eq_true rfl), (Nat.le_of_ble_eq_true rfl)⟩ ⟨Nat.zero_le _, Nat.zero_le _⟩ (Nat.le_of_ble_eq_true rfl) rfl rfl (fun h3 q3 => ?_)
          obtain ⟨c1, A1, q3x, q3p, qP, q3s⟩ := q3
          rw [show EA σ.1.1 F S σ.1.2.1 [] = aDL σ from EA_ext _ _ (fun i hi => lFS hf (by omega) i (by simpa using hi))] at qP
          have b3_2 := hP.mv q3s (by omega)
          have b3_6 := hT.mv q3s (by omega)
          have b3_9 := hR.mv q3s (by omega)
          have b3_12 := hI.mv q3s (by omega)
          have b3_23 := hDr.mv q3s (by omega)
          have b3_42 := hH.mv q3s (by omega)
          obtain ⟨nx4, o4⟩ := HR.o b3_42
          have b3_34 := hLt.mv q3s (by omega)
          have b3_36 := hL.mv q3s (by omega)
          have b3_89 := hTh.mv q3s (by omega)
          have b3_93 := hSp.mv q3s (by omega)
          have f3_0 : rd h3 0 = some (.inr (8, [.ref 1, .ref 12, .ref 23, .int (nI (bI σ.2.2.2.2.1.isSome)), .ref 34, .ref 36, .ref 42, .ref 84, .ref 89, .ref 93, .ref 97])) := by rw [q3s _ (by omega)]; exact hO0
          have f3_1 : rd h3 1 = some (.inr (6, [.ref 2, .ref 6, .ref 9])) := by rw [q3s _ (by omega)]; exact hO1
          have f3_97 : rd h3 97 = some (.inl (σ.2.2.2.2.2)) := by rw [q3s _ (by omega)]; exact hRf
          have ll := aDL_len ok
          obtain ⟨-, -, -, -, l1F, l1S, l1A⟩ := id q3p
          have e1 := Pst_n qP c44
          refine g_iload_n dX8_adders_70 2 rfl ?_
          refine g_if_ge 82 dX8_adders_71 (by decide) (fun z => absurd z (Int32.not_le.mpr c44)) (fun c71 => ?_)
          refine g_aload_n dX8_adders_74 1 rfl ?_
          refine g_getf dX8_adders_75 kX8 wfX8_50 (Nat.le_of_ble_eq_true rfl) (f3_0) rfl ?_
          refine g_getf dX8_adders_78 kX5 wfX8_147 (Nat.le_of_ble_eq_true rfl) (q3x) rfl ?_
          exact g_iret dX8_adders_81 rfl ⟨Nat.zero_le _, Nat.zero_le _⟩ (⟨by rw [e1], ⟨f3_0, ⟨f3_1, _, _, _, _, _, _, _, b3_2, hf, b3_6, ht, b3_9, hC, hl⟩, ⟨_, b3_12, hI2⟩, ⟨_, b3_23⟩, b3_34, b3_36, b3_42, ⟨⟨_, _, _, _, q3x⟩, ⟨_, _, _, _, _, q3p⟩⟩, ⟨_, _, _, _, _, b3_89⟩, ⟨_, _, _, _, _, b3_93⟩, f3_97⟩, (fun q hq => by rw [q3s q (by omega)])⟩)
        · refine g_aload_n dX8_adders_47 0 rfl ?_
          refine g_iload_n dX8_adders_48 3 rfl ?_
          refine g_callVp dX8_adders_49 (ev_has hP (by omega) k) oX3_has wiX3_has weX3_has wmX8_126 kX3 (hP.1) rfl ⟨(Nat.le_of_ble_eq_true rfl), (Nat.le_of_ble_eq_true rfl)⟩ ⟨Nat.zero_le _, Nat.zero_le _⟩ (Nat.le_of_ble_eq_true rfl) rfl ?_
          refine g_if_neB 61 dX8_adders_52 (by decide) (fun c52 => ?_) (fun c52 => ?_)
          · rw [if_neg (show ¬ (¬ x < 0 ∧ ¬ (0 ≤ k ∧ k < nI σ.1.2.1)) from fun z => z.2 (hasB.mp c52)), if_neg c44]
            have c52 := hasB.mp c52
            obtain ⟨x1, hx1, rfl⟩ := nn_of (Int32.not_lt.mp c44)
            obtain ⟨k1, hk1, rfl⟩ := nn_of c52.1
            rw [cl_ hx1, cl_ hk1]
            have b1 := nn_lt hk1 (by omega) c52.2
            refine g_aload_n dX8_adders_61 1 rfl ?_
            refine g_getf dX8_adders_62 kX8 wfX8_50 (Nat.le_of_ble_eq_true rfl) (hO0) rfl ?_
            refine g_aload_n dX8_adders_65 0 rfl ?_
            refine g_iload_n dX8_adders_66 2 rfl ?_
            refine g_callVq (st1 := []) dX8_adders_67 (ev_goAdders hX hXP hP (by omega) (by omega) (by omega) (fun k hk => ⟨(hbn k hk).1, (hbn k hk).2.1⟩) (nI x1)) oX5_goThroughAdders wiX5_goThroughAdders weX5_goThroughAdders wmX8_143 kX5 (hX) rfl ⟨(Nat.le_of_ble_eq_true rfl), (Nat.le_of_ble_eq_true rfl)⟩ ⟨Nat.zero_le _, Nat.zero_le _⟩ (Nat.le_of_ble_eq_true rfl) rfl rfl (fun h5 q5 => ?_)
            obtain ⟨c1, A1, q5x, q5p, qP, q5s⟩ := q5
            rw [show EA σ.1.1 F S σ.1.2.1 [] = aDL σ from EA_ext _ _ (fun i hi => lFS hf (by omega) i (by simpa using hi))] at qP
            have b5_2 := hP.mv q5s (by omega)
            have b5_6 := hT.mv q5s (by omega)
            have b5_9 := hR.mv q5s (by omega)
            have b5_12 := hI.mv q5s (by omega)
            have b5_23 := hDr.mv q5s (by omega)
            have b5_42 := hH.mv q5s (by omega)
            obtain ⟨nx6, o6⟩ := HR.o b5_42
            have b5_34 := hLt.mv q5s (by omega)
            have b5_36 := hL.mv q5s (by omega)
            have b5_89 := hTh.mv q5s (by omega)
            have b5_93 := hSp.mv q5s (by omega)
            have f5_0 : rd h5 0 = some (.inr (8, [.ref 1, .ref 12, .ref 23, .int (nI (bI σ.2.2.2.2.1.isSome)), .ref 34, .ref 36, .ref 42, .ref 84, .ref 89, .ref 93, .ref 97])) := by rw [q5s _ (by omega)]; exact hO0
            have f5_1 : rd h5 1 = some (.inr (6, [.ref 2, .ref 6, .ref 9])) := by rw [q5s _ (by omega)]; exact hO1
            have f5_97 : rd h5 97 = some (.inl (σ.2.2.2.2.2)) := by rw [q5s _ (by omega)]; exact hRf
            have ll := aDL_len ok
            obtain ⟨-, -, -, -, l1F, l1S, l1A⟩ := id q5p
            obtain ⟨e1, e2, e3⟩ := Pst_s qP hx1
            refine g_iload_n dX8_adders_70 2 rfl ?_
            refine g_if_geN 82 dX8_adders_71 (by decide) hx1 ?_
            refine g_aload_n dX8_adders_82 1 rfl ?_
            refine g_getf dX8_adders_83 kX8 wfX8_50 (Nat.le_of_ble_eq_true rfl) (f5_0) rfl ?_
            refine g_callVp dX8_adders_86 (ev_hasWanted q5x) oX5_hasWanted wiX5_hasWanted weX5_hasWanted wmX8_231 kX5 (q5x) rfl ⟨(Nat.le_of_ble_eq_true rfl), (Nat.le_of_ble_eq_true rfl)⟩ ⟨Nat.zero_le _, Nat.zero_le _⟩ (Nat.le_of_ble_eq_true rfl) rfl ?_
            refine g_top (congrArg (fun z => nI (bI z)) (hwB_nn hx1 (by omega))) ?_
            refine g_if_eqB 107 dX8_adders_89 (by decide) (fun c89 => ?_) (fun c89 => ?_)
            · refine g_bipush (v := (-9)) dX8_adders_107 (by decide +kernel) ?_
              exact g_iret dX8_adders_109 rfl ⟨Nat.zero_le _, Nat.zero_le _⟩ (⟨by rw [if_neg (fun z => of_decide_eq_false c89 (e2.mpr z))], ⟨f5_0, ⟨f5_1, _, _, _, _, _, _, _, b5_2, hf, b5_6, ht, b5_9, hC, hl⟩, ⟨_, b5_12, hI2⟩, ⟨_, b5_23⟩, b5_34, b5_36, b5_42, ⟨⟨_, _, _, _, q5x⟩, ⟨_, _, _, _, _, q5p⟩⟩, ⟨_, _, _, _, _, b5_89⟩, ⟨_, _, _, _, _, b5_93⟩, f5_97⟩, (fun q hq => by rw [q5s q (by omega)])⟩)
            · have b2 := e2.mp (of_decide_eq_true c89)
              obtain ⟨a, ea, ma⟩ := e3 b2
              have la := (EA_mem _ _ (mem_of ea)).1
              rw [List.length_nil] at la
              refine g_aload_n dX8_adders_92 1 rfl ?_
              refine g_getf dX8_adders_93 kX8 wfX8_50 (Nat.le_of_ble_eq_true rfl) (f5_0) rfl ?_
              refine g_getf dX8_adders_96 kX5 wfX8_150 (Nat.le_of_ble_eq_true rfl) (q5x) rfl ?_
              refine g_getf dX8_adders_99 kX3 wfX8_123 (Nat.le_of_ble_eq_true rfl) (q5p.1) rfl ?_
              refine g_iload_n dX8_adders_102 3 rfl ?_
              refine g_ialN dX8_adders_103 (q5p.2.2.2.1) (by omega) (by omega) ?_
              refine g_top (congrArg nI (ma k1 (by omega))) ?_
              refine g_goto 109 dX8_adders_104 (by decide) ?_
              exact g_iret dX8_adders_109 rfl ⟨Nat.zero_le _, Nat.zero_le _⟩ (⟨by rw [if_pos b2, getD_of ea], ⟨f5_0, ⟨f5_1, _, _, _, _, _, _, _, b5_2, hf, b5_6, ht, b5_9, hC, hl⟩, ⟨_, b5_12, hI2⟩, ⟨_, b5_23⟩, b5_34, b5_36, b5_42, ⟨⟨_, _, _, _, q5x⟩, ⟨_, _, _, _, _, q5p⟩⟩, ⟨_, _, _, _, _, b5_89⟩, ⟨_, _, _, _, _, b5_93⟩, f5_97⟩, (fun q hq => by rw [q5s q (by omega)])⟩)
          · refine g_aload_n dX8_adders_55 1 rfl ?_
            refine g_iconst (v := (-1)) dX8_adders_56 (by decide +kernel) ?_
            rw [if_pos (show ¬ x < 0 ∧ ¬ (0 ≤ k ∧ k < nI σ.1.2.1) from ⟨c44, fun z => by rw [hasB.mpr z] at c52; cases c52⟩)]
            refine g_callVq (st1 := [.int (-nI 1)]) dX8_adders_57 (ev_refuse H ok 1 (by unfold noN; omega)) oX8_refuse wiX8_refuse weX8_refuse wmX8_68 kX8 (hO0) rfl ⟨(Nat.le_of_ble_eq_true rfl), (Nat.le_of_ble_eq_true rfl)⟩ ⟨Nat.zero_le _, Nat.zero_le _⟩ (Nat.le_of_ble_eq_true rfl) rfl rfl (fun h7 q7 => ?_)
            exact g_iret dX8_adders_60 rfl ⟨Nat.zero_le _, Nat.zero_le _⟩ (⟨rfl, q7⟩)
      · refine g_aload_n dX8_adders_36 1 rfl ?_
        refine g_bipush (v := (-3)) dX8_adders_37 (by decide +kernel) ?_
        rw [if_neg (show ¬ (σ.1.1 ≤ 11 ∧ isSt σ.1.1 σ.1.2.1 (qF σ.1.2.2.1) (qS σ.1.2.2.1) = true) from fun z => by first | omega | (rw [z.2] at c33; cases c33))]
        refine g_callVq (st1 := [.int (-nI 3)]) dX8_adders_39 (ev_refuse H ok 3 (by unfold noN; omega)) oX8_refuse wiX8_refuse weX8_refuse wmX8_68 kX8 (hO0) rfl ⟨(Nat.le_of_ble_eq_true rfl), (Nat.le_of_ble_eq_true rfl)⟩ ⟨Nat.zero_le _, Nat.zero_le _⟩ (Nat.le_of_ble_eq_true rfl) rfl rfl (fun h8 q8 => ?_)
        exact g_iret dX8_adders_42 rfl ⟨Nat.zero_le _, Nat.zero_le _⟩ (⟨rfl, q8⟩)
  · refine g_aload_n dX8_adders_13 1 rfl ?_
    refine g_bipush (v := (-4)) dX8_adders_14 (by decide +kernel) ?_
    rw [show oAdders σ x k = rfS σ (-4) from if_neg c10]
    refine g_callVq (st1 := [.int (-nI 4)]) dX8_adders_16 (ev_refuse H ok 4 (by unfold noN; omega)) oX8_refuse wiX8_refuse weX8_refuse wmX8_68 kX8 (hO0) rfl ⟨(Nat.le_of_ble_eq_true rfl), (Nat.le_of_ble_eq_true rfl)⟩ ⟨Nat.zero_le _, Nat.zero_le _⟩ (Nat.le_of_ble_eq_true rfl) rfl rfl (fun h9 q9 => ?_)
    exact g_iret dX8_adders_19 rfl ⟨Nat.zero_le _, Nat.zero_le _⟩ (⟨rfl, q9⟩)
