theorem bP_ext {n : Nat} {f g : Nat → Pr} {i : Nat} {s : (Nat → Nat → Nat) × Nat} : ∀ m, (∀ k, k < m → f k = g k) → bP n f i s m = bP n g i s m
  | 0, _ => rfl
  | m + 1, h => by
    show (layR (bP n f i s m).1 i ((i + n - (f m).2.2) % n) (cod (((f m).1 + i) % n) (((f m).2.1 + i) % n)), (bP n f i s m).2 + bI (decide ((bP n f i s m).1 i ((i + n - (f m).2.2) % n) ≠ 0))) = (layR (bP n g i s m).1 i ((i + n - (g m).2.2) % n) (cod (((g m).1 + i) % n) (((g m).2.1 + i) % n)), (bP n g i s m).2 + bI (decide ((bP n g i s m).1 i ((i + n - (g m).2.2) % n) ≠ 0)))
    rw [bP_ext m (fun k hk => h k (by omega)), h m (by omega)]
theorem bR_ext {n m : Nat} {f g : Nat → Pr} (h : ∀ k, k < m → f k = g k) : ∀ i, bR n m f i = bR n m g i
  | 0 => rfl
  | i + 1 => by
    show bP n f i (bD n i (bR n m f i)) m = bP n g i (bD n i (bR n m g i)) m
    rw [bR_ext h i, bP_ext m h]
def oBuild (σ : Sg) : Int32 × Sg := if σ.1.2.1 = (σ.1.1 - 1) / 2 then (nI (bR σ.1.1 σ.1.2.1 σ.1.2.2.1 σ.1.1).2, ((σ.1.1, σ.1.2.1, σ.1.2.2.1, σ.1.2.2.2.1, σ.1.2.2.2.2.1, (bR σ.1.1 σ.1.2.1 σ.1.2.2.1 σ.1.1).1), σ.2.1, σ.2.2.1, [], σ.2.2.2.2)) else rfS σ (-3)
def rCell (n : Nat) (r c x y : Int32) : Int32 := if ¬ (0 ≤ r ∧ r < nI n ∧ 0 ≤ c ∧ c < nI n) then -1 else if x = -1 then 0 else if x < -1 ∨ y < 0 then -4 else if nI n < x ∨ nI n < y then -6 else if x = y then -3 else 0
def vC (x y : Int32) : Nat := if 0 ≤ x then cod x.toNatClampNeg y.toNatClampNeg else 0
def oCell (σ : Sg) (r c x y : Int32) : Int32 × Sg := if rCell σ.1.1 r c x y = 0 then (nI (if σ.1.2.2.2.2.2 r.toNatClampNeg c.toNatClampNeg = 0 then 0 else 1), ((σ.1.1, σ.1.2.1, σ.1.2.2.1, σ.1.2.2.2.1, σ.1.2.2.2.2.1, u2 σ.1.2.2.2.2.2 r.toNatClampNeg c.toNatClampNeg (vC x y)), σ.2.1, σ.2.2.1, (σ.1.2.2.1, σ.1.2.2.2.2.2) :: σ.2.2.2.1.take 11, σ.2.2.2.2)) else rfS σ (rCell σ.1.1 r c x y)
theorem rCell_no (n : Nat) (r c x y : Int32) : isNo (rCell n r c x y) := by unfold rCell isNo; split; simp; split; simp; split; simp; split; simp; split <;> simp
theorem rCell_in {n : Nat} {r c x y : Int32} (h : rCell n r c x y = 0) : (0 ≤ r ∧ r < nI n ∧ 0 ≤ c ∧ c < nI n) ∧ (0 ≤ x → 0 ≤ y ∧ ¬ nI n < x ∧ ¬ nI n < y ∧ ¬ x = y) := by
  unfold rCell at h
  by_cases q1 : ¬ (0 ≤ r ∧ r < nI n ∧ 0 ≤ c ∧ c < nI n)
  · rw [if_pos q1] at h; exact absurd h (by decide)
  · rw [if_neg q1] at h
    refine ⟨Decidable.not_not.mp q1, fun hx => ?_⟩
    rw [if_neg (fun z => by rw [z] at hx; exact absurd hx (by decide))] at h
    by_cases q2 : x < -1 ∨ y < 0
    · rw [if_pos q2] at h; exact absurd h (by decide)
    · rw [if_neg q2] at h
      by_cases q3 : nI n < x ∨ nI n < y
      · rw [if_pos q3] at h; exact absurd h (by decide)
      · rw [if_neg q3] at h
        by_cases q4 : x = y
        · rw [if_pos q4] at h; exact absurd h (by decide)
        · exact ⟨Int32.not_lt.mp fun z => q2 (Or.inr z), fun z => q3 (Or.inl z), fun z => q3 (Or.inr z), q4⟩
theorem vC_lt {n : Nat} {r c x y : Int32} (hn : n ≤ 13) (h : rCell n r c x y = 0) : vC x y < 196 := by
  unfold vC
  by_cases hx : 0 ≤ x
  · rw [if_pos hx]
    obtain ⟨h1, h2, h3, h4⟩ := (rCell_in h).2 hx
    obtain ⟨a, ha, rfl⟩ := nn_of hx
    obtain ⟨b, hb, rfl⟩ := nn_of h1
    rw [nI_ltI (by omega) ha] at h2
    rw [nI_ltI (by omega) hb] at h3
    rw [nI_clamp ha, nI_clamp hb]
    exact cod_lt (by omega) (by omega)
  · rw [if_neg hx]; omega

set_option maxRecDepth 100000 in
set_option maxHeartbeats 4000000 in
theorem ev_x_build {h : List aC} {σ : Sg} (H : RC h σ) (ok : okSg σ) : Ev mX8_build 5 0 0 [.ref 0] h (sp h (oBuild σ)) := by
  obtain ⟨hO0, hS, ⟨ci, hI, hI2⟩, ⟨cd, hDr⟩, hLt, hL, hH, ⟨⟨sw_, sc_, sgs, sgk, hX⟩, ⟨xn, xm, xF, xS, xA, hXP⟩⟩, ⟨tn, tm, tF, tS, tA, hTh⟩, ⟨pn, pm, pF, pS, pA, hSp⟩, hRf⟩ := id H
  obtain ⟨hO1, F, S, A, K, U, C, T, hP, hf, hT, ht, hR, hC, hl⟩ := id hS
  have hO1 : rd h 1 = some (.inr (6, [.ref 2, .ref 6, .ref 9])) := hO1
  have hP : PA h 2 _ _ F S A := hP
  have hT : TA h 6 _ K U := hT
  have hR : RA h 9 _ C T := hR
  obtain ⟨-, -, -, -, lF, lS, lA⟩ := id hP
  obtain ⟨-, -, -, lK, lU⟩ := id hT
  obtain ⟨-, -, -, lC, lT⟩ := id hR
  obtain ⟨okc, ⟨okl, okw⟩, okn, ⟨okh, oke⟩, oki, okr⟩ := id ok
  obtain ⟨k1, k2, k3, k4, k5, k6, k7, k8, k9⟩ := id okc
  have hbn : bnd σ.1.1 σ.1.2.1 F S A := okc.bnd hf
  refine Ev.of pX8_build (Nat.le_of_ble_eq_true rfl) ?_
  show G mX8_build (rmD 5 0 0) none _ 0 0 0 [(0, .ref 0)] [] h
  obtain ⟨nx1, o1⟩ := HR.o hH
  refine g_aload_n dX8_build_0 0 rfl ?_
  refine g_getf dX8_build_1 kX8 wfX8_10 (Nat.le_of_ble_eq_true rfl) (hO0) rfl ?_
  refine g_getf dX8_build_4 kX6 wfX8_97 (Nat.le_of_ble_eq_true rfl) (hO1) rfl ?_
  refine g_callVp dX8_build_7 (ev_areWhole hP (by omega) (by omega)) oX3_areWhole wiX3_areWhole weX3_areWhole wmX8_170 kX3 (hP.1) rfl ⟨(Nat.le_of_ble_eq_true rfl), (Nat.le_of_ble_eq_true rfl)⟩ ⟨Nat.zero_le _, Nat.zero_le _⟩ (Nat.le_of_ble_eq_true rfl) rfl ?_
  refine g_if_neB 20 dX8_build_10 (by decide) (fun c10 => ?_) (fun c10 => ?_)
  · have c10 := of_decide_eq_true c10
    rw [show oBuild σ = (nI (bR σ.1.1 σ.1.2.1 σ.1.2.2.1 σ.1.1).2, ((σ.1.1, σ.1.2.1, σ.1.2.2.1, σ.1.2.2.2.1, σ.1.2.2.2.2.1, (bR σ.1.1 σ.1.2.1 σ.1.2.2.1 σ.1.1).1), σ.2.1, σ.2.2.1, [], σ.2.2.2.2)) from if_pos c10]
    refine g_aload_n dX8_build_20 0 rfl ?_
    refine g_getf dX8_build_21 kX8 wfX8_43 (Nat.le_of_ble_eq_true rfl) (hO0) rfl ?_
    refine g_callVq (st1 := []) dX8_build_24 (hx_forget hH) oX0_forget wiX0_forget weX0_forget wmX8_91 kX0 (o1) rfl ⟨(Nat.le_of_ble_eq_true rfl), (Nat.le_of_ble_eq_true rfl)⟩ ⟨Nat.zero_le _, Nat.zero_le _⟩ (Nat.le_of_ble_eq_true rfl) rfl rfl (fun h2 q2 => ?_)
    obtain ⟨q2a, q2s⟩ := q2
    have z2 := q2a (σ.1.1) (σ.1.2.1) ((bR σ.1.1 σ.1.2.1 σ.1.2.2.1 σ.1.1).1)
    obtain ⟨nx3, o3⟩ := HR.o z2
    have b2_2 := hP.mv q2s (by omega)
    have b2_6 := hT.mv q2s (by omega)
    have b2_9 := hR.mv q2s (by omega)
    have b2_12 := hI.mv q2s (by omega)
    have b2_23 := hDr.mv q2s (by omega)
    have b2_34 := hLt.mv q2s (by omega)
    have b2_36 := hL.mv q2s (by omega)
    have b2_84 := hX.mv q2s (by omega)
    have b2_85 := hXP.mv q2s (by omega)
    have b2_89 := hTh.mv q2s (by omega)
    have b2_93 := hSp.mv q2s (by omega)
    have f2_0 : rd h2 0 = some (.inr (8, [.ref 1, .ref 12, .ref 23, .int (nI (bI σ.2.2.2.2.1.isSome)), .ref 34, .ref 36, .ref 42, .ref 84, .ref 89, .ref 93, .ref 97])) := by rw [q2s _ (by omega)]; exact hO0
    have f2_1 : rd h2 1 = some (.inr (6, [.ref 2, .ref 6, .ref 9])) := by rw [q2s _ (by omega)]; exact hO1
    have f2_97 : rd h2 97 = some (.inl (σ.2.2.2.2.2)) := by rw [q2s _ (by omega)]; exact hRf
    refine g_aload_n dX8_build_27 0 rfl ?_
    refine g_getf dX8_build_28 kX8 wfX8_10 (Nat.le_of_ble_eq_true rfl) (f2_0) rfl ?_
    refine g_getf dX8_build_31 kX6 wfX8_173 (Nat.le_of_ble_eq_true rfl) (f2_1) rfl ?_
    refine g_aload_n dX8_build_34 0 rfl ?_
    refine g_getf dX8_build_35 kX8 wfX8_10 (Nat.le_of_ble_eq_true rfl) (f2_0) rfl ?_
    refine g_getf dX8_build_38 kX6 wfX8_97 (Nat.le_of_ble_eq_true rfl) (f2_1) rfl ?_
    have zb := ev_built b2_9 b2_2 (by omega) (by omega) (by omega) hbn (by omega)
    rw [bR_ext hf] at zb
    refine g_callVq (st1 := [.int (nI ((bR σ.1.1 σ.1.2.1 σ.1.2.2.1 σ.1.1).2))]) dX8_build_41 (zb) oX4_becomeBuilt wiX4_becomeBuilt weX4_becomeBuilt wmX8_177 kX4 (b2_9.1) rfl ⟨(Nat.le_of_ble_eq_true rfl), (Nat.le_of_ble_eq_true rfl)⟩ ⟨Nat.zero_le _, Nat.zero_le _⟩ (Nat.le_of_ble_eq_true rfl) rfl rfl (fun h4 q4 => ?_)
    obtain ⟨C2, q4a, q4b, q4c, q4s⟩ := q4
    have b4_2 := b2_2.mv q4s (by omega)
    have b4_6 := b2_6.mv q4s (by omega)
    have b4_12 := b2_12.mv q4s (by omega)
    have b4_23 := b2_23.mv q4s (by omega)
    have b4_42 := z2.mv q4s (by omega)
    obtain ⟨nx5, o5⟩ := HR.o b4_42
    have b4_34 := b2_34.mv q4s (by omega)
    have b4_36 := b2_36.mv q4s (by omega)
    have b4_84 := b2_84.mv q4s (by omega)
    have b4_85 := b2_85.mv q4s (by omega)
    have b4_89 := b2_89.mv q4s (by omega)
    have b4_93 := b2_93.mv q4s (by omega)
    have f4_0 : rd h4 0 = some (.inr (8, [.ref 1, .ref 12, .ref 23, .int (nI (bI σ.2.2.2.2.1.isSome)), .ref 34, .ref 36, .ref 42, .ref 84, .ref 89, .ref 93, .ref 97])) := by rw [q4s _ (by omega)]; exact f2_0
    have f4_1 : rd h4 1 = some (.inr (6, [.ref 2, .ref 6, .ref 9])) := by rw [q4s _ (by omega)]; exact f2_1
    have f4_97 : rd h4 97 = some (.inl (σ.2.2.2.2.2)) := by rw [q4s _ (by omega)]; exact f2_97
    exact g_iret dX8_build_44 rfl ⟨Nat.zero_le _, Nat.zero_le _⟩ (⟨rfl, ⟨f4_0, ⟨f4_1, _, _, _, _, _, _, _, b4_2, hf, b4_6, ht, q4a, q4b, q4c⟩, ⟨_, b4_12, hI2⟩, ⟨_, b4_23⟩, b4_34, b4_36, b4_42, ⟨⟨_, _, _, _, b4_84⟩, ⟨_, _, _, _, _, b4_85⟩⟩, ⟨_, _, _, _, _, b4_89⟩, ⟨_, _, _, _, _, b4_93⟩, f4_97⟩, (fun q hq => by rw [q4s q (by omega), q2s q (by omega)])⟩)
  · refine g_aload_n dX8_build_13 0 rfl ?_
    refine g_bipush (v := (-3)) dX8_build_14 (by decide +kernel) ?_
    rw [show oBuild σ = rfS σ (-3) from if_neg (of_decide_eq_false c10)]
    refine g_callVq (st1 := [.int (-nI 3)]) dX8_build_16 (ev_refuse H ok 3 (by unfold noN; omega)) oX8_refuse wiX8_refuse weX8_refuse wmX8_68 kX8 (hO0) rfl ⟨(Nat.le_of_ble_eq_true rfl), (Nat.le_of_ble_eq_true rfl)⟩ ⟨Nat.zero_le _, Nat.zero_le _⟩ (Nat.le_of_ble_eq_true rfl) rfl rfl (fun h6 q6 => ?_)
    exact g_iret dX8_build_19 rfl ⟨Nat.zero_le _, Nat.zero_le _⟩ (⟨rfl, q6⟩)

set_option maxRecDepth 100000 in
set_option maxHeartbeats 4000000 in
theorem ev_rCell {h : List aC} {σ : Sg} (H : RC h σ) (ok : okSg σ) (r c x y : Int32) : Ev mX8_refusalOfCell 2 0 0 [.ref 0, .int r, .int c, .int x, .int y] h (pv (.int (rCell σ.1.1 r c x y)) h) := by
  obtain ⟨hO0, hS, ⟨ci, hI, hI2⟩, ⟨cd, hDr⟩, hLt, hL, hH, ⟨⟨sw_, sc_, sgs, sgk, hX⟩, ⟨xn, xm, xF, xS, xA, hXP⟩⟩, ⟨tn, tm, tF, tS, tA, hTh⟩, ⟨pn, pm, pF, pS, pA, hSp⟩, hRf⟩ := id H
  obtain ⟨hO1, F, S, A, K, U, C, T, hP, hf, hT, ht, hR, hC, hl⟩ := id hS
  have hO1 : rd h 1 = some (.inr (6, [.ref 2, .ref 6, .ref 9])) := hO1
  have hP : PA h 2 _ _ F S A := hP
  have hT : TA h 6 _ K U := hT
  have hR : RA h 9 _ C T := hR
  obtain ⟨-, -, -, -, lF, lS, lA⟩ := id hP
  obtain ⟨-, -, -, lK, lU⟩ := id hT
  obtain ⟨-, -, -, lC, lT⟩ := id hR
  obtain ⟨okc, ⟨okl, okw⟩, okn, ⟨okh, oke⟩, oki, okr⟩ := id ok
  obtain ⟨k1, k2, k3, k4, k5, k6, k7, k8, k9⟩ := id okc
  have hbn : bnd σ.1.1 σ.1.2.1 F S A := okc.bnd hf
  refine Ev.of pX8_refusalOfCell (Nat.le_of_ble_eq_true rfl) ?_
  show G mX8_refusalOfCell (rmD 2 0 0) none _ 0 0 0 [(0, .ref 0), (1, .int r), (2, .int c), (3, .int x), (4, .int y)] [] h
  obtain ⟨nx1, o1⟩ := HR.o hH
  refine g_aload_n dX8_refusalOfCell_0 0 rfl ?_
  refine g_getf dX8_refusalOfCell_1 kX8 wfX8_10 (Nat.le_of_ble_eq_true rfl) (hO0) rfl ?_
  refine g_getf dX8_refusalOfCell_4 kX6 wfX8_173 (Nat.le_of_ble_eq_true rfl) (hO1) rfl ?_
  refine g_getf dX8_refusalOfCell_7 kX4 wfX8_212 (Nat.le_of_ble_eq_true rfl) (hR.1) rfl ?_
  refine g_istore (ls' := [(5, .int (nI σ.1.1)), (0, .ref 0), (1, .int r), (2, .int c), (3, .int x), (4, .int y)]) dX8_refusalOfCell_10 (Nat.le_of_ble_eq_true rfl) rfl ?_
  refine g_aload_n dX8_refusalOfCell_12 1 rfl ?_
  refine g_getf dX8_refusalOfCell_13 kX8 wfX8_10 (Nat.le_of_ble_eq_true rfl) (hO0) rfl ?_
  refine g_getf dX8_refusalOfCell_16 kX6 wfX8_173 (Nat.le_of_ble_eq_true rfl) (hO1) rfl ?_
  refine g_iload_n dX8_refusalOfCell_19 2 rfl ?_
  refine g_iload_n dX8_refusalOfCell_20 3 rfl ?_
  refine g_callVp dX8_refusalOfCell_21 (ev_rhas hR r c) oX4_has wiX4_has weX4_has wmX8_200 kX4 (hR.1) rfl ⟨(Nat.le_of_ble_eq_true rfl), (Nat.le_of_ble_eq_true rfl)⟩ ⟨Nat.zero_le _, Nat.zero_le _⟩ (Nat.le_of_ble_eq_true rfl) rfl ?_
  refine g_if_neB 29 dX8_refusalOfCell_24 (by decide) (fun c24 => ?_) (fun c24 => ?_)
  · refine g_iload_n dX8_refusalOfCell_29 4 rfl ?_
    refine g_iconst (v := (-1)) dX8_refusalOfCell_30 (by decide +kernel) ?_
    refine g_icmp_ne 36 dX8_refusalOfCell_31 (by decide) (fun c31 => ?_) (fun c31 => ?_)
    · refine g_iload_n dX8_refusalOfCell_36 4 rfl ?_
      refine g_iconst (v := (-1)) dX8_refusalOfCell_37 (by decide +kernel) ?_
      refine g_icmp_lt 46 dX8_refusalOfCell_38 (by decide) (fun c38 => ?_) (fun c38 => ?_)
      · refine g_bipush (v := (-4)) dX8_refusalOfCell_46 (by decide +kernel) ?_
        exact g_iret dX8_refusalOfCell_48 rfl ⟨Nat.zero_le _, Nat.zero_le _⟩ (⟨by unfold rCell; rw [if_neg (not_not_intro (of_decide_eq_true c24)), if_neg c31, if_pos (by first | exact Or.inl c38 | exact Or.inr (Int32.not_le.mp c43))], rfl⟩)
      · refine g_iload dX8_refusalOfCell_41 5 rfl ?_
        refine g_if_ge 49 dX8_refusalOfCell_43 (by decide) (fun c43 => ?_) (fun c43 => ?_)
        · refine g_iload_n dX8_refusalOfCell_49 4 rfl ?_
          refine g_iload dX8_refusalOfCell_50 0 rfl ?_
          refine g_icmp_gt 62 dX8_refusalOfCell_52 (by decide) (fun c52 => ?_) (fun c52 => ?_)
          · refine g_bipush (v := (-6)) dX8_refusalOfCell_62 (by decide +kernel) ?_
            exact g_iret dX8_refusalOfCell_64 rfl ⟨Nat.zero_le _, Nat.zero_le _⟩ (⟨by unfold rCell; rw [if_neg (not_not_intro (of_decide_eq_true c24)), if_neg c31, if_neg (fun z => by rcases z with z | z; exact c38 z; exact absurd z (Int32.not_lt.mpr c43)), if_pos (by first | exact Or.inl c52 | exact Or.inr (Int32.not_le.mp c59))], rfl⟩)
          · refine g_iload dX8_refusalOfCell_55 5 rfl ?_
            refine g_iload dX8_refusalOfCell_57 0 rfl ?_
            refine g_icmp_le 65 dX8_refusalOfCell_59 (by decide) (fun c59 => ?_) (fun c59 => ?_)
            · refine g_iload_n dX8_refusalOfCell_65 4 rfl ?_
              refine g_iload dX8_refusalOfCell_66 5 rfl ?_
              refine g_icmp_ne 76 dX8_refusalOfCell_68 (by decide) (fun c68 => ?_) (fun c68 => ?_)
              · refine g_iconst (v := nI 0) dX8_refusalOfCell_76 (by decide +kernel) ?_
                exact g_iret dX8_refusalOfCell_77 rfl ⟨Nat.zero_le _, Nat.zero_le _⟩ (⟨by unfold rCell; rw [if_neg (not_not_intro (of_decide_eq_true c24)), if_neg c31, if_neg (fun z => by rcases z with z | z; exact c38 z; exact absurd z (Int32.not_lt.mpr c43)), if_neg (fun z => by rcases z with z | z; exact c52 z; exact absurd z (Int32.not_lt.mpr c59)), if_neg c68]; rfl, rfl⟩)
              · refine g_bipush (v := (-3)) dX8_refusalOfCell_71 (by decide +kernel) ?_
                refine g_goto 77 dX8_refusalOfCell_73 (by decide) ?_
                exact g_iret dX8_refusalOfCell_77 rfl ⟨Nat.zero_le _, Nat.zero_le _⟩ (⟨by unfold rCell; rw [if_neg (not_not_intro (of_decide_eq_true c24)), if_neg c31, if_neg (fun z => by rcases z with z | z; exact c38 z; exact absurd z (Int32.not_lt.mpr c43)), if_neg (fun z => by rcases z with z | z; exact c52 z; exact absurd z (Int32.not_lt.mpr c59)), if_pos c68], rfl⟩)
            · refine g_bipush (v := (-6)) dX8_refusalOfCell_62 (by decide +kernel) ?_
              exact g_iret dX8_refusalOfCell_64 rfl ⟨Nat.zero_le _, Nat.zero_le _⟩ (⟨by unfold rCell; rw [if_neg (not_not_intro (of_decide_eq_true c24)), if_neg c31, if_neg (fun z => by rcases z with z | z; exact c38 z; exact absurd z (Int32.not_lt.mpr c43)), if_pos (by first | exact Or.inl c52 | exact Or.inr (Int32.not_le.mp c59))], rfl⟩)
        · refine g_bipush (v := (-4)) dX8_refusalOfCell_46 (by decide +kernel) ?_
          exact g_iret dX8_refusalOfCell_48 rfl ⟨Nat.zero_le _, Nat.zero_le _⟩ (⟨by unfold rCell; rw [if_neg (not_not_intro (of_decide_eq_true c24)), if_neg c31, if_pos (by first | exact Or.inl c38 | exact Or.inr (Int32.not_le.mp c43))], rfl⟩)
    · refine g_iconst (v := nI 0) dX8_refusalOfCell_34 (by decide +kernel) ?_
      exact g_iret dX8_refusalOfCell_35 rfl ⟨Nat.zero_le _, Nat.zero_le _⟩ (⟨by unfold rCell; rw [if_neg (not_not_intro (of_decide_eq_true c24)), if_pos c31]; rfl, rfl⟩)
  · refine g_iconst (v := (-1)) dX8_refusalOfCell_27 (by decide +kernel) ?_
    exact g_iret dX8_refusalOfCell_28 rfl ⟨Nat.zero_le _, Nat.zero_le _⟩ (⟨by unfold rCell; rw [if_pos (of_decide_eq_false c24)], rfl⟩)

set_option maxRecDepth 100000 in
set_option maxHeartbeats 4000000 in
theorem ev_x_cell {h : List aC} {σ : Sg} (H : RC h σ) (ok : okSg σ) (r c x y : Int32) : Ev mX8_cell 3 0 0 [.ref 0, .int r, .int c, .int x, .int y] h (sp h (oCell σ r c x y)) := by
  obtain ⟨hO0, hS, ⟨ci, hI, hI2⟩, ⟨cd, hDr⟩, hLt, hL, hH, ⟨⟨sw_, sc_, sgs, sgk, hX⟩, ⟨xn, xm, xF, xS, xA, hXP⟩⟩, ⟨tn, tm, tF, tS, tA, hTh⟩, ⟨pn, pm, pF, pS, pA, hSp⟩, hRf⟩ := id H
  obtain ⟨hO1, F, S, A, K, U, C, T, hP, hf, hT, ht, hR, hC, hl⟩ := id hS
  have hO1 : rd h 1 = some (.inr (6, [.ref 2, .ref 6, .ref 9])) := hO1
  have hP : PA h 2 _ _ F S A := hP
  have hT : TA h 6 _ K U := hT
  have hR : RA h 9 _ C T := hR
  obtain ⟨-, -, -, -, lF, lS, lA⟩ := id hP
  obtain ⟨-, -, -, lK, lU⟩ := id hT
  obtain ⟨-, -, -, lC, lT⟩ := id hR
  obtain ⟨okc, ⟨okl, okw⟩, okn, ⟨okh, oke⟩, oki, okr⟩ := id ok
  obtain ⟨k1, k2, k3, k4, k5, k6, k7, k8, k9⟩ := id okc
  have hbn : bnd σ.1.1 σ.1.2.1 F S A := okc.bnd hf
  refine Ev.of pX8_cell (Nat.le_of_ble_eq_true rfl) ?_
  show G mX8_cell (rmD 3 0 0) none _ 0 0 0 [(0, .ref 0), (1, .int r), (2, .int c), (3, .int x), (4, .int y)] [] h
  obtain ⟨nx1, o1⟩ := HR.o hH
  refine g_aload_n dX8_cell_0 0 rfl ?_
  refine g_iload_n dX8_cell_1 1 rfl ?_
  refine g_iload_n dX8_cell_2 2 rfl ?_
  refine g_iload_n dX8_cell_3 3 rfl ?_
  refine g_iload dX8_cell_4 4 rfl ?_
  refine g_callVp dX8_cell_6 (ev_rCell H ok r c x y) oX8_refusalOfCell wiX8_refusalOfCell weX8_refusalOfCell wmX8_183 kX8 (hO0) rfl ⟨(Nat.le_of_ble_eq_true rfl), (Nat.le_of_ble_eq_true rfl)⟩ ⟨Nat.zero_le _, Nat.zero_le _⟩ (Nat.le_of_ble_eq_true rfl) rfl ?_
  refine g_istore (ls' := [(5, .int (rCell σ.1.1 r c x y)), (0, .ref 0), (1, .int r), (2, .int c), (3, .int x), (4, .int y)]) dX8_cell_9 (Nat.le_of_ble_eq_true rfl) rfl ?_
  refine g_iload dX8_cell_11 0 rfl ?_
  refine g_if_eq 23 dX8_cell_13 (by decide) (fun c13 => ?_) (fun c13 => ?_)
  · rw [show oCell σ r c x y = (nI (if σ.1.2.2.2.2.2 r.toNatClampNeg c.toNatClampNeg = 0 then 0 else 1), ((σ.1.1, σ.1.2.1, σ.1.2.2.1, σ.1.2.2.2.1, σ.1.2.2.2.2.1, u2 σ.1.2.2.2.2.2 r.toNatClampNeg c.toNatClampNeg (vC x y)), σ.2.1, σ.2.2.1, (σ.1.2.2.1, σ.1.2.2.2.2.2) :: σ.2.2.2.1.take 11, σ.2.2.2.2)) from if_pos c13]
    obtain ⟨⟨g1, g2, g3, g4⟩, g0⟩ := rCell_in c13
    have gv := vC_lt k2 c13
    clear c13
    obtain ⟨r1, hr1, rfl⟩ := nn_of g1
    obtain ⟨c1, hc1, rfl⟩ := nn_of g3
    rw [cl_ hr1, cl_ hc1]
    have g2 := nn_lt hr1 (by omega) g2
    have g4 := nn_lt hc1 (by omega) g4
    have g5 := pl_lt k2 g2 g4
    refine g_aload_n dX8_cell_23 1 rfl ?_
    refine g_getf dX8_cell_24 kX8 wfX8_10 (Nat.le_of_ble_eq_true rfl) (hO0) rfl ?_
    refine g_getf dX8_cell_27 kX6 wfX8_173 (Nat.le_of_ble_eq_true rfl) (hO1) rfl ?_
    refine g_iload_n dX8_cell_30 2 rfl ?_
    refine g_iload_n dX8_cell_31 3 rfl ?_
    refine g_callVp dX8_cell_32 (ev_placeOf hR r1 c1) oX4_placeOf wiX4_placeOf weX4_placeOf wmX8_187 kX4 (hR.1) rfl ⟨(Nat.le_of_ble_eq_true rfl), (Nat.le_of_ble_eq_true rfl)⟩ ⟨Nat.zero_le _, Nat.zero_le _⟩ (Nat.le_of_ble_eq_true rfl) rfl ?_
    refine g_istore (ls' := [(6, .int (nI (r1 * σ.1.1 + c1))), (5, .int (rCell σ.1.1 (nI r1) (nI c1) x y)), (0, .ref 0), (1, .int (nI r1)), (2, .int (nI c1)), (3, .int x), (4, .int y)]) dX8_cell_35 (Nat.le_of_ble_eq_true rfl) rfl ?_
    refine g_aload_n dX8_cell_37 2 rfl ?_
    refine g_getf dX8_cell_38 kX8 wfX8_10 (Nat.le_of_ble_eq_true rfl) (hO0) rfl ?_
    refine g_getf dX8_cell_41 kX6 wfX8_173 (Nat.le_of_ble_eq_true rfl) (hO1) rfl ?_
    refine g_getf dX8_cell_44 kX4 wfX8_190 (Nat.le_of_ble_eq_true rfl) (hR.1) rfl ?_
    refine g_iload dX8_cell_47 0 rfl ?_
    refine g_ialN dX8_cell_49 (hR.2.1) (by rw [lC]; exact g5) (by omega) ?_
    refine g_top (congrArg nI (hC r1 c1 g2 g4)) ?_
    refine g_istore (ls' := [(7, .int (nI (σ.1.2.2.2.2.2 r1 c1))), (6, .int (nI (r1 * σ.1.1 + c1))), (5, .int (rCell σ.1.1 (nI r1) (nI c1) x y)), (0, .ref 0), (1, .int (nI r1)), (2, .int (nI c1)), (3, .int x), (4, .int y)]) dX8_cell_50 (Nat.le_of_ble_eq_true rfl) rfl ?_
    refine g_aload_n dX8_cell_52 3 rfl ?_
    refine g_getf dX8_cell_53 kX8 wfX8_43 (Nat.le_of_ble_eq_true rfl) (hO0) rfl ?_
    refine g_aload_n dX8_cell_56 3 rfl ?_
    refine g_getf dX8_cell_57 kX8 wfX8_10 (Nat.le_of_ble_eq_true rfl) (hO0) rfl ?_
    refine g_getf dX8_cell_60 kX6 wfX8_97 (Nat.le_of_ble_eq_true rfl) (hO1) rfl ?_
    refine g_iload dX8_cell_63 1 rfl ?_
    refine g_iload dX8_cell_65 0 rfl ?_
    refine g_callVq (st1 := []) dX8_cell_67 (hx_keepCell hH hP (by omega) hf g2 g4 (by rw [← hC r1 c1 g2 g4]; exact hl _ g5) (vC x y)) oX0_keepCell wiX0_keepCell weX0_keepCell wmX8_193 kX0 (o1) rfl ⟨(Nat.le_of_ble_eq_true rfl), (Nat.le_of_ble_eq_true rfl)⟩ ⟨Nat.zero_le _, Nat.zero_le _⟩ (Nat.le_of_ble_eq_true rfl) rfl rfl (fun h2 q2 => ?_)
    obtain ⟨q2a, q2s⟩ := q2
    obtain ⟨nx3, o3⟩ := HR.o q2a
    have b2_2 := hP.mv q2s (by omega)
    have b2_6 := hT.mv q2s (by omega)
    have b2_9 := hR.mv q2s (by omega)
    have b2_12 := hI.mv q2s (by omega)
    have b2_23 := hDr.mv q2s (by omega)
    have b2_34 := hLt.mv q2s (by omega)
    have b2_36 := hL.mv q2s (by omega)
    have b2_84 := hX.mv q2s (by omega)
    have b2_85 := hXP.mv q2s (by omega)
    have b2_89 := hTh.mv q2s (by omega)
    have b2_93 := hSp.mv q2s (by omega)
    have f2_0 : rd h2 0 = some (.inr (8, [.ref 1, .ref 12, .ref 23, .int (nI (bI σ.2.2.2.2.1.isSome)), .ref 34, .ref 36, .ref 42, .ref 84, .ref 89, .ref 93, .ref 97])) := by rw [q2s _ (by omega)]; exact hO0
    have f2_1 : rd h2 1 = some (.inr (6, [.ref 2, .ref 6, .ref 9])) := by rw [q2s _ (by omega)]; exact hO1
    have f2_97 : rd h2 97 = some (.inl (σ.2.2.2.2.2)) := by rw [q2s _ (by omega)]; exact hRf
    refine g_aload_n dX8_cell_70 3 rfl ?_
    refine g_getf dX8_cell_71 kX8 wfX8_10 (Nat.le_of_ble_eq_true rfl) (f2_0) rfl ?_
    refine g_getf dX8_cell_74 kX6 wfX8_173 (Nat.le_of_ble_eq_true rfl) (f2_1) rfl ?_
    refine g_getf dX8_cell_77 kX4 wfX8_190 (Nat.le_of_ble_eq_true rfl) (b2_9.1) rfl ?_
    refine g_iload dX8_cell_80 1 rfl ?_
    refine g_iload_n dX8_cell_82 6 rfl ?_
    refine g_if_ge 90 dX8_cell_83 (by decide) (fun c83 => ?_) (fun c83 => ?_)
    · obtain ⟨gy, g6, g7, -⟩ := g0 c83
      have ev : vC x y = cod x.toNatClampNeg y.toNatClampNeg := if_pos c83
      refine g_iload_n dX8_cell_90 6 rfl ?_
      refine g_iload dX8_cell_91 7 rfl ?_
      obtain ⟨x1, hx1, ex⟩ := nn_of c83
      obtain ⟨y1, hy1, ey⟩ := nn_of gy
      have b1 : ¬ σ.1.1 < x1 := by rw [ex, nI_ltI (by omega) hx1] at g6; exact g6
      have b2 : ¬ σ.1.1 < y1 := by rw [ey, nI_ltI (by omega) hy1] at g7; exact g7
      have zc : ∀ hq, Ev mX4_codeOf 2 0 0 [.int x, .int y] hq (pv (.int (nI (vC x y))) hq) := fun hq => by rw [ev, ex, ey, cl_ hx1, cl_ hy1]; exact ev_codeOf x1 y1 (by omega) (by omega) _
      refine g_callSp dX8_cell_93 (zc _) oX4_codeOf wsX4_codeOf wmX8_197 rfl ⟨(Nat.le_of_ble_eq_true rfl), (Nat.le_of_ble_eq_true rfl)⟩ ⟨Nat.zero_le _, Nat.zero_le _⟩ (Nat.le_of_ble_eq_true rfl) rfl ?_
      refine g_iasN dX8_cell_96 (b2_9.2.1) (by rw [lC]; exact g5) (by omega) (fun h4 e4 => ?_)
      have f4_10 : rd h4 10 = some (.inl (((C).set (r1 * σ.1.1 + c1) (vC x y)).map nI)) := by rw [e4]; exact rd_wr_eq (b2_9.2.1)
      have s4 : Smo 10 (10 + 1) h2 h4 := by rw [e4]; exact Smo.wr (by omega) (by omega)
      have b4_2 := b2_2.mv s4 (by omega)
      have b4_6 := b2_6.mv s4 (by omega)
      have b4_12 := b2_12.mv s4 (by omega)
      have b4_23 := b2_23.mv s4 (by omega)
      have b4_42 := q2a.mv s4 (by omega)
      obtain ⟨nx5, o5⟩ := HR.o b4_42
      have b4_34 := b2_34.mv s4 (by omega)
      have b4_36 := b2_36.mv s4 (by omega)
      have b4_84 := b2_84.mv s4 (by omega)
      have b4_85 := b2_85.mv s4 (by omega)
      have b4_89 := b2_89.mv s4 (by omega)
      have b4_93 := b2_93.mv s4 (by omega)
      have f4_0 : rd h4 0 = some (.inr (8, [.ref 1, .ref 12, .ref 23, .int (nI (bI σ.2.2.2.2.1.isSome)), .ref 34, .ref 36, .ref 42, .ref 84, .ref 89, .ref 93, .ref 97])) := by rw [s4 _ (by omega)]; exact f2_0
      have f4_1 : rd h4 1 = some (.inr (6, [.ref 2, .ref 6, .ref 9])) := by rw [s4 _ (by omega)]; exact f2_1
      have f4_9 : rd h4 9 = some (.inr (4, [.ref 10, .ref 11, .int (nI σ.1.1)])) := by rw [s4 _ (by omega)]; exact b2_9.1
      have f4_11 : rd h4 11 = some (.inl (T)) := by rw [s4 _ (by omega)]; exact b2_9.2.2.1
      have f4_97 : rd h4 97 = some (.inl (σ.2.2.2.2.2)) := by rw [s4 _ (by omega)]; exact f2_97
      have H6 : RA h4 9 σ.1.1 (C.set (r1 * σ.1.1 + c1) (vC x y)) T := ⟨f4_9, f4_10, f4_11, List.length_set.trans lC, lT⟩
      refine g_iload dX8_cell_97 0 rfl ?_
      refine g_if_eqN 106 dX8_cell_99 (by decide) (by have := hl _ g5; rw [hC r1 c1 g2 g4] at this; omega) (fun c99 => ?_) (fun c99 => ?_)
      · refine g_iconst (v := nI 0) dX8_cell_106 (by decide +kernel) ?_
        refine g_callSp dX8_cell_107 (ev_bit false _) oX8_bit wsX8_bit wmX8_136 rfl ⟨(Nat.le_of_ble_eq_true rfl), (Nat.le_of_ble_eq_true rfl)⟩ ⟨Nat.zero_le _, Nat.zero_le _⟩ (Nat.le_of_ble_eq_true rfl) rfl ?_
        exact g_iret dX8_cell_110 rfl ⟨Nat.zero_le _, Nat.zero_le _⟩ (⟨by rw [if_pos c99]; rfl, ⟨f4_0, ⟨f4_1, _, _, _, _, _, _, _, b4_2, hf, b4_6, ht, H6, (hC.set lC (by omega) g2 g4), (fun i hi => by by_cases q : r1 * σ.1.1 + c1 = i; (rw [← q, setK_eq (by rw [lC]; exact g5)]; exact gv); (rw [setK_ne q]; exact hl i hi))⟩, ⟨_, b4_12, hI2⟩, ⟨_, b4_23⟩, b4_34, b4_36, b4_42, ⟨⟨_, _, _, _, b4_84⟩, ⟨_, _, _, _, _, b4_85⟩⟩, ⟨_, _, _, _, _, b4_89⟩, ⟨_, _, _, _, _, b4_93⟩, f4_97⟩, (fun q hq => by rw [s4 q (by omega), q2s q (by omega)])⟩)
      · refine g_iconst (v := nI 1) dX8_cell_102 (by decide +kernel) ?_
        refine g_goto 107 dX8_cell_103 (by decide) ?_
        refine g_callSp dX8_cell_107 (ev_bit true _) oX8_bit wsX8_bit wmX8_136 rfl ⟨(Nat.le_of_ble_eq_true rfl), (Nat.le_of_ble_eq_true rfl)⟩ ⟨Nat.zero_le _, Nat.zero_le _⟩ (Nat.le_of_ble_eq_true rfl) rfl ?_
        exact g_iret dX8_cell_110 rfl ⟨Nat.zero_le _, Nat.zero_le _⟩ (⟨by rw [if_neg (by omega)]; rfl, ⟨f4_0, ⟨f4_1, _, _, _, _, _, _, _, b4_2, hf, b4_6, ht, H6, (hC.set lC (by omega) g2 g4), (fun i hi => by by_cases q : r1 * σ.1.1 + c1 = i; (rw [← q, setK_eq (by rw [lC]; exact g5)]; exact gv); (rw [setK_ne q]; exact hl i hi))⟩, ⟨_, b4_12, hI2⟩, ⟨_, b4_23⟩, b4_34, b4_36, b4_42, ⟨⟨_, _, _, _, b4_84⟩, ⟨_, _, _, _, _, b4_85⟩⟩, ⟨_, _, _, _, _, b4_89⟩, ⟨_, _, _, _, _, b4_93⟩, f4_97⟩, (fun q hq => by rw [s4 q (by omega), q2s q (by omega)])⟩)
    · refine g_iconst (v := nI 0) dX8_cell_86 (by decide +kernel) ?_
      refine g_top (show nI 0 = nI (vC x y) from congrArg nI (if_neg c83).symm) ?_
      refine g_goto 96 dX8_cell_87 (by decide) ?_
      refine g_iasN dX8_cell_96 (b2_9.2.1) (by rw [lC]; exact g5) (by omega) (fun h7 e7 => ?_)
      have f7_10 : rd h7 10 = some (.inl (((C).set (r1 * σ.1.1 + c1) (vC x y)).map nI)) := by rw [e7]; exact rd_wr_eq (b2_9.2.1)
      have s7 : Smo 10 (10 + 1) h2 h7 := by rw [e7]; exact Smo.wr (by omega) (by omega)
      have b7_2 := b2_2.mv s7 (by omega)
      have b7_6 := b2_6.mv s7 (by omega)
      have b7_12 := b2_12.mv s7 (by omega)
      have b7_23 := b2_23.mv s7 (by omega)
      have b7_42 := q2a.mv s7 (by omega)
      obtain ⟨nx8, o8⟩ := HR.o b7_42
      have b7_34 := b2_34.mv s7 (by omega)
      have b7_36 := b2_36.mv s7 (by omega)
      have b7_84 := b2_84.mv s7 (by omega)
      have b7_85 := b2_85.mv s7 (by omega)
      have b7_89 := b2_89.mv s7 (by omega)
      have b7_93 := b2_93.mv s7 (by omega)
      have f7_0 : rd h7 0 = some (.inr (8, [.ref 1, .ref 12, .ref 23, .int (nI (bI σ.2.2.2.2.1.isSome)), .ref 34, .ref 36, .ref 42, .ref 84, .ref 89, .ref 93, .ref 97])) := by rw [s7 _ (by omega)]; exact f2_0
      have f7_1 : rd h7 1 = some (.inr (6, [.ref 2, .ref 6, .ref 9])) := by rw [s7 _ (by omega)]; exact f2_1
      have f7_9 : rd h7 9 = some (.inr (4, [.ref 10, .ref 11, .int (nI σ.1.1)])) := by rw [s7 _ (by omega)]; exact b2_9.1
      have f7_11 : rd h7 11 = some (.inl (T)) := by rw [s7 _ (by omega)]; exact b2_9.2.2.1
      have f7_97 : rd h7 97 = some (.inl (σ.2.2.2.2.2)) := by rw [s7 _ (by omega)]; exact f2_97
      have H9 : RA h7 9 σ.1.1 (C.set (r1 * σ.1.1 + c1) (vC x y)) T := ⟨f7_9, f7_10, f7_11, List.length_set.trans lC, lT⟩
      refine g_iload dX8_cell_97 0 rfl ?_
      refine g_if_eqN 106 dX8_cell_99 (by decide) (by have := hl _ g5; rw [hC r1 c1 g2 g4] at this; omega) (fun c99 => ?_) (fun c99 => ?_)
      · refine g_iconst (v := nI 0) dX8_cell_106 (by decide +kernel) ?_
        refine g_callSp dX8_cell_107 (ev_bit false _) oX8_bit wsX8_bit wmX8_136 rfl ⟨(Nat.le_of_ble_eq_true rfl), (Nat.le_of_ble_eq_true rfl)⟩ ⟨Nat.zero_le _, Nat.zero_le _⟩ (Nat.le_of_ble_eq_true rfl) rfl ?_
        exact g_iret dX8_cell_110 rfl ⟨Nat.zero_le _, Nat.zero_le _⟩ (⟨by rw [if_pos c99]; rfl, ⟨f7_0, ⟨f7_1, _, _, _, _, _, _, _, b7_2, hf, b7_6, ht, H9, (hC.set lC (by omega) g2 g4), (fun i hi => by by_cases q : r1 * σ.1.1 + c1 = i; (rw [← q, setK_eq (by rw [lC]; exact g5)]; exact gv); (rw [setK_ne q]; exact hl i hi))⟩, ⟨_, b7_12, hI2⟩, ⟨_, b7_23⟩, b7_34, b7_36, b7_42, ⟨⟨_, _, _, _, b7_84⟩, ⟨_, _, _, _, _, b7_85⟩⟩, ⟨_, _, _, _, _, b7_89⟩, ⟨_, _, _, _, _, b7_93⟩, f7_97⟩, (fun q hq => by rw [s7 q (by omega), q2s q (by omega)])⟩)
      · refine g_iconst (v := nI 1) dX8_cell_102 (by decide +kernel) ?_
        refine g_goto 107 dX8_cell_103 (by decide) ?_
        refine g_callSp dX8_cell_107 (ev_bit true _) oX8_bit wsX8_bit wmX8_136 rfl ⟨(Nat.le_of_ble_eq_true rfl), (Nat.le_of_ble_eq_true rfl)⟩ ⟨Nat.zero_le _, Nat.zero_le _⟩ (Nat.le_of_ble_eq_true rfl) rfl ?_
        exact g_iret dX8_cell_110 rfl ⟨Nat.zero_le _, Nat.zero_le _⟩ (⟨by rw [if_neg (by omega)]; rfl, ⟨f7_0, ⟨f7_1, _, _, _, _, _, _, _, b7_2, hf, b7_6, ht, H9, (hC.set lC (by omega) g2 g4), (fun i hi => by by_cases q : r1 * σ.1.1 + c1 = i; (rw [← q, setK_eq (by rw [lC]; exact g5)]; exact gv); (rw [setK_ne q]; exact hl i hi))⟩, ⟨_, b7_12, hI2⟩, ⟨_, b7_23⟩, b7_34, b7_36, b7_42, ⟨⟨_, _, _, _, b7_84⟩, ⟨_, _, _, _, _, b7_85⟩⟩, ⟨_, _, _, _, _, b7_89⟩, ⟨_, _, _, _, _, b7_93⟩, f7_97⟩, (fun q hq => by rw [s7 q (by omega), q2s q (by omega)])⟩)
  · refine g_aload_n dX8_cell_16 1 rfl ?_
    refine g_iload dX8_cell_17 0 rfl ?_
    rw [show oCell σ r c x y = rfS σ (rCell σ.1.1 r c x y) from if_neg c13]
    refine g_callVq (st1 := [.int (rCell σ.1.1 r c x y)]) dX8_cell_19 (ev_refuseR H ok ((rCell_no _ r c x y)) c13) oX8_refuse wiX8_refuse weX8_refuse wmX8_68 kX8 (hO0) rfl ⟨(Nat.le_of_ble_eq_true rfl), (Nat.le_of_ble_eq_true rfl)⟩ ⟨Nat.zero_le _, Nat.zero_le _⟩ (Nat.le_of_ble_eq_true rfl) rfl rfl (fun h10 q10 => ?_)
    exact g_iret dX8_cell_22 rfl ⟨Nat.zero_le _, Nat.zero_le _⟩ (⟨rfl, q10⟩)
