theorem nAh_ext {n d : Nat} {F S F2 S2 : List Nat} : ∀ j k, (∀ i, i < k + j → F.getD i 0 = F2.getD i 0 ∧ S.getD i 0 = S2.getD i 0) → nAh n F S d j k = nAh n F2 S2 d j k
  | 0, _, _ => rfl
  | j + 1, k, h => by
    rw [nAh_step, nAh_step, (h k (by omega)).1, (h k (by omega)).2, nAh_ext j (k + 1) (fun i hi => h i (by omega))]
theorem shF_ext {n m d q : Nat} {F S F2 S2 G T G2 T2 : List Nat} (h : ∀ i, i < m → F.getD i 0 = F2.getD i 0 ∧ S.getD i 0 = S2.getD i 0) (h2 : ∀ i, i < q → G.getD i 0 = G2.getD i 0 ∧ T.getD i 0 = T2.getD i 0) : shF n m F S q G T d = shF n m F2 S2 q G2 T2 d := by
  unfold shF
  rw [nAh_ext m 0 (fun i hi => h i (by omega)), nAh_ext q 0 (fun i hi => h2 i (by omega))]
theorem shB_ext {n m q : Nat} {F S F2 S2 G T G2 T2 : List Nat} (h : ∀ i, i < m → F.getD i 0 = F2.getD i 0 ∧ S.getD i 0 = S2.getD i 0) (h2 : ∀ i, i < q → G.getD i 0 = G2.getD i 0 ∧ T.getD i 0 = T2.getD i 0) : ∀ d, shB n m F S q G T d = shB n m F2 S2 q G2 T2 d
  | 0 => rfl
  | d + 1 => by
    show shB n m F S q G T d ||| 2 ^ shF n m F S q G T (d + 1) = shB n m F2 S2 q G2 T2 d ||| 2 ^ shF n m F2 S2 q G2 T2 (d + 1)
    rw [shB_ext h h2 d, shF_ext h h2]
theorem rtB_ext {n m q : Nat} {F S F2 S2 G T G2 T2 : List Nat} (h : ∀ i, i < m → F.getD i 0 = F2.getD i 0 ∧ S.getD i 0 = S2.getD i 0) (h2 : ∀ i, i < q → G.getD i 0 = G2.getD i 0 ∧ T.getD i 0 = T2.getD i 0) : rtB n m F S q G T = rtB n m F2 S2 q G2 T2 := by
  unfold rtB
  rw [shB_ext h h2]
/-- the book -/
def fB (n : Nat) : Nat → Pr := fun k => (k + 1, n - (k + 1), 0)
theorem bk_f {F S A : List Nat} {n q : Nat} (lF : F.length = 6) (lS : S.length = 6) (lA : A.length = 6) (hq : q ≤ 6) : ∀ i, i < q → fOf (bkF F q) (bkS S n q) (bkA A q) i = fB n i := fun i hi => by
  unfold fOf fB
  rw [bkF_at lF q hq i hi, bkS_at lS q hq i hi, bkA_at lA q hq i hi]
theorem bk_bnd {F S A : List Nat} {n q : Nat} (lF : F.length = 6) (lS : S.length = 6) (lA : A.length = 6) (hq : q ≤ 6) (h0 : q + 1 ≤ n) : bnd n q (bkF F q) (bkS S n q) (bkA A q) := fun i hi => by
  rw [bkF_at lF q hq i hi, bkS_at lS q hq i hi, bkA_at lA q hq i hi]
  omega
def oRight (σ : Sg) (x : Int32) : Int32 × Sg := if 0 ≤ x then (if x ≤ nI ((σ.1.1 - 1) / 2) then (if isSt σ.1.1 σ.1.2.1 (qF σ.1.2.2.1) (qS σ.1.2.2.1) = true then (if x.toNatClampNeg = 0 then nI (bI (rtB σ.1.1 σ.1.2.1 (qF σ.1.2.2.1) (qS σ.1.2.2.1) ((σ.1.1 - 1) / 2) (qF (fB σ.1.1)) (qS (fB σ.1.1)))) else nI (shF σ.1.1 σ.1.2.1 (qF σ.1.2.2.1) (qS σ.1.2.2.1) ((σ.1.1 - 1) / 2) (qF (fB σ.1.1)) (qS (fB σ.1.1)) x.toNatClampNeg), σ) else rfS σ (-3)) else rfS σ (-6)) else rfS σ (-4)

set_option maxRecDepth 100000 in
set_option maxHeartbeats 4000000 in
theorem ev_x_right {h : List aC} {σ : Sg} (H : RC h σ) (ok : okSg σ) (x : Int32) : Ev mX8_right 6 0 0 [.ref 0, .int x] h (sp h (oRight σ x)) := by
  obtain ⟨hO0, hS, ⟨ci, hI, hI2⟩, ⟨cd, hDr⟩, hLt, hL, hH, ⟨⟨sw_, sc_, sgs, sgk, hX⟩, ⟨xn, xm, xF, xS, xA, hXP⟩⟩, ⟨tn, tm, tF, tS, tA, hTh⟩, ⟨pn, pm, pF, pS, pA, hSp⟩, hRf⟩ := id H
  obtain ⟨hO1, F, S, A, K, U, C, T, hP, hf, hT, ht, hR, hC, hl⟩ := id hS
  have hO1 : rd h 1 = some (.inr (6, [.ref 2, .ref 6, .ref 9])) := hO1
  have hP : PA h 2 _ _ F S A := hP
  have hT : TA h 6 _ K U := hT
  have hR : RA h 9 _ C T := hR
  obtain ⟨-, -, -, -, lF, lS, lA⟩ := id hP
  obtain ⟨-, -, -, lK, lU⟩ := id hT
  obtain ⟨-, -, -, lC, lT⟩ := id hR
  obtain ⟨okc, ⟨okl, okw⟩, okn, ⟨okh, oke⟩, oki, okr⟩ := id ok
  obtain ⟨k1, k2, k3, k4, k5, k6, k7, k8, k9⟩ := id okc
  have hbn : bnd σ.1.1 σ.1.2.1 F S A := okc.bnd hf
  refine Ev.of pX8_right (Nat.le_of_ble_eq_true rfl) ?_
  show G mX8_right (rmD 6 0 0) none _ 0 0 0 [(0, .ref 0), (1, .int x)] [] h
  obtain ⟨nx1, o1⟩ := HR.o hH
  refine g_aload_n dX8_right_0 0 rfl ?_
  refine g_getf dX8_right_1 kX8 wfX8_10 (Nat.le_of_ble_eq_true rfl) (hO0) rfl ?_
  refine g_getf dX8_right_4 kX6 wfX8_97 (Nat.le_of_ble_eq_true rfl) (hO1) rfl ?_
  refine g_astore_n (ls' := [(2, .ref 2), (0, .ref 0), (1, .int x)]) dX8_right_7 (Nat.le_of_ble_eq_true rfl) rfl ?_
  refine g_iload_n dX8_right_8 2 rfl ?_
  refine g_if_ge 19 dX8_right_9 (by decide) (fun c9 => ?_) (fun c9 => ?_)
  · rw [show oRight σ x = _ from if_pos c9]
    refine g_iload_n dX8_right_19 2 rfl ?_
    refine g_aload_n dX8_right_20 0 rfl ?_
    refine g_callVp dX8_right_21 (ev_most hP (by omega)) oX3_most wiX3_most weX3_most wmX8_155 kX3 (hP.1) rfl ⟨(Nat.le_of_ble_eq_true rfl), (Nat.le_of_ble_eq_true rfl)⟩ ⟨Nat.zero_le _, Nat.zero_le _⟩ (Nat.le_of_ble_eq_true rfl) rfl ?_
    refine g_icmp_le 34 dX8_right_24 (by decide) (fun c24 => ?_) (fun c24 => ?_)
    · rw [if_pos c24]
      refine g_aload_n dX8_right_34 0 rfl ?_
      refine g_callVp dX8_right_35 (ev_areStarter hP (by omega) (by omega) hbn (by omega)) oX3_areStarter wiX3_areStarter weX3_areStarter wmX8_158 kX3 (hP.1) rfl ⟨(Nat.le_of_ble_eq_true rfl), (Nat.le_of_ble_eq_true rfl)⟩ ⟨Nat.zero_le _, Nat.zero_le _⟩ (Nat.le_of_ble_eq_true rfl) rfl ?_
      refine g_top (congrArg (fun z => nI (bI z)) (isSt_ext (lFS hf (by omega)))) ?_
      refine g_if_neB 48 dX8_right_38 (by decide) (fun c38 => ?_) (fun c38 => ?_)
      · rw [if_pos c38]
        obtain ⟨x1, hx1, rfl⟩ := nn_of c9
        rw [cl_ hx1]
        obtain ⟨-, -, -, -, lF6, lS6, lA6⟩ := id hTh
        refine g_aload_n dX8_right_48 1 rfl ?_
        refine g_getf dX8_right_49 kX8 wfX8_57 (Nat.le_of_ble_eq_true rfl) (hO0) rfl ?_
        refine g_aload_n dX8_right_52 0 rfl ?_
        refine g_getf dX8_right_53 kX3 wfX8_100 (Nat.le_of_ble_eq_true rfl) (hP.1) rfl ?_
        refine g_callVq (st1 := []) dX8_right_56 (ev_becomeBook hTh σ.1.1 (by omega)) oX3_becomeBook wiX3_becomeBook weX3_becomeBook wmX8_140 kX3 (hTh.1) rfl ⟨(Nat.le_of_ble_eq_true rfl), (Nat.le_of_ble_eq_true rfl)⟩ ⟨Nat.zero_le _, Nat.zero_le _⟩ (Nat.le_of_ble_eq_true rfl) rfl rfl (fun h2 q2 => ?_)
        obtain ⟨q2a, q2s⟩ := q2
        have b2_2 := hP.mv q2s (by omega)
        have b2_6 := hT.mv q2s (by omega)
        have b2_9 := hR.mv q2s (by omega)
        have b2_12 := hI.mv q2s (by omega)
        have b2_23 := hDr.mv q2s (by omega)
        have b2_42 := hH.mv q2s (by omega)
        obtain ⟨nx3, o3⟩ := HR.o b2_42
        have b2_34 := hLt.mv q2s (by omega)
        have b2_36 := hL.mv q2s (by omega)
        have b2_84 := hX.mv q2s (by omega)
        have b2_85 := hXP.mv q2s (by omega)
        have b2_93 := hSp.mv q2s (by omega)
        have f2_0 : rd h2 0 = some (.inr (8, [.ref 1, .ref 12, .ref 23, .int (nI (bI σ.2.2.2.2.1.isSome)), .ref 34, .ref 36, .ref 42, .ref 84, .ref 89, .ref 93, .ref 97])) := by rw [q2s _ (by omega)]; exact hO0
        have f2_1 : rd h2 1 = some (.inr (6, [.ref 2, .ref 6, .ref 9])) := by rw [q2s _ (by omega)]; exact hO1
        have f2_97 : rd h2 97 = some (.inl (σ.2.2.2.2.2)) := by rw [q2s _ (by omega)]; exact hRf
        refine g_iload_n dX8_right_59 2 rfl ?_
        refine g_if_neN 77 dX8_right_60 (by decide) hx1 (fun c60 => ?_) (fun c60 => ?_)
        · refine g_aload_n dX8_right_77 0 rfl ?_
          refine g_aload_n dX8_right_78 1 rfl ?_
          refine g_getf dX8_right_79 kX8 wfX8_57 (Nat.le_of_ble_eq_true rfl) (f2_0) rfl ?_
          refine g_iload_n dX8_right_82 2 rfl ?_
          have b7 : x1 ≤ (σ.1.1 - 1) / 2 := (nI_leI hx1 (by omega)).mp c24
          refine g_callVp dX8_right_83 (ev_shift b2_2 (by omega) k2 hbn (by omega) q2a (by omega) (bk_bnd lF6 lS6 lA6 (by omega) (by omega)) x1 (by omega)) oX3_shiftFrom wiX3_shiftFrom weX3_shiftFrom wmX8_166 kX3 (b2_2.1) rfl ⟨(Nat.le_of_ble_eq_true rfl), (Nat.le_of_ble_eq_true rfl)⟩ ⟨Nat.zero_le _, Nat.zero_le _⟩ (Nat.le_of_ble_eq_true rfl) rfl ?_
          refine g_top (congrArg nI (shF_ext (lFS hf (by omega)) (lFS (bk_f lF6 lS6 lA6 (by omega)) (by omega)))) ?_
          exact g_iret dX8_right_86 rfl ⟨Nat.zero_le _, Nat.zero_le _⟩ (⟨by rw [if_neg (by omega)], ⟨f2_0, ⟨f2_1, _, _, _, _, _, _, _, b2_2, hf, b2_6, ht, b2_9, hC, hl⟩, ⟨_, b2_12, hI2⟩, ⟨_, b2_23⟩, b2_34, b2_36, b2_42, ⟨⟨_, _, _, _, b2_84⟩, ⟨_, _, _, _, _, b2_85⟩⟩, ⟨_, _, _, _, _, q2a⟩, ⟨_, _, _, _, _, b2_93⟩, f2_97⟩, (fun q hq => by rw [q2s q (by omega)])⟩)
        · refine g_aload_n dX8_right_63 0 rfl ?_
          refine g_aload_n dX8_right_64 1 rfl ?_
          refine g_getf dX8_right_65 kX8 wfX8_57 (Nat.le_of_ble_eq_true rfl) (f2_0) rfl ?_
          refine g_callVp dX8_right_68 (ev_right b2_2 (by omega) k2 hbn (by omega) q2a (by omega) (bk_bnd lF6 lS6 lA6 (by omega) (by omega))) oX3_areRightTo wiX3_areRightTo weX3_areRightTo wmX8_162 kX3 (b2_2.1) rfl ⟨(Nat.le_of_ble_eq_true rfl), (Nat.le_of_ble_eq_true rfl)⟩ ⟨Nat.zero_le _, Nat.zero_le _⟩ (Nat.le_of_ble_eq_true rfl) rfl ?_
          refine g_top (congrArg (fun z => nI (bI z)) (rtB_ext (lFS hf (by omega)) (lFS (bk_f lF6 lS6 lA6 (by omega)) (by omega)))) ?_
          refine g_callSp dX8_right_71 (ev_bit (rtB σ.1.1 σ.1.2.1 (qF σ.1.2.2.1) (qS σ.1.2.2.1) ((σ.1.1 - 1) / 2) (qF (fB σ.1.1)) (qS (fB σ.1.1))) _) oX8_bit wsX8_bit wmX8_136 rfl ⟨(Nat.le_of_ble_eq_true rfl), (Nat.le_of_ble_eq_true rfl)⟩ ⟨Nat.zero_le _, Nat.zero_le _⟩ (Nat.le_of_ble_eq_true rfl) rfl ?_
          refine g_goto 86 dX8_right_74 (by decide) ?_
          exact g_iret dX8_right_86 rfl ⟨Nat.zero_le _, Nat.zero_le _⟩ (⟨by rw [if_pos c60], ⟨f2_0, ⟨f2_1, _, _, _, _, _, _, _, b2_2, hf, b2_6, ht, b2_9, hC, hl⟩, ⟨_, b2_12, hI2⟩, ⟨_, b2_23⟩, b2_34, b2_36, b2_42, ⟨⟨_, _, _, _, b2_84⟩, ⟨_, _, _, _, _, b2_85⟩⟩, ⟨_, _, _, _, _, q2a⟩, ⟨_, _, _, _, _, b2_93⟩, f2_97⟩, (fun q hq => by rw [q2s q (by omega)])⟩)
      · refine g_aload_n dX8_right_41 1 rfl ?_
        refine g_bipush (v := (-3)) dX8_right_42 (by decide +kernel) ?_
        rw [if_neg (by rw [c38]; decide)]
        refine g_callVq (st1 := [.int (-nI 3)]) dX8_right_44 (ev_refuse H ok 3 (by unfold noN; omega)) oX8_refuse wiX8_refuse weX8_refuse wmX8_68 kX8 (hO0) rfl ⟨(Nat.le_of_ble_eq_true rfl), (Nat.le_of_ble_eq_true rfl)⟩ ⟨Nat.zero_le _, Nat.zero_le _⟩ (Nat.le_of_ble_eq_true rfl) rfl rfl (fun h4 q4 => ?_)
        exact g_iret dX8_right_47 rfl ⟨Nat.zero_le _, Nat.zero_le _⟩ (⟨rfl, q4⟩)
    · refine g_aload_n dX8_right_27 1 rfl ?_
      refine g_bipush (v := (-6)) dX8_right_28 (by decide +kernel) ?_
      rw [if_neg c24]
      refine g_callVq (st1 := [.int (-nI 6)]) dX8_right_30 (ev_refuse H ok 6 (by unfold noN; omega)) oX8_refuse wiX8_refuse weX8_refuse wmX8_68 kX8 (hO0) rfl ⟨(Nat.le_of_ble_eq_true rfl), (Nat.le_of_ble_eq_true rfl)⟩ ⟨Nat.zero_le _, Nat.zero_le _⟩ (Nat.le_of_ble_eq_true rfl) rfl rfl (fun h5 q5 => ?_)
      exact g_iret dX8_right_33 rfl ⟨Nat.zero_le _, Nat.zero_le _⟩ (⟨rfl, q5⟩)
  · refine g_aload_n dX8_right_12 1 rfl ?_
    refine g_bipush (v := (-4)) dX8_right_13 (by decide +kernel) ?_
    rw [show oRight σ x = rfS σ (-4) from if_neg c9]
    refine g_callVq (st1 := [.int (-nI 4)]) dX8_right_15 (ev_refuse H ok 4 (by unfold noN; omega)) oX8_refuse wiX8_refuse weX8_refuse wmX8_68 kX8 (hO0) rfl ⟨(Nat.le_of_ble_eq_true rfl), (Nat.le_of_ble_eq_true rfl)⟩ ⟨Nat.zero_le _, Nat.zero_le _⟩ (Nat.le_of_ble_eq_true rfl) rfl rfl (fun h6 q6 => ?_)
    exact g_iret dX8_right_18 rfl ⟨Nat.zero_le _, Nat.zero_le _⟩ (⟨rfl, q6⟩)

theorem EY_ext {β : Type} {r r2 : Nat → List β} {k k2 : Nat → Bool} : ∀ j y, (∀ z, k z = k2 z) → (∀ z, r z = r2 z) → EY r k j y = EY r2 k2 j y
  | 0, _, _, _ => rfl
  | j + 1, y, h1, h2 => by
    show (if k y = true then r y else []) ++ _ = (if k2 y = true then r2 y else []) ++ _
    rw [h1 y, h2 y, EY_ext j (y + 1) h1 h2]
theorem EY_mem {β : Type} {r : Nat → List β} {k : Nat → Bool} {b : β} : ∀ j y, b ∈ EY r k j y → ∃ z, y ≤ z ∧ z < y + j ∧ k z = true ∧ b ∈ r z
  | 0, _, h => by cases h
  | j + 1, y, h => by
    have h' : b ∈ (if k y = true then r y else []) ++ EY r k j (y + 1) := h
    rcases List.mem_append.mp h' with q | q
    · by_cases z : k y = true
      · rw [if_pos z] at q; exact ⟨y, Nat.le_refl _, by omega, z, q⟩
      · rw [if_neg z] at q; cases q
    · obtain ⟨z, h1, h2, h3, h4⟩ := EY_mem j (y + 1) q
      exact ⟨z, by omega, by omega, h3, h4⟩
theorem okV_ext {n : Nat} {F S F2 S2 acc : List Nat} (h : ∀ i, i < acc.length + 1 → F.getD i 0 = F2.getD i 0 ∧ S.getD i 0 = S2.getD i 0) (v : Nat) : okV n F S acc v = okV n F2 S2 acc v := by
  have e : ∀ t, shd n F S acc t = shd n F2 S2 acc t := fun t => by
    unfold shd
    rw [Bool.eq_iff_iff, List.any_eq_true, List.any_eq_true]
    constructor
    · rintro ⟨x, hx, y⟩; refine ⟨x, hx, ?_⟩; rw [← (h x (by have := List.mem_range.mp hx; omega)).1, ← (h x (by have := List.mem_range.mp hx; omega)).2]; exact y
    · rintro ⟨x, hx, y⟩; refine ⟨x, hx, ?_⟩; rw [(h x (by have := List.mem_range.mp hx; omega)).1, (h x (by have := List.mem_range.mp hx; omega)).2]; exact y
  unfold okV
  rw [e, e, (h acc.length (by omega)).1, (h acc.length (by omega)).2]
theorem EA_ext {n : Nat} {F S F2 S2 : List Nat} : ∀ d acc, (∀ i, i < acc.length + d → F.getD i 0 = F2.getD i 0 ∧ S.getD i 0 = S2.getD i 0) → EA n F S d acc = EA n F2 S2 d acc
  | 0, _, _ => rfl
  | d + 1, acc, h => EY_ext _ _ (fun v => okV_ext (fun i hi => h i (by omega)) v) (fun v => EA_ext d (acc ++ [v]) (fun i hi => h i (by rw [List.length_append, List.length_singleton] at hi; omega)))
theorem EA_mem {n : Nat} {F S : List Nat} {a : List Nat} : ∀ d acc, a ∈ EA n F S d acc → a.length = acc.length + d ∧ ∀ x ∈ a, x ∈ acc ∨ (1 ≤ x ∧ x < n)
  | 0, acc, h => by
    have e := List.mem_singleton.mp h
    subst e
    exact ⟨rfl, fun x hx => Or.inl hx⟩
  | d + 1, acc, h => by
    obtain ⟨z, h1, h2, h3, h4⟩ := EY_mem _ _ h
    obtain ⟨e1, e2⟩ := EA_mem d _ h4
    rw [List.length_append, List.length_singleton] at e1
    refine ⟨by omega, fun x hx => ?_⟩
    rcases e2 x hx with q | q
    · rcases List.mem_append.mp q with q | q
      · exact Or.inl q
      · have := List.mem_singleton.mp q; exact Or.inr (by omega)
    · exact Or.inr q
theorem E_mem {n : Nat} {l : List Pp} : ∀ d acc, l ∈ E n d acc → l.length = acc.length + d
  | 0, acc, h => by
    have e := List.mem_singleton.mp h
    subst e; rfl
  | d + 1, acc, h => by
    obtain ⟨z, h1, h2, h3, h4⟩ := EY_mem _ _ h
    have e1 := E_mem d _ h4
    rw [List.length_append, List.length_singleton] at e1
    omega
theorem Pst_0 {α : Type} {L : List α} {c : Nat} {mt : α → Prop} (P : Pst (limOf (nI 0)) L 0 c mt) : (L = [] ∧ c = 0) ∨ ∃ a t, L = a :: t ∧ c = 1 ∧ mt a := by
  rw [show limOf (nI 0) = some 0 by decide +kernel] at P
  have P : (0 < 0 + L.length → c = 0 + 1 ∧ ∃ a, L[0 - 0]? = some a ∧ mt a) ∧ (¬ 0 < 0 + L.length → c = 0 + L.length) := P
  cases L with
  | nil => exact Or.inl ⟨rfl, P.2 (by simp)⟩
  | cons a t =>
    obtain ⟨e, b, e2, h⟩ := P.1 (by simp)
    have e3 : some a = some b := e2
    exact Or.inr ⟨a, t, rfl, e, Option.some.inj e3 ▸ h⟩
def bkA1 (n : Nat) : Nat → Pr := match EA n (qF (fB n)) (qS (fB n)) ((n - 1) / 2) [] with
  | [] => fB n
  | a :: _ => fun k => (k + 1, n - (k + 1), a.getD k 0)
def oBook (σ : Sg) : Int32 × Sg := if σ.1.1 ≤ 11 then (nI ((σ.1.1 - 1) / 2), ((σ.1.1, (σ.1.1 - 1) / 2, bkA1 σ.1.1, σ.1.2.2.2), σ.2.1, σ.2.2.1, [], σ.2.2.2.2)) else rfS σ (-6)
theorem bkA1_n {n : Nat} {F S A : List Nat} (h : ∀ i, i < (n - 1) / 2 → fOf F S A i = fB n i) (hn : n ≤ 13) (e : EA n F S ((n - 1) / 2) [] = []) : ∀ i, i < (n - 1) / 2 → fOf F S A i = bkA1 n i := fun i hi => by
  have x := EA_ext (n := n) ((n - 1) / 2) [] (fun i hi => lFS h (by omega) i (by simpa using hi))
  unfold bkA1
  rw [← x, e]
  exact h i hi
theorem bkA1_s {n : Nat} {F S A A1 a : List Nat} {t : List (List Nat)} (h : ∀ i, i < (n - 1) / 2 → fOf F S A i = fB n i) (hn : n ≤ 13) (e : EA n F S ((n - 1) / 2) [] = a :: t) (hm : mtA A1 a) : ∀ i, i < (n - 1) / 2 → fOf F S A1 i = bkA1 n i := fun i hi => by
  have x := EA_ext (n := n) ((n - 1) / 2) [] (fun i hi => lFS h (by omega) i (by simpa using hi))
  have l := (EA_mem _ _ (show a ∈ EA n F S ((n - 1) / 2) [] by rw [e]; exact List.mem_cons_self)).1
  unfold bkA1
  rw [← x, e]
  have y := h i hi
  have z := hm i (by rw [l]; simpa using hi)
  have y1 : F.getD i 0 = i + 1 := congrArg Prod.fst y
  have y2 : S.getD i 0 = n - (i + 1) := congrArg (fun z : Pr => z.2.1) y
  unfold fOf
  rw [y1, y2, z]

set_option maxRecDepth 100000 in
set_option maxHeartbeats 4000000 in
theorem ev_x_book {h : List aC} {σ : Sg} (H : RC h σ) (ok : okSg σ) : Ev mX8_book 14 0 0 [.ref 0] h (sp h (oBook σ)) := by
  obtain ⟨hO0, hS, ⟨ci, hI, hI2⟩, ⟨cd, hDr⟩, hLt, hL, hH, ⟨⟨sw_, sc_, sgs, sgk, hX⟩, ⟨xn, xm, xF, xS, xA, hXP⟩⟩, ⟨tn, tm, tF, tS, tA, hTh⟩, ⟨pn, pm, pF, pS, pA, hSp⟩, hRf⟩ := id H
  obtain ⟨hO1, F, S, A, K, U, C, T, hP, hf, hT, ht, hR, hC, hl⟩ := id hS
  have hO1 : rd h 1 = some (.inr (6, [.ref 2, .ref 6, .ref 9])) := hO1
  have hP : PA h 2 _ _ F S A := hP
  have hT : TA h 6 _ K U := hT
  have hR : RA h 9 _ C T := hR
  obtain ⟨-, -, -, -, lF, lS, lA⟩ := id hP
  obtain ⟨-, -, -, lK, lU⟩ := id hT
  obtain ⟨-, -, -, lC, lT⟩ := id hR
  obtain ⟨okc, ⟨okl, okw⟩, okn, ⟨okh, oke⟩, oki, okr⟩ := id ok
  obtain ⟨k1, k2, k3, k4, k5, k6, k7, k8, k9⟩ := id okc
  have hbn : bnd σ.1.1 σ.1.2.1 F S A := okc.bnd hf
  refine Ev.of pX8_book (Nat.le_of_ble_eq_true rfl) ?_
  show G mX8_book (rmD 14 0 0) none _ 0 0 0 [(0, .ref 0)] [] h
  obtain ⟨nx1, o1⟩ := HR.o hH
  refine g_aload_n dX8_book_0 0 rfl ?_
  refine g_getf dX8_book_1 kX8 wfX8_10 (Nat.le_of_ble_eq_true rfl) (hO0) rfl ?_
  refine g_getf dX8_book_4 kX6 wfX8_97 (Nat.le_of_ble_eq_true rfl) (hO1) rfl ?_
  refine g_astore_n (ls' := [(1, .ref 2), (0, .ref 0)]) dX8_book_7 (Nat.le_of_ble_eq_true rfl) rfl ?_
  refine g_aload_n dX8_book_8 0 rfl ?_
  refine g_getf dX8_book_9 kX3 wfX8_100 (Nat.le_of_ble_eq_true rfl) (hP.1) rfl ?_
  refine g_bipush (v := nI 11) dX8_book_12 (by decide +kernel) ?_
  refine g_icmp_leN 24 dX8_book_14 (by decide) (by omega) (by omega) (fun c14 => ?_) (fun c14 => ?_)
  · rw [show oBook σ = (nI ((σ.1.1 - 1) / 2), ((σ.1.1, (σ.1.1 - 1) / 2, bkA1 σ.1.1, σ.1.2.2.2), σ.2.1, σ.2.2.1, [], σ.2.2.2.2)) from if_pos (by omega)]
    refine g_aload_n dX8_book_24 1 rfl ?_
    refine g_getf dX8_book_25 kX8 wfX8_43 (Nat.le_of_ble_eq_true rfl) (hO0) rfl ?_
    refine g_callVq (st1 := []) dX8_book_28 (hx_forget hH) oX0_forget wiX0_forget weX0_forget wmX8_91 kX0 (o1) rfl ⟨(Nat.le_of_ble_eq_true rfl), (Nat.le_of_ble_eq_true rfl)⟩ ⟨Nat.zero_le _, Nat.zero_le _⟩ (Nat.le_of_ble_eq_true rfl) rfl rfl (fun h2 q2 => ?_)
    obtain ⟨q2a, q2s⟩ := q2
    have z2 := q2a (σ.1.1) ((σ.1.1 - 1) / 2) (σ.1.2.2.2.2.2)
    obtain ⟨nx3, o3⟩ := HR.o z2
    have b2_2 := hP.mv q2s (by omega)
    have b2_6 := hT.mv q2s (by omega)
    have b2_9 := hR.mv q2s (by omega)
    have b2_12 := hI.mv q2s (by omega)
    have b2_23 := hDr.mv q2s (by omega)
    have b2_34 := hLt.mv q2s (by omega)
    have b2_36 := hL.mv q2s (by omega)
    have b2_84 := hX.mv q2s (by omega)
    have b2_85 := hXP.mv q2s (by omega)
    have b2_89 := hTh.mv q2s (by omega)
    have b2_93 := hSp.mv q2s (by omega)
    have f2_0 : rd h2 0 = some (.inr (8, [.ref 1, .ref 12, .ref 23, .int (nI (bI σ.2.2.2.2.1.isSome)), .ref 34, .ref 36, .ref 42, .ref 84, .ref 89, .ref 93, .ref 97])) := by rw [q2s _ (by omega)]; exact hO0
    have f2_1 : rd h2 1 = some (.inr (6, [.ref 2, .ref 6, .ref 9])) := by rw [q2s _ (by omega)]; exact hO1
    have f2_97 : rd h2 97 = some (.inl (σ.2.2.2.2.2)) := by rw [q2s _ (by omega)]; exact hRf
    refine g_aload_n dX8_book_31 0 rfl ?_
    refine g_aload_n dX8_book_32 0 rfl ?_
    refine g_getf dX8_book_33 kX3 wfX8_100 (Nat.le_of_ble_eq_true rfl) (b2_2.1) rfl ?_
    refine g_callVq (st1 := []) dX8_book_36 (ev_becomeBook b2_2 σ.1.1 (by omega)) oX3_becomeBook wiX3_becomeBook weX3_becomeBook wmX8_140 kX3 (b2_2.1) rfl ⟨(Nat.le_of_ble_eq_true rfl), (Nat.le_of_ble_eq_true rfl)⟩ ⟨Nat.zero_le _, Nat.zero_le _⟩ (Nat.le_of_ble_eq_true rfl) rfl rfl (fun h4 q4 => ?_)
    obtain ⟨q4a, q4s⟩ := q4
    have b4_6 := b2_6.mv q4s (by omega)
    have b4_9 := b2_9.mv q4s (by omega)
    have b4_12 := b2_12.mv q4s (by omega)
    have b4_23 := b2_23.mv q4s (by omega)
    have b4_42 := z2.mv q4s (by omega)
    obtain ⟨nx5, o5⟩ := HR.o b4_42
    have b4_34 := b2_34.mv q4s (by omega)
    have b4_36 := b2_36.mv q4s (by omega)
    have b4_84 := b2_84.mv q4s (by omega)
    have b4_85 := b2_85.mv q4s (by omega)
    have b4_89 := b2_89.mv q4s (by omega)
    have b4_93 := b2_93.mv q4s (by omega)
    have f4_0 : rd h4 0 = some (.inr (8, [.ref 1, .ref 12, .ref 23, .int (nI (bI σ.2.2.2.2.1.isSome)), .ref 34, .ref 36, .ref 42, .ref 84, .ref 89, .ref 93, .ref 97])) := by rw [q4s _ (by omega)]; exact f2_0
    have f4_1 : rd h4 1 = some (.inr (6, [.ref 2, .ref 6, .ref 9])) := by rw [q4s _ (by omega)]; exact f2_1
    have f4_97 : rd h4 97 = some (.inl (σ.2.2.2.2.2)) := by rw [q4s _ (by omega)]; exact f2_97
    refine g_aload_n dX8_book_39 1 rfl ?_
    refine g_getf dX8_book_40 kX8 wfX8_50 (Nat.le_of_ble_eq_true rfl) (f4_0) rfl ?_
    refine g_aload_n dX8_book_43 0 rfl ?_
    refine g_iconst (v := nI 0) dX8_book_44 (by decide +kernel) ?_
    refine g_callVq (st1 := []) dX8_book_45 (ev_goAdders b4_84 b4_85 q4a (by omega) (by omega) (by omega) (fun k hk => ⟨(bk_bnd lF lS lA (by omega) (by omega) k hk).1, (bk_bnd lF lS lA (by omega) (by omega) k hk).2.1⟩) (nI 0)) oX5_goThroughAdders wiX5_goThroughAdders weX5_goThroughAdders wmX8_143 kX5 (b4_84) rfl ⟨(Nat.le_of_ble_eq_true rfl), (Nat.le_of_ble_eq_true rfl)⟩ ⟨Nat.zero_le _, Nat.zero_le _⟩ (Nat.le_of_ble_eq_true rfl) rfl rfl (fun h6 q6 => ?_)
    obtain ⟨c1, A1, q6x, q6p, qP, q6s⟩ := q6
    have b6_2 := q4a.mv q6s (by omega)
    have b6_6 := b4_6.mv q6s (by omega)
    have b6_9 := b4_9.mv q6s (by omega)
    have b6_12 := b4_12.mv q6s (by omega)
    have b6_23 := b4_23.mv q6s (by omega)
    have b6_42 := b4_42.mv q6s (by omega)
    obtain ⟨nx7, o7⟩ := HR.o b6_42
    have b6_34 := b4_34.mv q6s (by omega)
    have b6_36 := b4_36.mv q6s (by omega)
    have b6_89 := b4_89.mv q6s (by omega)
    have b6_93 := b4_93.mv q6s (by omega)
    have f6_0 : rd h6 0 = some (.inr (8, [.ref 1, .ref 12, .ref 23, .int (nI (bI σ.2.2.2.2.1.isSome)), .ref 34, .ref 36, .ref 42, .ref 84, .ref 89, .ref 93, .ref 97])) := by rw [q6s _ (by omega)]; exact f4_0
    have f6_1 : rd h6 1 = some (.inr (6, [.ref 2, .ref 6, .ref 9])) := by rw [q6s _ (by omega)]; exact f4_1
    have f6_97 : rd h6 97 = some (.inl (σ.2.2.2.2.2)) := by rw [q6s _ (by omega)]; exact f4_97
    have qb : c1 ≤ 1 := by rcases Pst_0 qP with ⟨-, z⟩ | ⟨_, _, -, z, -⟩ <;> omega
    refine g_aload_n dX8_book_48 1 rfl ?_
    refine g_getf dX8_book_49 kX8 wfX8_50 (Nat.le_of_ble_eq_true rfl) (f6_0) rfl ?_
    refine g_getf dX8_book_52 kX5 wfX8_147 (Nat.le_of_ble_eq_true rfl) (q6x) rfl ?_
    refine g_if_leN 69 dX8_book_55 (by decide) (by omega) (fun c55 => ?_) (fun c55 => ?_)
    · refine g_aload_n dX8_book_69 0 rfl ?_
      refine g_getf dX8_book_70 kX3 wfX8_115 (Nat.le_of_ble_eq_true rfl) (b6_2.1) rfl ?_
      exact g_iret dX8_book_73 rfl ⟨Nat.zero_le _, Nat.zero_le _⟩ (⟨rfl, ⟨f6_0, ⟨f6_1, _, _, _, _, _, _, _, b6_2, (by rcases Pst_0 qP with ⟨z, -⟩ | ⟨a, t, -, z, -⟩; exact bkA1_n (bk_f lF lS lA (by omega)) k2 z; omega), b6_6, ht, b6_9, hC, hl⟩, ⟨_, b6_12, hI2⟩, ⟨_, b6_23⟩, b6_34, b6_36, b6_42, ⟨⟨_, _, _, _, q6x⟩, ⟨_, _, _, _, _, q6p⟩⟩, ⟨_, _, _, _, _, b6_89⟩, ⟨_, _, _, _, _, b6_93⟩, f6_97⟩, (fun q hq => by rw [q6s q (by omega), q4s q (by omega), q2s q (by omega)])⟩)
    · refine g_aload_n dX8_book_58 0 rfl ?_
      refine g_aload_n dX8_book_59 1 rfl ?_
      refine g_getf dX8_book_60 kX8 wfX8_50 (Nat.le_of_ble_eq_true rfl) (f6_0) rfl ?_
      refine g_getf dX8_book_63 kX5 wfX8_150 (Nat.le_of_ble_eq_true rfl) (q6x) rfl ?_
      refine g_callVq (st1 := []) dX8_book_66 (ev_copyFrom b6_2 q6p (by omega)) oX3_copyFrom wiX3_copyFrom weX3_copyFrom wmX8_153 kX3 (b6_2.1) rfl ⟨(Nat.le_of_ble_eq_true rfl), (Nat.le_of_ble_eq_true rfl)⟩ ⟨Nat.zero_le _, Nat.zero_le _⟩ (Nat.le_of_ble_eq_true rfl) rfl rfl (fun h8 q8 => ?_)
      obtain ⟨q8a, q8s⟩ := q8
      have b8_6 := b6_6.mv q8s (by omega)
      have b8_9 := b6_9.mv q8s (by omega)
      have b8_12 := b6_12.mv q8s (by omega)
      have b8_23 := b6_23.mv q8s (by omega)
      have b8_42 := b6_42.mv q8s (by omega)
      obtain ⟨nx9, o9⟩ := HR.o b8_42
      have b8_34 := b6_34.mv q8s (by omega)
      have b8_36 := b6_36.mv q8s (by omega)
      have b8_84 := q6x.mv q8s (by omega)
      have b8_89 := b6_89.mv q8s (by omega)
      have b8_93 := b6_93.mv q8s (by omega)
      have b8_85 := q6p.mv q8s (by omega)
      have f8_0 : rd h8 0 = some (.inr (8, [.ref 1, .ref 12, .ref 23, .int (nI (bI σ.2.2.2.2.1.isSome)), .ref 34, .ref 36, .ref 42, .ref 84, .ref 89, .ref 93, .ref 97])) := by rw [q8s _ (by omega)]; exact f6_0
      have f8_1 : rd h8 1 = some (.inr (6, [.ref 2, .ref 6, .ref 9])) := by rw [q8s _ (by omega)]; exact f6_1
      have f8_97 : rd h8 97 = some (.inl (σ.2.2.2.2.2)) := by rw [q8s _ (by omega)]; exact f6_97
      refine g_aload_n dX8_book_69 0 rfl ?_
      refine g_getf dX8_book_70 kX3 wfX8_115 (Nat.le_of_ble_eq_true rfl) (q8a.1) rfl ?_
      exact g_iret dX8_book_73 rfl ⟨Nat.zero_le _, Nat.zero_le _⟩ (⟨rfl, ⟨f8_0, ⟨f8_1, _, _, _, _, _, _, _, q8a, (by rcases Pst_0 qP with ⟨-, z⟩ | ⟨a, t, z1, -, z2⟩; omega; exact bkA1_s (bk_f lF lS lA (by omega)) k2 z1 z2), b8_6, ht, b8_9, hC, hl⟩, ⟨_, b8_12, hI2⟩, ⟨_, b8_23⟩, b8_34, b8_36, b8_42, ⟨⟨_, _, _, _, b8_84⟩, ⟨_, _, _, _, _, b8_85⟩⟩, ⟨_, _, _, _, _, b8_89⟩, ⟨_, _, _, _, _, b8_93⟩, f8_97⟩, (fun q hq => by rw [q8s q (by omega), q6s q (by omega), q4s q (by omega), q2s q (by omega)])⟩)
  · refine g_aload_n dX8_book_17 1 rfl ?_
    refine g_bipush (v := (-6)) dX8_book_18 (by decide +kernel) ?_
    rw [show oBook σ = rfS σ (-6) from if_neg (by omega)]
    refine g_callVq (st1 := [.int (-nI 6)]) dX8_book_20 (ev_refuse H ok 6 (by unfold noN; omega)) oX8_refuse wiX8_refuse weX8_refuse wmX8_68 kX8 (hO0) rfl ⟨(Nat.le_of_ble_eq_true rfl), (Nat.le_of_ble_eq_true rfl)⟩ ⟨Nat.zero_le _, Nat.zero_le _⟩ (Nat.le_of_ble_eq_true rfl) rfl rfl (fun h10 q10 => ?_)
    exact g_iret dX8_book_23 rfl ⟨Nat.zero_le _, Nat.zero_le _⟩ (⟨rfl, q10⟩)
